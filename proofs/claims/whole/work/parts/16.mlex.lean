/-! the reference's text: how it looks and takes -/
theorem zand255 {x : Int} (hx : -128 ≤ x ∧ x < 128) : zf_iand x 255 = x % 256 := by
  have key : ∀ b : Fin 256, zf_iand ((b.val : Int) - 128) 255 = ((b.val : Int) - 128) % 256 := by decide +kernel
  have := key ⟨(x + 128).toNat, by omega⟩
  simp only [show (((x + 128).toNat : Nat) : Int) - 128 = x by omega] at this
  exact this
def zTx (Γ : zC) (h : zM) (R b n : Nat) (t : Nat → Int) : Prop := (h 89 5).toNat = R ∧ h 89 8 = (b : Int) ∧ h 89 9 = (n : Int) ∧ n ≤ 160 ∧ b ≤ 1000 ∧ R ≠ 89 ∧ R ≠ 0 ∧ (∃ len, zkd Γ R = some (.inr (1, len)) ∧ b + n ≤ len) ∧ ∀ j, j < n → t j = h R (b + j) % 256
theorem zTx_up {Γ : zC} {h : zM} {R b n j : Nat} {t : Nat → Int} {x : Int} (H : zTx Γ h R b n t) (h5 : j ≠ 5) (h8 : j ≠ 8) (h9 : j ≠ 9) : zTx Γ (zup h 89 j x) R b n t := by
  obtain ⟨a1, a2, a3, a4, a5, a6, a7, a8, a9⟩ := H
  exact ⟨by simp only [zup_ap, h5.symm, and_false, if_false]; exact a1, by simp only [zup_ap, h8.symm, and_false, if_false]; exact a2, by simp only [zup_ap, h9.symm, and_false, if_false]; exact a3, a4, a5, a6, a7, a8, fun k hk => by rw [zup_row a6]; exact a9 k hk⟩
def zMF (h0 h : zM) : Prop := (∀ r, r ≠ 89 → h r = h0 r) ∧ ∀ j, j ≠ 10 → j ≠ 11 → j ≠ 12 → h 89 j = h0 89 j
def zMS (h0 h : zM) (p dep : Nat) : Prop := zMF h0 h ∧ h 89 10 = (p : Int) ∧ h 89 11 = -1 ∧ h 89 12 = (dep : Int)
def zMX (h0 h : zM) (p dep : Nat) : Prop := zMF h0 h ∧ h 89 11 = (p : Int) ∧ ((dep : Int) ≤ h 89 12 ∧ h 89 12 ≤ 6) ∧ (0 ≤ h 89 10 ∧ h 89 10 ≤ 161)
theorem zTx_mf {Γ : zC} {h0 h : zM} {R b n : Nat} {t : Nat → Int} (H : zTx Γ h0 R b n t) (hF : zMF h0 h) : zTx Γ h R b n t := by
  obtain ⟨a1, a2, a3, a4, a5, a6, a7, a8, a9⟩ := H
  exact ⟨by rw [hF.2 5 (by decide) (by decide) (by decide)]; exact a1, by rw [hF.2 8 (by decide) (by decide) (by decide)]; exact a2, by rw [hF.2 9 (by decide) (by decide) (by decide)]; exact a3, a4, a5, a6, a7, a8, fun k hk => by rw [hF.1 R a6]; exact a9 k hk⟩
theorem zMF_up {h0 h : zM} {j : Nat} {x : Int} (H : zMF h0 h) (hj : j = 10 ∨ j = 11 ∨ j = 12) : zMF h0 (zup h 89 j x) :=
  ⟨fun r hr => by rw [zup_row hr]; exact H.1 r hr, fun k h1 h2 h3 => by rw [zup_ap, if_neg (by omega)]; exact H.2 k h1 h2 h3⟩
set_option maxRecDepth 4000 in
theorem X9_look_l {l : Launch} {Γ : zC} {h : zM} {Q : Option zV → zC → zM → Prop} {R b n : Nat} {t : Nat → Int} (hΓ : zBase Γ) (hT : zTx Γ h R b n t) : ∀ (m k : Nat), n - k < m → k ≤ 161 → Q (some (zI (zsg t n (zskip t n k)))) Γ (zup h 89 10 (zskip t n k : Nat)) → zG (zFn l mX9_look 0 0 0 Γ Q) 0 0 Γ (zup h 89 10 (k : Nat)) 0 [some (zR 89)] [] := by
  intro m
  induction m with
  | zero => intros; omega
  | succ m ih =>
    intro k hm hk hQ
    obtain ⟨hT5, hT8, hT9, hn2, hb2, hR89, hR0, ⟨len, hkR, hlen⟩, ht⟩ := hT
    refine z_al0 dX9_look_0 (by first | decide | omega | assumption) ?_
    refine z_getI zfX9_151 dX9_look_1 (by first | exact zkB hΓ rfl | exact hkR) rfl ?_
    try simp only [zup_ap, zup_row, ne_eq, not_false_eq_true, zres, Int.toNat_natCast, reduceIte, Nat.reduceEqDiff, Nat.reduceAdd, and_self, and_true, true_and, and_false, false_and]
    refine z_al0 dX9_look_4 (by first | decide | omega | assumption) ?_
    refine z_getI zfX9_154 dX9_look_5 (by first | exact zkB hΓ rfl | exact hkR) rfl ?_
    try simp only [zup_ap, zup_row, ne_eq, not_false_eq_true, zres, Int.toNat_natCast, reduceIte, Nat.reduceEqDiff, Nat.reduceAdd, and_self, and_true, true_and, and_false, false_and]
    rw [hT9]
    refine z_icmp_ge (t := 43) dX9_look_8 (by rfl) (fun ht8 => ?_) (fun hf8 => ?_)
    · refine z_al0 dX9_look_43 (by first | decide | omega | assumption) ?_
      refine z_getI zfX9_151 dX9_look_44 (by first | exact zkB hΓ rfl | exact hkR) rfl ?_
      try simp only [zup_ap, zup_row, ne_eq, not_false_eq_true, zres, Int.toNat_natCast, reduceIte, Nat.reduceEqDiff, Nat.reduceAdd, and_self, and_true, true_and, and_false, false_and]
      refine z_al0 dX9_look_47 (by first | decide | omega | assumption) ?_
      refine z_getI zfX9_154 dX9_look_48 (by first | exact zkB hΓ rfl | exact hkR) rfl ?_
      try simp only [zup_ap, zup_row, ne_eq, not_false_eq_true, zres, Int.toNat_natCast, reduceIte, Nat.reduceEqDiff, Nat.reduceAdd, and_self, and_true, true_and, and_false, false_and]
      rw [hT9]
      refine z_icmp_ge (t := 75) dX9_look_51 (by rfl) (fun ht51 => ?_) (fun hf51 => ?_)
      · first
        | (exfalso; omega)
        | (refine z_iconst dX9_look_75 (by decide) ?_
           refine z_iret dX9_look_76 rfl (Nat.le_refl _) (Nat.le_refl _) (zext_rf _) (fun hrr => ?_)
           first
           | (refine zQi hQ ?_ ?_
              · rw [zskip_eq, if_neg (by omega)]; unfold zsg; first | (rw [if_pos (by omega), zand255 hx8]; omega) | (rw [if_neg (by omega)])
              · rw [zskip_eq, if_neg (by omega)])
           | (exfalso; omega))
      · first
        | (exfalso; omega)
        | (refine z_al0 dX9_look_54 (by first | decide | omega | assumption) ?_
           refine z_getQ zfX9_23 dX9_look_55 (by first | exact zkB hΓ rfl | exact hkR) rfl (zsN hΓ rfl) ?_
           try simp only [zup_ap, zup_row, ne_eq, not_false_eq_true, zres, Int.toNat_natCast, reduceIte, Nat.reduceEqDiff, Nat.reduceAdd, and_self, and_true, true_and, and_false, false_and]
           rw [hT5]
           refine z_al0 dX9_look_58 (by first | decide | omega | assumption) ?_
           refine z_getI zfX9_157 dX9_look_59 (by first | exact zkB hΓ rfl | exact hkR) rfl ?_
           try simp only [zup_ap, zup_row, ne_eq, not_false_eq_true, zres, Int.toNat_natCast, reduceIte, Nat.reduceEqDiff, Nat.reduceAdd, and_self, and_true, true_and, and_false, false_and]
           rw [hT8]
           refine z_al0 dX9_look_62 (by first | decide | omega | assumption) ?_
           refine z_getI zfX9_151 dX9_look_63 (by first | exact zkB hΓ rfl | exact hkR) rfl ?_
           try simp only [zup_ap, zup_row, ne_eq, not_false_eq_true, zres, Int.toNat_natCast, reduceIte, Nat.reduceEqDiff, Nat.reduceAdd, and_self, and_true, true_and, and_false, false_and]
           refine z_iadd dX9_look_66 (by omega) ?_
           refine z_bald dX9_look_67 hkR (by omega) (by omega) ?_
           try simp only [zup_ap, zup_row, ne_eq, not_false_eq_true, zres, Int.toNat_natCast, reduceIte, Nat.reduceEqDiff, Nat.reduceAdd, and_self, and_true, true_and, and_false, false_and]
           simp only [hR89, false_and, if_false]
           try simp only [show ((b : Nat) : Int) + (k : Nat) = ((b + k : Nat) : Int) from rfl, Int.toNat_natCast]
           refine zrngM (fun hm9 => ?_)
           have hx8 := zom_a hm9 hkR (j := b + k) (by omega)
           rw [zup_row hR89] at hx8
           have hx8 : -128 ≤ h R (b + k) ∧ h R (b + k) < 128 := hx8
           have ht8 := ht k (by omega)
           refine z_sipush (x := 255) dX9_look_68 (by rfl) (by decide) ?_
           refine z_iand dX9_look_71 ?_
           refine z_goto (t := 76) dX9_look_72 (by rfl) ?_
           refine z_iret dX9_look_76 rfl (Nat.le_refl _) (Nat.le_refl _) (zext_rf _) (fun hrr => ?_)
           first
           | (refine zQi hQ ?_ ?_
              · rw [zskip_eq, if_neg (by omega)]; unfold zsg; first | (rw [if_pos (by omega), zand255 hx8]; omega) | (rw [if_neg (by omega)])
              · rw [zskip_eq, if_neg (by omega)])
           | (exfalso; omega))
    · refine z_al0 dX9_look_11 (by first | decide | omega | assumption) ?_
      refine z_getQ zfX9_23 dX9_look_12 (by first | exact zkB hΓ rfl | exact hkR) rfl (zsN hΓ rfl) ?_
      try simp only [zup_ap, zup_row, ne_eq, not_false_eq_true, zres, Int.toNat_natCast, reduceIte, Nat.reduceEqDiff, Nat.reduceAdd, and_self, and_true, true_and, and_false, false_and]
      rw [hT5]
      refine z_al0 dX9_look_15 (by first | decide | omega | assumption) ?_
      refine z_getI zfX9_157 dX9_look_16 (by first | exact zkB hΓ rfl | exact hkR) rfl ?_
      try simp only [zup_ap, zup_row, ne_eq, not_false_eq_true, zres, Int.toNat_natCast, reduceIte, Nat.reduceEqDiff, Nat.reduceAdd, and_self, and_true, true_and, and_false, false_and]
      rw [hT8]
      refine z_al0 dX9_look_19 (by first | decide | omega | assumption) ?_
      refine z_getI zfX9_151 dX9_look_20 (by first | exact zkB hΓ rfl | exact hkR) rfl ?_
      try simp only [zup_ap, zup_row, ne_eq, not_false_eq_true, zres, Int.toNat_natCast, reduceIte, Nat.reduceEqDiff, Nat.reduceAdd, and_self, and_true, true_and, and_false, false_and]
      refine z_iadd dX9_look_23 (by omega) ?_
      refine z_bald dX9_look_24 hkR (by omega) (by omega) ?_
      try simp only [zup_ap, zup_row, ne_eq, not_false_eq_true, zres, Int.toNat_natCast, reduceIte, Nat.reduceEqDiff, Nat.reduceAdd, and_self, and_true, true_and, and_false, false_and]
      simp only [hR89, false_and, if_false]
      try simp only [show ((b : Nat) : Int) + (k : Nat) = ((b + k : Nat) : Int) from rfl, Int.toNat_natCast]
      refine zrngM (fun hm9 => ?_)
      have hx9 := zom_a hm9 hkR (j := b + k) (by omega)
      rw [zup_row hR89] at hx9
      have hx9 : -128 ≤ h R (b + k) ∧ h R (b + k) < 128 := hx9
      have ht9 := ht k (by omega)
      refine z_bipush (x := 32) dX9_look_25 (by rfl) (by decide) ?_
      refine z_icmp_ne (t := 43) dX9_look_27 (by rfl) (fun ht27 => ?_) (fun hf27 => ?_)
      · refine z_al0 dX9_look_43 (by first | decide | omega | assumption) ?_
        refine z_getI zfX9_151 dX9_look_44 (by first | exact zkB hΓ rfl | exact hkR) rfl ?_
        try simp only [zup_ap, zup_row, ne_eq, not_false_eq_true, zres, Int.toNat_natCast, reduceIte, Nat.reduceEqDiff, Nat.reduceAdd, and_self, and_true, true_and, and_false, false_and]
        refine z_al0 dX9_look_47 (by first | decide | omega | assumption) ?_
        refine z_getI zfX9_154 dX9_look_48 (by first | exact zkB hΓ rfl | exact hkR) rfl ?_
        try simp only [zup_ap, zup_row, ne_eq, not_false_eq_true, zres, Int.toNat_natCast, reduceIte, Nat.reduceEqDiff, Nat.reduceAdd, and_self, and_true, true_and, and_false, false_and]
        rw [hT9]
        refine z_icmp_ge (t := 75) dX9_look_51 (by rfl) (fun ht51 => ?_) (fun hf51 => ?_)
        · first
          | (exfalso; omega)
          | (refine z_iconst dX9_look_75 (by decide) ?_
             refine z_iret dX9_look_76 rfl (Nat.le_refl _) (Nat.le_refl _) (zext_rf _) (fun hrr => ?_)
             first
             | (refine zQi hQ ?_ ?_
                · rw [zskip_eq, if_neg (by omega)]; unfold zsg; first | (rw [if_pos (by omega), zand255 hx8]; omega) | (rw [if_neg (by omega)])
                · rw [zskip_eq, if_neg (by omega)])
             | (exfalso; omega))
        · first
          | (exfalso; omega)
          | (refine z_al0 dX9_look_54 (by first | decide | omega | assumption) ?_
             refine z_getQ zfX9_23 dX9_look_55 (by first | exact zkB hΓ rfl | exact hkR) rfl (zsN hΓ rfl) ?_
             try simp only [zup_ap, zup_row, ne_eq, not_false_eq_true, zres, Int.toNat_natCast, reduceIte, Nat.reduceEqDiff, Nat.reduceAdd, and_self, and_true, true_and, and_false, false_and]
             rw [hT5]
             refine z_al0 dX9_look_58 (by first | decide | omega | assumption) ?_
             refine z_getI zfX9_157 dX9_look_59 (by first | exact zkB hΓ rfl | exact hkR) rfl ?_
             try simp only [zup_ap, zup_row, ne_eq, not_false_eq_true, zres, Int.toNat_natCast, reduceIte, Nat.reduceEqDiff, Nat.reduceAdd, and_self, and_true, true_and, and_false, false_and]
             rw [hT8]
             refine z_al0 dX9_look_62 (by first | decide | omega | assumption) ?_
             refine z_getI zfX9_151 dX9_look_63 (by first | exact zkB hΓ rfl | exact hkR) rfl ?_
             try simp only [zup_ap, zup_row, ne_eq, not_false_eq_true, zres, Int.toNat_natCast, reduceIte, Nat.reduceEqDiff, Nat.reduceAdd, and_self, and_true, true_and, and_false, false_and]
             refine z_iadd dX9_look_66 (by omega) ?_
             refine z_bald dX9_look_67 hkR (by omega) (by omega) ?_
             try simp only [zup_ap, zup_row, ne_eq, not_false_eq_true, zres, Int.toNat_natCast, reduceIte, Nat.reduceEqDiff, Nat.reduceAdd, and_self, and_true, true_and, and_false, false_and]
             simp only [hR89, false_and, if_false]
             try simp only [show ((b : Nat) : Int) + (k : Nat) = ((b + k : Nat) : Int) from rfl, Int.toNat_natCast]
             refine zrngM (fun hm9 => ?_)
             have hx8 := zom_a hm9 hkR (j := b + k) (by omega)
             rw [zup_row hR89] at hx8
             have hx8 : -128 ≤ h R (b + k) ∧ h R (b + k) < 128 := hx8
             have ht8 := ht k (by omega)
             refine z_sipush (x := 255) dX9_look_68 (by rfl) (by decide) ?_
             refine z_iand dX9_look_71 ?_
             refine z_goto (t := 76) dX9_look_72 (by rfl) ?_
             refine z_iret dX9_look_76 rfl (Nat.le_refl _) (Nat.le_refl _) (zext_rf _) (fun hrr => ?_)
             first
             | (refine zQi hQ ?_ ?_
                · rw [zskip_eq, if_neg (by omega)]; unfold zsg; first | (rw [if_pos (by omega), zand255 hx8]; omega) | (rw [if_neg (by omega)])
                · rw [zskip_eq, if_neg (by omega)])
             | (exfalso; omega))
      · refine z_al0 dX9_look_30 (by first | decide | omega | assumption) ?_
        refine z_dup dX9_look_31 rfl ?_
        refine z_getI zfX9_151 dX9_look_32 (by first | exact zkB hΓ rfl | exact hkR) rfl ?_
        try simp only [zup_ap, zup_row, ne_eq, not_false_eq_true, zres, Int.toNat_natCast, reduceIte, Nat.reduceEqDiff, Nat.reduceAdd, and_self, and_true, true_and, and_false, false_and]
        refine z_iconst dX9_look_35 (by decide) ?_
        refine z_iadd dX9_look_36 (by omega) ?_
        refine z_putI zfX9_151 dX9_look_37 (by first | exact zkB hΓ rfl | exact hkR) rfl rfl ?_
        refine z_goto (t := 0) dX9_look_40 (by rfl) ?_
        rw [zup_up]
        refine ih (k + 1) (by omega) (by omega) ?_
        have e9 : zskip t n k = zskip t n (k + 1) := by rw [zskip_eq t n k, if_pos ⟨by omega, by omega⟩]
        rw [e9] at hQ; exact hQ
set_option maxRecDepth 4000 in
theorem X9_look_ct {l : Launch} {Γ : zC} {h : zM} {Q : Option zV → zC → zM → Prop} {R b n : Nat} {t : Nat → Int} (hΓ : zBase Γ) (hT : zTx Γ h R b n t) {p : Nat} (hp : h 89 10 = (p : Int)) (hp2 : p ≤ 161) (hQ : Q (some (zI (zsg t n (zskip t n p)))) Γ (zup h 89 10 (zskip t n p : Nat))) : zCT l mX9_look 0 0 0 Γ [zR 89] h Q := by
  refine zCT_of (by decide) (Nat.le_of_ble_eq_true rfl) (ls := [some (zR 89)]) rfl ?_
  have h9 := X9_look_l (l := l) (h := h) hΓ hT (n - p + 1) p (by omega) hp2 hQ
  rw [zup_eq hp] at h9
  exact h9
set_option maxRecDepth 4000 in
theorem X9_fails_ct {l : Launch} {Γ : zC} {h : zM} {Q : Option zV → zC → zM → Prop} (hΓ : zBase Γ) (hQ1 : h 89 11 = -1 → Q (some (zI 0)) Γ (zup h 89 11 (h 89 10))) (hQ2 : ¬ h 89 11 = -1 → Q (some (zI 0)) Γ h) : zCT l mX9_fails 0 0 0 Γ [zR 89] h Q := by
  refine zCT_of (by decide) (Nat.le_of_ble_eq_true rfl) (ls := [some (zR 89)]) rfl ?_
  refine z_al0 dX9_fails_0 (by first | decide | omega | assumption) ?_
  refine z_getI zfX9_160 dX9_fails_1 (zkB hΓ rfl) rfl ?_
  try simp only [zup_ap, zup_row, ne_eq, not_false_eq_true, zres, Int.toNat_natCast, reduceIte, Nat.reduceEqDiff, Nat.reduceAdd, and_self, and_true, true_and, and_false, false_and]
  refine z_iconst dX9_fails_4 (by decide) ?_
  refine z_icmp_ne (t := 16) dX9_fails_5 (by rfl) (fun ht5 => ?_) (fun hf5 => ?_)
  · refine z_iconst dX9_fails_16 (by decide) ?_
    refine z_zret dX9_fails_17 rfl (Nat.le_refl _) (Nat.le_refl _) (zext_rf _) (by first | exact Or.inl rfl | exact Or.inr rfl | omega) ?_
    first | exact hQ1 (by assumption) | exact hQ2 (by assumption)
  · refine z_al0 dX9_fails_8 (by first | decide | omega | assumption) ?_
    refine z_al0 dX9_fails_9 (by first | decide | omega | assumption) ?_
    refine z_getI zfX9_151 dX9_fails_10 (zkB hΓ rfl) rfl ?_
    try simp only [zup_ap, zup_row, ne_eq, not_false_eq_true, zres, Int.toNat_natCast, reduceIte, Nat.reduceEqDiff, Nat.reduceAdd, and_self, and_true, true_and, and_false, false_and]
    refine z_putI zfX9_160 dX9_fails_13 (zkB hΓ rfl) rfl rfl ?_
    refine z_iconst dX9_fails_16 (by decide) ?_
    refine z_zret dX9_fails_17 rfl (Nat.le_refl _) (Nat.le_refl _) (zext_rf _) (by first | exact Or.inl rfl | exact Or.inr rfl | omega) ?_
    first | exact hQ1 (by assumption) | exact hQ2 (by assumption)
set_option maxRecDepth 4000 in
theorem zM_look {l : Launch} {Γ : zC} {h0 h : zM} {Q : Option zV → zC → zM → Prop} {R b n : Nat} {t : Nat → Int} (hΓ : zBase Γ) (hT : zTx Γ h0 R b n t) {p dep : Nat} (hR : zMS h0 h p dep) (hp : p ≤ 161) (hQ : ∀ h2, zMS h0 h2 (zskip t n p) dep → Q (some (zI (zsg t n (zskip t n p)))) Γ h2) : zCT l mX9_look 0 0 0 Γ [zR 89] h Q := by
  obtain ⟨hF, a1, a2, a3⟩ := hR
  exact X9_look_ct hΓ (zTx_mf hT hF) a1 hp (hQ _ ⟨zMF_up hF (Or.inl rfl), by simp [zup_ap], by simpa [zup_ap] using a2, by simpa [zup_ap] using a3⟩)
set_option maxRecDepth 4000 in
theorem zM_fail {l : Launch} {Γ : zC} {h0 h : zM} {Q : Option zV → zC → zM → Prop} (hΓ : zBase Γ) {p dep : Nat} (hR : zMS h0 h p dep) (hd : dep ≤ 6) (hp : p ≤ 161) (hQ : ∀ h2, zMX h0 h2 p dep → Q (some (zI 0)) Γ h2) : zCT l mX9_fails 0 0 0 Γ [zR 89] h Q := by
  obtain ⟨hF, a1, a2, a3⟩ := hR
  exact X9_fails_ct hΓ (fun _ => hQ _ ⟨zMF_up hF (Or.inr (Or.inl rfl)), by simpa [zup_ap] using a1, by simp only [zup_ap, Nat.reduceEqDiff, and_false, if_false]; omega, by simp only [zup_ap, Nat.reduceEqDiff, and_false, if_false]; omega⟩) (fun q => absurd a2 q)
set_option maxRecDepth 4000 in
theorem zM_failX {l : Launch} {Γ : zC} {h0 h : zM} {Q : Option zV → zC → zM → Prop} (hΓ : zBase Γ) {p dep : Nat} (hX : zMX h0 h p dep) (hQ : Q (some (zI 0)) Γ h) : zCT l mX9_fails 0 0 0 Γ [zR 89] h Q := by
  obtain ⟨hF, a1, a2, a3⟩ := hX
  exact X9_fails_ct hΓ (fun q => by omega) (fun _ => hQ)
set_option maxRecDepth 4000 in
theorem zM_goes {l : Launch} {Γ : zC} {h0 h : zM} {Q : Option zV → zC → zM → Prop} (hΓ : zBase Γ) {p dep : Nat} (hR : zMS h0 h p dep) (hd : dep ≤ 6) (hp : p ≤ 161) (hQ0 : dep = 6 → ∀ h2, zMX h0 h2 p dep → Q (some (zI 0)) Γ h2) (hQ1 : dep < 6 → ∀ h2, zMS h0 h2 (p + 1) (dep + 1) → Q (some (zI 1)) Γ h2) : zCT l mX9_goesIn 1 0 0 Γ [zR 89] h Q := by
  refine zCT_of (by decide) (Nat.le_of_ble_eq_true rfl) (ls := [some (zR 89)]) rfl ?_
  have a3 := hR.2.2.2
  have a1 := hR.2.1
  refine z_al0 dX9_goesIn_0 (by first | decide | omega | assumption) ?_
  refine z_getI zfX9_163 dX9_goesIn_1 (zkB hΓ rfl) rfl ?_
  try simp only [zup_ap, zup_row, ne_eq, not_false_eq_true, zres, Int.toNat_natCast, reduceIte, Nat.reduceEqDiff, Nat.reduceAdd, and_self, and_true, true_and, and_false, false_and]
  refine z_bipush (x := 6) dX9_goesIn_4 (by rfl) (by decide) ?_
  refine z_icmp_ne (t := 14) dX9_goesIn_6 (by rfl) (fun ht6 => ?_) (fun hf6 => ?_)
  · refine z_al0 dX9_goesIn_14 (by first | decide | omega | assumption) ?_
    refine z_dup dX9_goesIn_15 rfl ?_
    refine z_getI zfX9_163 dX9_goesIn_16 (zkB hΓ rfl) rfl ?_
    try simp only [zup_ap, zup_row, ne_eq, not_false_eq_true, zres, Int.toNat_natCast, reduceIte, Nat.reduceEqDiff, Nat.reduceAdd, and_self, and_true, true_and, and_false, false_and]
    refine z_iconst dX9_goesIn_19 (by decide) ?_
    refine z_iadd dX9_goesIn_20 (by omega) ?_
    refine z_putI zfX9_163 dX9_goesIn_21 (zkB hΓ rfl) rfl rfl ?_
    refine z_al0 dX9_goesIn_24 (by first | decide | omega | assumption) ?_
    refine z_dup dX9_goesIn_25 rfl ?_
    refine z_getI zfX9_151 dX9_goesIn_26 (zkB hΓ rfl) rfl ?_
    try simp only [zup_ap, zup_row, ne_eq, not_false_eq_true, zres, Int.toNat_natCast, reduceIte, Nat.reduceEqDiff, Nat.reduceAdd, and_self, and_true, true_and, and_false, false_and]
    refine z_iconst dX9_goesIn_29 (by decide) ?_
    refine z_iadd dX9_goesIn_30 (by omega) ?_
    refine z_putI zfX9_151 dX9_goesIn_31 (zkB hΓ rfl) rfl rfl ?_
    refine z_iconst dX9_goesIn_34 (by decide) ?_
    refine z_zret dX9_goesIn_35 rfl (Nat.le_refl _) (Nat.le_refl _) (zext_rf _) (by first | exact Or.inl rfl | exact Or.inr rfl | omega) ?_
    obtain ⟨hF, a1, a2, a3⟩ := hR
    exact hQ1 (by omega) _ ⟨zMF_up (zMF_up hF (Or.inr (Or.inr rfl))) (Or.inl rfl), by simp [zup_ap, a1], by simpa [zup_ap] using a2, by simp [zup_ap, a3]⟩
  · refine z_al0 dX9_goesIn_9 (by first | decide | omega | assumption) ?_
    refine zcv0 dX9_goesIn_10 zkX9_166 ziX9_fails zsX9_fails (zkB hΓ rfl) (by decide) rfl (Nat.le_of_ble_eq_true rfl) (by decide) (by first | decide | omega) ⟨Nat.le_refl _, Nat.le_refl _⟩ (zM_fail hΓ hR hd hp (fun h hX _ => ?_))
    try simp only [zup_ap, zup_row, ne_eq, not_false_eq_true, zres, Int.toNat_natCast, reduceIte, Nat.reduceEqDiff, Nat.reduceAdd, and_self, and_true, true_and, and_false, false_and]
    refine z_zret dX9_goesIn_13 rfl (Nat.le_refl _) (Nat.le_refl _) (zext_rf _) (by exact Or.inl rfl) ?_
    exact hQ0 (by omega) _ hX
set_option maxRecDepth 4000 in
theorem zM_takes {l : Launch} {Γ : zC} {h0 h : zM} {Q : Option zV → zC → zM → Prop} {R b n : Nat} {t : Nat → Int} (hΓ : zBase Γ) (hT : zTx Γ h0 R b n t) {p dep : Nat} {x : Int} (hR : zMS h0 h p dep) (hd : dep ≤ 6) (hp : p ≤ 160) (hQ0 : ¬ zsg t n (zskip t n p) = x → ∀ h2, zMX h0 h2 (zskip t n p) dep → Q (some (zI 0)) Γ h2) (hQ1 : zsg t n (zskip t n p) = x → ∀ h2, zMS h0 h2 (zskip t n p + 1) dep → Q (some (zI 1)) Γ h2) : zCT l mX9_takes 1 0 0 Γ [zR 89, zI x] h Q := by
  refine zCT_of (by decide) (Nat.le_of_ble_eq_true rfl) (ls := [some (zR 89), some (zI x)]) rfl ?_
  have a2 := hR.2.2.1
  have hn2 := hT.2.2.2.1
  have s1 := zskip_b t n p
  refine z_al0 dX9_takes_0 (by first | decide | omega | assumption) ?_
  refine z_getI zfX9_160 dX9_takes_1 (zkB hΓ rfl) rfl ?_
  try simp only [zup_ap, zup_row, ne_eq, not_false_eq_true, zres, Int.toNat_natCast, reduceIte, Nat.reduceEqDiff, Nat.reduceAdd, and_self, and_true, true_and, and_false, false_and]
  refine z_iconst dX9_takes_4 (by decide) ?_
  refine z_icmp_ne (t := 16) dX9_takes_5 (by rfl) (fun ht5 => ?_) (fun hf5 => ?_)
  · exfalso; omega --stop
  · refine z_al0 dX9_takes_8 (by first | decide | omega | assumption) ?_
    refine zcv0 dX9_takes_9 zkX9_170 ziX9_look zsX9_look (zkB hΓ rfl) (by decide) rfl (Nat.le_of_ble_eq_true rfl) (by decide) (by first | decide | omega) ⟨Nat.le_refl _, Nat.le_refl _⟩ (zM_look hΓ hT hR (by omega) (fun h hR _ => ?_))
    try simp only [zup_ap, zup_row, ne_eq, not_false_eq_true, zres, Int.toNat_natCast, reduceIte, Nat.reduceEqDiff, Nat.reduceAdd, and_self, and_true, true_and, and_false, false_and]
    refine z_il1 dX9_takes_12 ?_
    refine z_icmp_eq (t := 21) dX9_takes_13 (by rfl) (fun ht13 => ?_) (fun hf13 => ?_)
    · have a1 := hR.2.1
      refine zrngM (fun _ => ?_)
      refine z_al0 dX9_takes_21 (by first | decide | omega | assumption) ?_
      refine z_dup dX9_takes_22 rfl ?_
      refine z_getI zfX9_151 dX9_takes_23 (zkB hΓ rfl) rfl ?_
      try simp only [zup_ap, zup_row, ne_eq, not_false_eq_true, zres, Int.toNat_natCast, reduceIte, Nat.reduceEqDiff, Nat.reduceAdd, and_self, and_true, true_and, and_false, false_and]
      refine z_iconst dX9_takes_26 (by decide) ?_
      refine z_iadd dX9_takes_27 (by omega) ?_
      refine z_putI zfX9_151 dX9_takes_28 (zkB hΓ rfl) rfl rfl ?_
      refine z_iconst dX9_takes_31 (by decide) ?_
      refine z_zret dX9_takes_32 rfl (Nat.le_refl _) (Nat.le_refl _) (zext_rf _) (by first | exact Or.inl rfl | exact Or.inr rfl | omega) ?_
      obtain ⟨hF, a1, a2, a3⟩ := hR
      exact hQ1 (by assumption) _ ⟨zMF_up hF (Or.inl rfl), by simp [zup_ap, a1], by simpa [zup_ap] using a2, by simpa [zup_ap] using a3⟩
    · refine z_al0 dX9_takes_16 (by first | decide | omega | assumption) ?_
      refine zcv0 dX9_takes_17 zkX9_166 ziX9_fails zsX9_fails (zkB hΓ rfl) (by decide) rfl (Nat.le_of_ble_eq_true rfl) (by decide) (by first | decide | omega) ⟨Nat.le_refl _, Nat.le_refl _⟩ (zM_fail hΓ hR hd (by omega) (fun h hX _ => ?_))
      try simp only [zup_ap, zup_row, ne_eq, not_false_eq_true, zres, Int.toNat_natCast, reduceIte, Nat.reduceEqDiff, Nat.reduceAdd, and_self, and_true, true_and, and_false, false_and]
      refine z_zret dX9_takes_20 rfl (Nat.le_refl _) (Nat.le_refl _) (zext_rf _) (by first | exact Or.inl rfl | exact Or.inr rfl | omega) ?_
      exact hQ0 (by assumption) _ hX
set_option maxRecDepth 4000 in
theorem zM_takesX {l : Launch} {Γ : zC} {h0 h : zM} {Q : Option zV → zC → zM → Prop} (hΓ : zBase Γ) {p dep : Nat} {x : Int} (hX : zMX h0 h p dep) (hQ : Q (some (zI 0)) Γ h) : zCT l mX9_takes 1 0 0 Γ [zR 89, zI x] h Q := by
  refine zCT_of (by decide) (Nat.le_of_ble_eq_true rfl) (ls := [some (zR 89), some (zI x)]) rfl ?_
  have a1 := hX.2.1
  refine z_al0 dX9_takes_0 (by first | decide | omega | assumption) ?_
  refine z_getI zfX9_160 dX9_takes_1 (zkB hΓ rfl) rfl ?_
  try simp only [zup_ap, zup_row, ne_eq, not_false_eq_true, zres, Int.toNat_natCast, reduceIte, Nat.reduceEqDiff, Nat.reduceAdd, and_self, and_true, true_and, and_false, false_and]
  refine z_iconst dX9_takes_4 (by decide) ?_
  refine z_icmp_ne (t := 16) dX9_takes_5 (by rfl) (fun ht5 => ?_) (fun hf5 => ?_)
  · refine z_al0 dX9_takes_16 (by first | decide | omega | assumption) ?_
    refine zcv0 dX9_takes_17 zkX9_166 ziX9_fails zsX9_fails (zkB hΓ rfl) (by decide) rfl (Nat.le_of_ble_eq_true rfl) (by decide) (by first | decide | omega) ⟨Nat.le_refl _, Nat.le_refl _⟩ (zM_failX hΓ hX (fun _ => ?_))
    try simp only [zup_ap, zup_row, ne_eq, not_false_eq_true, zres, Int.toNat_natCast, reduceIte, Nat.reduceEqDiff, Nat.reduceAdd, and_self, and_true, true_and, and_false, false_and]
    refine z_zret dX9_takes_20 rfl (Nat.le_refl _) (Nat.le_refl _) (zext_rf _) (by first | exact Or.inl rfl | exact Or.inr rfl | omega) ?_
    exact hQ
  · exfalso; omega --stop
set_option maxRecDepth 4000 in
theorem zM_dig {l : Launch} {Γ : zC} {h0 h : zM} {Q : Option zV → zC → zM → Prop} {R b n : Nat} {t : Nat → Int} (hΓ : zBase Γ) (hT : zTx Γ h0 R b n t) {p dep : Nat} (hR : zMS h0 h p dep) (hp : p ≤ 160) (hQ : Q (some (zI (if zdg (zsg t n p) then 1 else 0))) Γ h) : zCT l mX9_isDigit 0 0 0 Γ [zR 89] h Q := by
  have hT := zTx_mf hT hR.1
  obtain ⟨hT5, hT8, hT9, hn2, hb2, hR89, hR0, ⟨len, hkR, hlen⟩, ht⟩ := hT
  have a1 := hR.2.1
  refine zCT_of (by decide) (Nat.le_of_ble_eq_true rfl) (ls := [some (zR 89)]) rfl ?_
  refine z_al0 dX9_isDigit_0 (by first | decide | omega | assumption) ?_
  refine z_getI zfX9_151 dX9_isDigit_1 (by first | exact zkB hΓ rfl | exact hkR) rfl ?_
  try simp only [zup_ap, zup_row, ne_eq, not_false_eq_true, zres, Int.toNat_natCast, reduceIte, Nat.reduceEqDiff, Nat.reduceAdd, and_self, and_true, true_and, and_false, false_and]
  refine z_al0 dX9_isDigit_4 (by first | decide | omega | assumption) ?_
  refine z_getI zfX9_154 dX9_isDigit_5 (by first | exact zkB hΓ rfl | exact hkR) rfl ?_
  try simp only [zup_ap, zup_row, ne_eq, not_false_eq_true, zres, Int.toNat_natCast, reduceIte, Nat.reduceEqDiff, Nat.reduceAdd, and_self, and_true, true_and, and_false, false_and]
  rw [hT9]
  refine z_icmp_ge (t := 53) dX9_isDigit_8 (by rfl) (fun ht8 => ?_) (fun hf8 => ?_)
  · refine z_iconst dX9_isDigit_53 (by decide) ?_
    refine z_zret dX9_isDigit_54 rfl (Nat.le_refl _) (Nat.le_refl _) (zext_rf _) (by first | exact Or.inl rfl | exact Or.inr rfl | omega) ?_
    refine zQi hQ ?_ rfl
    first
    | (rw [if_neg]; unfold zsg; rw [if_neg (by omega)]; omega)
    | (rw [if_neg]; unfold zsg; rw [if_pos (by omega)]; omega)
    | (rw [if_pos]; unfold zsg; rw [if_pos (by omega)]; omega)
  · refine z_al0 dX9_isDigit_11 (by first | decide | omega | assumption) ?_
    refine z_getQ zfX9_23 dX9_isDigit_12 (by first | exact zkB hΓ rfl | exact hkR) rfl (zsN hΓ rfl) ?_
    try simp only [zup_ap, zup_row, ne_eq, not_false_eq_true, zres, Int.toNat_natCast, reduceIte, Nat.reduceEqDiff, Nat.reduceAdd, and_self, and_true, true_and, and_false, false_and]
    rw [hT5]
    refine z_al0 dX9_isDigit_15 (by first | decide | omega | assumption) ?_
    refine z_getI zfX9_157 dX9_isDigit_16 (by first | exact zkB hΓ rfl | exact hkR) rfl ?_
    try simp only [zup_ap, zup_row, ne_eq, not_false_eq_true, zres, Int.toNat_natCast, reduceIte, Nat.reduceEqDiff, Nat.reduceAdd, and_self, and_true, true_and, and_false, false_and]
    rw [hT8]
    refine z_al0 dX9_isDigit_19 (by first | decide | omega | assumption) ?_
    refine z_getI zfX9_151 dX9_isDigit_20 (by first | exact zkB hΓ rfl | exact hkR) rfl ?_
    try simp only [zup_ap, zup_row, ne_eq, not_false_eq_true, zres, Int.toNat_natCast, reduceIte, Nat.reduceEqDiff, Nat.reduceAdd, and_self, and_true, true_and, and_false, false_and]
    rw [a1]
    refine z_iadd dX9_isDigit_23 (by omega) ?_
    refine z_bald dX9_isDigit_24 hkR (by omega) (by omega) ?_
    try simp only [zup_ap, zup_row, ne_eq, not_false_eq_true, zres, Int.toNat_natCast, reduceIte, Nat.reduceEqDiff, Nat.reduceAdd, and_self, and_true, true_and, and_false, false_and]
    try simp only [show ((b : Nat) : Int) + (p : Nat) = ((b + p : Nat) : Int) from rfl, Int.toNat_natCast]
    refine zrngM (fun hm9 => ?_)
    have hx9 := zom_a hm9 hkR (j := b + p) (by omega)
    have hx9 : -128 ≤ h R (b + p) ∧ h R (b + p) < 128 := hx9
    have ht9 := ht p (by omega)
    refine z_bipush (x := 48) dX9_isDigit_25 (by rfl) (by decide) ?_
    refine z_icmp_lt (t := 53) dX9_isDigit_27 (by rfl) (fun ht27 => ?_) (fun hf27 => ?_)
    · refine z_iconst dX9_isDigit_53 (by decide) ?_
      refine z_zret dX9_isDigit_54 rfl (Nat.le_refl _) (Nat.le_refl _) (zext_rf _) (by first | exact Or.inl rfl | exact Or.inr rfl | omega) ?_
      refine zQi hQ ?_ rfl
      first
      | (rw [if_neg]; unfold zsg; rw [if_neg (by omega)]; omega)
      | (rw [if_neg]; unfold zsg; rw [if_pos (by omega)]; omega)
      | (rw [if_pos]; unfold zsg; rw [if_pos (by omega)]; omega)
    · refine z_al0 dX9_isDigit_30 (by first | decide | omega | assumption) ?_
      refine z_getQ zfX9_23 dX9_isDigit_31 (by first | exact zkB hΓ rfl | exact hkR) rfl (zsN hΓ rfl) ?_
      try simp only [zup_ap, zup_row, ne_eq, not_false_eq_true, zres, Int.toNat_natCast, reduceIte, Nat.reduceEqDiff, Nat.reduceAdd, and_self, and_true, true_and, and_false, false_and]
      rw [hT5]
      refine z_al0 dX9_isDigit_34 (by first | decide | omega | assumption) ?_
      refine z_getI zfX9_157 dX9_isDigit_35 (by first | exact zkB hΓ rfl | exact hkR) rfl ?_
      try simp only [zup_ap, zup_row, ne_eq, not_false_eq_true, zres, Int.toNat_natCast, reduceIte, Nat.reduceEqDiff, Nat.reduceAdd, and_self, and_true, true_and, and_false, false_and]
      rw [hT8]
      refine z_al0 dX9_isDigit_38 (by first | decide | omega | assumption) ?_
      refine z_getI zfX9_151 dX9_isDigit_39 (by first | exact zkB hΓ rfl | exact hkR) rfl ?_
      try simp only [zup_ap, zup_row, ne_eq, not_false_eq_true, zres, Int.toNat_natCast, reduceIte, Nat.reduceEqDiff, Nat.reduceAdd, and_self, and_true, true_and, and_false, false_and]
      rw [a1]
      refine z_iadd dX9_isDigit_42 (by omega) ?_
      refine z_bald dX9_isDigit_43 hkR (by omega) (by omega) ?_
      try simp only [zup_ap, zup_row, ne_eq, not_false_eq_true, zres, Int.toNat_natCast, reduceIte, Nat.reduceEqDiff, Nat.reduceAdd, and_self, and_true, true_and, and_false, false_and]
      try simp only [show ((b : Nat) : Int) + (p : Nat) = ((b + p : Nat) : Int) from rfl, Int.toNat_natCast]
      refine z_bipush (x := 57) dX9_isDigit_44 (by rfl) (by decide) ?_
      refine z_icmp_gt (t := 53) dX9_isDigit_46 (by rfl) (fun ht46 => ?_) (fun hf46 => ?_)
      · refine z_iconst dX9_isDigit_53 (by decide) ?_
        refine z_zret dX9_isDigit_54 rfl (Nat.le_refl _) (Nat.le_refl _) (zext_rf _) (by first | exact Or.inl rfl | exact Or.inr rfl | omega) ?_
        refine zQi hQ ?_ rfl
        first
        | (rw [if_neg]; unfold zsg; rw [if_neg (by omega)]; omega)
        | (rw [if_neg]; unfold zsg; rw [if_pos (by omega)]; omega)
        | (rw [if_pos]; unfold zsg; rw [if_pos (by omega)]; omega)
      · refine z_iconst dX9_isDigit_49 (by decide) ?_
        refine z_goto (t := 54) dX9_isDigit_50 (by rfl) ?_
        refine z_zret dX9_isDigit_54 rfl (Nat.le_refl _) (Nat.le_refl _) (zext_rf _) (by first | exact Or.inl rfl | exact Or.inr rfl | omega) ?_
        refine zQi hQ ?_ rfl
        first
        | (rw [if_neg]; unfold zsg; rw [if_neg (by omega)]; omega)
        | (rw [if_neg]; unfold zsg; rw [if_pos (by omega)]; omega)
        | (rw [if_pos]; unfold zsg; rw [if_pos (by omega)]; omega)
set_option maxRecDepth 4000 in
theorem X9_within_ct {l : Launch} {Γ : zC} {h : zM} {Q : Option zV → zC → zM → Prop} {x : Int} (hQ : Q (some (zI (zbn x))) Γ h) : zCT l mX9_within 1 0 0 Γ [zL x] h Q := by
  refine zCT_of (by decide) (Nat.le_of_ble_eq_true rfl) (ls := [some (zL x), none]) rfl ?_
  refine z_ldc2 (x := -1000000) dX9_within_0 zqX9_173 (by decide) ?_
  refine z_ldc2 (x := 1000000) dX9_within_3 zqX9_175 (by decide) ?_
  refine z_ll0 dX9_within_6 ?_
  refine z_mminL dX9_within_7 zkX9_177 ztJ9_min_f86c9 (Nat.le_of_ble_eq_true rfl) (by first | decide | omega) ⟨Nat.le_refl _, Nat.le_refl _⟩ ?_
  refine z_mmaxL dX9_within_10 zkX9_183 ztJ9_max_f86c9 (Nat.le_of_ble_eq_true rfl) (by first | decide | omega) ⟨Nat.le_refl _, Nat.le_refl _⟩ ?_
  refine z_l2i dX9_within_13 (by split <;> (try split) <;> omega) ?_
  refine z_iret dX9_within_14 rfl (Nat.le_refl _) (Nat.le_refl _) (zext_rf _) (fun hrr => ?_)
  refine zQi hQ ?_ rfl
  unfold zbn
  (repeat split) <;> omega
set_option maxRecDepth 4000 in
theorem X9_isSign_ct {l : Launch} {Γ : zC} {h : zM} {Q : Option zV → zC → zM → Prop} {x : Int} (hQ : Q (some (zI (if zcp x then 1 else 0))) Γ h) : zCT l mX9_isSign 0 0 0 Γ [zI x] h Q := by
  refine zCT_of (by decide) (Nat.le_of_ble_eq_true rfl) (ls := [some (zI x)]) rfl ?_
  refine z_il0 dX9_isSign_0 ?_
  refine z_bipush (x := 61) dX9_isSign_1 (by rfl) (by decide) ?_
  refine z_icmp_eq (t := 18) dX9_isSign_3 (by rfl) (fun ht3 => ?_) (fun hf3 => ?_)
  · refine z_iconst dX9_isSign_18 (by decide) ?_
    refine z_goto (t := 23) dX9_isSign_19 (by rfl) ?_
    refine z_zret dX9_isSign_23 rfl (Nat.le_refl _) (Nat.le_refl _) (zext_rf _) (by first | exact Or.inl rfl | exact Or.inr rfl | omega) ?_
    refine zQi hQ ?_ rfl
    first | rw [if_pos (by omega)] | rw [if_neg (by omega)]
  · refine z_il0 dX9_isSign_6 ?_
    refine z_bipush (x := 60) dX9_isSign_7 (by rfl) (by decide) ?_
    refine z_icmp_eq (t := 18) dX9_isSign_9 (by rfl) (fun ht9 => ?_) (fun hf9 => ?_)
    · refine z_iconst dX9_isSign_18 (by decide) ?_
      refine z_goto (t := 23) dX9_isSign_19 (by rfl) ?_
      refine z_zret dX9_isSign_23 rfl (Nat.le_refl _) (Nat.le_refl _) (zext_rf _) (by first | exact Or.inl rfl | exact Or.inr rfl | omega) ?_
      refine zQi hQ ?_ rfl
      first | rw [if_pos (by omega)] | rw [if_neg (by omega)]
    · refine z_il0 dX9_isSign_12 ?_
      refine z_bipush (x := 62) dX9_isSign_13 (by rfl) (by decide) ?_
      refine z_icmp_ne (t := 22) dX9_isSign_15 (by rfl) (fun ht15 => ?_) (fun hf15 => ?_)
      · refine z_iconst dX9_isSign_22 (by decide) ?_
        refine z_zret dX9_isSign_23 rfl (Nat.le_refl _) (Nat.le_refl _) (zext_rf _) (by first | exact Or.inl rfl | exact Or.inr rfl | omega) ?_
        refine zQi hQ ?_ rfl
        first | rw [if_pos (by omega)] | rw [if_neg (by omega)]
      · refine z_iconst dX9_isSign_18 (by decide) ?_
        refine z_goto (t := 23) dX9_isSign_19 (by rfl) ?_
        refine z_zret dX9_isSign_23 rfl (Nat.le_refl _) (Nat.le_refl _) (zext_rf _) (by first | exact Or.inl rfl | exact Or.inr rfl | omega) ?_
        refine zQi hQ ?_ rfl
        first | rw [if_pos (by omega)] | rw [if_neg (by omega)]
