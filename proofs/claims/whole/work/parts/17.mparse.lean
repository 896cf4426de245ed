/-! the reference's parser: what it computes is what the signs of zP are worth -/
def zSm (l : Launch) (Γ : zC) (h0 : zM) (n : Nat) (t : Nat → Int) (L : Int → Int) (f tag bl : Nat) (M : zMI) (args : List zV) : Prop := ∀ (D p dep : Nat) (h : zM) (r : zRs) (Q : Option zV → zC → zM → Prop), 2 * f + 8 ≤ D → zMS h0 h p dep → p ≤ 160 → dep ≤ 6 → zP t n f tag (zskip t n p) dep = some r →
  (∀ (p1 : Nat) (c1 : List Int) (pp : Nat) (v : Int) (h' : zM), r = (true, p1, c1) → zskip t n pp = p1 → pp ≤ 160 → (bl = 1 → v = 0 ∨ v = 1) → zMS h0 h' pp dep → (∀ s, zE L c1 s (v :: s)) → Q (some (zI v)) Γ h') →
  (∀ (p1 : Nat) (v : Int) (h' : zM), (r.1 = false ∨ zdg (zsg t n p1)) → r.2.1 = p1 → (bl = 1 → v = 0 ∨ v = 1) → zMX h0 h' p1 dep → Q (some (zI v)) Γ h') → zCT l M D 0 0 Γ (zR 89 :: args) h Q
theorem zMS_inc {h0 h : zM} {p dep : Nat} (H : zMS h0 h p dep) : zMS h0 (zup h 89 10 (h 89 10 + 1)) (p + 1) dep := by
  obtain ⟨hF, a1, a2, a3⟩ := H
  exact ⟨zMF_up hF (Or.inl rfl), by simp [zup_ap, a1], by simpa [zup_ap] using a2, by simpa [zup_ap] using a3⟩
theorem zMS_dec {h0 h : zM} {p dep : Nat} (H : zMS h0 h p (dep + 1)) : zMS h0 (zup h 89 12 (h 89 12 - 1)) p dep := by
  obtain ⟨hF, a1, a2, a3⟩ := H
  exact ⟨zMF_up hF (Or.inr (Or.inr rfl)), by simpa [zup_ap] using a1, by simpa [zup_ap] using a2, by simp only [zup_ap, and_self, if_true]; omega⟩
theorem zMX_dec {h0 h : zM} {p dep : Nat} (H : zMX h0 h p (dep + 1)) : zMX h0 (zup h 89 12 (h 89 12 - 1)) p dep := by
  obtain ⟨hF, a1, a2, a3⟩ := H
  exact ⟨zMF_up hF (Or.inr (Or.inr rfl)), by simpa [zup_ap] using a1, by simp only [zup_ap, and_self, if_true]; omega, by simpa [zup_ap] using a3⟩
theorem zMX_le {h0 h : zM} {p dep : Nat} (H : zMX h0 h p (dep + 1)) : zMX h0 h p dep := by
  obtain ⟨hF, a1, a2, a3⟩ := H
  exact ⟨hF, a1, by omega, a3⟩
theorem zin1 {x : Int} : x ∈ zsby 1 ↔ zlet x := by simp [zsby]
theorem zin0 {x : Int} : x ∈ zsby 0 ↔ x = 121 := by simp [zsby]
set_option maxRecDepth 4000 in
theorem zM_fail2 {l : Launch} {Γ : zC} {h0 h : zM} {Q : Option zV → zC → zM → Prop} (hΓ : zBase Γ) {p dep : Nat} (hR : zMS h0 h p dep) (hd : dep ≤ 6) (hp : p ≤ 161) (hQ : ∀ h2, zMX h0 h2 p dep → h2 89 10 = (p : Int) → Q (some (zI 0)) Γ h2) : zCT l mX9_fails 0 0 0 Γ [zR 89] h Q := by
  obtain ⟨hF, a1, a2, a3⟩ := hR
  exact X9_fails_ct hΓ (fun _ => hQ _ ⟨zMF_up hF (Or.inr (Or.inl rfl)), by simpa [zup_ap] using a1, by simp only [zup_ap, Nat.reduceEqDiff, and_false, if_false]; omega, by simp only [zup_ap, Nat.reduceEqDiff, and_false, if_false]; omega⟩ (by simpa [zup_ap] using a1)) (fun q => absurd a2 q)
set_option maxRecDepth 4000 in
theorem zM_dig2 {l : Launch} {Γ : zC} {h0 h : zM} {Q : Option zV → zC → zM → Prop} {R b n : Nat} {t : Nat → Int} (hΓ : zBase Γ) (hT : zTx Γ h0 R b n t) {p : Nat} (hF : zMF h0 h) (a1 : h 89 10 = (p : Int)) (hp : p ≤ 160) (hQ : Q (some (zI (if zdg (zsg t n p) then 1 else 0))) Γ h) : zCT l mX9_isDigit 0 0 0 Γ [zR 89] h Q := by
  have hT := zTx_mf hT hF
  obtain ⟨hT5, hT8, hT9, hn2, hb2, hR89, hR0, ⟨len, hkR, hlen⟩, ht⟩ := hT
  refine zCT_of (by decide) (Nat.le_of_ble_eq_true rfl) (ls := [some (zR 89)]) rfl ?_
  refine z_al0 dX9_isDigit_0 (by first | decide | omega | assumption) ?_
  refine z_getI zfX9_151 dX9_isDigit_1 (by first | exact zkB hΓ rfl | exact hkR) rfl ?_
  try simp only [zup_ap, zup_row, ne_eq, not_false_eq_true, zres, Int.toNat_natCast, reduceIte, Nat.reduceEqDiff, Nat.reduceAdd, and_self, and_true, true_and, and_false, false_and]
  refine z_al0 dX9_isDigit_4 (by first | decide | omega | assumption) ?_
  refine z_getI zfX9_154 dX9_isDigit_5 (by first | exact zkB hΓ rfl | exact hkR) rfl ?_
  try simp only [zup_ap, zup_row, ne_eq, not_false_eq_true, zres, Int.toNat_natCast, reduceIte, Nat.reduceEqDiff, Nat.reduceAdd, and_self, and_true, true_and, and_false, false_and]
  rw [hT9]
  refine z_icmp_ge (t := 53) dX9_isDigit_8 (by rfl) (fun ht8 => ?_) (fun hf8 => ?_)
  · refine z_iconst dX9_isDigit_53 (by decide) ?_
    refine z_zret dX9_isDigit_54 rfl (Nat.le_refl _) (Nat.le_refl _) (zext_rf _) (by first | exact Or.inl rfl | exact Or.inr rfl | omega) ?_
    refine zQi hQ ?_ rfl
    first
    | (rw [if_neg]; unfold zsg; rw [if_neg (by omega)]; omega)
    | (rw [if_neg]; unfold zsg; rw [if_pos (by omega)]; omega)
    | (rw [if_pos]; unfold zsg; rw [if_pos (by omega)]; omega)
  · refine z_al0 dX9_isDigit_11 (by first | decide | omega | assumption) ?_
    refine z_getQ zfX9_23 dX9_isDigit_12 (by first | exact zkB hΓ rfl | exact hkR) rfl (zsN hΓ rfl) ?_
    try simp only [zup_ap, zup_row, ne_eq, not_false_eq_true, zres, Int.toNat_natCast, reduceIte, Nat.reduceEqDiff, Nat.reduceAdd, and_self, and_true, true_and, and_false, false_and]
    rw [hT5]
    refine z_al0 dX9_isDigit_15 (by first | decide | omega | assumption) ?_
    refine z_getI zfX9_157 dX9_isDigit_16 (by first | exact zkB hΓ rfl | exact hkR) rfl ?_
    try simp only [zup_ap, zup_row, ne_eq, not_false_eq_true, zres, Int.toNat_natCast, reduceIte, Nat.reduceEqDiff, Nat.reduceAdd, and_self, and_true, true_and, and_false, false_and]
    rw [hT8]
    refine z_al0 dX9_isDigit_19 (by first | decide | omega | assumption) ?_
    refine z_getI zfX9_151 dX9_isDigit_20 (by first | exact zkB hΓ rfl | exact hkR) rfl ?_
    try simp only [zup_ap, zup_row, ne_eq, not_false_eq_true, zres, Int.toNat_natCast, reduceIte, Nat.reduceEqDiff, Nat.reduceAdd, and_self, and_true, true_and, and_false, false_and]
    rw [a1]
    refine z_iadd dX9_isDigit_23 (by omega) ?_
    refine z_bald dX9_isDigit_24 hkR (by omega) (by omega) ?_
    try simp only [zup_ap, zup_row, ne_eq, not_false_eq_true, zres, Int.toNat_natCast, reduceIte, Nat.reduceEqDiff, Nat.reduceAdd, and_self, and_true, true_and, and_false, false_and]
    try simp only [show ((b : Nat) : Int) + (p : Nat) = ((b + p : Nat) : Int) from rfl, Int.toNat_natCast]
    refine zrngM (fun hm9 => ?_)
    have hx9 := zom_a hm9 hkR (j := b + p) (by omega)
    have hx9 : -128 ≤ h R (b + p) ∧ h R (b + p) < 128 := hx9
    have ht9 := ht p (by omega)
    refine z_bipush (x := 48) dX9_isDigit_25 (by rfl) (by decide) ?_
    refine z_icmp_lt (t := 53) dX9_isDigit_27 (by rfl) (fun ht27 => ?_) (fun hf27 => ?_)
    · refine z_iconst dX9_isDigit_53 (by decide) ?_
      refine z_zret dX9_isDigit_54 rfl (Nat.le_refl _) (Nat.le_refl _) (zext_rf _) (by first | exact Or.inl rfl | exact Or.inr rfl | omega) ?_
      refine zQi hQ ?_ rfl
      first
      | (rw [if_neg]; unfold zsg; rw [if_neg (by omega)]; omega)
      | (rw [if_neg]; unfold zsg; rw [if_pos (by omega)]; omega)
      | (rw [if_pos]; unfold zsg; rw [if_pos (by omega)]; omega)
    · refine z_al0 dX9_isDigit_30 (by first | decide | omega | assumption) ?_
      refine z_getQ zfX9_23 dX9_isDigit_31 (by first | exact zkB hΓ rfl | exact hkR) rfl (zsN hΓ rfl) ?_
      try simp only [zup_ap, zup_row, ne_eq, not_false_eq_true, zres, Int.toNat_natCast, reduceIte, Nat.reduceEqDiff, Nat.reduceAdd, and_self, and_true, true_and, and_false, false_and]
      rw [hT5]
      refine z_al0 dX9_isDigit_34 (by first | decide | omega | assumption) ?_
      refine z_getI zfX9_157 dX9_isDigit_35 (by first | exact zkB hΓ rfl | exact hkR) rfl ?_
      try simp only [zup_ap, zup_row, ne_eq, not_false_eq_true, zres, Int.toNat_natCast, reduceIte, Nat.reduceEqDiff, Nat.reduceAdd, and_self, and_true, true_and, and_false, false_and]
      rw [hT8]
      refine z_al0 dX9_isDigit_38 (by first | decide | omega | assumption) ?_
      refine z_getI zfX9_151 dX9_isDigit_39 (by first | exact zkB hΓ rfl | exact hkR) rfl ?_
      try simp only [zup_ap, zup_row, ne_eq, not_false_eq_true, zres, Int.toNat_natCast, reduceIte, Nat.reduceEqDiff, Nat.reduceAdd, and_self, and_true, true_and, and_false, false_and]
      rw [a1]
      refine z_iadd dX9_isDigit_42 (by omega) ?_
      refine z_bald dX9_isDigit_43 hkR (by omega) (by omega) ?_
      try simp only [zup_ap, zup_row, ne_eq, not_false_eq_true, zres, Int.toNat_natCast, reduceIte, Nat.reduceEqDiff, Nat.reduceAdd, and_self, and_true, true_and, and_false, false_and]
      try simp only [show ((b : Nat) : Int) + (p : Nat) = ((b + p : Nat) : Int) from rfl, Int.toNat_natCast]
      refine z_bipush (x := 57) dX9_isDigit_44 (by rfl) (by decide) ?_
      refine z_icmp_gt (t := 53) dX9_isDigit_46 (by rfl) (fun ht46 => ?_) (fun hf46 => ?_)
      · refine z_iconst dX9_isDigit_53 (by decide) ?_
        refine z_zret dX9_isDigit_54 rfl (Nat.le_refl _) (Nat.le_refl _) (zext_rf _) (by first | exact Or.inl rfl | exact Or.inr rfl | omega) ?_
        refine zQi hQ ?_ rfl
        first
        | (rw [if_neg]; unfold zsg; rw [if_neg (by omega)]; omega)
        | (rw [if_neg]; unfold zsg; rw [if_pos (by omega)]; omega)
        | (rw [if_pos]; unfold zsg; rw [if_pos (by omega)]; omega)
      · refine z_iconst dX9_isDigit_49 (by decide) ?_
        refine z_goto (t := 54) dX9_isDigit_50 (by rfl) ?_
        refine z_zret dX9_isDigit_54 rfl (Nat.le_refl _) (Nat.le_refl _) (zext_rf _) (by first | exact Or.inl rfl | exact Or.inr rfl | omega) ?_
        refine zQi hQ ?_ rfl
        first
        | (rw [if_neg]; unfold zsg; rw [if_neg (by omega)]; omega)
        | (rw [if_neg]; unfold zsg; rw [if_pos (by omega)]; omega)
        | (rw [if_pos]; unfold zsg; rw [if_pos (by omega)]; omega)
set_option maxRecDepth 4000 in
theorem zM_num {l : Launch} {Γ : zC} {h0 : zM} {R b n : Nat} {t : Nat → Int} (hΓ : zBase Γ) (hT : zTx Γ h0 R b n t) {D dep : Nat} {Q : Option zV → zC → zM → Prop} (hD : 1 ≤ D) (hdep : dep ≤ 6) {w : Int} : ∀ (m k e p : Nat) (v : Int) (h : zM), e < m → zMS h0 h p dep → p ≤ 160 → k + e = 4 → ((k = 0 ∧ v = 0) ∨ (k = 1 ∧ 0 ≤ v ∧ v ≤ 9) ∨ (k = 2 ∧ 0 ≤ v ∧ v ≤ 99) ∨ (k = 3 ∧ 0 ≤ v ∧ v ≤ 999) ∨ (k = 4 ∧ 0 ≤ v ∧ v ≤ 9999)) → (∀ h2, ¬ zdg (zsg t n (znum t n e p v).2) → zMS h0 h2 (znum t n e p v).2 dep → Q (some (zI (znum t n e p v).1)) Γ h2) → (∀ h2, zdg (zsg t n (znum t n e p v).2) → zMX h0 h2 (znum t n e p v).2 dep → Q (some (zI 0)) Γ h2) → zG (zFn l mX9_atom D 0 0 Γ Q) 0 0 Γ h 90 [some (zR 89), some (zI w), some (zI v), some (zI (k : Nat))] [] := by
  intro m
  induction m with
  | zero => intros; omega
  | succ m ih =>
    intro k e p v h hm hR hp hke hv hN2 hX2
    refine z_al0 dX9_atom_90 (by first | decide | omega | assumption) ?_
    refine zcv0 dX9_atom_91 zkX9_200 ziX9_isDigit zsX9_isDigit (zkB hΓ rfl) (by decide) rfl (Nat.le_of_ble_eq_true rfl) (by decide) (by first | decide | omega) ⟨Nat.le_refl _, Nat.le_refl _⟩ (zM_dig hΓ hT hR (by omega) (fun _ => ?_))
    try simp only [zup_ap, zup_row, ne_eq, not_false_eq_true, zres, Int.toNat_natCast, reduceIte, Nat.reduceEqDiff, Nat.reduceAdd, and_self, and_true, true_and, and_false, false_and]
    refine z_if_eq (t := 156) dX9_atom_94 (by rfl) (fun ht94 => ?_) (fun hf94 => ?_)
    · refine z_il2 dX9_atom_156 ?_
      refine z_iret dX9_atom_157 rfl (Nat.le_refl _) (Nat.le_refl _) (zext_rf _) (fun hrr => ?_)
      rw [znum_0 (Or.inr (zif0.mp ht94))] at hN2
      exact hN2 _ (zif0.mp ht94) hR
    · have hd9 : zdg (zsg t n p) := zif1.mp hf94
      have hlt := zdg_lt hd9
      have a2 := hR.2.2.1
      have a1 := hR.2.1
      have hTh := zTx_mf hT hR.1
      obtain ⟨hT5, hT8, hT9, hn2, hb2, hR89, hR0, ⟨len, hkR, hlen⟩, ht⟩ := hTh
      refine z_al0 dX9_atom_97 (by first | decide | omega | assumption) ?_
      refine z_getI zfX9_160 dX9_atom_98 (by first | exact zkB hΓ rfl | exact hkR) rfl ?_
      try simp only [zup_ap, zup_row, ne_eq, not_false_eq_true, zres, Int.toNat_natCast, reduceIte, Nat.reduceEqDiff, Nat.reduceAdd, and_self, and_true, true_and, and_false, false_and]
      refine z_iconst dX9_atom_101 (by decide) ?_
      refine z_icmp_ne (t := 156) dX9_atom_102 (by rfl) (fun ht102 => ?_) (fun hf102 => ?_)
      · exfalso; omega
      · refine z_il3 dX9_atom_105 ?_
        refine z_iconst dX9_atom_106 (by decide) ?_
        refine z_icmp_ne (t := 117) dX9_atom_107 (by rfl) (fun ht107 => ?_) (fun hf107 => ?_)
        · obtain ⟨e, rfl⟩ : ∃ e9, e = e9 + 1 := ⟨e - 1, by omega⟩
          rw [znum_1 hd9] at hN2 hX2
          refine z_bipush (x := 10) dX9_atom_117 (by rfl) (by decide) ?_
          refine z_il2 dX9_atom_119 ?_
          refine z_imul dX9_atom_120 (by omega) ?_
          refine z_al0 dX9_atom_121 (by first | decide | omega | assumption) ?_
          refine z_getQ zfX9_23 dX9_atom_122 (by first | exact zkB hΓ rfl | exact hkR) rfl (zsN hΓ rfl) ?_
          try simp only [zup_ap, zup_row, ne_eq, not_false_eq_true, zres, Int.toNat_natCast, reduceIte, Nat.reduceEqDiff, Nat.reduceAdd, and_self, and_true, true_and, and_false, false_and]
          rw [hT5]
          refine z_al0 dX9_atom_125 (by first | decide | omega | assumption) ?_
          refine z_getI zfX9_157 dX9_atom_126 (by first | exact zkB hΓ rfl | exact hkR) rfl ?_
          try simp only [zup_ap, zup_row, ne_eq, not_false_eq_true, zres, Int.toNat_natCast, reduceIte, Nat.reduceEqDiff, Nat.reduceAdd, and_self, and_true, true_and, and_false, false_and]
          rw [hT8]
          refine z_al0 dX9_atom_129 (by first | decide | omega | assumption) ?_
          refine z_getI zfX9_151 dX9_atom_130 (by first | exact zkB hΓ rfl | exact hkR) rfl ?_
          try simp only [zup_ap, zup_row, ne_eq, not_false_eq_true, zres, Int.toNat_natCast, reduceIte, Nat.reduceEqDiff, Nat.reduceAdd, and_self, and_true, true_and, and_false, false_and]
          rw [a1]
          refine z_iadd dX9_atom_133 (by omega) ?_
          refine z_bald dX9_atom_134 hkR (by omega) (by omega) ?_
          try simp only [zup_ap, zup_row, ne_eq, not_false_eq_true, zres, Int.toNat_natCast, reduceIte, Nat.reduceEqDiff, Nat.reduceAdd, and_self, and_true, true_and, and_false, false_and]
          try simp only [show ((b : Nat) : Int) + (p : Nat) = ((b + p : Nat) : Int) from rfl, Int.toNat_natCast]
          refine zrngM (fun hm9 => ?_)
          have hx9 := zom_a hm9 hkR (j := b + p) (by omega)
          have hx9 : -128 ≤ h R (b + p) ∧ h R (b + p) < 128 := hx9
          have ht9 := ht p (by omega)
          have hs9 : zsg t n p = t p := by unfold zsg; rw [if_pos (by omega)]
          obtain ⟨hd8, hd7⟩ := hd9
          refine z_iadd dX9_atom_135 (by omega) ?_
          refine z_bipush (x := 48) dX9_atom_136 (by rfl) (by decide) ?_
          refine z_isub dX9_atom_138 (by omega) ?_
          refine z_is2 dX9_atom_139 (Nat.le_of_ble_eq_true rfl) rfl ?_
          refine z_al0 dX9_atom_140 (by first | decide | omega | assumption) ?_
          refine z_dup dX9_atom_141 rfl ?_
          refine z_getI zfX9_151 dX9_atom_142 (by first | exact zkB hΓ rfl | exact hkR) rfl ?_
          try simp only [zup_ap, zup_row, ne_eq, not_false_eq_true, zres, Int.toNat_natCast, reduceIte, Nat.reduceEqDiff, Nat.reduceAdd, and_self, and_true, true_and, and_false, false_and]
          refine z_iconst dX9_atom_145 (by decide) ?_
          refine z_iadd dX9_atom_146 (by omega) ?_
          refine z_putI zfX9_151 dX9_atom_147 (by first | exact zkB hΓ rfl | exact hkR) rfl rfl ?_
          have hR := zMS_inc hR
          refine z_ii3 dX9_atom_150 (by omega) (Nat.le_of_ble_eq_true rfl) rfl ?_
          refine z_goto (t := 90) dX9_atom_153 (by rfl) ?_
          rw [show (10 : Int) * v + h R (b + p) - 48 = 10 * v + zsg t n p - 48 by omega, show ((k : Nat) : Int) + 1 = ((k + 1 : Nat) : Int) from rfl]
          exact ih (k + 1) e (p + 1) _ _ (by omega) hR (by omega) (by omega) (by omega) hN2 hX2
        · obtain rfl : e = 0 := by omega
          refine z_al0 dX9_atom_110 (by first | decide | omega | assumption) ?_
          refine zcv0 dX9_atom_111 zkX9_166 ziX9_fails zsX9_fails (zkB hΓ rfl) (by decide) rfl (Nat.le_of_ble_eq_true rfl) (by decide) (by first | decide | omega) ⟨Nat.le_refl _, Nat.le_refl _⟩ (zM_fail hΓ hR hdep (by omega) (fun h hX _ => ?_))
          try simp only [zup_ap, zup_row, ne_eq, not_false_eq_true, zres, Int.toNat_natCast, reduceIte, Nat.reduceEqDiff, Nat.reduceAdd, and_self, and_true, true_and, and_false, false_and]
          refine z_pop dX9_atom_114 rfl ?_
          refine z_iconst dX9_atom_115 (by decide) ?_
          refine z_iret dX9_atom_116 rfl (Nat.le_refl _) (Nat.le_refl _) (zext_rf _) (fun hrr => ?_)
          exact hX2 _ hd9 hX
set_option maxRecDepth 4000 in
theorem zM_atom {l : Launch} {Γ : zC} {h0 : zM} {R b n : Nat} {t : Nat → Int} (hΓ : zBase Γ) (hT : zTx Γ h0 R b n t) {f : Nat} (iS : ∀ g, g < f + 1 → zSm l Γ h0 n t (fun s => h0 93 s.toNat) g 3 0 mX9_sum []) : zSm l Γ h0 n t (fun s => h0 93 s.toNat) (f + 1) 0 0 mX9_atom [] := by
  intro D p dep h r Q hD hR hp hdep hP hN hXc
  have sk1 := fun k => zskip_b t n k
  have s0 := sk1 p
  have hn2 := hT.2.2.2.1
  simp only [zP] at hP
  refine zCT_of (by decide) (Nat.le_of_ble_eq_true rfl) (ls := [some (zR 89), none, none, none]) rfl ?_
  refine z_al0 dX9_atom_0 (by first | decide | omega | assumption) ?_
  refine zcv0 dX9_atom_1 zkX9_170 ziX9_look zsX9_look (zkB hΓ rfl) (by decide) rfl (Nat.le_of_ble_eq_true rfl) (by decide) (by first | decide | omega) ⟨Nat.le_refl _, Nat.le_refl _⟩ (zM_look hΓ hT hR (by omega) (fun h hR _ => ?_))
  try simp only [zup_ap, zup_row, ne_eq, not_false_eq_true, zres, Int.toNat_natCast, reduceIte, Nat.reduceEqDiff, Nat.reduceAdd, and_self, and_true, true_and, and_false, false_and]
  refine z_is1 dX9_atom_4 (Nat.le_of_ble_eq_true rfl) rfl ?_
  refine z_ldcS1 dX9_atom_5 rfl ?_
  refine z_il1 dX9_atom_7 ?_
  refine zcs2 dX9_atom_8 zkX9_186 ztX9_isAmong (Nat.le_of_ble_eq_true rfl) (by decide) (by first | decide | omega) ⟨Nat.le_refl _, Nat.le_refl _⟩ (X9_isAmong_ct (i := 1) (by decide) (fun _ => ?_))
  try simp only [zup_ap, zup_row, ne_eq, not_false_eq_true, zres, Int.toNat_natCast, reduceIte, Nat.reduceEqDiff, Nat.reduceAdd, and_self, and_true, true_and, and_false, false_and]
  refine z_if_eq (t := 31) dX9_atom_11 (by rfl) (fun ht11 => ?_) (fun hf11 => ?_)
  · have hl := fun q => zif0.mp ht11 (zin1.mpr q)
    refine z_il1 dX9_atom_31 ?_
    refine z_bipush (x := 91) dX9_atom_32 (by rfl) (by decide) ?_
    refine z_icmp_ne (t := 74) dX9_atom_34 (by rfl) (fun ht34 => ?_) (fun hf34 => ?_)
    · rw [if_neg ht34, if_neg hl] at hP
      refine z_al0 dX9_atom_74 (by first | decide | omega | assumption) ?_
      refine zcv0 dX9_atom_75 zkX9_200 ziX9_isDigit zsX9_isDigit (zkB hΓ rfl) (by decide) rfl (Nat.le_of_ble_eq_true rfl) (by decide) (by first | decide | omega) ⟨Nat.le_refl _, Nat.le_refl _⟩ (zM_dig hΓ hT hR (by omega) (fun _ => ?_))
      try simp only [zup_ap, zup_row, ne_eq, not_false_eq_true, zres, Int.toNat_natCast, reduceIte, Nat.reduceEqDiff, Nat.reduceAdd, and_self, and_true, true_and, and_false, false_and]
      refine z_if_ne (t := 86) dX9_atom_78 (by rfl) (fun ht78 => ?_) (fun hf78 => ?_)
      · have hz9 := zif1.mp ht78
        have l0 := zdg_lt hz9
        refine z_iconst dX9_atom_86 (by decide) ?_
        refine z_is2 dX9_atom_87 (Nat.le_of_ble_eq_true rfl) rfl ?_
        refine z_iconst dX9_atom_88 (by decide) ?_
        refine z_is3 dX9_atom_89 (Nat.le_of_ble_eq_true rfl) rfl ?_
        have k9 : ¬ (znum t n 4 (zskip t n p) 0).2 = zskip t n p := by
          rw [znum_1 hz9]
          have := (znum_p t n 3 (zskip t n p + 1) (10 * 0 + zsg t n (zskip t n p) - 48)).1
          omega
        rw [if_neg k9] at hP
        have k8 := znum_p t n 4 (zskip t n p) 0
        refine zM_num hΓ hT (by omega) hdep 5 0 4 (zskip t n p) 0 h (by omega) hR (by omega) (by omega) (by omega) (fun h2 hd2 hR2 => ?_) (fun h2 hd2 hX2 => ?_)
        · cases hP
          exact hN _ _ _ _ _ rfl rfl (by omega) (fun e9 => by cases e9) hR2 (fun s => zE_num (znum_nn t n 4 _ 0 (by decide)))
        · cases hP
          exact hXc _ _ _ (Or.inr hd2) (zskip_dg hd2) (fun e9 => by cases e9) hX2
      · have hz9 := zif0.mp hf78
        rw [znum_0 (Or.inr hz9), if_pos rfl, zskip_id] at hP
        refine z_al0 dX9_atom_81 (by first | decide | omega | assumption) ?_
        refine zcv0 dX9_atom_82 zkX9_166 ziX9_fails zsX9_fails (zkB hΓ rfl) (by decide) rfl (Nat.le_of_ble_eq_true rfl) (by decide) (by first | decide | omega) ⟨Nat.le_refl _, Nat.le_refl _⟩ (zM_fail2 hΓ hR hdep (by omega) (fun h hX hat _ => ?_))
        · skip
          try simp only [zup_ap, zup_row, ne_eq, not_false_eq_true, zres, Int.toNat_natCast, reduceIte, Nat.reduceEqDiff, Nat.reduceAdd, and_self, and_true, true_and, and_false, false_and]
          skip
          refine z_pop dX9_atom_85 rfl ?_
          refine z_iconst dX9_atom_86 (by decide) ?_
          refine z_is2 dX9_atom_87 (Nat.le_of_ble_eq_true rfl) rfl ?_
          refine z_iconst dX9_atom_88 (by decide) ?_
          refine z_is3 dX9_atom_89 (Nat.le_of_ble_eq_true rfl) rfl ?_
          refine z_al0 dX9_atom_90 (by first | decide | omega | assumption) ?_
          refine zcv0 dX9_atom_91 zkX9_200 ziX9_isDigit zsX9_isDigit (zkB hΓ rfl) (by decide) rfl (Nat.le_of_ble_eq_true rfl) (by decide) (by first | decide | omega) ⟨Nat.le_refl _, Nat.le_refl _⟩ (zM_dig2 hΓ hT hX.1 hat (by omega) (fun _ => ?_))
          try simp only [zup_ap, zup_row, ne_eq, not_false_eq_true, zres, Int.toNat_natCast, reduceIte, Nat.reduceEqDiff, Nat.reduceAdd, and_self, and_true, true_and, and_false, false_and]
          refine z_if_eq (t := 156) dX9_atom_94 (by rfl) (fun ht94 => ?_) (fun hf94 => ?_)
          · refine z_il2 dX9_atom_156 ?_
            refine z_iret dX9_atom_157 rfl (Nat.le_refl _) (Nat.le_refl _) (zext_rf _) (fun hrr => ?_)
            cases hP
            exact hXc _ _ _ (Or.inl rfl) rfl (fun e9 => by cases e9) hX
          · exfalso; exact hf94 (by rw [if_neg hz9])
    · rw [if_pos hf34] at hP
      have l0 := zsg_lt hf34 (by decide)
      refine z_al0 dX9_atom_37 (by first | decide | omega | assumption) ?_
      refine zcv0 dX9_atom_38 zkX9_190 ziX9_goesIn zsX9_goesIn (zkB hΓ rfl) (by decide) rfl (Nat.le_of_ble_eq_true rfl) (by decide) (by first | decide | omega) ⟨Nat.le_refl _, Nat.le_refl _⟩ (zM_goes hΓ hR hdep (by omega) (fun hd h hX _ => ?_) (fun hd h hR _ => ?_))
      · rw [if_neg (by omega)] at hP
        try simp only [zup_ap, zup_row, ne_eq, not_false_eq_true, zres, Int.toNat_natCast, reduceIte, Nat.reduceEqDiff, Nat.reduceAdd, and_self, and_true, true_and, and_false, false_and]
        refine z_if_ne (t := 46) dX9_atom_41 (by rfl) (fun hx => absurd hx (by decide)) (fun _ => ?_)
        refine z_iconst dX9_atom_44 (by decide) ?_
        refine z_iret dX9_atom_45 rfl (Nat.le_refl _) (Nat.le_refl _) (zext_rf _) (fun hrr => ?_)
        cases hP
        exact hXc _ _ _ (Or.inl rfl) rfl (fun e9 => by cases e9) hX
      · rw [if_pos hd] at hP
        try simp only [zup_ap, zup_row, ne_eq, not_false_eq_true, zres, Int.toNat_natCast, reduceIte, Nat.reduceEqDiff, Nat.reduceAdd, and_self, and_true, true_and, and_false, false_and]
        refine z_if_ne (t := 46) dX9_atom_41 (by rfl) (fun _ => ?_) (fun hx => absurd hx (by decide))
        refine z_al0 dX9_atom_46 (by first | decide | omega | assumption) ?_
        obtain ⟨r1, hP1, hK1⟩ := zbd_e hP
        refine zcv0 dX9_atom_47 zkX9_193 ziX9_sum zsX9_sum (zkB hΓ rfl) (by decide) rfl (Nat.le_of_ble_eq_true rfl) (by decide) (by first | decide | omega) ⟨Nat.le_refl _, Nat.le_refl _⟩ (iS f (by omega) (2 * f + 8) _ (dep + 1) _ r1 _ (Nat.le_refl _) hR (by omega) (by omega) hP1 (fun p1 c1 pp1 v1 h hr1 hz1 hpp1 hb1 hR hE1 _ => ?_) (fun p1 v1 h hd1 he1 hb1 hX _ => ?_))
        · subst hr1
          have hP := zN_gen hK1 rfl
          try dsimp only at hP
          have b1 := zP_c hP1 (by decide)
          try simp only [zup_ap, zup_row, ne_eq, not_false_eq_true, zres, Int.toNat_natCast, reduceIte, Nat.reduceEqDiff, Nat.reduceAdd, and_self, and_true, true_and, and_false, false_and]
          skip
          refine z_is2 dX9_atom_50 (Nat.le_of_ble_eq_true rfl) rfl ?_
          refine z_al0 dX9_atom_51 (by first | decide | omega | assumption) ?_
          refine z_bipush (x := 93) dX9_atom_52 (by rfl) (by decide) ?_
          refine zcv1 dX9_atom_54 zkX9_196 ziX9_takes zsX9_takes (zkB hΓ rfl) (by decide) rfl (Nat.le_of_ble_eq_true rfl) (by decide) (by first | decide | omega) ⟨Nat.le_refl _, Nat.le_refl _⟩ (zM_takes hΓ hT hR (by omega) (by omega) (fun hc h hX _ => ?_) (fun hc h hR _ => ?_))
          · rw [hz1] at hc hX
            rw [if_neg hc] at hP
            try simp only [zup_ap, zup_row, ne_eq, not_false_eq_true, zres, Int.toNat_natCast, reduceIte, Nat.reduceEqDiff, Nat.reduceAdd, and_self, and_true, true_and, and_false, false_and]
            refine z_if_ne (t := 62) dX9_atom_57 (by rfl) (fun hx => absurd hx (by decide)) (fun _ => ?_)
            refine z_iconst dX9_atom_60 (by decide) ?_
            refine z_iret dX9_atom_61 rfl (Nat.le_refl _) (Nat.le_refl _) (zext_rf _) (fun hrr => ?_)
            cases hP
            exact hXc _ _ _ (Or.inl rfl) rfl (fun e9 => by cases e9) (zMX_le hX)
          · rw [hz1] at hc hR
            rw [if_pos hc] at hP
            have l2 := zsg_lt hc (by decide)
            try simp only [zup_ap, zup_row, ne_eq, not_false_eq_true, zres, Int.toNat_natCast, reduceIte, Nat.reduceEqDiff, Nat.reduceAdd, and_self, and_true, true_and, and_false, false_and]
            refine z_if_ne (t := 62) dX9_atom_57 (by rfl) (fun _ => ?_) (fun hx => absurd hx (by decide))
            refine z_al0 dX9_atom_62 (by first | decide | omega | assumption) ?_
            have a3 := hR.2.2.2
            refine z_dup dX9_atom_63 rfl ?_
            refine z_getI zfX9_163 dX9_atom_64 (zkB hΓ rfl) rfl ?_
            try simp only [zup_ap, zup_row, ne_eq, not_false_eq_true, zres, Int.toNat_natCast, reduceIte, Nat.reduceEqDiff, Nat.reduceAdd, and_self, and_true, true_and, and_false, false_and]
            refine z_iconst dX9_atom_67 (by decide) ?_
            refine z_isub dX9_atom_68 (by omega) ?_
            refine z_putI zfX9_163 dX9_atom_69 (zkB hΓ rfl) rfl rfl ?_
            have hR := zMS_dec hR
            refine z_il2 dX9_atom_72 ?_
            refine z_iret dX9_atom_73 rfl (Nat.le_refl _) (Nat.le_refl _) (zext_rf _) (fun hrr => ?_)
            cases hP
            exact hN _ _ _ _ _ rfl rfl (by omega) (fun e9 => by cases e9) hR hE1
        · have hX1 := hX.2.1
          have hX2 := hX.2.2.1
          have hX3 := hX.2.2.2
          try simp only [zup_ap, zup_row, ne_eq, not_false_eq_true, zres, Int.toNat_natCast, reduceIte, Nat.reduceEqDiff, Nat.reduceAdd, and_self, and_true, true_and, and_false, false_and]
          skip
          refine z_is2 dX9_atom_50 (Nat.le_of_ble_eq_true rfl) rfl ?_
          refine z_al0 dX9_atom_51 (by first | decide | omega | assumption) ?_
          refine z_bipush (x := 93) dX9_atom_52 (by rfl) (by decide) ?_
          refine zcv1 dX9_atom_54 zkX9_196 ziX9_takes zsX9_takes (zkB hΓ rfl) (by decide) rfl (Nat.le_of_ble_eq_true rfl) (by decide) (by first | decide | omega) ⟨Nat.le_refl _, Nat.le_refl _⟩ (zM_takesX hΓ hX (fun _ => ?_))
          · try simp only [zup_ap, zup_row, ne_eq, not_false_eq_true, zres, Int.toNat_natCast, reduceIte, Nat.reduceEqDiff, Nat.reduceAdd, and_self, and_true, true_and, and_false, false_and]
            refine z_if_ne (t := 62) dX9_atom_57 (by rfl) (fun hx => absurd hx (by decide)) (fun _ => ?_)
            refine z_iconst dX9_atom_60 (by decide) ?_
            refine z_iret dX9_atom_61 rfl (Nat.le_refl _) (Nat.le_refl _) (zext_rf _) (fun hrr => ?_)
            have hx9 := zX_gen hK1 hd1 he1 (fun hd c => zDg_if hd (by decide))
            exact hXc _ _ _ hx9.1 hx9.2 (fun e9 => by cases e9) (zMX_le hX)
  · have hl := zin1.mp (zif1.mp hf11)
    rw [if_neg (by omega), if_pos hl] at hP
    have l0 : zskip t n p < n := by rcases hl with h | h | h | h | h | h <;> exact zsg_lt h (by decide)
    refine z_al0 dX9_atom_14 (by first | decide | omega | assumption) ?_
    have a1 := hR.2.1
    refine z_dup dX9_atom_15 rfl ?_
    refine z_getI zfX9_151 dX9_atom_16 (zkB hΓ rfl) rfl ?_
    try simp only [zup_ap, zup_row, ne_eq, not_false_eq_true, zres, Int.toNat_natCast, reduceIte, Nat.reduceEqDiff, Nat.reduceAdd, and_self, and_true, true_and, and_false, false_and]
    refine z_iconst dX9_atom_19 (by decide) ?_
    refine z_iadd dX9_atom_20 (by omega) ?_
    refine z_putI zfX9_151 dX9_atom_21 (zkB hΓ rfl) rfl rfl ?_
    have hR := zMS_inc hR
    refine z_al0 dX9_atom_24 (by first | decide | omega | assumption) ?_
    refine z_getR zfX9_20 dX9_atom_25 (zkB hΓ rfl) rfl (zsB hΓ rfl) (zvB hΓ (by decide)) ?_
    refine z_il1 dX9_atom_28 ?_
    refine z_iald dX9_atom_29 (zkB hΓ rfl) (by omega) (by omega) ?_
    try simp only [zup_ap, zup_row, ne_eq, not_false_eq_true, zres, Int.toNat_natCast, reduceIte, Nat.reduceEqDiff, Nat.reduceAdd, and_self, and_true, true_and, and_false, false_and]
    refine z_iret dX9_atom_30 rfl (Nat.le_refl _) (Nat.le_refl _) (zext_rf _) (fun hrr => ?_)
    cases hP
    rw [show h 93 = h0 93 from hR.1.1 93 (by decide)] at *
    exact hN _ _ (zskip t n p + 1) _ _ rfl rfl (by omega) (fun e9 => by cases e9) hR (fun s => zE_let (L := fun s => h0 93 s.toNat) hl)
theorem zop_42 {L : Int → Int} {x v w : Int} {s : List Int} (h : x = 42) : zE L [-x] (w :: v :: s) (zbn (v * w) :: s) := by
  have := zE_jn (L := L) (x := x) (a := v) (b := w) (s := s) (by omega)
  rwa [show zjn x v w = v * w by simp [zjn, h]] at this
theorem zop_47z {L : Int → Int} {x v w : Int} {s : List Int} (h : x = 47) (hw : w = 0) : zE L [-x] (w :: v :: s) (zbn 0 :: s) := by
  have := zE_jn (L := L) (x := x) (a := v) (b := w) (s := s) (by omega)
  rwa [show zjn x v w = 0 by simp [zjn, h, hw]] at this
theorem zop_47n {L : Int → Int} {x v w : Int} {s : List Int} (h : x = 47) (hw : ¬ w = 0) : zE L [-x] (w :: v :: s) (zbn (v.tdiv w) :: s) := by
  have := zE_jn (L := L) (x := x) (a := v) (b := w) (s := s) (by omega)
  rwa [show zjn x v w = v.tdiv w by simp [zjn, h, hw]] at this
theorem zop_43 {L : Int → Int} {x v w : Int} {s : List Int} (h : x = 43) : zE L [-x] (w :: v :: s) (zbn (v + w) :: s) := by
  have := zE_jn (L := L) (x := x) (a := v) (b := w) (s := s) (by omega)
  rwa [show zjn x v w = v + w by simp [zjn, h]] at this
theorem zop_45 {L : Int → Int} {x v w : Int} {s : List Int} (h : x = 45) : zE L [-x] (w :: v :: s) (zbn (v - w) :: s) := by
  have := zE_jn (L := L) (x := x) (a := v) (b := w) (s := s) (by omega)
  rwa [show zjn x v w = v - w by simp [zjn, h]] at this
set_option maxRecDepth 4000 in
theorem zM_tl {l : Launch} {Γ : zC} {h0 : zM} {R b n : Nat} {t : Nat → Int} (hΓ : zBase Γ) (hT : zTx Γ h0 R b n t) (G D : Nat) (hD : 2 * G + 8 ≤ D) (iA : ∀ g, g < G → zSm l Γ h0 n t (fun s => h0 93 s.toNat) g 0 0 mX9_atom []) : ∀ g, g ≤ G → ∀ (p dep : Nat) (v0 : Int) (h : zM) (r : zRs) (Q : Option zV → zC → zM → Prop) (w1 w2 w3 : Option zV), zMS h0 h p dep → p ≤ 160 → dep ≤ 6 → zP t n g 2 (zskip t n p) dep = some r →
  (∀ (p1 : Nat) (c1 : List Int) (pp : Nat) (v : Int) (h' : zM), r = (true, p1, c1) → zskip t n pp = p1 → pp ≤ 160 → (0 = 1 → v = 0 ∨ v = 1) → zMS h0 h' pp dep → (∀ s, zE (fun s => h0 93 s.toNat) c1 (v0 :: s) (v :: s)) → Q (some (zI v)) Γ h') →
  (∀ (p1 : Nat) (v : Int) (h' : zM), (r.1 = false ∨ zdg (zsg t n p1)) → r.2.1 = p1 → (0 = 1 → v = 0 ∨ v = 1) → zMX h0 h' p1 dep → Q (some (zI v)) Γ h') → zG (zFn l mX9_term D 0 0 Γ Q) 0 0 Γ h 5 [some (zR 89), some (zI v0), w1, w2, w3] [] := by
  intro g
  induction g with
  | zero => intro _ p dep v0 h r Q w1 w2 w3 hR hp hdep hP; cases hP
  | succ g ih =>
    intro hg p dep v0 h r Q w1 w2 w3 hR hp hdep hP hN hXc
    have sk1 := fun k => zskip_b t n k
    have s0 := sk1 p
    have hn2 := hT.2.2.2.1
    have a2 := hR.2.2.1
    simp only [zP] at hP
    refine zrngL 1 rfl (fun hrv => ?_)
    refine z_al0 dX9_term_5 (by first | decide | omega | assumption) ?_
    refine z_getI zfX9_160 dX9_term_6 (zkB hΓ rfl) rfl ?_
    try simp only [zup_ap, zup_row, ne_eq, not_false_eq_true, zres, Int.toNat_natCast, reduceIte, Nat.reduceEqDiff, Nat.reduceAdd, and_self, and_true, true_and, and_false, false_and]
    refine z_iconst dX9_term_9 (by decide) ?_
    refine z_icmp_ne (t := 94) dX9_term_10 (by rfl) (fun ht10 => ?_) (fun hf10 => ?_)
    · exfalso; omega
    · refine z_al0 dX9_term_13 (by first | decide | omega | assumption) ?_
      refine zcv0 dX9_term_14 zkX9_170 ziX9_look zsX9_look (zkB hΓ rfl) (by decide) rfl (Nat.le_of_ble_eq_true rfl) (by decide) (by first | decide | omega) ⟨Nat.le_refl _, Nat.le_refl _⟩ (zM_look hΓ hT hR (by omega) (fun h hR _ => ?_))
      try simp only [zup_ap, zup_row, ne_eq, not_false_eq_true, zres, Int.toNat_natCast, reduceIte, Nat.reduceEqDiff, Nat.reduceAdd, and_self, and_true, true_and, and_false, false_and]
      refine z_bipush (x := 42) dX9_term_17 (by rfl) (by decide) ?_
      refine z_icmp_eq (t := 31) dX9_term_19 (by rfl) (fun ht19 => ?_) (fun hf19 => ?_)
      · rw [if_pos (Or.inl ht19)] at hP
        have l0 := zsg_lt ht19 (by decide)
        refine z_al0 dX9_term_31 (by first | decide | omega | assumption) ?_
        refine zcv0 dX9_term_32 zkX9_170 ziX9_look zsX9_look (zkB hΓ rfl) (by decide) rfl (Nat.le_of_ble_eq_true rfl) (by decide) (by first | decide | omega) ⟨Nat.le_refl _, Nat.le_refl _⟩ (zM_look hΓ hT hR (by omega) (fun h hR _ => ?_))
        try simp only [zup_ap, zup_row, ne_eq, not_false_eq_true, zres, Int.toNat_natCast, reduceIte, Nat.reduceEqDiff, Nat.reduceAdd, and_self, and_true, true_and, and_false, false_and]
        simp only [zskip_id] at hR ⊢
        refine z_bipush (x := 42) dX9_term_35 (by rfl) (by decide) ?_
        refine z_icmp_ne (t := 44) dX9_term_37 (by rfl) (fun ht37 => ?_) (fun hf37 => ?_)
        · first
          | (exfalso; omega)
          | (refine z_iconst dX9_term_44 (by decide) ?_
             refine z_is2 dX9_term_45 (Nat.le_of_ble_eq_true rfl) rfl ?_
             refine z_al0 dX9_term_46 (by first | decide | omega | assumption) ?_
             have a1 := hR.2.1
             refine z_dup dX9_term_47 rfl ?_
             refine z_getI zfX9_151 dX9_term_48 (zkB hΓ rfl) rfl ?_
             try simp only [zup_ap, zup_row, ne_eq, not_false_eq_true, zres, Int.toNat_natCast, reduceIte, Nat.reduceEqDiff, Nat.reduceAdd, and_self, and_true, true_and, and_false, false_and]
             refine z_iconst dX9_term_51 (by decide) ?_
             refine z_iadd dX9_term_52 (by omega) ?_
             refine z_putI zfX9_151 dX9_term_53 (zkB hΓ rfl) rfl rfl ?_
             have hR := zMS_inc hR
             refine z_al0 dX9_term_56 (by first | decide | omega | assumption) ?_
             obtain ⟨r1, hP1, hK1⟩ := zbd_e hP
             refine zcv0 dX9_term_57 zkX9_203 ziX9_atom zsX9_atom (zkB hΓ rfl) (by decide) rfl (Nat.le_of_ble_eq_true rfl) (by decide) (by first | decide | omega) ⟨Nat.le_refl _, Nat.le_refl _⟩ (iA g (by omega) (2 * g + 8) _ _ _ r1 _ (Nat.le_refl _) hR (by omega) (by omega) hP1 (fun p1 c1 pp1 v1 h hr1 hz1 hpp1 hb1 hR hE1 _ => ?_) (fun p1 v1 h hd1 he1 hb1 hX _ => ?_))
             · subst hr1
               have hP := zN_gen hK1 rfl
               try dsimp only at hP
               have b1 := zP_c hP1 (by decide)
               try simp only [zup_ap, zup_row, ne_eq, not_false_eq_true, zres, Int.toNat_natCast, reduceIte, Nat.reduceEqDiff, Nat.reduceAdd, and_self, and_true, true_and, and_false, false_and]
               skip
               refine zrngS (fun hrw => ?_)
               refine z_i2l dX9_term_60 ?_
               refine z_ls3 dX9_term_61 (Nat.le_of_ble_eq_true rfl) rfl ?_
               refine z_il2 dX9_term_62 ?_
               refine z_if_eq (t := 73) dX9_term_63 (by rfl) (fun _ => ?_) (fun hx => absurd hx (by decide))
               refine z_ll3 dX9_term_73 ?_
               refine z_lconst (x := 0) dX9_term_74 (by rfl) (by decide) ?_
               refine z_lcmp dX9_term_75 ?_
               refine z_if_ne (t := 83) dX9_term_76 (by rfl) (fun ht76 => ?_) (fun hf76 => ?_)
               · refine z_il1 dX9_term_83 ?_
                 refine z_i2l dX9_term_84 ?_
                 refine z_ll3 dX9_term_85 ?_
                 refine z_ldiv dX9_term_86 (fun e9 => ht76 (zcmp_0.mpr e9)) (ztd64 hrv hrw) ?_
                 refine zcs1 dX9_term_87 zkX9_206 ztX9_within (Nat.le_of_ble_eq_true rfl) (by decide) (by first | decide | omega) ⟨Nat.le_refl _, Nat.le_refl _⟩ (X9_within_ct (fun _ => ?_))
                 try simp only [zup_ap, zup_row, ne_eq, not_false_eq_true, zres, Int.toNat_natCast, reduceIte, Nat.reduceEqDiff, Nat.reduceAdd, and_self, and_true, true_and, and_false, false_and]
                 refine z_is1 dX9_term_90 (Nat.le_of_ble_eq_true rfl) rfl ?_
                 refine z_goto (t := 5) dX9_term_91 (by rfl) ?_
                 obtain ⟨r2, hP2, hK2⟩ := zbd_e hP
                 refine ih (by omega) pp1 dep _ h r2 Q _ _ _ hR (by omega) hdep (by rw [hz1]; exact hP2) (fun p3 c3 pp3 v3 h3 hr3 hz3 hpp3 hb3 hR3 hE3 => ?_) (fun p3 v3 h3 hd3 he3 hb3 hX3 => ?_)
                 · subst hr3
                   have hP := zN_gen hK2 rfl
                   cases hP
                   exact hN _ _ _ _ _ rfl hz3 hpp3 hb3 hR3 (fun s => zE_app (hE1 _) (zE_app (a := [-_]) (by first | exact zop_42 (by assumption) | exact zop_47z (by assumption) (zcmp_0.mp hf76) | exact zop_47n (by assumption) (fun e9 => ht76 (zcmp_0.mpr e9))) (hE3 s)))
                 · have hx9 := zX_gen hK2 hd3 he3 (fun hd c => zDg_ok hd)
                   exact hXc _ _ _ hx9.1 hx9.2 (fun e9 => by cases e9) hX3
               · refine z_lconst (x := 0) dX9_term_79 (by rfl) (by decide) ?_
                 refine z_goto (t := 87) dX9_term_80 (by rfl) ?_
                 refine zcs1 dX9_term_87 zkX9_206 ztX9_within (Nat.le_of_ble_eq_true rfl) (by decide) (by first | decide | omega) ⟨Nat.le_refl _, Nat.le_refl _⟩ (X9_within_ct (fun _ => ?_))
                 try simp only [zup_ap, zup_row, ne_eq, not_false_eq_true, zres, Int.toNat_natCast, reduceIte, Nat.reduceEqDiff, Nat.reduceAdd, and_self, and_true, true_and, and_false, false_and]
                 refine z_is1 dX9_term_90 (Nat.le_of_ble_eq_true rfl) rfl ?_
                 refine z_goto (t := 5) dX9_term_91 (by rfl) ?_
                 obtain ⟨r2, hP2, hK2⟩ := zbd_e hP
                 refine ih (by omega) pp1 dep _ h r2 Q _ _ _ hR (by omega) hdep (by rw [hz1]; exact hP2) (fun p3 c3 pp3 v3 h3 hr3 hz3 hpp3 hb3 hR3 hE3 => ?_) (fun p3 v3 h3 hd3 he3 hb3 hX3 => ?_)
                 · subst hr3
                   have hP := zN_gen hK2 rfl
                   cases hP
                   exact hN _ _ _ _ _ rfl hz3 hpp3 hb3 hR3 (fun s => zE_app (hE1 _) (zE_app (a := [-_]) (by first | exact zop_42 (by assumption) | exact zop_47z (by assumption) (zcmp_0.mp hf76) | exact zop_47n (by assumption) (fun e9 => ht76 (zcmp_0.mpr e9))) (hE3 s)))
                 · have hx9 := zX_gen hK2 hd3 he3 (fun hd c => zDg_ok hd)
                   exact hXc _ _ _ hx9.1 hx9.2 (fun e9 => by cases e9) hX3
             · have hX1 := hX.2.1
               have hX2 := hX.2.2.1
               have hX3 := hX.2.2.2
               try simp only [zup_ap, zup_row, ne_eq, not_false_eq_true, zres, Int.toNat_natCast, reduceIte, Nat.reduceEqDiff, Nat.reduceAdd, and_self, and_true, true_and, and_false, false_and]
               skip
               refine zrngS (fun hrw => ?_)
               refine z_i2l dX9_term_60 ?_
               refine z_ls3 dX9_term_61 (Nat.le_of_ble_eq_true rfl) rfl ?_
               refine z_il2 dX9_term_62 ?_
               refine z_if_eq (t := 73) dX9_term_63 (by rfl) (fun _ => ?_) (fun hx => absurd hx (by decide))
               refine z_ll3 dX9_term_73 ?_
               refine z_lconst (x := 0) dX9_term_74 (by rfl) (by decide) ?_
               refine z_lcmp dX9_term_75 ?_
               refine z_if_ne (t := 83) dX9_term_76 (by rfl) (fun ht76 => ?_) (fun hf76 => ?_)
               · refine z_il1 dX9_term_83 ?_
                 refine z_i2l dX9_term_84 ?_
                 refine z_ll3 dX9_term_85 ?_
                 refine z_ldiv dX9_term_86 (fun e9 => ht76 (zcmp_0.mpr e9)) (ztd64 hrv hrw) ?_
                 refine zcs1 dX9_term_87 zkX9_206 ztX9_within (Nat.le_of_ble_eq_true rfl) (by decide) (by first | decide | omega) ⟨Nat.le_refl _, Nat.le_refl _⟩ (X9_within_ct (fun _ => ?_))
                 try simp only [zup_ap, zup_row, ne_eq, not_false_eq_true, zres, Int.toNat_natCast, reduceIte, Nat.reduceEqDiff, Nat.reduceAdd, and_self, and_true, true_and, and_false, false_and]
                 refine z_is1 dX9_term_90 (Nat.le_of_ble_eq_true rfl) rfl ?_
                 refine z_goto (t := 5) dX9_term_91 (by rfl) ?_
                 refine z_al0 dX9_term_5 (by first | decide | omega | assumption) ?_
                 refine z_getI zfX9_160 dX9_term_6 (zkB hΓ rfl) rfl ?_
                 try simp only [zup_ap, zup_row, ne_eq, not_false_eq_true, zres, Int.toNat_natCast, reduceIte, Nat.reduceEqDiff, Nat.reduceAdd, and_self, and_true, true_and, and_false, false_and]
                 refine z_iconst dX9_term_9 (by decide) ?_
                 refine z_icmp_ne (t := 94) dX9_term_10 (by rfl) (fun ht10 => ?_) (fun hf10 => ?_)
                 · skip
                   first
                   | (exfalso; omega)
                   | (refine z_il1 dX9_term_94 ?_
                      refine z_iret dX9_term_95 rfl (Nat.le_refl _) (Nat.le_refl _) (zext_rf _) (fun hrr => ?_)
                      have hx9 := zX_gen hK1 hd1 he1 (fun hd c => zDg_lp hd (by decide) (zDg_ok hd))
                      exact hXc _ _ _ hx9.1 hx9.2 (fun e9 => by cases e9) hX)
                 · exfalso; omega
               · refine z_lconst (x := 0) dX9_term_79 (by rfl) (by decide) ?_
                 refine z_goto (t := 87) dX9_term_80 (by rfl) ?_
                 refine zcs1 dX9_term_87 zkX9_206 ztX9_within (Nat.le_of_ble_eq_true rfl) (by decide) (by first | decide | omega) ⟨Nat.le_refl _, Nat.le_refl _⟩ (X9_within_ct (fun _ => ?_))
                 try simp only [zup_ap, zup_row, ne_eq, not_false_eq_true, zres, Int.toNat_natCast, reduceIte, Nat.reduceEqDiff, Nat.reduceAdd, and_self, and_true, true_and, and_false, false_and]
                 refine z_is1 dX9_term_90 (Nat.le_of_ble_eq_true rfl) rfl ?_
                 refine z_goto (t := 5) dX9_term_91 (by rfl) ?_
                 refine z_al0 dX9_term_5 (by first | decide | omega | assumption) ?_
                 refine z_getI zfX9_160 dX9_term_6 (zkB hΓ rfl) rfl ?_
                 try simp only [zup_ap, zup_row, ne_eq, not_false_eq_true, zres, Int.toNat_natCast, reduceIte, Nat.reduceEqDiff, Nat.reduceAdd, and_self, and_true, true_and, and_false, false_and]
                 refine z_iconst dX9_term_9 (by decide) ?_
                 refine z_icmp_ne (t := 94) dX9_term_10 (by rfl) (fun ht10 => ?_) (fun hf10 => ?_)
                 · skip
                   first
                   | (exfalso; omega)
                   | (refine z_il1 dX9_term_94 ?_
                      refine z_iret dX9_term_95 rfl (Nat.le_refl _) (Nat.le_refl _) (zext_rf _) (fun hrr => ?_)
                      have hx9 := zX_gen hK1 hd1 he1 (fun hd c => zDg_lp hd (by decide) (zDg_ok hd))
                      exact hXc _ _ _ hx9.1 hx9.2 (fun e9 => by cases e9) hX)
                 · exfalso; omega)
        · first
          | (exfalso; omega)
          | (refine z_iconst dX9_term_40 (by decide) ?_
             refine z_goto (t := 45) dX9_term_41 (by rfl) ?_
             refine z_is2 dX9_term_45 (Nat.le_of_ble_eq_true rfl) rfl ?_
             refine z_al0 dX9_term_46 (by first | decide | omega | assumption) ?_
             have a1 := hR.2.1
             refine z_dup dX9_term_47 rfl ?_
             refine z_getI zfX9_151 dX9_term_48 (zkB hΓ rfl) rfl ?_
             try simp only [zup_ap, zup_row, ne_eq, not_false_eq_true, zres, Int.toNat_natCast, reduceIte, Nat.reduceEqDiff, Nat.reduceAdd, and_self, and_true, true_and, and_false, false_and]
             refine z_iconst dX9_term_51 (by decide) ?_
             refine z_iadd dX9_term_52 (by omega) ?_
             refine z_putI zfX9_151 dX9_term_53 (zkB hΓ rfl) rfl rfl ?_
             have hR := zMS_inc hR
             refine z_al0 dX9_term_56 (by first | decide | omega | assumption) ?_
             obtain ⟨r1, hP1, hK1⟩ := zbd_e hP
             refine zcv0 dX9_term_57 zkX9_203 ziX9_atom zsX9_atom (zkB hΓ rfl) (by decide) rfl (Nat.le_of_ble_eq_true rfl) (by decide) (by first | decide | omega) ⟨Nat.le_refl _, Nat.le_refl _⟩ (iA g (by omega) (2 * g + 8) _ _ _ r1 _ (Nat.le_refl _) hR (by omega) (by omega) hP1 (fun p1 c1 pp1 v1 h hr1 hz1 hpp1 hb1 hR hE1 _ => ?_) (fun p1 v1 h hd1 he1 hb1 hX _ => ?_))
             · subst hr1
               have hP := zN_gen hK1 rfl
               try dsimp only at hP
               have b1 := zP_c hP1 (by decide)
               try simp only [zup_ap, zup_row, ne_eq, not_false_eq_true, zres, Int.toNat_natCast, reduceIte, Nat.reduceEqDiff, Nat.reduceAdd, and_self, and_true, true_and, and_false, false_and]
               skip
               refine zrngS (fun hrw => ?_)
               refine z_i2l dX9_term_60 ?_
               refine z_ls3 dX9_term_61 (Nat.le_of_ble_eq_true rfl) rfl ?_
               refine z_il2 dX9_term_62 ?_
               refine z_if_eq (t := 73) dX9_term_63 (by rfl) (fun hx => absurd hx (by decide)) (fun _ => ?_)
               refine z_il1 dX9_term_66 ?_
               refine z_i2l dX9_term_67 ?_
               refine z_ll3 dX9_term_68 ?_
               refine z_lmul dX9_term_69 (by exact zmul64 hrv hrw) ?_
               refine z_goto (t := 87) dX9_term_70 (by rfl) ?_
               refine zcs1 dX9_term_87 zkX9_206 ztX9_within (Nat.le_of_ble_eq_true rfl) (by decide) (by first | decide | omega) ⟨Nat.le_refl _, Nat.le_refl _⟩ (X9_within_ct (fun _ => ?_))
               try simp only [zup_ap, zup_row, ne_eq, not_false_eq_true, zres, Int.toNat_natCast, reduceIte, Nat.reduceEqDiff, Nat.reduceAdd, and_self, and_true, true_and, and_false, false_and]
               refine z_is1 dX9_term_90 (Nat.le_of_ble_eq_true rfl) rfl ?_
               refine z_goto (t := 5) dX9_term_91 (by rfl) ?_
               obtain ⟨r2, hP2, hK2⟩ := zbd_e hP
               refine ih (by omega) pp1 dep _ h r2 Q _ _ _ hR (by omega) hdep (by rw [hz1]; exact hP2) (fun p3 c3 pp3 v3 h3 hr3 hz3 hpp3 hb3 hR3 hE3 => ?_) (fun p3 v3 h3 hd3 he3 hb3 hX3 => ?_)
               · subst hr3
                 have hP := zN_gen hK2 rfl
                 cases hP
                 exact hN _ _ _ _ _ rfl hz3 hpp3 hb3 hR3 (fun s => zE_app (hE1 _) (zE_app (a := [-_]) (by first | exact zop_42 (by assumption) | exact zop_47z (by assumption) (zcmp_0.mp hf76) | exact zop_47n (by assumption) (fun e9 => ht76 (zcmp_0.mpr e9))) (hE3 s)))
               · have hx9 := zX_gen hK2 hd3 he3 (fun hd c => zDg_ok hd)
                 exact hXc _ _ _ hx9.1 hx9.2 (fun e9 => by cases e9) hX3
             · have hX1 := hX.2.1
               have hX2 := hX.2.2.1
               have hX3 := hX.2.2.2
               try simp only [zup_ap, zup_row, ne_eq, not_false_eq_true, zres, Int.toNat_natCast, reduceIte, Nat.reduceEqDiff, Nat.reduceAdd, and_self, and_true, true_and, and_false, false_and]
               skip
               refine zrngS (fun hrw => ?_)
               refine z_i2l dX9_term_60 ?_
               refine z_ls3 dX9_term_61 (Nat.le_of_ble_eq_true rfl) rfl ?_
               refine z_il2 dX9_term_62 ?_
               refine z_if_eq (t := 73) dX9_term_63 (by rfl) (fun hx => absurd hx (by decide)) (fun _ => ?_)
               refine z_il1 dX9_term_66 ?_
               refine z_i2l dX9_term_67 ?_
               refine z_ll3 dX9_term_68 ?_
               refine z_lmul dX9_term_69 (by exact zmul64 hrv hrw) ?_
               refine z_goto (t := 87) dX9_term_70 (by rfl) ?_
               refine zcs1 dX9_term_87 zkX9_206 ztX9_within (Nat.le_of_ble_eq_true rfl) (by decide) (by first | decide | omega) ⟨Nat.le_refl _, Nat.le_refl _⟩ (X9_within_ct (fun _ => ?_))
               try simp only [zup_ap, zup_row, ne_eq, not_false_eq_true, zres, Int.toNat_natCast, reduceIte, Nat.reduceEqDiff, Nat.reduceAdd, and_self, and_true, true_and, and_false, false_and]
               refine z_is1 dX9_term_90 (Nat.le_of_ble_eq_true rfl) rfl ?_
               refine z_goto (t := 5) dX9_term_91 (by rfl) ?_
               refine z_al0 dX9_term_5 (by first | decide | omega | assumption) ?_
               refine z_getI zfX9_160 dX9_term_6 (zkB hΓ rfl) rfl ?_
               try simp only [zup_ap, zup_row, ne_eq, not_false_eq_true, zres, Int.toNat_natCast, reduceIte, Nat.reduceEqDiff, Nat.reduceAdd, and_self, and_true, true_and, and_false, false_and]
               refine z_iconst dX9_term_9 (by decide) ?_
               refine z_icmp_ne (t := 94) dX9_term_10 (by rfl) (fun ht10 => ?_) (fun hf10 => ?_)
               · skip
                 first
                 | (exfalso; omega)
                 | (refine z_il1 dX9_term_94 ?_
                    refine z_iret dX9_term_95 rfl (Nat.le_refl _) (Nat.le_refl _) (zext_rf _) (fun hrr => ?_)
                    have hx9 := zX_gen hK1 hd1 he1 (fun hd c => zDg_lp hd (by decide) (zDg_ok hd))
                    exact hXc _ _ _ hx9.1 hx9.2 (fun e9 => by cases e9) hX)
               · exfalso; omega)
      · refine z_al0 dX9_term_22 (by first | decide | omega | assumption) ?_
        refine zcv0 dX9_term_23 zkX9_170 ziX9_look zsX9_look (zkB hΓ rfl) (by decide) rfl (Nat.le_of_ble_eq_true rfl) (by decide) (by first | decide | omega) ⟨Nat.le_refl _, Nat.le_refl _⟩ (zM_look hΓ hT hR (by omega) (fun h hR _ => ?_))
        try simp only [zup_ap, zup_row, ne_eq, not_false_eq_true, zres, Int.toNat_natCast, reduceIte, Nat.reduceEqDiff, Nat.reduceAdd, and_self, and_true, true_and, and_false, false_and]
        simp only [zskip_id] at hR ⊢
        refine z_bipush (x := 47) dX9_term_26 (by rfl) (by decide) ?_
        refine z_icmp_ne (t := 94) dX9_term_28 (by rfl) (fun ht28 => ?_) (fun hf28 => ?_)
        · try simp only [zskip_id] at ht28
          rw [if_neg (by omega)] at hP
          try simp only [zskip_id] at hR
          refine z_il1 dX9_term_94 ?_
          refine z_iret dX9_term_95 rfl (Nat.le_refl _) (Nat.le_refl _) (zext_rf _) (fun hrr => ?_)
          cases hP
          exact hN _ _ (zskip t n p) _ _ rfl (zskip_id t n p) (by omega) (fun e9 => by cases e9) hR (fun s => zE_nil _ _)
        · have hf28 := hf28
          try simp only [zskip_id] at hf28
          rw [if_pos (Or.inr hf28)] at hP
          have l0 := zsg_lt hf28 (by decide)
          refine z_al0 dX9_term_31 (by first | decide | omega | assumption) ?_
          refine zcv0 dX9_term_32 zkX9_170 ziX9_look zsX9_look (zkB hΓ rfl) (by decide) rfl (Nat.le_of_ble_eq_true rfl) (by decide) (by first | decide | omega) ⟨Nat.le_refl _, Nat.le_refl _⟩ (zM_look hΓ hT hR (by omega) (fun h hR _ => ?_))
          try simp only [zup_ap, zup_row, ne_eq, not_false_eq_true, zres, Int.toNat_natCast, reduceIte, Nat.reduceEqDiff, Nat.reduceAdd, and_self, and_true, true_and, and_false, false_and]
          simp only [zskip_id] at hR ⊢
          refine z_bipush (x := 42) dX9_term_35 (by rfl) (by decide) ?_
          refine z_icmp_ne (t := 44) dX9_term_37 (by rfl) (fun ht37 => ?_) (fun hf37 => ?_)
          · first
            | (exfalso; omega)
            | (refine z_iconst dX9_term_44 (by decide) ?_
               refine z_is2 dX9_term_45 (Nat.le_of_ble_eq_true rfl) rfl ?_
               refine z_al0 dX9_term_46 (by first | decide | omega | assumption) ?_
               have a1 := hR.2.1
               refine z_dup dX9_term_47 rfl ?_
               refine z_getI zfX9_151 dX9_term_48 (zkB hΓ rfl) rfl ?_
               try simp only [zup_ap, zup_row, ne_eq, not_false_eq_true, zres, Int.toNat_natCast, reduceIte, Nat.reduceEqDiff, Nat.reduceAdd, and_self, and_true, true_and, and_false, false_and]
               refine z_iconst dX9_term_51 (by decide) ?_
               refine z_iadd dX9_term_52 (by omega) ?_
               refine z_putI zfX9_151 dX9_term_53 (zkB hΓ rfl) rfl rfl ?_
               have hR := zMS_inc hR
               refine z_al0 dX9_term_56 (by first | decide | omega | assumption) ?_
               obtain ⟨r1, hP1, hK1⟩ := zbd_e hP
               refine zcv0 dX9_term_57 zkX9_203 ziX9_atom zsX9_atom (zkB hΓ rfl) (by decide) rfl (Nat.le_of_ble_eq_true rfl) (by decide) (by first | decide | omega) ⟨Nat.le_refl _, Nat.le_refl _⟩ (iA g (by omega) (2 * g + 8) _ _ _ r1 _ (Nat.le_refl _) hR (by omega) (by omega) hP1 (fun p1 c1 pp1 v1 h hr1 hz1 hpp1 hb1 hR hE1 _ => ?_) (fun p1 v1 h hd1 he1 hb1 hX _ => ?_))
               · subst hr1
                 have hP := zN_gen hK1 rfl
                 try dsimp only at hP
                 have b1 := zP_c hP1 (by decide)
                 try simp only [zup_ap, zup_row, ne_eq, not_false_eq_true, zres, Int.toNat_natCast, reduceIte, Nat.reduceEqDiff, Nat.reduceAdd, and_self, and_true, true_and, and_false, false_and]
                 skip
                 refine zrngS (fun hrw => ?_)
                 refine z_i2l dX9_term_60 ?_
                 refine z_ls3 dX9_term_61 (Nat.le_of_ble_eq_true rfl) rfl ?_
                 refine z_il2 dX9_term_62 ?_
                 refine z_if_eq (t := 73) dX9_term_63 (by rfl) (fun _ => ?_) (fun hx => absurd hx (by decide))
                 refine z_ll3 dX9_term_73 ?_
                 refine z_lconst (x := 0) dX9_term_74 (by rfl) (by decide) ?_
                 refine z_lcmp dX9_term_75 ?_
                 refine z_if_ne (t := 83) dX9_term_76 (by rfl) (fun ht76 => ?_) (fun hf76 => ?_)
                 · refine z_il1 dX9_term_83 ?_
                   refine z_i2l dX9_term_84 ?_
                   refine z_ll3 dX9_term_85 ?_
                   refine z_ldiv dX9_term_86 (fun e9 => ht76 (zcmp_0.mpr e9)) (ztd64 hrv hrw) ?_
                   refine zcs1 dX9_term_87 zkX9_206 ztX9_within (Nat.le_of_ble_eq_true rfl) (by decide) (by first | decide | omega) ⟨Nat.le_refl _, Nat.le_refl _⟩ (X9_within_ct (fun _ => ?_))
                   try simp only [zup_ap, zup_row, ne_eq, not_false_eq_true, zres, Int.toNat_natCast, reduceIte, Nat.reduceEqDiff, Nat.reduceAdd, and_self, and_true, true_and, and_false, false_and]
                   refine z_is1 dX9_term_90 (Nat.le_of_ble_eq_true rfl) rfl ?_
                   refine z_goto (t := 5) dX9_term_91 (by rfl) ?_
                   obtain ⟨r2, hP2, hK2⟩ := zbd_e hP
                   refine ih (by omega) pp1 dep _ h r2 Q _ _ _ hR (by omega) hdep (by rw [hz1]; exact hP2) (fun p3 c3 pp3 v3 h3 hr3 hz3 hpp3 hb3 hR3 hE3 => ?_) (fun p3 v3 h3 hd3 he3 hb3 hX3 => ?_)
                   · subst hr3
                     have hP := zN_gen hK2 rfl
                     cases hP
                     exact hN _ _ _ _ _ rfl hz3 hpp3 hb3 hR3 (fun s => zE_app (hE1 _) (zE_app (a := [-_]) (by first | exact zop_42 (by assumption) | exact zop_47z (by assumption) (zcmp_0.mp hf76) | exact zop_47n (by assumption) (fun e9 => ht76 (zcmp_0.mpr e9))) (hE3 s)))
                   · have hx9 := zX_gen hK2 hd3 he3 (fun hd c => zDg_ok hd)
                     exact hXc _ _ _ hx9.1 hx9.2 (fun e9 => by cases e9) hX3
                 · refine z_lconst (x := 0) dX9_term_79 (by rfl) (by decide) ?_
                   refine z_goto (t := 87) dX9_term_80 (by rfl) ?_
                   refine zcs1 dX9_term_87 zkX9_206 ztX9_within (Nat.le_of_ble_eq_true rfl) (by decide) (by first | decide | omega) ⟨Nat.le_refl _, Nat.le_refl _⟩ (X9_within_ct (fun _ => ?_))
                   try simp only [zup_ap, zup_row, ne_eq, not_false_eq_true, zres, Int.toNat_natCast, reduceIte, Nat.reduceEqDiff, Nat.reduceAdd, and_self, and_true, true_and, and_false, false_and]
                   refine z_is1 dX9_term_90 (Nat.le_of_ble_eq_true rfl) rfl ?_
                   refine z_goto (t := 5) dX9_term_91 (by rfl) ?_
                   obtain ⟨r2, hP2, hK2⟩ := zbd_e hP
                   refine ih (by omega) pp1 dep _ h r2 Q _ _ _ hR (by omega) hdep (by rw [hz1]; exact hP2) (fun p3 c3 pp3 v3 h3 hr3 hz3 hpp3 hb3 hR3 hE3 => ?_) (fun p3 v3 h3 hd3 he3 hb3 hX3 => ?_)
                   · subst hr3
                     have hP := zN_gen hK2 rfl
                     cases hP
                     exact hN _ _ _ _ _ rfl hz3 hpp3 hb3 hR3 (fun s => zE_app (hE1 _) (zE_app (a := [-_]) (by first | exact zop_42 (by assumption) | exact zop_47z (by assumption) (zcmp_0.mp hf76) | exact zop_47n (by assumption) (fun e9 => ht76 (zcmp_0.mpr e9))) (hE3 s)))
                   · have hx9 := zX_gen hK2 hd3 he3 (fun hd c => zDg_ok hd)
                     exact hXc _ _ _ hx9.1 hx9.2 (fun e9 => by cases e9) hX3
               · have hX1 := hX.2.1
                 have hX2 := hX.2.2.1
                 have hX3 := hX.2.2.2
                 try simp only [zup_ap, zup_row, ne_eq, not_false_eq_true, zres, Int.toNat_natCast, reduceIte, Nat.reduceEqDiff, Nat.reduceAdd, and_self, and_true, true_and, and_false, false_and]
                 skip
                 refine zrngS (fun hrw => ?_)
                 refine z_i2l dX9_term_60 ?_
                 refine z_ls3 dX9_term_61 (Nat.le_of_ble_eq_true rfl) rfl ?_
                 refine z_il2 dX9_term_62 ?_
                 refine z_if_eq (t := 73) dX9_term_63 (by rfl) (fun _ => ?_) (fun hx => absurd hx (by decide))
                 refine z_ll3 dX9_term_73 ?_
                 refine z_lconst (x := 0) dX9_term_74 (by rfl) (by decide) ?_
                 refine z_lcmp dX9_term_75 ?_
                 refine z_if_ne (t := 83) dX9_term_76 (by rfl) (fun ht76 => ?_) (fun hf76 => ?_)
                 · refine z_il1 dX9_term_83 ?_
                   refine z_i2l dX9_term_84 ?_
                   refine z_ll3 dX9_term_85 ?_
                   refine z_ldiv dX9_term_86 (fun e9 => ht76 (zcmp_0.mpr e9)) (ztd64 hrv hrw) ?_
                   refine zcs1 dX9_term_87 zkX9_206 ztX9_within (Nat.le_of_ble_eq_true rfl) (by decide) (by first | decide | omega) ⟨Nat.le_refl _, Nat.le_refl _⟩ (X9_within_ct (fun _ => ?_))
                   try simp only [zup_ap, zup_row, ne_eq, not_false_eq_true, zres, Int.toNat_natCast, reduceIte, Nat.reduceEqDiff, Nat.reduceAdd, and_self, and_true, true_and, and_false, false_and]
                   refine z_is1 dX9_term_90 (Nat.le_of_ble_eq_true rfl) rfl ?_
                   refine z_goto (t := 5) dX9_term_91 (by rfl) ?_
                   refine z_al0 dX9_term_5 (by first | decide | omega | assumption) ?_
                   refine z_getI zfX9_160 dX9_term_6 (zkB hΓ rfl) rfl ?_
                   try simp only [zup_ap, zup_row, ne_eq, not_false_eq_true, zres, Int.toNat_natCast, reduceIte, Nat.reduceEqDiff, Nat.reduceAdd, and_self, and_true, true_and, and_false, false_and]
                   refine z_iconst dX9_term_9 (by decide) ?_
                   refine z_icmp_ne (t := 94) dX9_term_10 (by rfl) (fun ht10 => ?_) (fun hf10 => ?_)
                   · skip
                     first
                     | (exfalso; omega)
                     | (refine z_il1 dX9_term_94 ?_
                        refine z_iret dX9_term_95 rfl (Nat.le_refl _) (Nat.le_refl _) (zext_rf _) (fun hrr => ?_)
                        have hx9 := zX_gen hK1 hd1 he1 (fun hd c => zDg_lp hd (by decide) (zDg_ok hd))
                        exact hXc _ _ _ hx9.1 hx9.2 (fun e9 => by cases e9) hX)
                   · exfalso; omega
                 · refine z_lconst (x := 0) dX9_term_79 (by rfl) (by decide) ?_
                   refine z_goto (t := 87) dX9_term_80 (by rfl) ?_
                   refine zcs1 dX9_term_87 zkX9_206 ztX9_within (Nat.le_of_ble_eq_true rfl) (by decide) (by first | decide | omega) ⟨Nat.le_refl _, Nat.le_refl _⟩ (X9_within_ct (fun _ => ?_))
                   try simp only [zup_ap, zup_row, ne_eq, not_false_eq_true, zres, Int.toNat_natCast, reduceIte, Nat.reduceEqDiff, Nat.reduceAdd, and_self, and_true, true_and, and_false, false_and]
                   refine z_is1 dX9_term_90 (Nat.le_of_ble_eq_true rfl) rfl ?_
                   refine z_goto (t := 5) dX9_term_91 (by rfl) ?_
                   refine z_al0 dX9_term_5 (by first | decide | omega | assumption) ?_
                   refine z_getI zfX9_160 dX9_term_6 (zkB hΓ rfl) rfl ?_
                   try simp only [zup_ap, zup_row, ne_eq, not_false_eq_true, zres, Int.toNat_natCast, reduceIte, Nat.reduceEqDiff, Nat.reduceAdd, and_self, and_true, true_and, and_false, false_and]
                   refine z_iconst dX9_term_9 (by decide) ?_
                   refine z_icmp_ne (t := 94) dX9_term_10 (by rfl) (fun ht10 => ?_) (fun hf10 => ?_)
                   · skip
                     first
                     | (exfalso; omega)
                     | (refine z_il1 dX9_term_94 ?_
                        refine z_iret dX9_term_95 rfl (Nat.le_refl _) (Nat.le_refl _) (zext_rf _) (fun hrr => ?_)
                        have hx9 := zX_gen hK1 hd1 he1 (fun hd c => zDg_lp hd (by decide) (zDg_ok hd))
                        exact hXc _ _ _ hx9.1 hx9.2 (fun e9 => by cases e9) hX)
                   · exfalso; omega)
          · first
            | (exfalso; omega)
            | (refine z_iconst dX9_term_40 (by decide) ?_
               refine z_goto (t := 45) dX9_term_41 (by rfl) ?_
               refine z_is2 dX9_term_45 (Nat.le_of_ble_eq_true rfl) rfl ?_
               refine z_al0 dX9_term_46 (by first | decide | omega | assumption) ?_
               have a1 := hR.2.1
               refine z_dup dX9_term_47 rfl ?_
               refine z_getI zfX9_151 dX9_term_48 (zkB hΓ rfl) rfl ?_
               try simp only [zup_ap, zup_row, ne_eq, not_false_eq_true, zres, Int.toNat_natCast, reduceIte, Nat.reduceEqDiff, Nat.reduceAdd, and_self, and_true, true_and, and_false, false_and]
               refine z_iconst dX9_term_51 (by decide) ?_
               refine z_iadd dX9_term_52 (by omega) ?_
               refine z_putI zfX9_151 dX9_term_53 (zkB hΓ rfl) rfl rfl ?_
               have hR := zMS_inc hR
               refine z_al0 dX9_term_56 (by first | decide | omega | assumption) ?_
               obtain ⟨r1, hP1, hK1⟩ := zbd_e hP
               refine zcv0 dX9_term_57 zkX9_203 ziX9_atom zsX9_atom (zkB hΓ rfl) (by decide) rfl (Nat.le_of_ble_eq_true rfl) (by decide) (by first | decide | omega) ⟨Nat.le_refl _, Nat.le_refl _⟩ (iA g (by omega) (2 * g + 8) _ _ _ r1 _ (Nat.le_refl _) hR (by omega) (by omega) hP1 (fun p1 c1 pp1 v1 h hr1 hz1 hpp1 hb1 hR hE1 _ => ?_) (fun p1 v1 h hd1 he1 hb1 hX _ => ?_))
               · subst hr1
                 have hP := zN_gen hK1 rfl
                 try dsimp only at hP
                 have b1 := zP_c hP1 (by decide)
                 try simp only [zup_ap, zup_row, ne_eq, not_false_eq_true, zres, Int.toNat_natCast, reduceIte, Nat.reduceEqDiff, Nat.reduceAdd, and_self, and_true, true_and, and_false, false_and]
                 skip
                 refine zrngS (fun hrw => ?_)
                 refine z_i2l dX9_term_60 ?_
                 refine z_ls3 dX9_term_61 (Nat.le_of_ble_eq_true rfl) rfl ?_
                 refine z_il2 dX9_term_62 ?_
                 refine z_if_eq (t := 73) dX9_term_63 (by rfl) (fun hx => absurd hx (by decide)) (fun _ => ?_)
                 refine z_il1 dX9_term_66 ?_
                 refine z_i2l dX9_term_67 ?_
                 refine z_ll3 dX9_term_68 ?_
                 refine z_lmul dX9_term_69 (by exact zmul64 hrv hrw) ?_
                 refine z_goto (t := 87) dX9_term_70 (by rfl) ?_
                 refine zcs1 dX9_term_87 zkX9_206 ztX9_within (Nat.le_of_ble_eq_true rfl) (by decide) (by first | decide | omega) ⟨Nat.le_refl _, Nat.le_refl _⟩ (X9_within_ct (fun _ => ?_))
                 try simp only [zup_ap, zup_row, ne_eq, not_false_eq_true, zres, Int.toNat_natCast, reduceIte, Nat.reduceEqDiff, Nat.reduceAdd, and_self, and_true, true_and, and_false, false_and]
                 refine z_is1 dX9_term_90 (Nat.le_of_ble_eq_true rfl) rfl ?_
                 refine z_goto (t := 5) dX9_term_91 (by rfl) ?_
                 obtain ⟨r2, hP2, hK2⟩ := zbd_e hP
                 refine ih (by omega) pp1 dep _ h r2 Q _ _ _ hR (by omega) hdep (by rw [hz1]; exact hP2) (fun p3 c3 pp3 v3 h3 hr3 hz3 hpp3 hb3 hR3 hE3 => ?_) (fun p3 v3 h3 hd3 he3 hb3 hX3 => ?_)
                 · subst hr3
                   have hP := zN_gen hK2 rfl
                   cases hP
                   exact hN _ _ _ _ _ rfl hz3 hpp3 hb3 hR3 (fun s => zE_app (hE1 _) (zE_app (a := [-_]) (by first | exact zop_42 (by assumption) | exact zop_47z (by assumption) (zcmp_0.mp hf76) | exact zop_47n (by assumption) (fun e9 => ht76 (zcmp_0.mpr e9))) (hE3 s)))
                 · have hx9 := zX_gen hK2 hd3 he3 (fun hd c => zDg_ok hd)
                   exact hXc _ _ _ hx9.1 hx9.2 (fun e9 => by cases e9) hX3
               · have hX1 := hX.2.1
                 have hX2 := hX.2.2.1
                 have hX3 := hX.2.2.2
                 try simp only [zup_ap, zup_row, ne_eq, not_false_eq_true, zres, Int.toNat_natCast, reduceIte, Nat.reduceEqDiff, Nat.reduceAdd, and_self, and_true, true_and, and_false, false_and]
                 skip
                 refine zrngS (fun hrw => ?_)
                 refine z_i2l dX9_term_60 ?_
                 refine z_ls3 dX9_term_61 (Nat.le_of_ble_eq_true rfl) rfl ?_
                 refine z_il2 dX9_term_62 ?_
                 refine z_if_eq (t := 73) dX9_term_63 (by rfl) (fun hx => absurd hx (by decide)) (fun _ => ?_)
                 refine z_il1 dX9_term_66 ?_
                 refine z_i2l dX9_term_67 ?_
                 refine z_ll3 dX9_term_68 ?_
                 refine z_lmul dX9_term_69 (by exact zmul64 hrv hrw) ?_
                 refine z_goto (t := 87) dX9_term_70 (by rfl) ?_
                 refine zcs1 dX9_term_87 zkX9_206 ztX9_within (Nat.le_of_ble_eq_true rfl) (by decide) (by first | decide | omega) ⟨Nat.le_refl _, Nat.le_refl _⟩ (X9_within_ct (fun _ => ?_))
                 try simp only [zup_ap, zup_row, ne_eq, not_false_eq_true, zres, Int.toNat_natCast, reduceIte, Nat.reduceEqDiff, Nat.reduceAdd, and_self, and_true, true_and, and_false, false_and]
                 refine z_is1 dX9_term_90 (Nat.le_of_ble_eq_true rfl) rfl ?_
                 refine z_goto (t := 5) dX9_term_91 (by rfl) ?_
                 refine z_al0 dX9_term_5 (by first | decide | omega | assumption) ?_
                 refine z_getI zfX9_160 dX9_term_6 (zkB hΓ rfl) rfl ?_
                 try simp only [zup_ap, zup_row, ne_eq, not_false_eq_true, zres, Int.toNat_natCast, reduceIte, Nat.reduceEqDiff, Nat.reduceAdd, and_self, and_true, true_and, and_false, false_and]
                 refine z_iconst dX9_term_9 (by decide) ?_
                 refine z_icmp_ne (t := 94) dX9_term_10 (by rfl) (fun ht10 => ?_) (fun hf10 => ?_)
                 · skip
                   first
                   | (exfalso; omega)
                   | (refine z_il1 dX9_term_94 ?_
                      refine z_iret dX9_term_95 rfl (Nat.le_refl _) (Nat.le_refl _) (zext_rf _) (fun hrr => ?_)
                      have hx9 := zX_gen hK1 hd1 he1 (fun hd c => zDg_lp hd (by decide) (zDg_ok hd))
                      exact hXc _ _ _ hx9.1 hx9.2 (fun e9 => by cases e9) hX)
                 · exfalso; omega)
set_option maxRecDepth 4000 in
theorem zM_sl {l : Launch} {Γ : zC} {h0 : zM} {R b n : Nat} {t : Nat → Int} (hΓ : zBase Γ) (hT : zTx Γ h0 R b n t) (G D : Nat) (hD : 2 * G + 8 ≤ D) (iT : ∀ g, g < G → zSm l Γ h0 n t (fun s => h0 93 s.toNat) g 1 0 mX9_term []) : ∀ g, g ≤ G → ∀ (p dep : Nat) (v0 : Int) (h : zM) (r : zRs) (Q : Option zV → zC → zM → Prop) (w1 w2 w3 : Option zV), zMS h0 h p dep → p ≤ 160 → dep ≤ 6 → zP t n g 4 (zskip t n p) dep = some r →
  (∀ (p1 : Nat) (c1 : List Int) (pp : Nat) (v : Int) (h' : zM), r = (true, p1, c1) → zskip t n pp = p1 → pp ≤ 160 → (0 = 1 → v = 0 ∨ v = 1) → zMS h0 h' pp dep → (∀ s, zE (fun s => h0 93 s.toNat) c1 (v0 :: s) (v :: s)) → Q (some (zI v)) Γ h') →
  (∀ (p1 : Nat) (v : Int) (h' : zM), (r.1 = false ∨ zdg (zsg t n p1)) → r.2.1 = p1 → (0 = 1 → v = 0 ∨ v = 1) → zMX h0 h' p1 dep → Q (some (zI v)) Γ h') → zG (zFn l mX9_sum D 0 0 Γ Q) 0 0 Γ h 5 [some (zR 89), some (zI v0), w1, w2, w3] [] := by
  intro g
  induction g with
  | zero => intro _ p dep v0 h r Q w1 w2 w3 hR hp hdep hP; cases hP
  | succ g ih =>
    intro hg p dep v0 h r Q w1 w2 w3 hR hp hdep hP hN hXc
    have sk1 := fun k => zskip_b t n k
    have s0 := sk1 p
    have hn2 := hT.2.2.2.1
    have a2 := hR.2.2.1
    simp only [zP] at hP
    refine zrngL 1 rfl (fun hrv => ?_)
    refine z_al0 dX9_sum_5 (by first | decide | omega | assumption) ?_
    refine z_getI zfX9_160 dX9_sum_6 (zkB hΓ rfl) rfl ?_
    try simp only [zup_ap, zup_row, ne_eq, not_false_eq_true, zres, Int.toNat_natCast, reduceIte, Nat.reduceEqDiff, Nat.reduceAdd, and_self, and_true, true_and, and_false, false_and]
    refine z_iconst dX9_sum_9 (by decide) ?_
    refine z_icmp_ne (t := 84) dX9_sum_10 (by rfl) (fun ht10 => ?_) (fun hf10 => ?_)
    · exfalso; omega
    · refine z_al0 dX9_sum_13 (by first | decide | omega | assumption) ?_
      refine zcv0 dX9_sum_14 zkX9_170 ziX9_look zsX9_look (zkB hΓ rfl) (by decide) rfl (Nat.le_of_ble_eq_true rfl) (by decide) (by first | decide | omega) ⟨Nat.le_refl _, Nat.le_refl _⟩ (zM_look hΓ hT hR (by omega) (fun h hR _ => ?_))
      try simp only [zup_ap, zup_row, ne_eq, not_false_eq_true, zres, Int.toNat_natCast, reduceIte, Nat.reduceEqDiff, Nat.reduceAdd, and_self, and_true, true_and, and_false, false_and]
      refine z_bipush (x := 43) dX9_sum_17 (by rfl) (by decide) ?_
      refine z_icmp_eq (t := 31) dX9_sum_19 (by rfl) (fun ht19 => ?_) (fun hf19 => ?_)
      · rw [if_pos (Or.inl ht19)] at hP
        have l0 := zsg_lt ht19 (by decide)
        refine z_al0 dX9_sum_31 (by first | decide | omega | assumption) ?_
        refine zcv0 dX9_sum_32 zkX9_170 ziX9_look zsX9_look (zkB hΓ rfl) (by decide) rfl (Nat.le_of_ble_eq_true rfl) (by decide) (by first | decide | omega) ⟨Nat.le_refl _, Nat.le_refl _⟩ (zM_look hΓ hT hR (by omega) (fun h hR _ => ?_))
        try simp only [zup_ap, zup_row, ne_eq, not_false_eq_true, zres, Int.toNat_natCast, reduceIte, Nat.reduceEqDiff, Nat.reduceAdd, and_self, and_true, true_and, and_false, false_and]
        simp only [zskip_id] at hR ⊢
        refine z_bipush (x := 43) dX9_sum_35 (by rfl) (by decide) ?_
        refine z_icmp_ne (t := 44) dX9_sum_37 (by rfl) (fun ht37 => ?_) (fun hf37 => ?_)
        · first
          | (exfalso; omega)
          | (refine z_iconst dX9_sum_44 (by decide) ?_
             refine z_is2 dX9_sum_45 (Nat.le_of_ble_eq_true rfl) rfl ?_
             refine z_al0 dX9_sum_46 (by first | decide | omega | assumption) ?_
             have a1 := hR.2.1
             refine z_dup dX9_sum_47 rfl ?_
             refine z_getI zfX9_151 dX9_sum_48 (zkB hΓ rfl) rfl ?_
             try simp only [zup_ap, zup_row, ne_eq, not_false_eq_true, zres, Int.toNat_natCast, reduceIte, Nat.reduceEqDiff, Nat.reduceAdd, and_self, and_true, true_and, and_false, false_and]
             refine z_iconst dX9_sum_51 (by decide) ?_
             refine z_iadd dX9_sum_52 (by omega) ?_
             refine z_putI zfX9_151 dX9_sum_53 (zkB hΓ rfl) rfl rfl ?_
             have hR := zMS_inc hR
             refine z_al0 dX9_sum_56 (by first | decide | omega | assumption) ?_
             obtain ⟨r1, hP1, hK1⟩ := zbd_e hP
             refine zcv0 dX9_sum_57 zkX9_210 ziX9_term zsX9_term (zkB hΓ rfl) (by decide) rfl (Nat.le_of_ble_eq_true rfl) (by decide) (by first | decide | omega) ⟨Nat.le_refl _, Nat.le_refl _⟩ (iT g (by omega) (2 * g + 8) _ _ _ r1 _ (Nat.le_refl _) hR (by omega) (by omega) hP1 (fun p1 c1 pp1 v1 h hr1 hz1 hpp1 hb1 hR hE1 _ => ?_) (fun p1 v1 h hd1 he1 hb1 hX _ => ?_))
             · subst hr1
               have hP := zN_gen hK1 rfl
               try dsimp only at hP
               have b1 := zP_c hP1 (by decide)
               try simp only [zup_ap, zup_row, ne_eq, not_false_eq_true, zres, Int.toNat_natCast, reduceIte, Nat.reduceEqDiff, Nat.reduceAdd, and_self, and_true, true_and, and_false, false_and]
               skip
               refine zrngS (fun hrw => ?_)
               refine z_i2l dX9_sum_60 ?_
               refine z_ls3 dX9_sum_61 (Nat.le_of_ble_eq_true rfl) rfl ?_
               refine z_il2 dX9_sum_62 ?_
               refine z_if_eq (t := 73) dX9_sum_63 (by rfl) (fun _ => ?_) (fun hx => absurd hx (by decide))
               refine z_il1 dX9_sum_73 ?_
               refine z_i2l dX9_sum_74 ?_
               refine z_ll3 dX9_sum_75 ?_
               refine z_lsub dX9_sum_76 (by omega) ?_
               refine zcs1 dX9_sum_77 zkX9_206 ztX9_within (Nat.le_of_ble_eq_true rfl) (by decide) (by first | decide | omega) ⟨Nat.le_refl _, Nat.le_refl _⟩ (X9_within_ct (fun _ => ?_))
               try simp only [zup_ap, zup_row, ne_eq, not_false_eq_true, zres, Int.toNat_natCast, reduceIte, Nat.reduceEqDiff, Nat.reduceAdd, and_self, and_true, true_and, and_false, false_and]
               refine z_is1 dX9_sum_80 (Nat.le_of_ble_eq_true rfl) rfl ?_
               refine z_goto (t := 5) dX9_sum_81 (by rfl) ?_
               obtain ⟨r2, hP2, hK2⟩ := zbd_e hP
               refine ih (by omega) pp1 dep _ h r2 Q _ _ _ hR (by omega) hdep (by rw [hz1]; exact hP2) (fun p3 c3 pp3 v3 h3 hr3 hz3 hpp3 hb3 hR3 hE3 => ?_) (fun p3 v3 h3 hd3 he3 hb3 hX3 => ?_)
               · subst hr3
                 have hP := zN_gen hK2 rfl
                 cases hP
                 exact hN _ _ _ _ _ rfl hz3 hpp3 hb3 hR3 (fun s => zE_app (hE1 _) (zE_app (a := [-_]) (by first | exact zop_43 (by assumption) | exact zop_45 (by assumption)) (hE3 s)))
               · have hx9 := zX_gen hK2 hd3 he3 (fun hd c => zDg_ok hd)
                 exact hXc _ _ _ hx9.1 hx9.2 (fun e9 => by cases e9) hX3
             · have hX1 := hX.2.1
               have hX2 := hX.2.2.1
               have hX3 := hX.2.2.2
               try simp only [zup_ap, zup_row, ne_eq, not_false_eq_true, zres, Int.toNat_natCast, reduceIte, Nat.reduceEqDiff, Nat.reduceAdd, and_self, and_true, true_and, and_false, false_and]
               skip
               refine zrngS (fun hrw => ?_)
               refine z_i2l dX9_sum_60 ?_
               refine z_ls3 dX9_sum_61 (Nat.le_of_ble_eq_true rfl) rfl ?_
               refine z_il2 dX9_sum_62 ?_
               refine z_if_eq (t := 73) dX9_sum_63 (by rfl) (fun _ => ?_) (fun hx => absurd hx (by decide))
               refine z_il1 dX9_sum_73 ?_
               refine z_i2l dX9_sum_74 ?_
               refine z_ll3 dX9_sum_75 ?_
               refine z_lsub dX9_sum_76 (by omega) ?_
               refine zcs1 dX9_sum_77 zkX9_206 ztX9_within (Nat.le_of_ble_eq_true rfl) (by decide) (by first | decide | omega) ⟨Nat.le_refl _, Nat.le_refl _⟩ (X9_within_ct (fun _ => ?_))
               try simp only [zup_ap, zup_row, ne_eq, not_false_eq_true, zres, Int.toNat_natCast, reduceIte, Nat.reduceEqDiff, Nat.reduceAdd, and_self, and_true, true_and, and_false, false_and]
               refine z_is1 dX9_sum_80 (Nat.le_of_ble_eq_true rfl) rfl ?_
               refine z_goto (t := 5) dX9_sum_81 (by rfl) ?_
               refine z_al0 dX9_sum_5 (by first | decide | omega | assumption) ?_
               refine z_getI zfX9_160 dX9_sum_6 (zkB hΓ rfl) rfl ?_
               try simp only [zup_ap, zup_row, ne_eq, not_false_eq_true, zres, Int.toNat_natCast, reduceIte, Nat.reduceEqDiff, Nat.reduceAdd, and_self, and_true, true_and, and_false, false_and]
               refine z_iconst dX9_sum_9 (by decide) ?_
               refine z_icmp_ne (t := 84) dX9_sum_10 (by rfl) (fun ht10 => ?_) (fun hf10 => ?_)
               · skip
                 first
                 | (exfalso; omega)
                 | (refine z_il1 dX9_sum_84 ?_
                    refine z_iret dX9_sum_85 rfl (Nat.le_refl _) (Nat.le_refl _) (zext_rf _) (fun hrr => ?_)
                    have hx9 := zX_gen hK1 hd1 he1 (fun hd c => zDg_lp hd (by decide) (zDg_ok hd))
                    exact hXc _ _ _ hx9.1 hx9.2 (fun e9 => by cases e9) hX)
               · exfalso; omega)
        · first
          | (exfalso; omega)
          | (refine z_iconst dX9_sum_40 (by decide) ?_
             refine z_goto (t := 45) dX9_sum_41 (by rfl) ?_
             refine z_is2 dX9_sum_45 (Nat.le_of_ble_eq_true rfl) rfl ?_
             refine z_al0 dX9_sum_46 (by first | decide | omega | assumption) ?_
             have a1 := hR.2.1
             refine z_dup dX9_sum_47 rfl ?_
             refine z_getI zfX9_151 dX9_sum_48 (zkB hΓ rfl) rfl ?_
             try simp only [zup_ap, zup_row, ne_eq, not_false_eq_true, zres, Int.toNat_natCast, reduceIte, Nat.reduceEqDiff, Nat.reduceAdd, and_self, and_true, true_and, and_false, false_and]
             refine z_iconst dX9_sum_51 (by decide) ?_
             refine z_iadd dX9_sum_52 (by omega) ?_
             refine z_putI zfX9_151 dX9_sum_53 (zkB hΓ rfl) rfl rfl ?_
             have hR := zMS_inc hR
             refine z_al0 dX9_sum_56 (by first | decide | omega | assumption) ?_
             obtain ⟨r1, hP1, hK1⟩ := zbd_e hP
             refine zcv0 dX9_sum_57 zkX9_210 ziX9_term zsX9_term (zkB hΓ rfl) (by decide) rfl (Nat.le_of_ble_eq_true rfl) (by decide) (by first | decide | omega) ⟨Nat.le_refl _, Nat.le_refl _⟩ (iT g (by omega) (2 * g + 8) _ _ _ r1 _ (Nat.le_refl _) hR (by omega) (by omega) hP1 (fun p1 c1 pp1 v1 h hr1 hz1 hpp1 hb1 hR hE1 _ => ?_) (fun p1 v1 h hd1 he1 hb1 hX _ => ?_))
             · subst hr1
               have hP := zN_gen hK1 rfl
               try dsimp only at hP
               have b1 := zP_c hP1 (by decide)
               try simp only [zup_ap, zup_row, ne_eq, not_false_eq_true, zres, Int.toNat_natCast, reduceIte, Nat.reduceEqDiff, Nat.reduceAdd, and_self, and_true, true_and, and_false, false_and]
               skip
               refine zrngS (fun hrw => ?_)
               refine z_i2l dX9_sum_60 ?_
               refine z_ls3 dX9_sum_61 (Nat.le_of_ble_eq_true rfl) rfl ?_
               refine z_il2 dX9_sum_62 ?_
               refine z_if_eq (t := 73) dX9_sum_63 (by rfl) (fun hx => absurd hx (by decide)) (fun _ => ?_)
               refine z_il1 dX9_sum_66 ?_
               refine z_i2l dX9_sum_67 ?_
               refine z_ll3 dX9_sum_68 ?_
               refine z_ladd dX9_sum_69 (by omega) ?_
               refine z_goto (t := 77) dX9_sum_70 (by rfl) ?_
               refine zcs1 dX9_sum_77 zkX9_206 ztX9_within (Nat.le_of_ble_eq_true rfl) (by decide) (by first | decide | omega) ⟨Nat.le_refl _, Nat.le_refl _⟩ (X9_within_ct (fun _ => ?_))
               try simp only [zup_ap, zup_row, ne_eq, not_false_eq_true, zres, Int.toNat_natCast, reduceIte, Nat.reduceEqDiff, Nat.reduceAdd, and_self, and_true, true_and, and_false, false_and]
               refine z_is1 dX9_sum_80 (Nat.le_of_ble_eq_true rfl) rfl ?_
               refine z_goto (t := 5) dX9_sum_81 (by rfl) ?_
               obtain ⟨r2, hP2, hK2⟩ := zbd_e hP
               refine ih (by omega) pp1 dep _ h r2 Q _ _ _ hR (by omega) hdep (by rw [hz1]; exact hP2) (fun p3 c3 pp3 v3 h3 hr3 hz3 hpp3 hb3 hR3 hE3 => ?_) (fun p3 v3 h3 hd3 he3 hb3 hX3 => ?_)
               · subst hr3
                 have hP := zN_gen hK2 rfl
                 cases hP
                 exact hN _ _ _ _ _ rfl hz3 hpp3 hb3 hR3 (fun s => zE_app (hE1 _) (zE_app (a := [-_]) (by first | exact zop_43 (by assumption) | exact zop_45 (by assumption)) (hE3 s)))
               · have hx9 := zX_gen hK2 hd3 he3 (fun hd c => zDg_ok hd)
                 exact hXc _ _ _ hx9.1 hx9.2 (fun e9 => by cases e9) hX3
             · have hX1 := hX.2.1
               have hX2 := hX.2.2.1
               have hX3 := hX.2.2.2
               try simp only [zup_ap, zup_row, ne_eq, not_false_eq_true, zres, Int.toNat_natCast, reduceIte, Nat.reduceEqDiff, Nat.reduceAdd, and_self, and_true, true_and, and_false, false_and]
               skip
               refine zrngS (fun hrw => ?_)
               refine z_i2l dX9_sum_60 ?_
               refine z_ls3 dX9_sum_61 (Nat.le_of_ble_eq_true rfl) rfl ?_
               refine z_il2 dX9_sum_62 ?_
               refine z_if_eq (t := 73) dX9_sum_63 (by rfl) (fun hx => absurd hx (by decide)) (fun _ => ?_)
               refine z_il1 dX9_sum_66 ?_
               refine z_i2l dX9_sum_67 ?_
               refine z_ll3 dX9_sum_68 ?_
               refine z_ladd dX9_sum_69 (by omega) ?_
               refine z_goto (t := 77) dX9_sum_70 (by rfl) ?_
               refine zcs1 dX9_sum_77 zkX9_206 ztX9_within (Nat.le_of_ble_eq_true rfl) (by decide) (by first | decide | omega) ⟨Nat.le_refl _, Nat.le_refl _⟩ (X9_within_ct (fun _ => ?_))
               try simp only [zup_ap, zup_row, ne_eq, not_false_eq_true, zres, Int.toNat_natCast, reduceIte, Nat.reduceEqDiff, Nat.reduceAdd, and_self, and_true, true_and, and_false, false_and]
               refine z_is1 dX9_sum_80 (Nat.le_of_ble_eq_true rfl) rfl ?_
               refine z_goto (t := 5) dX9_sum_81 (by rfl) ?_
               refine z_al0 dX9_sum_5 (by first | decide | omega | assumption) ?_
               refine z_getI zfX9_160 dX9_sum_6 (zkB hΓ rfl) rfl ?_
               try simp only [zup_ap, zup_row, ne_eq, not_false_eq_true, zres, Int.toNat_natCast, reduceIte, Nat.reduceEqDiff, Nat.reduceAdd, and_self, and_true, true_and, and_false, false_and]
               refine z_iconst dX9_sum_9 (by decide) ?_
               refine z_icmp_ne (t := 84) dX9_sum_10 (by rfl) (fun ht10 => ?_) (fun hf10 => ?_)
               · skip
                 first
                 | (exfalso; omega)
                 | (refine z_il1 dX9_sum_84 ?_
                    refine z_iret dX9_sum_85 rfl (Nat.le_refl _) (Nat.le_refl _) (zext_rf _) (fun hrr => ?_)
                    have hx9 := zX_gen hK1 hd1 he1 (fun hd c => zDg_lp hd (by decide) (zDg_ok hd))
                    exact hXc _ _ _ hx9.1 hx9.2 (fun e9 => by cases e9) hX)
               · exfalso; omega)
      · refine z_al0 dX9_sum_22 (by first | decide | omega | assumption) ?_
        refine zcv0 dX9_sum_23 zkX9_170 ziX9_look zsX9_look (zkB hΓ rfl) (by decide) rfl (Nat.le_of_ble_eq_true rfl) (by decide) (by first | decide | omega) ⟨Nat.le_refl _, Nat.le_refl _⟩ (zM_look hΓ hT hR (by omega) (fun h hR _ => ?_))
        try simp only [zup_ap, zup_row, ne_eq, not_false_eq_true, zres, Int.toNat_natCast, reduceIte, Nat.reduceEqDiff, Nat.reduceAdd, and_self, and_true, true_and, and_false, false_and]
        simp only [zskip_id] at hR ⊢
        refine z_bipush (x := 45) dX9_sum_26 (by rfl) (by decide) ?_
        refine z_icmp_ne (t := 84) dX9_sum_28 (by rfl) (fun ht28 => ?_) (fun hf28 => ?_)
        · try simp only [zskip_id] at ht28
          rw [if_neg (by omega)] at hP
          try simp only [zskip_id] at hR
          refine z_il1 dX9_sum_84 ?_
          refine z_iret dX9_sum_85 rfl (Nat.le_refl _) (Nat.le_refl _) (zext_rf _) (fun hrr => ?_)
          cases hP
          exact hN _ _ (zskip t n p) _ _ rfl (zskip_id t n p) (by omega) (fun e9 => by cases e9) hR (fun s => zE_nil _ _)
        · have hf28 := hf28
          try simp only [zskip_id] at hf28
          rw [if_pos (Or.inr hf28)] at hP
          have l0 := zsg_lt hf28 (by decide)
          refine z_al0 dX9_sum_31 (by first | decide | omega | assumption) ?_
          refine zcv0 dX9_sum_32 zkX9_170 ziX9_look zsX9_look (zkB hΓ rfl) (by decide) rfl (Nat.le_of_ble_eq_true rfl) (by decide) (by first | decide | omega) ⟨Nat.le_refl _, Nat.le_refl _⟩ (zM_look hΓ hT hR (by omega) (fun h hR _ => ?_))
          try simp only [zup_ap, zup_row, ne_eq, not_false_eq_true, zres, Int.toNat_natCast, reduceIte, Nat.reduceEqDiff, Nat.reduceAdd, and_self, and_true, true_and, and_false, false_and]
          simp only [zskip_id] at hR ⊢
          refine z_bipush (x := 43) dX9_sum_35 (by rfl) (by decide) ?_
          refine z_icmp_ne (t := 44) dX9_sum_37 (by rfl) (fun ht37 => ?_) (fun hf37 => ?_)
          · first
            | (exfalso; omega)
            | (refine z_iconst dX9_sum_44 (by decide) ?_
               refine z_is2 dX9_sum_45 (Nat.le_of_ble_eq_true rfl) rfl ?_
               refine z_al0 dX9_sum_46 (by first | decide | omega | assumption) ?_
               have a1 := hR.2.1
               refine z_dup dX9_sum_47 rfl ?_
               refine z_getI zfX9_151 dX9_sum_48 (zkB hΓ rfl) rfl ?_
               try simp only [zup_ap, zup_row, ne_eq, not_false_eq_true, zres, Int.toNat_natCast, reduceIte, Nat.reduceEqDiff, Nat.reduceAdd, and_self, and_true, true_and, and_false, false_and]
               refine z_iconst dX9_sum_51 (by decide) ?_
               refine z_iadd dX9_sum_52 (by omega) ?_
               refine z_putI zfX9_151 dX9_sum_53 (zkB hΓ rfl) rfl rfl ?_
               have hR := zMS_inc hR
               refine z_al0 dX9_sum_56 (by first | decide | omega | assumption) ?_
               obtain ⟨r1, hP1, hK1⟩ := zbd_e hP
               refine zcv0 dX9_sum_57 zkX9_210 ziX9_term zsX9_term (zkB hΓ rfl) (by decide) rfl (Nat.le_of_ble_eq_true rfl) (by decide) (by first | decide | omega) ⟨Nat.le_refl _, Nat.le_refl _⟩ (iT g (by omega) (2 * g + 8) _ _ _ r1 _ (Nat.le_refl _) hR (by omega) (by omega) hP1 (fun p1 c1 pp1 v1 h hr1 hz1 hpp1 hb1 hR hE1 _ => ?_) (fun p1 v1 h hd1 he1 hb1 hX _ => ?_))
               · subst hr1
                 have hP := zN_gen hK1 rfl
                 try dsimp only at hP
                 have b1 := zP_c hP1 (by decide)
                 try simp only [zup_ap, zup_row, ne_eq, not_false_eq_true, zres, Int.toNat_natCast, reduceIte, Nat.reduceEqDiff, Nat.reduceAdd, and_self, and_true, true_and, and_false, false_and]
                 skip
                 refine zrngS (fun hrw => ?_)
                 refine z_i2l dX9_sum_60 ?_
                 refine z_ls3 dX9_sum_61 (Nat.le_of_ble_eq_true rfl) rfl ?_
                 refine z_il2 dX9_sum_62 ?_
                 refine z_if_eq (t := 73) dX9_sum_63 (by rfl) (fun _ => ?_) (fun hx => absurd hx (by decide))
                 refine z_il1 dX9_sum_73 ?_
                 refine z_i2l dX9_sum_74 ?_
                 refine z_ll3 dX9_sum_75 ?_
                 refine z_lsub dX9_sum_76 (by omega) ?_
                 refine zcs1 dX9_sum_77 zkX9_206 ztX9_within (Nat.le_of_ble_eq_true rfl) (by decide) (by first | decide | omega) ⟨Nat.le_refl _, Nat.le_refl _⟩ (X9_within_ct (fun _ => ?_))
                 try simp only [zup_ap, zup_row, ne_eq, not_false_eq_true, zres, Int.toNat_natCast, reduceIte, Nat.reduceEqDiff, Nat.reduceAdd, and_self, and_true, true_and, and_false, false_and]
                 refine z_is1 dX9_sum_80 (Nat.le_of_ble_eq_true rfl) rfl ?_
                 refine z_goto (t := 5) dX9_sum_81 (by rfl) ?_
                 obtain ⟨r2, hP2, hK2⟩ := zbd_e hP
                 refine ih (by omega) pp1 dep _ h r2 Q _ _ _ hR (by omega) hdep (by rw [hz1]; exact hP2) (fun p3 c3 pp3 v3 h3 hr3 hz3 hpp3 hb3 hR3 hE3 => ?_) (fun p3 v3 h3 hd3 he3 hb3 hX3 => ?_)
                 · subst hr3
                   have hP := zN_gen hK2 rfl
                   cases hP
                   exact hN _ _ _ _ _ rfl hz3 hpp3 hb3 hR3 (fun s => zE_app (hE1 _) (zE_app (a := [-_]) (by first | exact zop_43 (by assumption) | exact zop_45 (by assumption)) (hE3 s)))
                 · have hx9 := zX_gen hK2 hd3 he3 (fun hd c => zDg_ok hd)
                   exact hXc _ _ _ hx9.1 hx9.2 (fun e9 => by cases e9) hX3
               · have hX1 := hX.2.1
                 have hX2 := hX.2.2.1
                 have hX3 := hX.2.2.2
                 try simp only [zup_ap, zup_row, ne_eq, not_false_eq_true, zres, Int.toNat_natCast, reduceIte, Nat.reduceEqDiff, Nat.reduceAdd, and_self, and_true, true_and, and_false, false_and]
                 skip
                 refine zrngS (fun hrw => ?_)
                 refine z_i2l dX9_sum_60 ?_
                 refine z_ls3 dX9_sum_61 (Nat.le_of_ble_eq_true rfl) rfl ?_
                 refine z_il2 dX9_sum_62 ?_
                 refine z_if_eq (t := 73) dX9_sum_63 (by rfl) (fun _ => ?_) (fun hx => absurd hx (by decide))
                 refine z_il1 dX9_sum_73 ?_
                 refine z_i2l dX9_sum_74 ?_
                 refine z_ll3 dX9_sum_75 ?_
                 refine z_lsub dX9_sum_76 (by omega) ?_
                 refine zcs1 dX9_sum_77 zkX9_206 ztX9_within (Nat.le_of_ble_eq_true rfl) (by decide) (by first | decide | omega) ⟨Nat.le_refl _, Nat.le_refl _⟩ (X9_within_ct (fun _ => ?_))
                 try simp only [zup_ap, zup_row, ne_eq, not_false_eq_true, zres, Int.toNat_natCast, reduceIte, Nat.reduceEqDiff, Nat.reduceAdd, and_self, and_true, true_and, and_false, false_and]
                 refine z_is1 dX9_sum_80 (Nat.le_of_ble_eq_true rfl) rfl ?_
                 refine z_goto (t := 5) dX9_sum_81 (by rfl) ?_
                 refine z_al0 dX9_sum_5 (by first | decide | omega | assumption) ?_
                 refine z_getI zfX9_160 dX9_sum_6 (zkB hΓ rfl) rfl ?_
                 try simp only [zup_ap, zup_row, ne_eq, not_false_eq_true, zres, Int.toNat_natCast, reduceIte, Nat.reduceEqDiff, Nat.reduceAdd, and_self, and_true, true_and, and_false, false_and]
                 refine z_iconst dX9_sum_9 (by decide) ?_
                 refine z_icmp_ne (t := 84) dX9_sum_10 (by rfl) (fun ht10 => ?_) (fun hf10 => ?_)
                 · skip
                   first
                   | (exfalso; omega)
                   | (refine z_il1 dX9_sum_84 ?_
                      refine z_iret dX9_sum_85 rfl (Nat.le_refl _) (Nat.le_refl _) (zext_rf _) (fun hrr => ?_)
                      have hx9 := zX_gen hK1 hd1 he1 (fun hd c => zDg_lp hd (by decide) (zDg_ok hd))
                      exact hXc _ _ _ hx9.1 hx9.2 (fun e9 => by cases e9) hX)
                 · exfalso; omega)
          · first
            | (exfalso; omega)
            | (refine z_iconst dX9_sum_40 (by decide) ?_
               refine z_goto (t := 45) dX9_sum_41 (by rfl) ?_
               refine z_is2 dX9_sum_45 (Nat.le_of_ble_eq_true rfl) rfl ?_
               refine z_al0 dX9_sum_46 (by first | decide | omega | assumption) ?_
               have a1 := hR.2.1
               refine z_dup dX9_sum_47 rfl ?_
               refine z_getI zfX9_151 dX9_sum_48 (zkB hΓ rfl) rfl ?_
               try simp only [zup_ap, zup_row, ne_eq, not_false_eq_true, zres, Int.toNat_natCast, reduceIte, Nat.reduceEqDiff, Nat.reduceAdd, and_self, and_true, true_and, and_false, false_and]
               refine z_iconst dX9_sum_51 (by decide) ?_
               refine z_iadd dX9_sum_52 (by omega) ?_
               refine z_putI zfX9_151 dX9_sum_53 (zkB hΓ rfl) rfl rfl ?_
               have hR := zMS_inc hR
               refine z_al0 dX9_sum_56 (by first | decide | omega | assumption) ?_
               obtain ⟨r1, hP1, hK1⟩ := zbd_e hP
               refine zcv0 dX9_sum_57 zkX9_210 ziX9_term zsX9_term (zkB hΓ rfl) (by decide) rfl (Nat.le_of_ble_eq_true rfl) (by decide) (by first | decide | omega) ⟨Nat.le_refl _, Nat.le_refl _⟩ (iT g (by omega) (2 * g + 8) _ _ _ r1 _ (Nat.le_refl _) hR (by omega) (by omega) hP1 (fun p1 c1 pp1 v1 h hr1 hz1 hpp1 hb1 hR hE1 _ => ?_) (fun p1 v1 h hd1 he1 hb1 hX _ => ?_))
               · subst hr1
                 have hP := zN_gen hK1 rfl
                 try dsimp only at hP
                 have b1 := zP_c hP1 (by decide)
                 try simp only [zup_ap, zup_row, ne_eq, not_false_eq_true, zres, Int.toNat_natCast, reduceIte, Nat.reduceEqDiff, Nat.reduceAdd, and_self, and_true, true_and, and_false, false_and]
                 skip
                 refine zrngS (fun hrw => ?_)
                 refine z_i2l dX9_sum_60 ?_
                 refine z_ls3 dX9_sum_61 (Nat.le_of_ble_eq_true rfl) rfl ?_
                 refine z_il2 dX9_sum_62 ?_
                 refine z_if_eq (t := 73) dX9_sum_63 (by rfl) (fun hx => absurd hx (by decide)) (fun _ => ?_)
                 refine z_il1 dX9_sum_66 ?_
                 refine z_i2l dX9_sum_67 ?_
                 refine z_ll3 dX9_sum_68 ?_
                 refine z_ladd dX9_sum_69 (by omega) ?_
                 refine z_goto (t := 77) dX9_sum_70 (by rfl) ?_
                 refine zcs1 dX9_sum_77 zkX9_206 ztX9_within (Nat.le_of_ble_eq_true rfl) (by decide) (by first | decide | omega) ⟨Nat.le_refl _, Nat.le_refl _⟩ (X9_within_ct (fun _ => ?_))
                 try simp only [zup_ap, zup_row, ne_eq, not_false_eq_true, zres, Int.toNat_natCast, reduceIte, Nat.reduceEqDiff, Nat.reduceAdd, and_self, and_true, true_and, and_false, false_and]
                 refine z_is1 dX9_sum_80 (Nat.le_of_ble_eq_true rfl) rfl ?_
                 refine z_goto (t := 5) dX9_sum_81 (by rfl) ?_
                 obtain ⟨r2, hP2, hK2⟩ := zbd_e hP
                 refine ih (by omega) pp1 dep _ h r2 Q _ _ _ hR (by omega) hdep (by rw [hz1]; exact hP2) (fun p3 c3 pp3 v3 h3 hr3 hz3 hpp3 hb3 hR3 hE3 => ?_) (fun p3 v3 h3 hd3 he3 hb3 hX3 => ?_)
                 · subst hr3
                   have hP := zN_gen hK2 rfl
                   cases hP
                   exact hN _ _ _ _ _ rfl hz3 hpp3 hb3 hR3 (fun s => zE_app (hE1 _) (zE_app (a := [-_]) (by first | exact zop_43 (by assumption) | exact zop_45 (by assumption)) (hE3 s)))
                 · have hx9 := zX_gen hK2 hd3 he3 (fun hd c => zDg_ok hd)
                   exact hXc _ _ _ hx9.1 hx9.2 (fun e9 => by cases e9) hX3
               · have hX1 := hX.2.1
                 have hX2 := hX.2.2.1
                 have hX3 := hX.2.2.2
                 try simp only [zup_ap, zup_row, ne_eq, not_false_eq_true, zres, Int.toNat_natCast, reduceIte, Nat.reduceEqDiff, Nat.reduceAdd, and_self, and_true, true_and, and_false, false_and]
                 skip
                 refine zrngS (fun hrw => ?_)
                 refine z_i2l dX9_sum_60 ?_
                 refine z_ls3 dX9_sum_61 (Nat.le_of_ble_eq_true rfl) rfl ?_
                 refine z_il2 dX9_sum_62 ?_
                 refine z_if_eq (t := 73) dX9_sum_63 (by rfl) (fun hx => absurd hx (by decide)) (fun _ => ?_)
                 refine z_il1 dX9_sum_66 ?_
                 refine z_i2l dX9_sum_67 ?_
                 refine z_ll3 dX9_sum_68 ?_
                 refine z_ladd dX9_sum_69 (by omega) ?_
                 refine z_goto (t := 77) dX9_sum_70 (by rfl) ?_
                 refine zcs1 dX9_sum_77 zkX9_206 ztX9_within (Nat.le_of_ble_eq_true rfl) (by decide) (by first | decide | omega) ⟨Nat.le_refl _, Nat.le_refl _⟩ (X9_within_ct (fun _ => ?_))
                 try simp only [zup_ap, zup_row, ne_eq, not_false_eq_true, zres, Int.toNat_natCast, reduceIte, Nat.reduceEqDiff, Nat.reduceAdd, and_self, and_true, true_and, and_false, false_and]
                 refine z_is1 dX9_sum_80 (Nat.le_of_ble_eq_true rfl) rfl ?_
                 refine z_goto (t := 5) dX9_sum_81 (by rfl) ?_
                 refine z_al0 dX9_sum_5 (by first | decide | omega | assumption) ?_
                 refine z_getI zfX9_160 dX9_sum_6 (zkB hΓ rfl) rfl ?_
                 try simp only [zup_ap, zup_row, ne_eq, not_false_eq_true, zres, Int.toNat_natCast, reduceIte, Nat.reduceEqDiff, Nat.reduceAdd, and_self, and_true, true_and, and_false, false_and]
                 refine z_iconst dX9_sum_9 (by decide) ?_
                 refine z_icmp_ne (t := 84) dX9_sum_10 (by rfl) (fun ht10 => ?_) (fun hf10 => ?_)
                 · skip
                   first
                   | (exfalso; omega)
                   | (refine z_il1 dX9_sum_84 ?_
                      refine z_iret dX9_sum_85 rfl (Nat.le_refl _) (Nat.le_refl _) (zext_rf _) (fun hrr => ?_)
                      have hx9 := zX_gen hK1 hd1 he1 (fun hd c => zDg_lp hd (by decide) (zDg_ok hd))
                      exact hXc _ _ _ hx9.1 hx9.2 (fun e9 => by cases e9) hX)
                 · exfalso; omega)
set_option maxRecDepth 4000 in
theorem zM_term {l : Launch} {Γ : zC} {h0 : zM} {R b n : Nat} {t : Nat → Int} (hΓ : zBase Γ) (hT : zTx Γ h0 R b n t) {f : Nat} (iA : ∀ g, g < f + 1 → zSm l Γ h0 n t (fun s => h0 93 s.toNat) g 0 0 mX9_atom []) : zSm l Γ h0 n t (fun s => h0 93 s.toNat) (f + 1) 1 0 mX9_term [] := by
  intro D p dep h r Q hD hR hp hdep hP hN hXc
  have sk1 := fun k => zskip_b t n k
  have s0 := sk1 p
  have hn2 := hT.2.2.2.1
  simp only [zP] at hP
  refine zCT_of (by decide) (Nat.le_of_ble_eq_true rfl) (ls := [some (zR 89), none, none, none, none]) rfl ?_
  refine z_al0 dX9_term_0 (by first | decide | omega | assumption) ?_
  obtain ⟨r1, hP1, hK1⟩ := zbd_e hP
  refine zcv0 dX9_term_1 zkX9_203 ziX9_atom zsX9_atom (zkB hΓ rfl) (by decide) rfl (Nat.le_of_ble_eq_true rfl) (by decide) (by first | decide | omega) ⟨Nat.le_refl _, Nat.le_refl _⟩ (iA f (by omega) (2 * f + 8) _ _ _ r1 _ (Nat.le_refl _) hR (by omega) (by omega) hP1 (fun p1 c1 pp1 v1 h hr1 hz1 hpp1 hb1 hR hE1 _ => ?_) (fun p1 v1 h hd1 he1 hb1 hX _ => ?_))
  · subst hr1
    have hP := zN_gen hK1 rfl
    try dsimp only at hP
    have b1 := zP_c hP1 (by decide)
    try simp only [zup_ap, zup_row, ne_eq, not_false_eq_true, zres, Int.toNat_natCast, reduceIte, Nat.reduceEqDiff, Nat.reduceAdd, and_self, and_true, true_and, and_false, false_and]
    skip
    refine z_is1 dX9_term_4 (Nat.le_of_ble_eq_true rfl) rfl ?_
    obtain ⟨r2, hP2, hK2⟩ := zbd_e hP
    refine zM_tl hΓ hT f D (by omega) (fun g hg => iA g (by omega)) f (Nat.le_refl _) pp1 dep _ h r2 Q _ _ _ hR (by omega) hdep (by rw [hz1]; exact hP2) (fun p3 c3 pp3 v3 h3 hr3 hz3 hpp3 hb3 hR3 hE3 => ?_) (fun p3 v3 h3 hd3 he3 hb3 hX3 => ?_)
    · subst hr3
      have hP := zN_gen hK2 rfl
      cases hP
      exact hN _ _ _ _ _ rfl hz3 hpp3 hb3 hR3 (fun s => zE_app (hE1 _) (hE3 s))
    · have hx9 := zX_gen hK2 hd3 he3 (fun hd c => zDg_ok hd)
      exact hXc _ _ _ hx9.1 hx9.2 (fun e9 => by cases e9) hX3
  · have hX1 := hX.2.1
    have hX2 := hX.2.2.1
    have hX3 := hX.2.2.2
    try simp only [zup_ap, zup_row, ne_eq, not_false_eq_true, zres, Int.toNat_natCast, reduceIte, Nat.reduceEqDiff, Nat.reduceAdd, and_self, and_true, true_and, and_false, false_and]
    skip
    refine z_is1 dX9_term_4 (Nat.le_of_ble_eq_true rfl) rfl ?_
    refine z_al0 dX9_term_5 (by first | decide | omega | assumption) ?_
    refine z_getI zfX9_160 dX9_term_6 (zkB hΓ rfl) rfl ?_
    try simp only [zup_ap, zup_row, ne_eq, not_false_eq_true, zres, Int.toNat_natCast, reduceIte, Nat.reduceEqDiff, Nat.reduceAdd, and_self, and_true, true_and, and_false, false_and]
    refine z_iconst dX9_term_9 (by decide) ?_
    refine z_icmp_ne (t := 94) dX9_term_10 (by rfl) (fun ht10 => ?_) (fun hf10 => ?_)
    · first
      | (exfalso; omega)
      | (refine z_il1 dX9_term_94 ?_
         refine z_iret dX9_term_95 rfl (Nat.le_refl _) (Nat.le_refl _) (zext_rf _) (fun hrr => ?_)
         have hx9 := zX_gen hK1 hd1 he1 (fun hd c => zDg_lp hd (by decide) (zDg_ok hd))
         exact hXc _ _ _ hx9.1 hx9.2 (fun e9 => by cases e9) hX)
    · exfalso; omega
set_option maxRecDepth 4000 in
theorem zM_sum {l : Launch} {Γ : zC} {h0 : zM} {R b n : Nat} {t : Nat → Int} (hΓ : zBase Γ) (hT : zTx Γ h0 R b n t) {f : Nat} (iT : ∀ g, g < f + 1 → zSm l Γ h0 n t (fun s => h0 93 s.toNat) g 1 0 mX9_term []) : zSm l Γ h0 n t (fun s => h0 93 s.toNat) (f + 1) 3 0 mX9_sum [] := by
  intro D p dep h r Q hD hR hp hdep hP hN hXc
  have sk1 := fun k => zskip_b t n k
  have s0 := sk1 p
  have hn2 := hT.2.2.2.1
  simp only [zP] at hP
  refine zCT_of (by decide) (Nat.le_of_ble_eq_true rfl) (ls := [some (zR 89), none, none, none, none]) rfl ?_
  refine z_al0 dX9_sum_0 (by first | decide | omega | assumption) ?_
  obtain ⟨r1, hP1, hK1⟩ := zbd_e hP
  refine zcv0 dX9_sum_1 zkX9_210 ziX9_term zsX9_term (zkB hΓ rfl) (by decide) rfl (Nat.le_of_ble_eq_true rfl) (by decide) (by first | decide | omega) ⟨Nat.le_refl _, Nat.le_refl _⟩ (iT f (by omega) (2 * f + 8) _ _ _ r1 _ (Nat.le_refl _) hR (by omega) (by omega) hP1 (fun p1 c1 pp1 v1 h hr1 hz1 hpp1 hb1 hR hE1 _ => ?_) (fun p1 v1 h hd1 he1 hb1 hX _ => ?_))
  · subst hr1
    have hP := zN_gen hK1 rfl
    try dsimp only at hP
    have b1 := zP_c hP1 (by decide)
    try simp only [zup_ap, zup_row, ne_eq, not_false_eq_true, zres, Int.toNat_natCast, reduceIte, Nat.reduceEqDiff, Nat.reduceAdd, and_self, and_true, true_and, and_false, false_and]
    skip
    refine z_is1 dX9_sum_4 (Nat.le_of_ble_eq_true rfl) rfl ?_
    obtain ⟨r2, hP2, hK2⟩ := zbd_e hP
    refine zM_sl hΓ hT f D (by omega) (fun g hg => iT g (by omega)) f (Nat.le_refl _) pp1 dep _ h r2 Q _ _ _ hR (by omega) hdep (by rw [hz1]; exact hP2) (fun p3 c3 pp3 v3 h3 hr3 hz3 hpp3 hb3 hR3 hE3 => ?_) (fun p3 v3 h3 hd3 he3 hb3 hX3 => ?_)
    · subst hr3
      have hP := zN_gen hK2 rfl
      cases hP
      exact hN _ _ _ _ _ rfl hz3 hpp3 hb3 hR3 (fun s => zE_app (hE1 _) (hE3 s))
    · have hx9 := zX_gen hK2 hd3 he3 (fun hd c => zDg_ok hd)
      exact hXc _ _ _ hx9.1 hx9.2 (fun e9 => by cases e9) hX3
  · have hX1 := hX.2.1
    have hX2 := hX.2.2.1
    have hX3 := hX.2.2.2
    try simp only [zup_ap, zup_row, ne_eq, not_false_eq_true, zres, Int.toNat_natCast, reduceIte, Nat.reduceEqDiff, Nat.reduceAdd, and_self, and_true, true_and, and_false, false_and]
    skip
    refine z_is1 dX9_sum_4 (Nat.le_of_ble_eq_true rfl) rfl ?_
    refine z_al0 dX9_sum_5 (by first | decide | omega | assumption) ?_
    refine z_getI zfX9_160 dX9_sum_6 (zkB hΓ rfl) rfl ?_
    try simp only [zup_ap, zup_row, ne_eq, not_false_eq_true, zres, Int.toNat_natCast, reduceIte, Nat.reduceEqDiff, Nat.reduceAdd, and_self, and_true, true_and, and_false, false_and]
    refine z_iconst dX9_sum_9 (by decide) ?_
    refine z_icmp_ne (t := 84) dX9_sum_10 (by rfl) (fun ht10 => ?_) (fun hf10 => ?_)
    · first
      | (exfalso; omega)
      | (refine z_il1 dX9_sum_84 ?_
         refine z_iret dX9_sum_85 rfl (Nat.le_refl _) (Nat.le_refl _) (zext_rf _) (fun hrr => ?_)
         have hx9 := zX_gen hK1 hd1 he1 (fun hd c => zDg_lp hd (by decide) (zDg_ok hd))
         exact hXc _ _ _ hx9.1 hx9.2 (fun e9 => by cases e9) hX)
    · exfalso; omega
