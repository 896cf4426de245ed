/-! SUMS paid: joint by the reference, worst -/
set_option maxRecDepth 4000 in
theorem X9_joint_a {l : Launch} {Γ : zC} {h1 : zM} {Q : Option zV → zC → zM → Prop} (hΓ : zBase Γ) {i j s r : Int} (h01 : ∀ n, n ≤ 200 → h1 102 n = 0 ∨ h1 102 n = 1) (hK : ∀ h9, (∀ q, q ≠ 117 → h9 q = h1 q) → (∀ n, n ≤ 200 → h9 117 n = h1 102 n) → zG (zFn l mX9_joint 1682 0 0 Γ Q) 0 0 Γ h9 88 [some (zR 89), some (zI i), some (zI j), some (zI s), some (zI r), some (zI ((201 : Nat) : Int))] []) : ∀ (m : Nat) (k : Nat) (h : zM), 201 - k < m → k ≤ 201 → (∀ q, q ≠ 117 → h q = h1 q) → (∀ n, n < k → h 117 n = h1 102 n) → zG (zFn l mX9_joint 1682 0 0 Γ Q) 0 0 Γ h 60 [some (zR 89), some (zI i), some (zI j), some (zI s), some (zI r), some (zI (k : Int))] [] := by
  intro m
  induction m with
  | zero => intros; omega
  | succ m ih =>
    intro k h hm hk hE hD
    refine z_il5 dX9_joint_60 ?_
    refine z_sipush (x := 200) dX9_joint_62 (by rfl) (by decide) ?_
    refine z_icmp_gt (t := 88) dX9_joint_65 (by rfl) (fun ht65 => ?_) (fun hf65 => ?_)
    · have ek : k = 201 := by omega
      subst ek
      exact hK h hE (fun n hn => hD n (by omega))
    · refine z_al0 dX9_joint_68 (by first | decide | omega | assumption) ?_
      refine z_getR zfX9_116 dX9_joint_69 (zkB hΓ rfl) rfl (zsB hΓ rfl) (zvB hΓ (by decide)) ?_
      refine z_il5 dX9_joint_72 ?_
      refine z_al0 dX9_joint_74 (by first | decide | omega | assumption) ?_
      refine z_getR zfX9_68 dX9_joint_75 (zkB hΓ rfl) rfl (zsB hΓ rfl) (zvB hΓ (by decide)) ?_
      refine z_il5 dX9_joint_78 ?_
      refine z_zald dX9_joint_80 (zkB hΓ rfl) (by omega) (by omega) ?_
      try simp only [zup_ap, zup_row, ne_eq, not_false_eq_true, zres, Int.toNat_natCast, reduceIte, Nat.reduceEqDiff, Nat.reduceAdd, and_self, and_true, true_and, and_false, false_and]
      refine z_zast dX9_joint_81 (zkB hΓ rfl) (by omega) (by omega) (by rw [hE 102 (by decide)]; exact h01 k (by omega)) ?_
      refine z_ii5 dX9_joint_82 (by omega) (Nat.le_of_ble_eq_true rfl) rfl ?_
      refine z_goto (t := 60) dX9_joint_85 (by rfl) ?_
      refine ih (k + 1) _ (by omega) (by omega) (fun q hq => (zup_row hq).trans (hE q hq)) (fun n hn => ?_)
      by_cases en : n = k
      · subst en; rw [zup_ap, if_pos ⟨rfl, by omega⟩, hE 102 (by decide)]
      · rw [zup_ap, if_neg (fun e => en (by have := e.2; omega))]
        exact hD n (by omega)
set_option maxRecDepth 4000 in
theorem X9_joint_b {l : Launch} {Γ : zC} {h1 : zM} {Q : Option zV → zC → zM → Prop} (hΓ : zBase Γ) {i j s r : Int} {c : Nat → Int} (hC1 : ∀ n, n ≤ 200 → h1 117 n = c n) (hK : ∀ h9, (∀ q, q ≠ 102 → h9 q = h1 q) → (∀ n, n ≤ 200 → h9 102 n = zor2 (c n) (h1 102 n)) → zG (zFn l mX9_joint 1682 0 0 Γ Q) 0 0 Γ h9 146 [some (zR 89), some (zI i), some (zI j), some (zI s), some (zI r), some (zI ((201 : Nat) : Int))] []) : ∀ (m : Nat) (k : Nat) (h : zM), 201 - k < m → k ≤ 201 → (∀ q, q ≠ 102 → h q = h1 q) → (∀ n, n < k → h 102 n = zor2 (c n) (h1 102 n)) → (∀ n, k ≤ n → h 102 n = h1 102 n) → zG (zFn l mX9_joint 1682 0 0 Γ Q) 0 0 Γ h 100 [some (zR 89), some (zI i), some (zI j), some (zI s), some (zI r), some (zI (k : Int))] [] := by
  intro m
  induction m with
  | zero => intros; omega
  | succ m ih =>
    intro k h hm hk hE hD hD2
    refine z_il5 dX9_joint_100 ?_
    refine z_sipush (x := 200) dX9_joint_102 (by rfl) (by decide) ?_
    refine z_icmp_gt (t := 146) dX9_joint_105 (by rfl) (fun ht105 => ?_) (fun hf105 => ?_)
    · have ek : k = 201 := by omega
      subst ek
      exact hK h hE (fun n hn => hD n (by omega))
    · refine z_al0 dX9_joint_108 (by first | decide | omega | assumption) ?_
      refine z_getR zfX9_68 dX9_joint_109 (zkB hΓ rfl) rfl (zsB hΓ rfl) (zvB hΓ (by decide)) ?_
      refine z_il5 dX9_joint_112 ?_
      refine z_al0 dX9_joint_114 (by first | decide | omega | assumption) ?_
      refine z_getR zfX9_68 dX9_joint_115 (zkB hΓ rfl) rfl (zsB hΓ rfl) (zvB hΓ (by decide)) ?_
      refine z_il5 dX9_joint_118 ?_
      refine z_zald dX9_joint_120 (zkB hΓ rfl) (by omega) (by omega) ?_
      try simp only [Int.toNat_natCast]
      rw [hD2 k (Nat.le_refl _)]
      try simp only [zup_ap, zup_row, ne_eq, not_false_eq_true, zres, Int.toNat_natCast, reduceIte, Nat.reduceEqDiff, Nat.reduceAdd, and_self, and_true, true_and, and_false, false_and]
      refine z_if_ne (t := 134) dX9_joint_121 (by rfl) (fun ht121 => ?_) (fun hf121 => ?_)
      · refine z_iconst dX9_joint_134 (by decide) ?_
        refine z_goto (t := 139) dX9_joint_135 (by rfl) ?_
        refine z_zast dX9_joint_139 (zkB hΓ rfl) (by omega) (by omega) (by first | exact Or.inl rfl | exact Or.inr rfl | omega) ?_
        refine z_ii5 dX9_joint_140 (by omega) (Nat.le_of_ble_eq_true rfl) rfl ?_
        refine z_goto (t := 100) dX9_joint_143 (by rfl) ?_
        refine ih (k + 1) _ (by omega) (by omega) (fun q hq => (zup_row hq).trans (hE q hq)) (fun n hn => ?_) (fun n hn => ?_)
        · by_cases en : n = k
          · subst en; rw [zup_ap, if_pos ⟨rfl, by omega⟩]; unfold zor2; first | rw [if_neg (by omega)] | rw [if_pos (by omega)]
          · rw [zup_ap, if_neg (fun e => en (by have := e.2; omega))]
            exact hD n (by omega)
        · rw [zup_ap, if_neg (fun e => (by have := e.2; omega))]
          exact hD2 n (by omega)
      · refine z_al0 dX9_joint_124 (by first | decide | omega | assumption) ?_
        refine z_getR zfX9_116 dX9_joint_125 (zkB hΓ rfl) rfl (zsB hΓ rfl) (zvB hΓ (by decide)) ?_
        refine z_il5 dX9_joint_128 ?_
        refine z_zald dX9_joint_130 (zkB hΓ rfl) (by omega) (by omega) ?_
        try simp only [Int.toNat_natCast]
        rw [hE 117 (by decide), hC1 k (by omega)]
        try simp only [zup_ap, zup_row, ne_eq, not_false_eq_true, zres, Int.toNat_natCast, reduceIte, Nat.reduceEqDiff, Nat.reduceAdd, and_self, and_true, true_and, and_false, false_and]
        refine z_if_eq (t := 138) dX9_joint_131 (by rfl) (fun ht131 => ?_) (fun hf131 => ?_)
        · refine z_iconst dX9_joint_138 (by decide) ?_
          refine z_zast dX9_joint_139 (zkB hΓ rfl) (by omega) (by omega) (by first | exact Or.inl rfl | exact Or.inr rfl | omega) ?_
          refine z_ii5 dX9_joint_140 (by omega) (Nat.le_of_ble_eq_true rfl) rfl ?_
          refine z_goto (t := 100) dX9_joint_143 (by rfl) ?_
          refine ih (k + 1) _ (by omega) (by omega) (fun q hq => (zup_row hq).trans (hE q hq)) (fun n hn => ?_) (fun n hn => ?_)
          · by_cases en : n = k
            · subst en; rw [zup_ap, if_pos ⟨rfl, by omega⟩]; unfold zor2; first | rw [if_neg (by omega)] | rw [if_pos (by omega)]
            · rw [zup_ap, if_neg (fun e => en (by have := e.2; omega))]
              exact hD n (by omega)
          · rw [zup_ap, if_neg (fun e => (by have := e.2; omega))]
            exact hD2 n (by omega)
        · refine z_iconst dX9_joint_134 (by decide) ?_
          refine z_goto (t := 139) dX9_joint_135 (by rfl) ?_
          refine z_zast dX9_joint_139 (zkB hΓ rfl) (by omega) (by omega) (by first | exact Or.inl rfl | exact Or.inr rfl | omega) ?_
          refine z_ii5 dX9_joint_140 (by omega) (Nat.le_of_ble_eq_true rfl) rfl ?_
          refine z_goto (t := 100) dX9_joint_143 (by rfl) ?_
          refine ih (k + 1) _ (by omega) (by omega) (fun q hq => (zup_row hq).trans (hE q hq)) (fun n hn => ?_) (fun n hn => ?_)
          · by_cases en : n = k
            · subst en; rw [zup_ap, if_pos ⟨rfl, by omega⟩]; unfold zor2; first | rw [if_neg (by omega)] | rw [if_pos (by omega)]
            · rw [zup_ap, if_neg (fun e => en (by have := e.2; omega))]
              exact hD n (by omega)
          · rw [zup_ap, if_neg (fun e => (by have := e.2; omega))]
            exact hD2 n (by omega)
set_option maxRecDepth 4000 in
theorem X9_joint_c {l : Launch} {Γ : zC} {h : zM} {Q : Option zV → zC → zM → Prop} {b : Nat → Int} {hd : Nat} {s : Nat} {i j r : Int} (hs : s ≤ 200) (hΓ : zBase Γ) (hr7 : 0 ≤ r ∧ r ≤ 7) (hB : ∀ n, n ≤ 200 → h 102 n = b n) (hC : ∀ k, k ≤ 60 → ∀ t, t ≤ 200 → h 103 (201 * k + t) = if zcm b r hd k t then 1 else 0) : ∀ (m : Nat) (k : Nat), 61 - k < m → 1 ≤ k → k ≤ 61 → Q (some (zI (zlf (fun k => zcm b r hd k s && zco b r k) (61 - k) k))) Γ h → zG (zFn l mX9_joint 1682 0 0 Γ Q) 0 0 Γ h 155 [some (zR 89), some (zI i), some (zI j), some (zI (s : Int)), some (zI r), some (zI (k : Int))] [] := by
  intro m
  induction m with
  | zero => intros; omega
  | succ m ih =>
    intro k hm hk1 hk2 hQ
    refine z_il5 dX9_joint_155 ?_
    refine z_bipush (x := 60) dX9_joint_157 (by rfl) (by decide) ?_
    refine z_icmp_gt (t := 192) dX9_joint_159 (by rfl) (fun ht159 => ?_) (fun hf159 => ?_)
    · refine z_iconst dX9_joint_192 (by decide) ?_
      refine z_iret dX9_joint_193 rfl (Nat.le_refl _) (Nat.le_refl _) (zext_rf _) (fun hrr => ?_)
      rw [show 61 - k = 0 by omega] at hQ
      exact hQ
    · refine z_al0 dX9_joint_162 (by first | decide | omega | assumption) ?_
      refine z_il5 dX9_joint_163 ?_
      refine z_il3 dX9_joint_165 ?_
      refine zcv2 dX9_joint_166 zkX9_321 ziX9_can zsX9_can (zkB hΓ rfl) (by decide) rfl (Nat.le_of_ble_eq_true rfl) (by decide) (by first | decide | omega) ⟨Nat.le_refl _, Nat.le_refl _⟩ (X9_can_ct hΓ (k := k) (t := s) (by omega) (by omega) (hC k (by omega) s (by omega)) (fun hc9 _ => ?_) (fun hc9 _ => ?_))
      · try simp only [zup_ap, zup_row, ne_eq, not_false_eq_true, zres, Int.toNat_natCast, reduceIte, Nat.reduceEqDiff, Nat.reduceAdd, and_self, and_true, true_and, and_false, false_and]
        refine z_if_eq (t := 186) dX9_joint_169 (by rfl) (fun _ => ?_) (fun hx => absurd hx (by decide))
        refine z_ii5 dX9_joint_186 (by omega) (Nat.le_of_ble_eq_true rfl) rfl ?_
        refine z_goto (t := 155) dX9_joint_189 (by rfl) ?_
        rw [show 61 - k = (61 - (k + 1)) + 1 by omega, zlf, if_neg (by first | (rw [hp9]; simp; done) | (rw [hc9]; simp; done))] at hQ
        exact ih (k + 1) (by omega) (by omega) (by omega) hQ
      · try simp only [zup_ap, zup_row, ne_eq, not_false_eq_true, zres, Int.toNat_natCast, reduceIte, Nat.reduceEqDiff, Nat.reduceAdd, and_self, and_true, true_and, and_false, false_and]
        refine z_if_eq (t := 186) dX9_joint_169 (by rfl) (fun hx => absurd hx (by decide)) (fun _ => ?_)
        refine z_al0 dX9_joint_172 (by first | decide | omega | assumption) ?_
        refine z_il5 dX9_joint_173 ?_
        refine z_il4 dX9_joint_175 ?_
        refine zcv2 dX9_joint_177 zkX9_344 ziX9_isCount zsX9_isCount (zkB hΓ rfl) (by decide) rfl (Nat.le_of_ble_eq_true rfl) (by decide) (by first | decide | omega) ⟨Nat.le_refl _, Nat.le_refl _⟩ (X9_isCount_ct hΓ hr7 hB (n := k) (by omega) (fun hp9 _ => ?_) (fun hp9 _ => ?_))
        · try simp only [zup_ap, zup_row, ne_eq, not_false_eq_true, zres, Int.toNat_natCast, reduceIte, Nat.reduceEqDiff, Nat.reduceAdd, and_self, and_true, true_and, and_false, false_and]
          refine z_if_eq (t := 186) dX9_joint_180 (by rfl) (fun _ => ?_) (fun hx => absurd hx (by decide))
          refine z_ii5 dX9_joint_186 (by omega) (Nat.le_of_ble_eq_true rfl) rfl ?_
          refine z_goto (t := 155) dX9_joint_189 (by rfl) ?_
          rw [show 61 - k = (61 - (k + 1)) + 1 by omega, zlf, if_neg (by first | (rw [hp9]; simp; done) | (rw [hc9]; simp; done))] at hQ
          exact ih (k + 1) (by omega) (by omega) (by omega) hQ
        · try simp only [zup_ap, zup_row, ne_eq, not_false_eq_true, zres, Int.toNat_natCast, reduceIte, Nat.reduceEqDiff, Nat.reduceAdd, and_self, and_true, true_and, and_false, false_and]
          refine z_if_eq (t := 186) dX9_joint_180 (by rfl) (fun hx => absurd hx (by decide)) (fun _ => ?_)
          refine z_il5 dX9_joint_183 ?_
          refine z_iret dX9_joint_185 rfl (Nat.le_refl _) (Nat.le_refl _) (zext_rf _) (fun hrr => ?_)
          rw [show 61 - k = (61 - (k + 1)) + 1 by omega, zlf, if_pos (by rw [hc9, hp9]; rfl)] at hQ
          exact hQ
set_option maxRecDepth 4000 in
theorem X9_joint_ct {l : Launch} {Γ : zC} {h0 h : zM} {Q : Option zV → zC → zM → Prop} {i j s r : Int} (hI : zIv Γ h0) (hF : zfr zSS h0 h) (hQ : ∀ h9, zfr zSS h0 h9 → Q (some (zI (zvJoint h0 i j s r))) Γ h9) : zCT l mX9_joint 1682 0 0 Γ [zR 89, zI i, zI j, zI s, zI r] h Q := by
  have hΓ := hI.base
  have hx2 := hI.isl
  have hx3 := hI.hnd
  obtain ⟨hd, hhd⟩ := Int.eq_ofNat_of_zero_le (show 0 ≤ h0 89 32 by omega)
  have hdn : (h0 89 32).toNat = hd := by omega
  have hnw := hI.now
  refine zCT_of (by decide) (Nat.le_of_ble_eq_true rfl) (ls := [some (zR 89), some (zI i), some (zI j), some (zI s), some (zI r), none]) rfl ?_
  refine z_al0 dX9_joint_0 (by first | decide | omega | assumption) ?_
  refine z_iconst dX9_joint_1 (by decide) ?_
  refine z_putI zfX9_128 dX9_joint_2 (zkB hΓ rfl) rfl rfl ?_
  replace hF : zfr zSS h0 (zup h 89 0 0) := zfr_up hF rfl
  generalize zup h 89 0 0 = h at hF ⊢
  refine z_al0 dX9_joint_5 (by first | decide | omega | assumption) ?_
  refine z_il1 dX9_joint_6 ?_
  refine zcv1 dX9_joint_7 zkX9_299 ziX9_isIsle zsX9_isIsle (zkB hΓ rfl) (by decide) rfl (Nat.le_of_ble_eq_true rfl) (by decide) (by first | decide | omega) ⟨Nat.le_refl _, Nat.le_refl _⟩ (X9_isIsle_ct hI hF (fun hg1 _ => ?_) (fun hg1 _ => ?_))
  · try simp only [zup_ap, zup_row, ne_eq, not_false_eq_true, zres, Int.toNat_natCast, reduceIte, Nat.reduceEqDiff, Nat.reduceAdd, and_self, and_true, true_and, and_false, false_and]
    refine z_if_eq (t := 46) dX9_joint_10 (by rfl) (fun _ => ?_) (fun hx => absurd hx (by decide))
    refine z_iconst dX9_joint_46 (by decide) ?_
    refine z_iret dX9_joint_47 rfl (Nat.le_refl _) (Nat.le_refl _) (zext_rf _) (fun hrr => ?_)
    have hw9 := hQ _ hF
    unfold zvJoint at hw9
    rw [if_neg (by omega)] at hw9
    exact hw9
  · try simp only [zup_ap, zup_row, ne_eq, not_false_eq_true, zres, Int.toNat_natCast, reduceIte, Nat.reduceEqDiff, Nat.reduceAdd, and_self, and_true, true_and, and_false, false_and]
    refine z_if_eq (t := 46) dX9_joint_10 (by rfl) (fun hx => absurd hx (by decide)) (fun _ => ?_)
    refine z_al0 dX9_joint_13 (by first | decide | omega | assumption) ?_
    refine z_il2 dX9_joint_14 ?_
    refine zcv1 dX9_joint_15 zkX9_299 ziX9_isIsle zsX9_isIsle (zkB hΓ rfl) (by decide) rfl (Nat.le_of_ble_eq_true rfl) (by decide) (by first | decide | omega) ⟨Nat.le_refl _, Nat.le_refl _⟩ (X9_isIsle_ct hI hF (fun hg2 _ => ?_) (fun hg2 _ => ?_))
    · try simp only [zup_ap, zup_row, ne_eq, not_false_eq_true, zres, Int.toNat_natCast, reduceIte, Nat.reduceEqDiff, Nat.reduceAdd, and_self, and_true, true_and, and_false, false_and]
      refine z_if_eq (t := 46) dX9_joint_18 (by rfl) (fun _ => ?_) (fun hx => absurd hx (by decide))
      refine z_iconst dX9_joint_46 (by decide) ?_
      refine z_iret dX9_joint_47 rfl (Nat.le_refl _) (Nat.le_refl _) (zext_rf _) (fun hrr => ?_)
      have hw9 := hQ _ hF
      unfold zvJoint at hw9
      rw [if_neg (by omega)] at hw9
      exact hw9
    · try simp only [zup_ap, zup_row, ne_eq, not_false_eq_true, zres, Int.toNat_natCast, reduceIte, Nat.reduceEqDiff, Nat.reduceAdd, and_self, and_true, true_and, and_false, false_and]
      refine z_if_eq (t := 46) dX9_joint_18 (by rfl) (fun hx => absurd hx (by decide)) (fun _ => ?_)
      refine z_il1 dX9_joint_21 ?_
      refine z_il2 dX9_joint_22 ?_
      refine z_icmp_eq (t := 46) dX9_joint_23 (by rfl) (fun ht23 => ?_) (fun hf23 => ?_)
      · refine z_iconst dX9_joint_46 (by decide) ?_
        refine z_iret dX9_joint_47 rfl (Nat.le_refl _) (Nat.le_refl _) (zext_rf _) (fun hrr => ?_)
        have hw9 := hQ _ hF
        unfold zvJoint at hw9
        rw [if_neg (by omega)] at hw9
        exact hw9
      · refine z_il3 dX9_joint_26 ?_
        refine z_i2l dX9_joint_27 ?_
        refine z_lconst (x := 1) dX9_joint_28 (by rfl) (by decide) ?_
        refine z_ldc2 (x := 200) dX9_joint_29 zqX9_332 (by decide) ?_
        refine zcs3 dX9_joint_32 zkX9_261 ztX9_isIn (Nat.le_of_ble_eq_true rfl) (by decide) (by first | decide | omega) ⟨Nat.le_refl _, Nat.le_refl _⟩ (X9_isIn_ct (fun hg4 _ => ?_) (fun hg4 _ => ?_))
        · try simp only [zup_ap, zup_row, ne_eq, not_false_eq_true, zres, Int.toNat_natCast, reduceIte, Nat.reduceEqDiff, Nat.reduceAdd, and_self, and_true, true_and, and_false, false_and]
          refine z_if_eq (t := 46) dX9_joint_35 (by rfl) (fun _ => ?_) (fun hx => absurd hx (by decide))
          refine z_iconst dX9_joint_46 (by decide) ?_
          refine z_iret dX9_joint_47 rfl (Nat.le_refl _) (Nat.le_refl _) (zext_rf _) (fun hrr => ?_)
          have hw9 := hQ _ hF
          unfold zvJoint at hw9
          rw [if_neg (by omega)] at hw9
          exact hw9
        · try simp only [zup_ap, zup_row, ne_eq, not_false_eq_true, zres, Int.toNat_natCast, reduceIte, Nat.reduceEqDiff, Nat.reduceAdd, and_self, and_true, true_and, and_false, false_and]
          refine z_if_eq (t := 46) dX9_joint_35 (by rfl) (fun hx => absurd hx (by decide)) (fun _ => ?_)
          refine z_il4 dX9_joint_38 ?_
          refine zcs1 dX9_joint_40 zkX9_334 ztX9_areRules (Nat.le_of_ble_eq_true rfl) (by decide) (by first | decide | omega) ⟨Nat.le_refl _, Nat.le_refl _⟩ (X9_areRules_ct (fun hg3 _ => ?_) (fun hg3 _ => ?_))
          · try simp only [zup_ap, zup_row, ne_eq, not_false_eq_true, zres, Int.toNat_natCast, reduceIte, Nat.reduceEqDiff, Nat.reduceAdd, and_self, and_true, true_and, and_false, false_and]
            refine z_if_ne (t := 48) dX9_joint_43 (by rfl) (fun hx => absurd hx (by decide)) (fun _ => ?_)
            refine z_iconst dX9_joint_46 (by decide) ?_
            refine z_iret dX9_joint_47 rfl (Nat.le_refl _) (Nat.le_refl _) (zext_rf _) (fun hrr => ?_)
            have hw9 := hQ _ hF
            unfold zvJoint at hw9
            rw [if_neg (by omega)] at hw9
            exact hw9
          · try simp only [zup_ap, zup_row, ne_eq, not_false_eq_true, zres, Int.toNat_natCast, reduceIte, Nat.reduceEqDiff, Nat.reduceAdd, and_self, and_true, true_and, and_false, false_and]
            refine z_if_ne (t := 48) dX9_joint_43 (by rfl) (fun _ => ?_) (fun hx => absurd hx (by decide))
            refine z_al0 dX9_joint_48 (by first | decide | omega | assumption) ?_
            refine z_il1 dX9_joint_49 ?_
            refine z_al0 dX9_joint_50 (by first | decide | omega | assumption) ?_
            refine z_getI zfX9_288 dX9_joint_51 (zkB hΓ rfl) rfl ?_
            rw [hF 89 29 rfl]
            try simp only [zup_ap, zup_row, ne_eq, not_false_eq_true, zres, Int.toNat_natCast, reduceIte, Nat.reduceEqDiff, Nat.reduceAdd, and_self, and_true, true_and, and_false, false_and]
            refine zcv2 dX9_joint_54 zkX9_337 ziX9_layBad zsX9_layBad (zkB hΓ rfl) (by decide) rfl (Nat.le_of_ble_eq_true rfl) (by decide) (by first | decide | omega) ⟨Nat.le_refl _, Nat.le_refl _⟩ (X9_layBad_ct hI hF hg1 (fun h2 hA2 hB2 _ => ?_))
            try simp only [zup_ap, zup_row, ne_eq, not_false_eq_true, zres, Int.toNat_natCast, reduceIte, Nat.reduceEqDiff, Nat.reduceAdd, and_self, and_true, true_and, and_false, false_and]
            replace hF := zfr_B hF zs102 hA2
            refine z_iconst dX9_joint_57 (by decide) ?_
            refine z_is5 dX9_joint_58 (Nat.le_of_ble_eq_true rfl) rfl ?_
            refine X9_joint_a hΓ (fun n hn => by rw [hB2 n hn]; exact zFo_01 _ _ _ _) (fun h3 hE3 hC3 => ?_) _ 0 _ (Nat.lt_succ_self _) (by omega) (fun q _ => rfl) (fun n hn => absurd hn (by omega))
            replace hF := zfr_1 hF (fun _ => rfl) hE3
            refine z_al0 dX9_joint_88 (by first | decide | omega | assumption) ?_
            refine z_il2 dX9_joint_89 ?_
            refine z_al0 dX9_joint_90 (by first | decide | omega | assumption) ?_
            refine z_getI zfX9_288 dX9_joint_91 (zkB hΓ rfl) rfl ?_
            rw [hF 89 29 rfl]
            try simp only [zup_ap, zup_row, ne_eq, not_false_eq_true, zres, Int.toNat_natCast, reduceIte, Nat.reduceEqDiff, Nat.reduceAdd, and_self, and_true, true_and, and_false, false_and]
            refine zcv2 dX9_joint_94 zkX9_337 ziX9_layBad zsX9_layBad (zkB hΓ rfl) (by decide) rfl (Nat.le_of_ble_eq_true rfl) (by decide) (by first | decide | omega) ⟨Nat.le_refl _, Nat.le_refl _⟩ (X9_layBad_ct hI hF hg2 (fun h4 hA4 hB4 _ => ?_))
            try simp only [zup_ap, zup_row, ne_eq, not_false_eq_true, zres, Int.toNat_natCast, reduceIte, Nat.reduceEqDiff, Nat.reduceAdd, and_self, and_true, true_and, and_false, false_and]
            replace hF := zfr_B hF zs102 hA4
            refine z_iconst dX9_joint_97 (by decide) ?_
            refine z_is5 dX9_joint_98 (Nat.le_of_ble_eq_true rfl) rfl ?_
            refine X9_joint_b hΓ (c := zbF h0 i (h0 89 29)) (fun n hn => by rw [hA4.1 117 (by decide) (by decide) (by decide), hC3 n hn, hB2 n hn]) (fun h5 hE5 hD5 => ?_) _ 0 _ (Nat.lt_succ_self _) (by omega) (fun q _ => rfl) (fun n hn => absurd hn (by omega)) (fun n _ => rfl)
            replace hF := zfr_1 hF zs102 hE5
            have hB5 : ∀ n, n ≤ 200 → h5 102 n = zbJ h0 i j (h0 89 29) n := fun n hn => by rw [hD5 n hn, hB4 n hn]; rfl
            obtain ⟨s9, rfl⟩ := Int.eq_ofNat_of_zero_le (show 0 ≤ s by omega)
            refine z_al0 dX9_joint_146 (by first | decide | omega | assumption) ?_
            refine z_il4 dX9_joint_147 ?_
            refine zcv1 dX9_joint_149 zkX9_353 ziX9_layComes zsX9_layComes (zkB hΓ rfl) (by decide) rfl (Nat.le_of_ble_eq_true rfl) (by decide) (by first | decide | omega) ⟨Nat.le_refl _, Nat.le_refl _⟩ (X9_layComes_ct hI hF hhd hg3 hB5 (fun h6 hE6 hC6 _ => ?_))
            try simp only [zup_ap, zup_row, ne_eq, not_false_eq_true, zres, Int.toNat_natCast, reduceIte, Nat.reduceEqDiff, Nat.reduceAdd, and_self, and_true, true_and, and_false, false_and]
            replace hF := zfr_1 hF zs103 hE6
            have hw9 := hQ _ hF
            unfold zvJoint at hw9
            rw [if_pos (by omega)] at hw9
            rw [hdn, Int.toNat_natCast] at hw9
            refine z_iconst dX9_joint_152 (by decide) ?_
            refine z_is5 dX9_joint_153 (Nat.le_of_ble_eq_true rfl) rfl ?_
            exact X9_joint_c (by omega) hΓ hg3 (fun n hn => by rw [hE6 102 (by decide)]; exact hB5 n hn) hC6 _ 1 (Nat.lt_succ_self _) (by omega) (by omega) hw9
theorem zsc_b (f : Nat → Bool) : ∀ (m a : Nat) (n : Int), n ≤ zsc f (-1) m a n ∧ zsc f (-1) m a n ≤ n + m ∨ n < 0
  | 0, _, _ => Or.inl ⟨Int.le_refl _, by rw [zsc_0, if_pos rfl]; omega⟩
  | m + 1, a, n => by
    by_cases hn : n < 0
    · exact Or.inr hn
    cases h : f a with
    | true =>
      rw [zsc_u h (by omega)]
      rcases zsc_b f m (a + 1) (n + 1) with h1 | h1
      · exact Or.inl ⟨by omega, by omega⟩
      · omega
    | false =>
      rw [zsc_f h]
      rcases zsc_b f m (a + 1) n with h1 | h1
      · exact Or.inl ⟨by omega, by omega⟩
      · omega
/-- how many SUMS can't be paid where so a number is taboo -/
def zun (h : zM) (i r : Int) (t : Nat) : Int := zsc (zup9 (fun n => zFb h i (n : Int) (h 89 29) (t : Int)) r (h 89 32).toNat) (-1) 200 1 0
theorem zun_0 (h : zM) (i r : Int) (t : Nat) : 0 ≤ zun h i r t ∧ zun h i r t ≤ 200 := by
  rcases zsc_b (zup9 (fun n => zFb h i (n : Int) (h 89 29) (t : Int)) r (h 89 32).toNat) 200 1 0 with h1 | h1
  · unfold zun; omega
  · exact absurd h1 (by decide)
def zwsF (h : zM) (i r : Int) : Nat → Int × Int
  | 0 => (-1, -1)
  | k + 1 => if (zwsF h i r k).2 < zun h i r (k + 1) then (((k + 1 : Nat) : Int), zun h i r (k + 1)) else zwsF h i r k
theorem zwsF_y {h : zM} {i r : Int} {k : Nat} (e : (zwsF h i r k).2 < zun h i r (k + 1)) : zwsF h i r (k + 1) = (((k + 1 : Nat) : Int), zun h i r (k + 1)) := by rw [zwsF, if_pos e]
theorem zwsF_n {h : zM} {i r : Int} {k : Nat} (e : ¬ (zwsF h i r k).2 < zun h i r (k + 1)) : zwsF h i r (k + 1) = zwsF h i r k := by rw [zwsF, if_neg e]
theorem zwsF_1 (h : zM) (i r : Int) : ∀ k, (zwsF h i r (k + 1)).1 ≠ -1 ∧ 0 ≤ (zwsF h i r (k + 1)).2
  | 0 => by
    have := zun_0 h i r 1
    rw [zwsF_y (show (-1 : Int) < zun h i r (0 + 1) by show _ < zun h i r 1; omega)]
    exact ⟨(by show ((0 + 1 : Nat) : Int) ≠ -1; decide), this.1⟩
  | k + 1 => by
    by_cases e : (zwsF h i r (k + 1)).2 < zun h i r (k + 1 + 1)
    · rw [zwsF_y e]; exact ⟨by show ((k + 1 + 1 : Nat) : Int) ≠ -1; omega, (zun_0 h i r _).1⟩
    · rw [zwsF_n e]; exact zwsF_1 h i r k
def zvWorst (h : zM) (i r j : Int) : Int := if (0 ≤ i ∧ i < h 89 22) ∧ (0 ≤ r ∧ r ≤ 7) ∧ (0 ≤ j ∧ j ≤ 1) then (if j = 0 then (zwsF h i r 30).1 else (zwsF h i r 30).2) else -1
set_option maxRecDepth 4000 in
theorem X8_worst_l {l : Launch} {Γ : zC} {h0 : zM} {Q : Option zV → zC → zM → Prop} {i r j : Int} {hd : Nat} (hI : zIv Γ h0) (hv : 0 ≤ i ∧ i < h0 89 22) (hr7 : 0 ≤ r ∧ r ≤ 7) (hdn : (h0 89 32).toNat = hd) (hQ : ∀ h9, zfr zSS h0 h9 → Q (some (zI (if j = 0 then (zwsF h0 i r 30).1 else (zwsF h0 i r 30).2))) Γ h9) : ∀ (m : Nat) (k : Nat) {y7 : Option zV} (h : zM), 30 - k < m → k ≤ 30 → zfr zSS h0 h → h 41 4 = (hd : Int) → h 41 5 = r → zG (zFn l mX8_worst 5 0 0 Γ Q) 0 0 Γ h 50 [some (zR 1), some (zI i), some (zI r), some (zI j), some (zI (zwsF h0 i r k).1), some (zI (zwsF h0 i r k).2), some (zI ((k + 1 : Nat) : Int)), y7] [] := by
  have hΓ := hI.base
  have hx2 := hI.isl
  have hnw := hI.now
  have hx3 := hI.hnd
  intro m
  induction m with
  | zero => intros; omega
  | succ m ih =>
    intro k y7 h hm hk hF h414 h415
    refine z_il6 dX8_worst_50 ?_
    refine z_bipush (x := 30) dX8_worst_52 (by rfl) (by decide) ?_
    refine z_icmp_gt (t := 121) dX8_worst_54 (by rfl) (fun ht54 => ?_) (fun hf54 => ?_)
    · refine z_il3 dX8_worst_121 ?_
      refine z_if_ne (t := 130) dX8_worst_122 (by rfl) (fun ht122 => ?_) (fun hf122 => ?_)
      · refine z_il5 dX8_worst_130 ?_
        refine z_iret dX8_worst_132 rfl (Nat.le_refl _) (Nat.le_refl _) (zext_rf _) (fun hrr => ?_)
        have ek : k = 30 := by omega
        subst ek
        have hw9 := hQ _ hF
        first | (rw [if_pos (by omega)] at hw9; exact hw9) | (rw [if_neg (by omega)] at hw9; exact hw9)
      · refine z_il4 dX8_worst_125 ?_
        refine z_goto (t := 132) dX8_worst_127 (by rfl) ?_
        refine z_iret dX8_worst_132 rfl (Nat.le_refl _) (Nat.le_refl _) (zext_rf _) (fun hrr => ?_)
        have ek : k = 30 := by omega
        subst ek
        have hw9 := hQ _ hF
        first | (rw [if_pos (by omega)] at hw9; exact hw9) | (rw [if_neg (by omega)] at hw9; exact hw9)
    · refine z_al0 dX8_worst_57 (by first | decide | omega | assumption) ?_
      refine z_getR zfX8_35 dX8_worst_58 (zkB hΓ rfl) rfl (zsB hΓ rfl) (zvB hΓ (by decide)) ?_
      refine z_al0 dX8_worst_61 (by first | decide | omega | assumption) ?_
      refine z_getR zfX8_49 dX8_worst_62 (zkB hΓ rfl) rfl (zsB hΓ rfl) (zvB hΓ (by decide)) ?_
      refine z_getR zfX8_281 dX8_worst_65 (zkB hΓ rfl) rfl (zsB hΓ rfl) (zvB hΓ (by decide)) ?_
      refine z_il1 dX8_worst_68 ?_
      refine z_al0 dX8_worst_69 (by first | decide | omega | assumption) ?_
      refine z_getR zfX8_35 dX8_worst_70 (zkB hΓ rfl) rfl (zsB hΓ rfl) (zvB hΓ (by decide)) ?_
      refine z_getR zfX8_190 dX8_worst_73 (zkB hΓ rfl) rfl (zsB hΓ rfl) (zvB hΓ (by decide)) ?_
      refine z_getI zfX8_193 dX8_worst_76 (zkB hΓ rfl) rfl ?_
      rw [hF 25 0 rfl, hI.now.1]
      try simp only [zup_ap, zup_row, ne_eq, not_false_eq_true, zres, Int.toNat_natCast, reduceIte, Nat.reduceEqDiff, Nat.reduceAdd, and_self, and_true, true_and, and_false, false_and]
      refine z_il6 dX8_worst_79 ?_
      refine zcv4 dX8_worst_81 zkX8_292 ziX7_bar zsX7_bar (zkB hΓ rfl) (by decide) rfl (Nat.le_of_ble_eq_true rfl) (by decide) (by first | decide | omega) ⟨Nat.le_refl _, Nat.le_refl _⟩ (X7_bar_ct hI hF hv (fun h2 hA2 hB2 _ => ?_))
      try simp only [zup_ap, zup_row, ne_eq, not_false_eq_true, zres, Int.toNat_natCast, reduceIte, Nat.reduceEqDiff, Nat.reduceAdd, and_self, and_true, true_and, and_false, false_and]
      have hP : zPu h2 (fun n => zFb h0 i (n : Int) (h0 89 29) ((k + 1 : Nat) : Int)) r hd := ⟨hB2, by rw [hA2 41 (by decide) (by decide)]; exact h415, by rw [hA2 41 (by decide) (by decide)]; exact h414, hr7, by omega⟩
      have hF2 := zfr_A hF hA2
      refine z_al0 dX8_worst_84 (by first | decide | omega | assumption) ?_
      refine z_getR zfX8_49 dX8_worst_85 (zkB hΓ rfl) rfl (zsB hΓ rfl) (zvB hΓ (by decide)) ?_
      refine zcv0 dX8_worst_88 zkX8_168 ziX4_countForward zsX4_countForward (zkB hΓ rfl) (by decide) rfl (Nat.le_of_ble_eq_true rfl) (by decide) (by first | decide | omega) ⟨Nat.le_refl _, Nat.le_refl _⟩ (X4_countForward_ct hΓ hP (fun h3 hE3 hC3 _ => ?_))
      try simp only [zup_ap, zup_row, ne_eq, not_false_eq_true, zres, Int.toNat_natCast, reduceIte, Nat.reduceEqDiff, Nat.reduceAdd, and_self, and_true, true_and, and_false, false_and]
      have hP3 := zPu_cg hP (fun q a _ _ => hE3 q a)
      have hF3 := zfr_1 hF2 zs43 hE3
      
      refine z_al0 dX8_worst_91 (by first | decide | omega | assumption) ?_
      refine z_getR zfX8_49 dX8_worst_92 (zkB hΓ rfl) rfl (zsB hΓ rfl) (zvB hΓ (by decide)) ?_
      refine zcv0 dX8_worst_95 zkX8_171 ziX4_unpaid zsX4_unpaid (zkB hΓ rfl) (by decide) rfl (Nat.le_of_ble_eq_true rfl) (by decide) (by first | decide | omega) ⟨Nat.le_refl _, Nat.le_refl _⟩ (X4_unpaid_ct hΓ hP3 hC3 (fun _ => ?_))
      try simp only [zup_ap, zup_row, ne_eq, not_false_eq_true, zres, Int.toNat_natCast, reduceIte, Nat.reduceEqDiff, Nat.reduceAdd, and_self, and_true, true_and, and_false, false_and]
      rw [← hdn]
      change zG _ _ _ _ _ _ _ (zI (zun h0 i r (k + 1)) :: _)
      have hz1 := zwsF_y (h := h0) (i := i) (r := r) (k := k)
      have hz2 := zwsF_n (h := h0) (i := i) (r := r) (k := k)
      refine z_is7 dX8_worst_98 (Nat.le_of_ble_eq_true rfl) rfl ?_
      refine z_il7 dX8_worst_100 ?_
      refine z_il5 dX8_worst_102 ?_
      refine z_icmp_le (t := 115) dX8_worst_104 (by rfl) (fun ht104 => ?_) (fun hf104 => ?_)
      · refine z_ii6 dX8_worst_115 (by omega) (Nat.le_of_ble_eq_true rfl) rfl ?_
        refine z_goto (t := 50) dX8_worst_118 (by rfl) ?_
        have ih9 := ih (k + 1) (y7 := some (zI (zun h0 i r (k + 1)))) h3 (by omega) (by omega) hF3 (by rw [hE3 41 (by decide), hA2 41 (by decide) (by decide)]; exact h414) (by rw [hE3 41 (by decide), hA2 41 (by decide) (by decide)]; exact h415)
        first
        | (rw [hz1 (by omega)] at ih9; exact ih9)
        | (rw [hz2 (by omega)] at ih9; exact ih9)
      · refine z_il7 dX8_worst_107 ?_
        refine z_is5 dX8_worst_109 (Nat.le_of_ble_eq_true rfl) rfl ?_
        refine z_il6 dX8_worst_111 ?_
        refine z_is4 dX8_worst_113 (Nat.le_of_ble_eq_true rfl) rfl ?_
        refine z_ii6 dX8_worst_115 (by omega) (Nat.le_of_ble_eq_true rfl) rfl ?_
        refine z_goto (t := 50) dX8_worst_118 (by rfl) ?_
        have ih9 := ih (k + 1) (y7 := some (zI (zun h0 i r (k + 1)))) h3 (by omega) (by omega) hF3 (by rw [hE3 41 (by decide), hA2 41 (by decide) (by decide)]; exact h414) (by rw [hE3 41 (by decide), hA2 41 (by decide) (by decide)]; exact h415)
        first
        | (rw [hz1 (by omega)] at ih9; exact ih9)
        | (rw [hz2 (by omega)] at ih9; exact ih9)
set_option maxRecDepth 4000 in
theorem X8_worst_ct {l : Launch} {Γ : zC} {h0 h : zM} {Q : Option zV → zC → zM → Prop} {i r j : Int} (hI : zIv Γ h0) (hF : zfr zSS h0 h) (hQ : ∀ h9, zfr zSS h0 h9 → Q (some (zI (zvWorst h0 i r j))) Γ h9) : zCT l mX8_worst 5 0 0 Γ [zR 1, zI i, zI r, zI j] h Q := by
  have hΓ := hI.base
  have hx2 := hI.isl
  have hx3 := hI.hnd
  obtain ⟨hd, hhd⟩ := Int.eq_ofNat_of_zero_le (show 0 ≤ h0 89 32 by omega)
  have hdn : (h0 89 32).toNat = hd := by omega
  have hnw := hI.now
  refine zCT_of (by decide) (Nat.le_of_ble_eq_true rfl) (ls := [some (zR 1), some (zI i), some (zI r), some (zI j), none, none, none, none]) rfl ?_
  refine z_al0 dX8_worst_0 (by first | decide | omega | assumption) ?_
  refine z_getR zfX8_35 dX8_worst_1 (zkB hΓ rfl) rfl (zsB hΓ rfl) (zvB hΓ (by decide)) ?_
  refine z_il1 dX8_worst_4 ?_
  refine zcv1 dX8_worst_5 zkX8_114 ziX7_isIsle zsX7_isIsle (zkB hΓ rfl) (by decide) rfl (Nat.le_of_ble_eq_true rfl) (by decide) (by first | decide | omega) ⟨Nat.le_refl _, Nat.le_refl _⟩ (X7_isIsle_ct hI hF (fun hg1 _ => ?_) (fun hg1 _ => ?_))
  · try simp only [zup_ap, zup_row, ne_eq, not_false_eq_true, zres, Int.toNat_natCast, reduceIte, Nat.reduceEqDiff, Nat.reduceAdd, and_self, and_true, true_and, and_false, false_and]
    refine z_if_eq (t := 27) dX8_worst_8 (by rfl) (fun _ => ?_) (fun hx => absurd hx (by decide))
    refine z_iconst dX8_worst_27 (by decide) ?_
    refine z_iret dX8_worst_28 rfl (Nat.le_refl _) (Nat.le_refl _) (zext_rf _) (fun hrr => ?_)
    have hw9 := hQ _ hF
    unfold zvWorst at hw9
    rw [if_neg (by omega)] at hw9
    exact hw9
  · try simp only [zup_ap, zup_row, ne_eq, not_false_eq_true, zres, Int.toNat_natCast, reduceIte, Nat.reduceEqDiff, Nat.reduceAdd, and_self, and_true, true_and, and_false, false_and]
    refine z_if_eq (t := 27) dX8_worst_8 (by rfl) (fun hx => absurd hx (by decide)) (fun _ => ?_)
    refine z_il2 dX8_worst_11 ?_
    refine zcs1 dX8_worst_12 zkX8_165 ztX8_isRules (Nat.le_of_ble_eq_true rfl) (by decide) (by first | decide | omega) ⟨Nat.le_refl _, Nat.le_refl _⟩ (X8_isRules_ct (fun hg2 _ => ?_) (fun hg2 _ => ?_))
    · try simp only [zup_ap, zup_row, ne_eq, not_false_eq_true, zres, Int.toNat_natCast, reduceIte, Nat.reduceEqDiff, Nat.reduceAdd, and_self, and_true, true_and, and_false, false_and]
      refine z_if_eq (t := 27) dX8_worst_15 (by rfl) (fun _ => ?_) (fun hx => absurd hx (by decide))
      refine z_iconst dX8_worst_27 (by decide) ?_
      refine z_iret dX8_worst_28 rfl (Nat.le_refl _) (Nat.le_refl _) (zext_rf _) (fun hrr => ?_)
      have hw9 := hQ _ hF
      unfold zvWorst at hw9
      rw [if_neg (by omega)] at hw9
      exact hw9
    · try simp only [zup_ap, zup_row, ne_eq, not_false_eq_true, zres, Int.toNat_natCast, reduceIte, Nat.reduceEqDiff, Nat.reduceAdd, and_self, and_true, true_and, and_false, false_and]
      refine z_if_eq (t := 27) dX8_worst_15 (by rfl) (fun hx => absurd hx (by decide)) (fun _ => ?_)
      refine z_il3 dX8_worst_18 ?_
      refine z_if_lt (t := 27) dX8_worst_19 (by rfl) (fun ht19 => ?_) (fun hf19 => ?_)
      · refine z_iconst dX8_worst_27 (by decide) ?_
        refine z_iret dX8_worst_28 rfl (Nat.le_refl _) (Nat.le_refl _) (zext_rf _) (fun hrr => ?_)
        have hw9 := hQ _ hF
        unfold zvWorst at hw9
        rw [if_neg (by omega)] at hw9
        exact hw9
      · refine z_il3 dX8_worst_22 ?_
        refine z_iconst dX8_worst_23 (by decide) ?_
        refine z_icmp_le (t := 29) dX8_worst_24 (by rfl) (fun ht24 => ?_) (fun hf24 => ?_)
        · refine z_al0 dX8_worst_29 (by first | decide | omega | assumption) ?_
          refine z_getR zfX8_49 dX8_worst_30 (zkB hΓ rfl) rfl (zsB hΓ rfl) (zvB hΓ (by decide)) ?_
          refine z_al0 dX8_worst_33 (by first | decide | omega | assumption) ?_
          refine z_getI zfX8_79 dX8_worst_34 (zkB hΓ rfl) rfl ?_
          rw [hF 1 11 rfl, hI.hnd.1, hhd]
          try simp only [zup_ap, zup_row, ne_eq, not_false_eq_true, zres, Int.toNat_natCast, reduceIte, Nat.reduceEqDiff, Nat.reduceAdd, and_self, and_true, true_and, and_false, false_and]
          refine z_il2 dX8_worst_37 ?_
          refine zcv2 dX8_worst_38 zkX8_288 ziX4_open zsX4_open (zkB hΓ rfl) (by decide) rfl (Nat.le_of_ble_eq_true rfl) (by decide) (by first | decide | omega) ⟨Nat.le_refl _, Nat.le_refl _⟩ (X4_open_ct hΓ (fun _ => ?_))
          try simp only [zup_ap, zup_row, ne_eq, not_false_eq_true, zres, Int.toNat_natCast, reduceIte, Nat.reduceEqDiff, Nat.reduceAdd, and_self, and_true, true_and, and_false, false_and]
          refine z_iconst dX8_worst_41 (by decide) ?_
          refine z_is4 dX8_worst_42 (Nat.le_of_ble_eq_true rfl) rfl ?_
          refine z_iconst dX8_worst_44 (by decide) ?_
          refine z_is5 dX8_worst_45 (Nat.le_of_ble_eq_true rfl) rfl ?_
          refine z_iconst dX8_worst_47 (by decide) ?_
          refine z_is6 dX8_worst_48 (Nat.le_of_ble_eq_true rfl) rfl ?_
          refine X8_worst_l hI hg1 hg2 hdn (fun h9 hF9 => ?_) _ 0 _ (Nat.lt_succ_self _) (by omega) (zfr_up (zfr_up hF rfl) rfl) rfl rfl
          have hw9 := hQ _ hF9
          unfold zvWorst at hw9
          rw [if_pos (by omega)] at hw9
          exact hw9
        · refine z_iconst dX8_worst_27 (by decide) ?_
          refine z_iret dX8_worst_28 rfl (Nat.le_refl _) (Nat.le_refl _) (zext_rf _) (fun hrr => ?_)
          have hw9 := hQ _ hF
          unfold zvWorst at hw9
          rw [if_neg (by omega)] at hw9
          exact hw9
set_option maxRecDepth 4000 in
theorem X9_cantBe_l {l : Launch} {Γ : zC} {h : zM} {Q : Option zV → zC → zM → Prop} {b : Nat → Int} {hd : Nat} {i r : Int} (hΓ : zBase Γ) (hr7 : 0 ≤ r ∧ r ≤ 7) (hB : ∀ n, n ≤ 200 → h 102 n = b n) (hC : ∀ k, k ≤ 60 → ∀ t, t ≤ 200 → h 103 (201 * k + t) = if zcm b r hd k t then 1 else 0) : ∀ (m : Nat) (s : Nat) (n : Int), 201 - s < m → 1 ≤ s → s ≤ 201 → (0 ≤ n ∧ n < s) → Q (some (zI (zsc (zup9 b r hd) (-1) (201 - s) s n))) Γ h → zG (zFn l mX9_cantBe 1682 0 0 Γ Q) 0 0 Γ h 19 [some (zR 89), some (zI i), some (zI r), some (zI n), some (zI (s : Int))] [] := by
  intro m
  induction m with
  | zero => intros; omega
  | succ m ih =>
    intro s n hm hk1 hk2 hn hQ
    refine z_il4 dX9_cantBe_19 ?_
    refine z_sipush (x := 200) dX9_cantBe_21 (by rfl) (by decide) ?_
    refine z_icmp_gt (t := 51) dX9_cantBe_24 (by rfl) (fun ht24 => ?_) (fun hf24 => ?_)
    · refine z_il3 dX9_cantBe_51 ?_
      refine z_iret dX9_cantBe_52 rfl (Nat.le_refl _) (Nat.le_refl _) (zext_rf _) (fun hrr => ?_)
      rw [show 201 - s = 0 by omega, zsc_0, if_pos rfl] at hQ
      exact hQ
    · refine z_il3 dX9_cantBe_27 ?_
      refine z_al0 dX9_cantBe_28 (by first | decide | omega | assumption) ?_
      refine z_il4 dX9_cantBe_29 ?_
      refine z_il2 dX9_cantBe_31 ?_
      refine zcv2 dX9_cantBe_32 zkX9_356 ziX9_isPaid zsX9_isPaid (zkB hΓ rfl) (by decide) rfl (Nat.le_of_ble_eq_true rfl) (by decide) (by first | decide | omega) ⟨Nat.le_refl _, Nat.le_refl _⟩ (X9_isPaid_ct hΓ hr7 hB (s := s) (by omega) hC (fun hp9 _ => ?_) (fun hp9 _ => ?_))
      · try simp only [zup_ap, zup_row, ne_eq, not_false_eq_true, zres, Int.toNat_natCast, reduceIte, Nat.reduceEqDiff, Nat.reduceAdd, and_self, and_true, true_and, and_false, false_and]
        refine z_if_eq (t := 42) dX9_cantBe_35 (by rfl) (fun _ => ?_) (fun hx => absurd hx (by decide))
        refine z_iconst dX9_cantBe_42 (by decide) ?_
        refine z_iadd dX9_cantBe_43 (by omega) ?_
        refine z_is3 dX9_cantBe_44 (Nat.le_of_ble_eq_true rfl) rfl ?_
        refine z_ii4 dX9_cantBe_45 (by omega) (Nat.le_of_ble_eq_true rfl) rfl ?_
        refine z_goto (t := 19) dX9_cantBe_48 (by rfl) ?_
        rw [show 201 - s = (201 - (s + 1)) + 1 by omega] at hQ
        first
        | (rw [zsc_f (by unfold zup9; rw [hp9]; rfl)] at hQ
           exact ih (s + 1) _ (by omega) (by omega) (by omega) (by omega) (by rw [Int.add_zero]; exact hQ))
        | (rw [zsc_u (by unfold zup9; rw [hp9]; rfl) (by omega)] at hQ
           exact ih (s + 1) _ (by omega) (by omega) (by omega) (by omega) hQ)
      · try simp only [zup_ap, zup_row, ne_eq, not_false_eq_true, zres, Int.toNat_natCast, reduceIte, Nat.reduceEqDiff, Nat.reduceAdd, and_self, and_true, true_and, and_false, false_and]
        refine z_if_eq (t := 42) dX9_cantBe_35 (by rfl) (fun hx => absurd hx (by decide)) (fun _ => ?_)
        refine z_iconst dX9_cantBe_38 (by decide) ?_
        refine z_goto (t := 43) dX9_cantBe_39 (by rfl) ?_
        refine z_iadd dX9_cantBe_43 (by omega) ?_
        refine z_is3 dX9_cantBe_44 (Nat.le_of_ble_eq_true rfl) rfl ?_
        refine z_ii4 dX9_cantBe_45 (by omega) (Nat.le_of_ble_eq_true rfl) rfl ?_
        refine z_goto (t := 19) dX9_cantBe_48 (by rfl) ?_
        rw [show 201 - s = (201 - (s + 1)) + 1 by omega] at hQ
        first
        | (rw [zsc_f (by unfold zup9; rw [hp9]; rfl)] at hQ
           exact ih (s + 1) _ (by omega) (by omega) (by omega) (by omega) (by rw [Int.add_zero]; exact hQ))
        | (rw [zsc_u (by unfold zup9; rw [hp9]; rfl) (by omega)] at hQ
           exact ih (s + 1) _ (by omega) (by omega) (by omega) (by omega) hQ)
set_option maxRecDepth 4000 in
theorem X9_cantBe_ct {l : Launch} {Γ : zC} {h0 h : zM} {Q : Option zV → zC → zM → Prop} {i r : Int} (hI : zIv Γ h0) (hF : zfr zSS h0 h) (hv : 0 ≤ i ∧ i < h0 89 22) (hr7 : 0 ≤ r ∧ r ≤ 7) (hQ : ∀ h9, zfr zSS h0 h9 → Q (some (zI (zsc (zup9 (zbF h0 i (h0 89 29)) r (h0 89 32).toNat) (-1) 200 1 0))) Γ h9) : zCT l mX9_cantBe 1682 0 0 Γ [zR 89, zI i, zI r] h Q := by
  have hΓ := hI.base
  have hx2 := hI.isl
  have hx3 := hI.hnd
  obtain ⟨hd, hhd⟩ := Int.eq_ofNat_of_zero_le (show 0 ≤ h0 89 32 by omega)
  have hdn : (h0 89 32).toNat = hd := by omega
  have hnw := hI.now
  refine zCT_of (by decide) (Nat.le_of_ble_eq_true rfl) (ls := [some (zR 89), some (zI i), some (zI r), none, none]) rfl ?_
  refine z_al0 dX9_cantBe_0 (by first | decide | omega | assumption) ?_
  refine z_il1 dX9_cantBe_1 ?_
  refine z_al0 dX9_cantBe_2 (by first | decide | omega | assumption) ?_
  refine z_getI zfX9_288 dX9_cantBe_3 (zkB hΓ rfl) rfl ?_
  rw [hF 89 29 rfl]
  try simp only [zup_ap, zup_row, ne_eq, not_false_eq_true, zres, Int.toNat_natCast, reduceIte, Nat.reduceEqDiff, Nat.reduceAdd, and_self, and_true, true_and, and_false, false_and]
  refine zcv2 dX9_cantBe_6 zkX9_337 ziX9_layBad zsX9_layBad (zkB hΓ rfl) (by decide) rfl (Nat.le_of_ble_eq_true rfl) (by decide) (by first | decide | omega) ⟨Nat.le_refl _, Nat.le_refl _⟩ (X9_layBad_ct hI hF hv (fun h2 hA2 hB2 _ => ?_))
  try simp only [zup_ap, zup_row, ne_eq, not_false_eq_true, zres, Int.toNat_natCast, reduceIte, Nat.reduceEqDiff, Nat.reduceAdd, and_self, and_true, true_and, and_false, false_and]
  replace hF := zfr_B hF zs102 hA2
  refine z_al0 dX9_cantBe_9 (by first | decide | omega | assumption) ?_
  refine z_il2 dX9_cantBe_10 ?_
  refine zcv1 dX9_cantBe_11 zkX9_353 ziX9_layComes zsX9_layComes (zkB hΓ rfl) (by decide) rfl (Nat.le_of_ble_eq_true rfl) (by decide) (by first | decide | omega) ⟨Nat.le_refl _, Nat.le_refl _⟩ (X9_layComes_ct hI hF hhd hr7 hB2 (fun h3 hE3 hC3 _ => ?_))
  try simp only [zup_ap, zup_row, ne_eq, not_false_eq_true, zres, Int.toNat_natCast, reduceIte, Nat.reduceEqDiff, Nat.reduceAdd, and_self, and_true, true_and, and_false, false_and]
  have hF9 := zfr_1 hF zs103 hE3
  have hB3 : ∀ n, n ≤ 200 → h3 102 n = zbF h0 i (h0 89 29) n := fun n hn => by rw [hE3 102 (by decide)]; exact hB2 n hn
  have hw9 := hQ _ hF9
  rw [hdn] at hw9
  refine z_iconst dX9_cantBe_14 (by decide) ?_
  refine z_is3 dX9_cantBe_15 (Nat.le_of_ble_eq_true rfl) rfl ?_
  refine z_iconst dX9_cantBe_16 (by decide) ?_
  refine z_is4 dX9_cantBe_17 (Nat.le_of_ble_eq_true rfl) rfl ?_
  exact X9_cantBe_l hΓ hr7 hB3 hC3 _ 1 0 (Nat.lt_succ_self _) (by omega) (by omega) (by omega) hw9
def zS3 (r j : Nat) : Bool := zSS r j || (Nat.beq r 89 && (Nat.beq j 30 || Nat.beq j 31))
theorem zfr_S3 {h0 h : zM} (H : zfr zSS h0 h) : zfr zS3 h0 h := fun r j q => H r j (by unfold zS3 at q; rw [Bool.or_eq_false_iff] at q; exact q.1)
theorem zS3_hi {r j : Nat} (hr : 121 < r) : zS3 r j = Nat.beq (r % 3) 1 := by
  have e : Nat.beq r 89 = false := by
    cases h : Nat.beq r 89 with
    | false => rfl
    | true => exact absurd (Nat.eq_of_beq_eq_true h) (by omega)
  unfold zS3
  rw [zSS_hi hr, e]; simp
theorem zcd_cg {h h' : zM} (e1 : h' 91 = h 91) (e2 : h' 92 = h 92) (c : Nat) : zcd h' c = zcd h c := by unfold zcd zTxt; rw [e1, e2]
theorem zIv_cg {Γ : zC} {h h' : zM} (e : zfr zS3 h h') (H : zIv Γ h) : zIv Γ h' := by
  have R : ∀ r, (∀ j, zS3 r j = false) → h' r = h r := fun r q => funext (fun j => e r j (q j))
  refine zIv.mk H.base ?_ ?_ ?_ ?_ ?_ ?_ ?_ ?_ ?_ ?_ ?_ ?_ ?_ ?_ ?_ ?_ ?_ ?_ ?_ ?_ ?_ ?_ ?_
  · rw [e 89 7 rfl]; exact H.num
  · rw [e 89 6 rfl]; exact H.len
  · rw [e 89 6 rfl, e 2 1 rfl]; exact H.tln
  · rw [e 89 6 rfl, R 3 (fun _ => rfl), R 90 (fun _ => rfl)]; exact H.tap
  · rw [e 89 22 rfl]; exact H.isl
  · rw [e 89 22 rfl, e 16 0 rfl]; exact H.cisl
  · rw [R 17 (fun _ => rfl), R 94 (fun _ => rfl), e 89 22 rfl]; exact H.tab
  · intro a b ha hb
    have ea : h' (19 + a) = h (19 + a) := R _ (fun j => by
      rcases (show a = 0 ∨ a = 1 ∨ a = 2 ∨ a = 3 ∨ a = 4 ∨ a = 5 by omega) with rfl | rfl | rfl | rfl | rfl | rfl <;> rfl)
    rw [ea, R 96 (fun _ => rfl)]; exact H.day a b ha hb
  · rw [e 89 29 rfl, e 25 0 rfl]; exact H.now
  · rw [e 89 28 rfl, e 25 1 rfl]; exact H.chn
  · rw [R 26 (fun _ => rfl), R 27 (fun _ => rfl), R 28 (fun _ => rfl), R 99 (fun _ => rfl), R 100 (fun _ => rfl), R 101 (fun _ => rfl)]; exact H.chr
  · rw [e 89 51 rfl, e 25 2 rfl]; exact H.sdn
  · rw [R 29 (fun _ => rfl), R 30 (fun _ => rfl), R 31 (fun _ => rfl), R 113 (fun _ => rfl), R 114 (fun _ => rfl), R 115 (fun _ => rfl)]; exact H.sdr
  · rw [e 89 51 rfl, e 89 22 rfl, R 113 (fun _ => rfl), R 114 (fun _ => rfl)]; exact H.sdv
  · rw [e 89 60 rfl, e 1 10 rfl]; exact H.img
  · rw [e 89 60 rfl, e 34 0 rfl, e 34 1 rfl, e 34 2 rfl, e 89 59 rfl, e 89 57 rfl, e 89 58 rfl, e 89 22 rfl, R 120 (fun _ => rfl), R 35 (fun _ => rfl), R 36 (fun _ => rfl), R 37 (fun _ => rfl), R 38 (fun _ => rfl), R 39 (fun _ => rfl), R 40 (fun _ => rfl)]; exact H.imr
  · rw [e 89 7 rfl, e 15 3 rfl]; exact H.cus
  · rw [e 89 7 rfl, e 89 22 rfl, R 32 (fun _ => rfl), R 98 (fun _ => rfl)]; exact H.cof
  · intro c hc
    rw [e 89 7 rfl] at hc
    obtain ⟨a1, a2, a3, a4, a5, a6, a7⟩ := H.txt c hc
    have e9 := zcd_cg (R 91 (fun _ => rfl)) (R 92 (fun _ => rfl)) c
    have e8 : zTxt h' c = zTxt h c := by unfold zTxt; rw [R 91 (fun _ => rfl)]
    refine ⟨?_, ?_, ?_, a4, ?_, ?_, fun j hj => ?_⟩
    · rw [R 92 (fun _ => rfl)]; exact a1
    · rw [e9, e8, R 92 (fun _ => rfl)]; exact a2
    · rw [R 33 (fun _ => rfl)]; exact a3
    · rw [e9]; exact a5
    · rw [e9]; exact a6
    · rw [e9] at hj ⊢
      rw [e _ _ (by rw [zS3_hi (by omega), show (123 + 3 * c) % 3 = 0 by omega]; rfl)]
      exact a7 j hj
  · rw [e 89 32 rfl, e 1 11 rfl]; exact H.hnd
  · rw [R 106 (fun _ => rfl), R 86 (fun _ => rfl)]; exact H.wts
  · rw [e 89 39 rfl, e 77 2 rfl]; exact H.gds
  · intro g i hg hi
    rw [e 89 39 rfl] at hg
    have hg3 := H.gds
    have ea : h' (79 + g) = h (79 + g) := R _ (fun j => by
      rcases (show g = 0 ∨ g = 1 ∨ g = 2 by omega) with rfl | rfl | rfl <;> rfl)
    rw [ea, R 107 (fun _ => rfl)]; exact H.prc g i hg hi
/-- the reference's other ISLE and taboo -/
def zW0 (h : zM) (i t : Int) : zM := zup (zup h 89 30 i) 89 31 t
theorem zW0_r {h : zM} {i t : Int} {q : Nat} (hq : q ≠ 89) : zW0 h i t q = h q := by unfold zW0; rw [zup_row hq, zup_row hq]
theorem zW0_3 (h : zM) (i t : Int) : zfr zS3 h (zW0 h i t) := fun r j q => by
  unfold zW0
  rw [zup_ap, if_neg (by rintro ⟨rfl, rfl⟩; cases q), zup_ap, if_neg (by rintro ⟨rfl, rfl⟩; cases q)]
theorem zFb_W0 (h : zM) (i t i' n d t' : Int) : zFb (zW0 h i t) i' n d t' = zFb h i' n d t' := by
  unfold zFb
  rw [zcd_cg (zW0_r (by decide)) (zW0_r (by decide)), zW0_r (by decide)]
theorem zbF_W0 (h : zM) (i d t : Int) : zbF (zW0 h i t) i d = fun n : Nat => zFb h i (n : Int) d t := funext (fun n => by
  unfold zbF zFo zTbR
  rw [if_pos (by rfl), zFb_W0]
  rfl)
theorem zfr_W0 {h0 h : zM} {i t t' : Int} (H : zfr zSS (zW0 h0 i t) h) : zfr zSS (zW0 h0 i t') (zup h 89 31 t') := fun r j q => by
  unfold zW0
  rw [zup_ap, zup_ap]
  by_cases e : r = 89 ∧ j = 31
  · rw [if_pos e, if_pos e]
  · rw [if_neg e, if_neg e, H r j q]
    unfold zW0
    rw [zup_ap, if_neg e]
theorem zfr_W1 {h0 h : zM} {i : Int} (H : zfr zSS h0 h) : zfr zSS (zW0 h0 i (h0 89 31)) (zup h 89 30 i) := fun r j q => by
  unfold zW0
  rw [zup_ap, zup_ap, zup_ap]
  by_cases e : r = 89 ∧ j = 30
  · rw [if_pos e, if_pos e, if_neg (by rw [e.2]; rintro ⟨-, h⟩; cases h)]
  · rw [if_neg e, if_neg e, H r j q]
    by_cases e2 : r = 89 ∧ j = 31
    · rw [if_pos e2, e2.1, e2.2]
    · rw [if_neg e2]
set_option maxRecDepth 4000 in
theorem X9_worst_l {l : Launch} {Γ : zC} {h0 : zM} {Q : Option zV → zC → zM → Prop} {i r j : Int} (hI : zIv Γ h0) (hO : h0 89 30 = -1) (hv : 0 ≤ i ∧ i < h0 89 22) (hr7 : 0 ≤ r ∧ r ≤ 7) (hQ : ∀ h9, zfr zS3 h0 h9 → h9 89 30 = -1 → Q (some (zI (if j = 0 then (zwsF h0 i r 30).1 else (zwsF h0 i r 30).2))) Γ h9) : ∀ (m : Nat) (k : Nat) {y7 : Option zV} (h : zM) (t wa wb : Int), 30 - k < m → k ≤ 30 → zfr zSS (zW0 h0 i t) h → (k = 0 ∧ wa = -1 ∧ wb = 0 ∨ k ≠ 0 ∧ wa = (zwsF h0 i r k).1 ∧ wb = (zwsF h0 i r k).2) → zG (zFn l mX9_worst 1683 0 0 Γ Q) 0 0 Γ h 46 [some (zR 89), some (zI i), some (zI r), some (zI j), some (zI wa), some (zI wb), some (zI ((k + 1 : Nat) : Int)), y7] [] := by
  have hΓ := hI.base
  have hx2 := hI.isl
  have hnw := hI.now
  have hx3 := hI.hnd
  intro m
  induction m with
  | zero => intros; omega
  | succ m ih =>
    intro k y7 h t wa wb hm hk hF hS
    refine z_il6 dX9_worst_46 ?_
    refine z_bipush (x := 30) dX9_worst_48 (by rfl) (by decide) ?_
    refine z_icmp_gt (t := 97) dX9_worst_50 (by rfl) (fun ht50 => ?_) (fun hf50 => ?_)
    · refine z_al0 dX9_worst_97 (by first | decide | omega | assumption) ?_
      refine z_iconst dX9_worst_98 (by decide) ?_
      refine z_putI zfX9_61 dX9_worst_99 (zkB hΓ rfl) rfl rfl ?_
      refine z_il3 dX9_worst_102 ?_
      refine z_if_ne (t := 111) dX9_worst_103 (by rfl) (fun ht103 => ?_) (fun hf103 => ?_)
      · refine z_il5 dX9_worst_111 ?_
        refine z_iret dX9_worst_113 rfl (Nat.le_refl _) (Nat.le_refl _) (zext_rf _) (fun hrr => ?_)
        have ek : k = 30 := by omega
        subst ek
        rcases hS with ⟨e1, e2, e3⟩ | ⟨e1, e2, e3⟩
        · omega
        rw [← e2, ← e3] at hQ
        have hw9 := hQ (zup h 89 30 (-1)) (fun a b q => ?_) rfl
        · first | (rw [if_pos (by omega)] at hw9; exact hw9) | (rw [if_neg (by omega)] at hw9; exact hw9)
        · rw [zup_ap]
          by_cases e : a = 89 ∧ b = 30
          · rw [if_pos e, e.1, e.2]; exact hO.symm
          · rw [if_neg e]
            have q2 : zSS a b = false := by unfold zS3 at q; rw [Bool.or_eq_false_iff] at q; exact q.1
            rw [hF a b q2]
            exact zW0_3 _ _ _ a b q
      · refine z_il4 dX9_worst_106 ?_
        refine z_goto (t := 113) dX9_worst_108 (by rfl) ?_
        refine z_iret dX9_worst_113 rfl (Nat.le_refl _) (Nat.le_refl _) (zext_rf _) (fun hrr => ?_)
        have ek : k = 30 := by omega
        subst ek
        rcases hS with ⟨e1, e2, e3⟩ | ⟨e1, e2, e3⟩
        · omega
        rw [← e2, ← e3] at hQ
        have hw9 := hQ (zup h 89 30 (-1)) (fun a b q => ?_) rfl
        · first | (rw [if_pos (by omega)] at hw9; exact hw9) | (rw [if_neg (by omega)] at hw9; exact hw9)
        · rw [zup_ap]
          by_cases e : a = 89 ∧ b = 30
          · rw [if_pos e, e.1, e.2]; exact hO.symm
          · rw [if_neg e]
            have q2 : zSS a b = false := by unfold zS3 at q; rw [Bool.or_eq_false_iff] at q; exact q.1
            rw [hF a b q2]
            exact zW0_3 _ _ _ a b q
    · refine z_al0 dX9_worst_53 (by first | decide | omega | assumption) ?_
      refine z_il6 dX9_worst_54 ?_
      refine z_putI zfX9_296 dX9_worst_56 (zkB hΓ rfl) rfl rfl ?_
      have hF2 := zfr_W0 (t' := ((k + 1 : Nat) : Int)) hF
      refine z_al0 dX9_worst_59 (by first | decide | omega | assumption) ?_
      refine z_il1 dX9_worst_60 ?_
      refine z_il2 dX9_worst_61 ?_
      refine zcv2 dX9_worst_62 zkX9_440 ziX9_cantBe zsX9_cantBe (zkB hΓ rfl) (by decide) rfl (Nat.le_of_ble_eq_true rfl) (by decide) (by first | decide | omega) ⟨Nat.le_refl _, Nat.le_refl _⟩ (X9_cantBe_ct (zIv_cg (zW0_3 _ _ _) hI) hF2 hv hr7 (fun h3 hF3 _ => ?_))
      try simp only [zup_ap, zup_row, ne_eq, not_false_eq_true, zres, Int.toNat_natCast, reduceIte, Nat.reduceEqDiff, Nat.reduceAdd, and_self, and_true, true_and, and_false, false_and]
      rw [zbF_W0]
      change zG _ _ _ _ _ _ _ (zI (zun h0 i r (k + 1)) :: _)
      have hz0 := zun_0 h0 i r (k + 1)
      have hz1 := zwsF_y (h := h0) (i := i) (r := r) (k := k)
      have hz2 := zwsF_n (h := h0) (i := i) (r := r) (k := k)
      have hz3 : k ≠ 0 → (zwsF h0 i r k).1 ≠ -1 ∧ 0 ≤ (zwsF h0 i r k).2 := fun e => (by
        have := zwsF_1 h0 i r (k - 1)
        rw [show k - 1 + 1 = k by omega] at this
        exact this)
      refine z_is7 dX9_worst_65 (Nat.le_of_ble_eq_true rfl) rfl ?_
      refine z_il4 dX9_worst_67 ?_
      refine z_iconst dX9_worst_69 (by decide) ?_
      refine z_icmp_eq (t := 83) dX9_worst_70 (by rfl) (fun ht70 => ?_) (fun hf70 => ?_)
      · refine z_il6 dX9_worst_83 ?_
        refine z_is4 dX9_worst_85 (Nat.le_of_ble_eq_true rfl) rfl ?_
        refine z_il7 dX9_worst_87 ?_
        refine z_is5 dX9_worst_89 (Nat.le_of_ble_eq_true rfl) rfl ?_
        refine z_ii6 dX9_worst_91 (by omega) (Nat.le_of_ble_eq_true rfl) rfl ?_
        refine z_goto (t := 46) dX9_worst_94 (by rfl) ?_
        refine ih (k + 1) (y7 := some (zI (zun h0 i r (k + 1)))) h3 _ _ _ (by omega) (by omega) hF3 (Or.inr ⟨by omega, ?_⟩)
        rcases hS with ⟨e1, e2, e3⟩ | ⟨e1, e2, e3⟩
        · have hk0 : (zwsF h0 i r k).2 = -1 := by rw [e1]; rfl
          first
          | (rw [hz1 (by omega)]; exact ⟨rfl, rfl⟩)
          | (exfalso; omega)
        · have hz4 := hz3 e1
          first
          | (rw [hz1 (by omega)]; exact ⟨rfl, rfl⟩)
          | (rw [hz2 (by omega)]; exact ⟨e2, e3⟩)
          | (exfalso; omega)
      · refine z_il7 dX9_worst_73 ?_
        refine z_il5 dX9_worst_75 ?_
        refine z_icmp_gt (t := 83) dX9_worst_77 (by rfl) (fun ht77 => ?_) (fun hf77 => ?_)
        · refine z_il6 dX9_worst_83 ?_
          refine z_is4 dX9_worst_85 (Nat.le_of_ble_eq_true rfl) rfl ?_
          refine z_il7 dX9_worst_87 ?_
          refine z_is5 dX9_worst_89 (Nat.le_of_ble_eq_true rfl) rfl ?_
          refine z_ii6 dX9_worst_91 (by omega) (Nat.le_of_ble_eq_true rfl) rfl ?_
          refine z_goto (t := 46) dX9_worst_94 (by rfl) ?_
          refine ih (k + 1) (y7 := some (zI (zun h0 i r (k + 1)))) h3 _ _ _ (by omega) (by omega) hF3 (Or.inr ⟨by omega, ?_⟩)
          rcases hS with ⟨e1, e2, e3⟩ | ⟨e1, e2, e3⟩
          · have hk0 : (zwsF h0 i r k).2 = -1 := by rw [e1]; rfl
            first
            | (rw [hz1 (by omega)]; exact ⟨rfl, rfl⟩)
            | (exfalso; omega)
          · have hz4 := hz3 e1
            first
            | (rw [hz1 (by omega)]; exact ⟨rfl, rfl⟩)
            | (rw [hz2 (by omega)]; exact ⟨e2, e3⟩)
            | (exfalso; omega)
        · refine z_goto (t := 91) dX9_worst_80 (by rfl) ?_
          refine z_ii6 dX9_worst_91 (by omega) (Nat.le_of_ble_eq_true rfl) rfl ?_
          refine z_goto (t := 46) dX9_worst_94 (by rfl) ?_
          refine ih (k + 1) (y7 := some (zI (zun h0 i r (k + 1)))) h3 _ _ _ (by omega) (by omega) hF3 (Or.inr ⟨by omega, ?_⟩)
          rcases hS with ⟨e1, e2, e3⟩ | ⟨e1, e2, e3⟩
          · have hk0 : (zwsF h0 i r k).2 = -1 := by rw [e1]; rfl
            first
            | (rw [hz1 (by omega)]; exact ⟨rfl, rfl⟩)
            | (exfalso; omega)
          · have hz4 := hz3 e1
            first
            | (rw [hz1 (by omega)]; exact ⟨rfl, rfl⟩)
            | (rw [hz2 (by omega)]; exact ⟨e2, e3⟩)
            | (exfalso; omega)
set_option maxRecDepth 4000 in
theorem X9_worst_ct {l : Launch} {Γ : zC} {h0 h : zM} {Q : Option zV → zC → zM → Prop} {i r j : Int} (hI : zIv Γ h0) (hF : zfr zSS h0 h) (hO : h0 89 30 = -1) (hQ : ∀ h9, zfr zS3 h0 h9 → h9 89 30 = -1 → Q (some (zI (zvWorst h0 i r j))) Γ h9) : zCT l mX9_worst 1683 0 0 Γ [zR 89, zI i, zI r, zI j] h Q := by
  have hΓ := hI.base
  have hx2 := hI.isl
  have hx3 := hI.hnd
  obtain ⟨hd, hhd⟩ := Int.eq_ofNat_of_zero_le (show 0 ≤ h0 89 32 by omega)
  have hdn : (h0 89 32).toNat = hd := by omega
  have hnw := hI.now
  refine zCT_of (by decide) (Nat.le_of_ble_eq_true rfl) (ls := [some (zR 89), some (zI i), some (zI r), some (zI j), none, none, none, none]) rfl ?_
  refine z_al0 dX9_worst_0 (by first | decide | omega | assumption) ?_
  refine z_iconst dX9_worst_1 (by decide) ?_
  refine z_putI zfX9_128 dX9_worst_2 (zkB hΓ rfl) rfl rfl ?_
  replace hF : zfr zSS h0 (zup h 89 0 0) := zfr_up hF rfl
  generalize zup h 89 0 0 = h at hF ⊢
  refine z_al0 dX9_worst_5 (by first | decide | omega | assumption) ?_
  refine z_il1 dX9_worst_6 ?_
  refine zcv1 dX9_worst_7 zkX9_299 ziX9_isIsle zsX9_isIsle (zkB hΓ rfl) (by decide) rfl (Nat.le_of_ble_eq_true rfl) (by decide) (by first | decide | omega) ⟨Nat.le_refl _, Nat.le_refl _⟩ (X9_isIsle_ct hI hF (fun hg1 _ => ?_) (fun hg1 _ => ?_))
  · try simp only [zup_ap, zup_row, ne_eq, not_false_eq_true, zres, Int.toNat_natCast, reduceIte, Nat.reduceEqDiff, Nat.reduceAdd, and_self, and_true, true_and, and_false, false_and]
    refine z_if_eq (t := 30) dX9_worst_10 (by rfl) (fun _ => ?_) (fun hx => absurd hx (by decide))
    refine z_iconst dX9_worst_30 (by decide) ?_
    refine z_iret dX9_worst_31 rfl (Nat.le_refl _) (Nat.le_refl _) (zext_rf _) (fun hrr => ?_)
    have hw9 := hQ _ (zfr_S3 hF) (by rw [hF 89 30 rfl]; exact hO)
    unfold zvWorst at hw9
    rw [if_neg (by omega)] at hw9
    exact hw9
  · try simp only [zup_ap, zup_row, ne_eq, not_false_eq_true, zres, Int.toNat_natCast, reduceIte, Nat.reduceEqDiff, Nat.reduceAdd, and_self, and_true, true_and, and_false, false_and]
    refine z_if_eq (t := 30) dX9_worst_10 (by rfl) (fun hx => absurd hx (by decide)) (fun _ => ?_)
    refine z_il2 dX9_worst_13 ?_
    refine zcs1 dX9_worst_14 zkX9_334 ztX9_areRules (Nat.le_of_ble_eq_true rfl) (by decide) (by first | decide | omega) ⟨Nat.le_refl _, Nat.le_refl _⟩ (X9_areRules_ct (fun hg3 _ => ?_) (fun hg3 _ => ?_))
    · try simp only [zup_ap, zup_row, ne_eq, not_false_eq_true, zres, Int.toNat_natCast, reduceIte, Nat.reduceEqDiff, Nat.reduceAdd, and_self, and_true, true_and, and_false, false_and]
      refine z_if_eq (t := 30) dX9_worst_17 (by rfl) (fun _ => ?_) (fun hx => absurd hx (by decide))
      refine z_iconst dX9_worst_30 (by decide) ?_
      refine z_iret dX9_worst_31 rfl (Nat.le_refl _) (Nat.le_refl _) (zext_rf _) (fun hrr => ?_)
      have hw9 := hQ _ (zfr_S3 hF) (by rw [hF 89 30 rfl]; exact hO)
      unfold zvWorst at hw9
      rw [if_neg (by omega)] at hw9
      exact hw9
    · try simp only [zup_ap, zup_row, ne_eq, not_false_eq_true, zres, Int.toNat_natCast, reduceIte, Nat.reduceEqDiff, Nat.reduceAdd, and_self, and_true, true_and, and_false, false_and]
      refine z_if_eq (t := 30) dX9_worst_17 (by rfl) (fun hx => absurd hx (by decide)) (fun _ => ?_)
      refine z_il3 dX9_worst_20 ?_
      refine z_i2l dX9_worst_21 ?_
      refine z_lconst (x := 0) dX9_worst_22 (by rfl) (by decide) ?_
      refine z_lconst (x := 1) dX9_worst_23 (by rfl) (by decide) ?_
      refine zcs3 dX9_worst_24 zkX9_261 ztX9_isIn (Nat.le_of_ble_eq_true rfl) (by decide) (by first | decide | omega) ⟨Nat.le_refl _, Nat.le_refl _⟩ (X9_isIn_ct (fun hg2 _ => ?_) (fun hg2 _ => ?_))
      · try simp only [zup_ap, zup_row, ne_eq, not_false_eq_true, zres, Int.toNat_natCast, reduceIte, Nat.reduceEqDiff, Nat.reduceAdd, and_self, and_true, true_and, and_false, false_and]
        refine z_if_ne (t := 32) dX9_worst_27 (by rfl) (fun hx => absurd hx (by decide)) (fun _ => ?_)
        refine z_iconst dX9_worst_30 (by decide) ?_
        refine z_iret dX9_worst_31 rfl (Nat.le_refl _) (Nat.le_refl _) (zext_rf _) (fun hrr => ?_)
        have hw9 := hQ _ (zfr_S3 hF) (by rw [hF 89 30 rfl]; exact hO)
        unfold zvWorst at hw9
        rw [if_neg (by omega)] at hw9
        exact hw9
      · try simp only [zup_ap, zup_row, ne_eq, not_false_eq_true, zres, Int.toNat_natCast, reduceIte, Nat.reduceEqDiff, Nat.reduceAdd, and_self, and_true, true_and, and_false, false_and]
        refine z_if_ne (t := 32) dX9_worst_27 (by rfl) (fun _ => ?_) (fun hx => absurd hx (by decide))
        refine z_iconst dX9_worst_32 (by decide) ?_
        refine z_is4 dX9_worst_33 (Nat.le_of_ble_eq_true rfl) rfl ?_
        refine z_iconst dX9_worst_35 (by decide) ?_
        refine z_is5 dX9_worst_36 (Nat.le_of_ble_eq_true rfl) rfl ?_
        refine z_al0 dX9_worst_38 (by first | decide | omega | assumption) ?_
        refine z_il1 dX9_worst_39 ?_
        refine z_putI zfX9_61 dX9_worst_40 (zkB hΓ rfl) rfl rfl ?_
        refine z_iconst dX9_worst_43 (by decide) ?_
        refine z_is6 dX9_worst_44 (Nat.le_of_ble_eq_true rfl) rfl ?_
        refine X9_worst_l hI hO hg1 hg3 (fun h9 hF9 hO9 => ?_) _ 0 _ _ (-1) 0 (Nat.lt_succ_self _) (by omega) (zfr_W1 hF) (Or.inl ⟨rfl, rfl, rfl⟩)
        have hw9 := hQ _ hF9 hO9
        unfold zvWorst at hw9
        rw [if_pos (by omega)] at hw9
        exact hw9
