/-! text: ISLES told -/
def zc_isC (r j : Nat) : Bool := (Nat.beq r 2 && Nat.beq j 1) || (Nat.beq r 16 && Nat.beq j 0) || Nat.beq r 17 || (Nat.ble 19 r && Nat.ble r 24) || (Nat.beq r 25 && Nat.beq j 0) || (Nat.beq r 25 && Nat.beq j 1) || (Nat.beq r 25 && Nat.beq j 2) || Nat.beq r 32 || (Nat.beq r 77 && Nat.beq j 2) || (Nat.beq r 1 && Nat.beq j 10)
def zc_isM (r j : Nat) : Bool := (Nat.beq r 89 && Nat.beq j 6) || (Nat.beq r 89 && Nat.beq j 22) || (Nat.beq r 89 && Nat.beq j 28) || (Nat.beq r 89 && Nat.beq j 29) || (Nat.beq r 89 && Nat.beq j 39) || (Nat.beq r 89 && Nat.beq j 51) || (Nat.beq r 89 && Nat.beq j 60) || Nat.beq r 94 || Nat.beq r 96 || Nat.beq r 98
theorem zSx_le {c c' : Nat → Nat → Bool} (H : ∀ r j, c r j = true → c' r j = true) {h h' : zM} (e : zfr (zSx c) h h') : zfr (zSx c') h h' := fun r j q => e r j (by
  unfold zSx at q ⊢
  simp only [Bool.or_eq_false_iff, Bool.and_eq_false_iff] at q ⊢
  refine ⟨q.1, q.2.imp id (fun z => ?_)⟩
  cases e9 : c r j with
  | false => rfl
  | true => rw [H r j e9] at z; cases z)
def zc_isles (r j : Nat) : Bool := zc_isC r j || zc_isM r j
set_option maxRecDepth 4000 in
theorem zIv_isles {Γ : zC} {h h' : zM} (e : zfr (zSx zc_isles) h h') (H : zIv Γ h) (len : 0 ≤ h' 89 6 ∧ h' 89 6 ≤ 160) (tln : h' 2 1 = h' 89 6) (tap : ∀ j : Nat, (j : Int) < h' 89 6 → h' 3 j = h' 90 j % 256) (isl : 0 ≤ h' 89 22 ∧ h' 89 22 ≤ 6) (cisl : h' 16 0 = h' 89 22) (tab : ∀ i : Nat, i < 6 → (i : Int) < h' 89 22 → h' 17 i = h' 94 i) (day : ∀ a b, a < 6 → b < 6 → h' (19 + a) b = h' 96 (6 * a + b) ∧ 0 ≤ h' 96 (6 * a + b) ∧ h' 96 (6 * a + b) ≤ 9) (now : h' 25 0 = h' 89 29 ∧ 0 ≤ h' 89 29 ∧ h' 89 29 ≤ 99) (chn : h' 25 1 = h' 89 28 ∧ 0 ≤ h' 89 28 ∧ h' 89 28 ≤ 20) (sdn : h' 25 2 = h' 89 51 ∧ 0 ≤ h' 89 51 ∧ h' 89 51 ≤ 40) (sdv : ∀ j : Nat, (j : Int) < h' 89 51 → (0 ≤ h' 113 j ∧ h' 113 j < h' 89 22) ∧ 0 ≤ h' 114 j ∧ h' 114 j ≤ 999) (img : h' 1 10 = h' 89 60 ∧ (h' 89 60 = 0 ∨ h' 89 60 = 1)) (imr : h' 89 60 = 1 → (h' 34 0 = h' 89 59 ∧ 0 ≤ h' 89 59 ∧ h' 89 59 ≤ 99) ∧ (h' 34 1 = h' 89 57 ∧ 0 ≤ h' 89 57 ∧ h' 89 57 ≤ 20) ∧ (h' 34 2 = h' 89 58 ∧ 0 ≤ h' 89 58 ∧ h' 89 58 ≤ 40) ∧ (∀ j, j < 20 → h' 35 j = h' 120 (3 * j) ∧ h' 36 j = h' 120 (3 * j + 1) ∧ h' 37 j = h' 120 (3 * j + 2)) ∧ (∀ j, j < 40 → h' 38 j = h' 120 (60 + 3 * j) ∧ h' 39 j = h' 120 (60 + 3 * j + 1) ∧ h' 40 j = h' 120 (60 + 3 * j + 2)) ∧ ∀ j : Nat, (j : Int) < h' 89 58 → (0 ≤ h' 120 (60 + 3 * j) ∧ h' 120 (60 + 3 * j) < h' 89 22) ∧ 0 ≤ h' 120 (60 + 3 * j + 1) ∧ h' 120 (60 + 3 * j + 1) ≤ 999) (cof : ∀ i : Nat, i < 6 → (i : Int) < h' 89 22 → h' 32 i = h' 98 i ∧ -1 ≤ h' 98 i ∧ h' 98 i < h' 89 7) (gds : h' 77 2 = h' 89 39 ∧ 0 ≤ h' 89 39 ∧ h' 89 39 ≤ 3) (prc : ∀ g i : Nat, (g : Int) < h' 89 39 → i < 6 → h' (79 + g) i = h' 107 (6 * g + i) ∧ 1 ≤ h' 107 (6 * g + i) ∧ h' 107 (6 * g + i) ≤ 99) : zIv Γ h' := by
  have R : ∀ r, (∀ j, zSx zc_isles r j = false) → h' r = h r := fun r q => funext (fun j => e r j (q j))
  refine zIv.mk H.base ?_ len tln tap isl cisl tab day now chn ?_ sdn ?_ sdv img imr ?_ cof ?_ ?_ ?_ gds prc
  · rw [e 89 7 rfl]; exact H.num
  · rw [R 26 (fun _ => rfl), R 27 (fun _ => rfl), R 28 (fun _ => rfl), R 99 (fun _ => rfl), R 100 (fun _ => rfl), R 101 (fun _ => rfl)]; exact H.chr
  · rw [R 29 (fun _ => rfl), R 30 (fun _ => rfl), R 31 (fun _ => rfl), R 113 (fun _ => rfl), R 114 (fun _ => rfl), R 115 (fun _ => rfl)]; exact H.sdr
  · rw [e 89 7 rfl, e 15 3 rfl]; exact H.cus
  · intro c hc
    rw [e 89 7 rfl] at hc
    obtain ⟨a1, a2, a3, a4, a5, a6, a7⟩ := H.txt c hc
    have e9 := zcd_cg (R 91 (fun _ => rfl)) (R 92 (fun _ => rfl)) c
    have e8 : zTxt h' c = zTxt h c := by unfold zTxt; rw [R 91 (fun _ => rfl)]
    refine ⟨?_, ?_, ?_, a4, ?_, ?_, fun j hj => ?_⟩
    · rw [R 92 (fun _ => rfl)]; exact a1
    · rw [e9, e8, R 92 (fun _ => rfl)]; exact a2
    · rw [R 33 (fun _ => rfl)]; exact a3
    · rw [e9]; exact a5
    · rw [e9]; exact a6
    · rw [e9] at hj ⊢
      rw [e _ _ (by rw [zSx_hi (by omega), show (123 + 3 * c) % 3 = 0 by omega]; rfl)]
      exact a7 j hj
  · rw [e 89 32 rfl, e 1 11 rfl]; exact H.hnd
  · rw [R 106 (fun _ => rfl), R 86 (fun _ => rfl)]; exact H.wts
theorem zIs_C {h h' : zM} (e : zfr (zSx zc_isC) h h') : zfr (zSx zc_isles) h h' := zSx_le (fun r j q => by unfold zc_isles; rw [q]; rfl) e
theorem zIs_M {h h' : zM} (e : zfr (zSx zc_isM) h h') : zfr (zSx zc_isles) h h' := zSx_le (fun r j q => by unfold zc_isles; rw [q, Bool.or_true]) e
theorem zWy_r {t : Nat → Int} {n N q : Nat} {D : zDM} (H : ∀ a b, 0 ≤ D a b ∧ D a b ≤ 9) : ∀ a b, 0 ≤ (zWy t n N q D).2.2 a b ∧ (zWy t n N q D).2.2 a b ≤ 9 := by
  intro a b
  unfold zWy
  split
  · exact H a b
  · split
    · exact H a b
    · split
      · exact H a b
      · rename_i c3
        show 0 ≤ zdU _ _ _ _ a b ∧ zdU _ _ _ _ a b ≤ 9
        unfold zdU
        split
        · omega
        · exact H a b
theorem zWys_r {t : Nat → Int} {n N : Nat} : ∀ (f q : Nat) (D : zDM), (∀ a b, 0 ≤ D a b ∧ D a b ≤ 9) → ∀ a b, 0 ≤ (zWys t n N f q D).2.2 a b ∧ (zWys t n N f q D).2.2 a b ≤ 9
  | 0, q, D, H => H
  | f + 1, q, D, H => by
    have hw := zWy_r (t := t) (n := n) (N := N) (q := q) H
    rw [zWys]
    split
    · exact hw
    · split
      · exact hw
      · split
        · exact zWys_r f _ _ hw
        · exact hw
theorem zIs_ok {t : Nat → Int} {n : Nat} (hn : n ≤ 160) (hb : (zIs t n).1 = true) : (2 ≤ (zIs t n).2.2.1.length ∧ (zIs t n).2.2.1.length ≤ 6) ∧ ∀ a b, 0 ≤ (zIs t n).2.2.2 a b ∧ (zIs t n).2.2.2 a b ≤ 9 := by
  have s0 := zskip_b t n 0
  have hb9 := zTbs_p (t := t) hn 6 (zskip t n 0) [] rfl (by omega)
  cases e : (zIsB t n).1 with
  | false => rw [zIs_f e] at hb; cases hb
  | true =>
    rw [zIs_t e]
    exact ⟨⟨hb9.2.2 e, hb9.2.1⟩, zWys_r 16 _ _ (fun _ _ => ⟨Int.le_refl _, by decide⟩)⟩
def zJk (hb h : zM) (k : Nat) : Prop := (∀ r, r ≠ 17 → ¬ (19 ≤ r ∧ r ≤ 24) → h r = hb r) ∧ (∀ i, i < k → h 17 i = hb 5 i) ∧ ∀ a b, a < k → b < 6 → h (19 + a) b = hb (7 + a) b
theorem zJk_s {hb h : zM} {k : Nat} (hk : k < 6) (H : zJk hb h k) : zJk hb (zcpy (zup h 17 k (h 5 k)) (7 + k) (19 + k) 6) (k + 1) := ⟨fun r h1 h2 => by rw [zcpy_row (by omega), zup_row h1]; exact H.1 r h1 h2, fun i hi => by
  rw [zcpy_row (by omega), zup_ap]
  by_cases e : i = k
  · rw [if_pos ⟨rfl, e⟩, e, H.1 5 (by decide) (by omega)]
  · rw [if_neg (fun x => e x.2)]; exact H.2.1 i (by omega), fun a b ha hb => by
  by_cases e : a = k
  · rw [e, zcpy_at _ _ _ _ hb, zup_row (by omega), H.1 _ (by omega) (by omega)]
  · rw [zcpy_row (by omega), zup_row (by omega)]; exact H.2.2 a b (by omega) hb⟩
set_option maxRecDepth 4000 in
theorem X0_copy_l {l : Launch} {Γ : zC} {hb : zM} {Q : Option zV → zC → zM → Prop} (hΓ : zBase Γ) (hQ : ∀ h2, zJk hb h2 6 → Q none Γ h2) : ∀ (m k : Nat) (h : zM), 6 - k < m → k ≤ 6 → zJk hb h k → zG (zFn l mX0_copy 1 0 0 Γ Q) 0 0 Γ h 10 [some (zR 16), some (zR 4), some (zI (k : Nat))] [] := by
  intro m
  induction m with
  | zero => intros; omega
  | succ m ih =>
    intro k h hm hk hJ
    refine z_il2 dX0_copy_10 ?_
    refine z_bipush (x := 6) dX0_copy_11 (by rfl) (by decide) ?_
    refine z_icmp_ge (t := 53) dX0_copy_13 (by rfl) (fun ht13 => ?_) (fun hf13 => ?_)
    · refine z_ret dX0_copy_53 rfl (Nat.le_refl _) (Nat.le_refl _) (zext_rf _) ?_
      rw [show k = 6 by omega] at hJ
      exact hQ h hJ
    · refine z_al0 dX0_copy_16 (by first | decide | omega | assumption) ?_
      refine z_getR zfX0_9 dX0_copy_17 (zkB hΓ rfl) rfl (zsB hΓ rfl) (zvB hΓ (by decide)) ?_
      refine z_il2 dX0_copy_20 ?_
      refine z_al1 dX0_copy_21 (by first | decide | omega | assumption) ?_
      refine z_getR zfX0_9 dX0_copy_22 (zkB hΓ rfl) rfl (zsB hΓ rfl) (zvB hΓ (by decide)) ?_
      refine z_il2 dX0_copy_25 ?_
      refine z_iald dX0_copy_26 (zkB hΓ rfl) (by omega) (by omega) ?_
      try simp only [zup_ap, zup_row, ne_eq, not_false_eq_true, zres, Int.toNat_natCast, reduceIte, Nat.reduceEqDiff, Nat.reduceAdd, and_self, and_true, true_and, and_false, false_and]
      refine z_iast dX0_copy_27 (zkB hΓ rfl) (by omega) (by omega) ?_
      try simp only [Int.toNat_natCast]
      refine z_al1 dX0_copy_28 (by first | decide | omega | assumption) ?_
      refine z_getR zfX0_17 dX0_copy_29 (zkB hΓ rfl) rfl (zsB hΓ rfl) (zvB hΓ (by decide)) ?_
      refine z_il2 dX0_copy_32 ?_
      refine z_aald dX0_copy_33 (zkB hΓ rfl) (Or.inl rfl) (by omega) (by omega) (q := 7 + k) (by rw [Int.toNat_natCast, zsr6 hΓ (by omega)]; rfl) (fun _ => zvB hΓ (Or.inl (by omega))) ?_
      refine z_iconst dX0_copy_34 (by decide) ?_
      refine z_al0 dX0_copy_35 (by first | decide | omega | assumption) ?_
      refine z_getR zfX0_17 dX0_copy_36 (zkB hΓ rfl) rfl (zsB hΓ rfl) (zvB hΓ (by decide)) ?_
      refine z_il2 dX0_copy_39 ?_
      refine z_aald dX0_copy_40 (zkB hΓ rfl) (Or.inl rfl) (by omega) (by omega) (q := 19 + k) (by rw [Int.toNat_natCast, zsr18 hΓ (by omega)]; rfl) (fun _ => zvB hΓ (Or.inl (by omega))) ?_
      refine z_iconst dX0_copy_41 (by decide) ?_
      refine z_bipush (x := 6) dX0_copy_42 (by rfl) (by decide) ?_
      refine z_copy dX0_copy_44 zcpyX0_39 (zks7 hΓ (by omega)) (zks19 hΓ (by omega)) (by decide) (by decide) (by decide) (Nat.le_of_ble_eq_true rfl) (Nat.le_of_ble_eq_true rfl) (by decide) ?_
      refine z_ii2 dX0_copy_47 (by omega) (Nat.le_of_ble_eq_true rfl) rfl ?_
      refine z_goto (t := 10) dX0_copy_50 (by rfl) ?_
      exact ih (k + 1) _ (by omega) (by omega) (zJk_s (by omega) hJ)
set_option maxRecDepth 4000 in
theorem X0_copy_ct {l : Launch} {Γ : zC} {h : zM} {Q : Option zV → zC → zM → Prop} (hΓ : zBase Γ) (hQ : ∀ h2, zJk (zup h 16 0 (h 4 0)) h2 6 → Q none Γ h2) : zCT l mX0_copy 1 0 0 Γ [zR 16, zR 4] h Q := by
  refine zCT_of (by decide) (Nat.le_of_ble_eq_true rfl) (ls := [some (zR 16), some (zR 4), none]) rfl ?_
  refine z_al0 dX0_copy_0 (by first | decide | omega | assumption) ?_
  refine z_al1 dX0_copy_1 (by first | decide | omega | assumption) ?_
  refine z_getI zfX0_35 dX0_copy_2 (zkB hΓ rfl) rfl ?_
  try simp only [zup_ap, zup_row, ne_eq, not_false_eq_true, zres, Int.toNat_natCast, reduceIte, Nat.reduceEqDiff, Nat.reduceAdd, and_self, and_true, true_and, and_false, false_and]
  refine z_putI zfX0_35 dX0_copy_5 (zkB hΓ rfl) rfl rfl ?_
  refine z_iconst dX0_copy_8 (by decide) ?_
  refine z_is2 dX0_copy_9 (Nat.le_of_ble_eq_true rfl) rfl ?_
  exact X0_copy_l hΓ hQ 7 0 _ (by omega) (by omega) ⟨fun _ _ _ => rfl, fun i hi => absurd hi (by omega), fun a b ha _ => absurd ha (by omega)⟩
set_option maxRecDepth 4000 in
theorem X3_clear_ct {l : Launch} {Γ : zC} {h : zM} {Q : Option zV → zC → zM → Prop} (hΓ : zBase Γ) (hQ : Q none Γ (zup (zup (zup h 25 0 0) 25 1 0) 25 2 0)) : zCT l mX3_clear 0 0 0 Γ [zR 25] h Q := by
  refine zCT_of (by decide) (Nat.le_of_ble_eq_true rfl) (ls := [some (zR 25)]) rfl ?_
  refine z_al0 dX3_clear_0 (by first | decide | omega | assumption) ?_
  refine z_iconst dX3_clear_1 (by decide) ?_
  refine z_putI zfX3_30 dX3_clear_2 (zkB hΓ rfl) rfl rfl ?_
  refine z_al0 dX3_clear_5 (by first | decide | omega | assumption) ?_
  refine z_iconst dX3_clear_6 (by decide) ?_
  refine z_putI zfX3_34 dX3_clear_7 (zkB hΓ rfl) rfl rfl ?_
  refine z_al0 dX3_clear_10 (by first | decide | omega | assumption) ?_
  refine z_iconst dX3_clear_11 (by decide) ?_
  refine z_putI zfX3_37 dX3_clear_12 (zkB hΓ rfl) rfl rfl ?_
  refine z_ret dX3_clear_15 rfl (Nat.le_refl _) (Nat.le_refl _) (zext_rf _) ?_
  exact hQ
def zIc (h0 h9 : zM) (L : List Int) (D : zDM) : Prop := zfr (zSx zc_isC) h0 h9 ∧ h9 2 1 = 0 ∧ h9 16 0 = (L.length : Int) ∧ (∀ i, i < 6 → h9 17 i = L.getD i 0) ∧ (∀ a b, a < 6 → b < 6 → h9 (19 + a) b = D a b) ∧ (h9 25 0 = 0 ∧ h9 25 1 = 0 ∧ h9 25 2 = 0) ∧ (∀ i, i < 6 → h9 32 i = -1) ∧ h9 77 2 = 0 ∧ h9 1 10 = 0
theorem zIc_of {h0 h h2 h3 : zM} {p : Nat} {L : List Int} {D : zDM} (hD : zDf h0 h p L D) (hJ : zJk (zup (zup h 2 1 0) 16 0 (zup h 2 1 0 4 0)) h2 6) (hE : ∀ a, a ≠ 32 → h3 a = zup (zup (zup h2 25 0 0) 25 1 0) 25 2 0 a) (hV : ∀ j, j < 6 → h3 32 j = -1) : zIc h0 (zup (zup h3 77 2 0) 1 10 0) L D := by
  have f1 : zfr (zSx zc_isC) h0 h := zfr_x hD.1
  have f2 : zfr (zSx zc_isC) h0 (zup (zup h 2 1 0) 16 0 (zup h 2 1 0 4 0)) := zfr_up (zfr_up f1 rfl) rfl
  have f3 : zfr (zSx zc_isC) h0 h2 := fun r j q => by
    rw [hJ.1 r (fun e => by subst e; cases q) (fun e => by
      rcases (show r = 19 ∨ r = 20 ∨ r = 21 ∨ r = 22 ∨ r = 23 ∨ r = 24 by omega) with rfl | rfl | rfl | rfl | rfl | rfl <;> cases q)]
    exact f2 r j q
  have f4 : zfr (zSx zc_isC) h0 (zup (zup (zup h2 25 0 0) 25 1 0) 25 2 0) := zfr_up (zfr_up (zfr_up f3 rfl) rfl) rfl
  have f5 : zfr (zSx zc_isC) h0 h3 := fun r j q => by
    rw [hE r (fun e => by subst e; cases q)]
    exact f4 r j q
  have g : ∀ r, r ≠ 32 → r ≠ 25 → h3 r = h2 r := fun r a b => by rw [hE r a, zup_row b, zup_row b, zup_row b]
  refine ⟨zfr_up (zfr_up f5 rfl) rfl, ?_, ?_, fun i hi => ?_, fun a b ha hb => ?_, ⟨?_, ?_, ?_⟩, fun i hi => ?_, ?_, zup_rj _ _ _ _⟩
  · rw [zup_row (by decide), zup_row (by decide), g 2 (by decide) (by decide), hJ.1 2 (by decide) (by omega), zup_row (by decide), zup_rj]
  · rw [zup_row (by decide), zup_row (by decide), g 16 (by decide) (by decide), hJ.1 16 (by decide) (by omega), zup_rj, zup_row (by decide)]; exact hD.2.2.1
  · rw [zup_row (by decide), zup_row (by decide), g 17 (by decide) (by decide), hJ.2.1 i hi, zup_row (by decide), zup_row (by decide)]; exact hD.2.2.2.1 i hi
  · rw [zup_row (by omega), zup_row (by omega), g _ (by omega) (by omega), hJ.2.2 a b ha hb, zup_row (by omega), zup_row (by omega)]; exact hD.2.2.2.2 a b ha hb
  · rw [zup_row (by decide), zup_row (by decide), hE 25 (by decide)]; simp [zup_ap]
  · rw [zup_row (by decide), zup_row (by decide), hE 25 (by decide)]; simp [zup_ap]
  · rw [zup_row (by decide), zup_row (by decide), hE 25 (by decide)]; simp [zup_ap]
  · rw [zup_row (by decide), zup_row (by decide)]; exact hV i hi
  · rw [zup_row (by decide), zup_rj]
set_option maxRecDepth 4000 in
theorem X7_settle_ct {l : Launch} {Γ : zC} {h : zM} {Q : Option zV → zC → zM → Prop} (hΓ : zBase Γ) (hQ : ∀ h2 h3, zJk (zup h 16 0 (h 4 0)) h2 6 → (∀ a, a ≠ 32 → h3 a = zup (zup (zup h2 25 0 0) 25 1 0) 25 2 0 a) → (∀ j, j < 6 → h3 32 j = -1) → Q none Γ h3) : zCT l mX7_settle 2 0 0 Γ [zR 15, zR 4] h Q := by
  refine zCT_of (by decide) (Nat.le_of_ble_eq_true rfl) (ls := [some (zR 15), some (zR 4)]) rfl ?_
  refine z_al0 dX7_settle_0 (by first | decide | omega | assumption) ?_
  refine z_getR zfX7_12 dX7_settle_1 (zkB hΓ rfl) rfl (zsB hΓ rfl) (zvB hΓ (by decide)) ?_
  refine z_al1 dX7_settle_4 (by first | decide | omega | assumption) ?_
  refine zcv1 dX7_settle_5 zkX7_35 ziX0_copy zsX0_copy (zkB hΓ rfl) (by decide) rfl (Nat.le_of_ble_eq_true rfl) (by decide) (by first | decide | omega) ⟨Nat.le_refl _, Nat.le_refl _⟩ (X0_copy_ct hΓ (fun h2 hJ _ => ?_))
  try simp only [zup_ap, zup_row, ne_eq, not_false_eq_true, zres, Int.toNat_natCast, reduceIte, Nat.reduceEqDiff, Nat.reduceAdd, and_self, and_true, true_and, and_false, false_and]
  refine z_al0 dX7_settle_8 (by first | decide | omega | assumption) ?_
  refine z_getR zfX7_21 dX7_settle_9 (zkB hΓ rfl) rfl (zsB hΓ rfl) (zvB hΓ (by decide)) ?_
  refine zcv0 dX7_settle_12 zkX7_39 ziX3_clear zsX3_clear (zkB hΓ rfl) (by decide) rfl (Nat.le_of_ble_eq_true rfl) (by decide) (by first | decide | omega) ⟨Nat.le_refl _, Nat.le_refl _⟩ (X3_clear_ct hΓ (fun _ => ?_))
  try simp only [zup_ap, zup_row, ne_eq, not_false_eq_true, zres, Int.toNat_natCast, reduceIte, Nat.reduceEqDiff, Nat.reduceAdd, and_self, and_true, true_and, and_false, false_and]
  refine z_al0 dX7_settle_15 (by first | decide | omega | assumption) ?_
  refine z_getR zfX7_25 dX7_settle_16 (zkB hΓ rfl) rfl (zsB hΓ rfl) (zvB hΓ (by decide)) ?_
  refine z_iconst dX7_settle_19 (by decide) ?_
  refine zcs2 dX7_settle_20 zkX7_42 ztJ7_fill_53178 (Nat.le_of_ble_eq_true rfl) (by decide) (by first | decide | omega) ⟨Nat.le_refl _, Nat.le_refl _⟩ (J7_fill_53178_ct (n := 6) (by decide) (zkB hΓ rfl) (by omega) (fun h3 hE hV _ => ?_))
  try simp only [zup_ap, zup_row, ne_eq, not_false_eq_true, zres, Int.toNat_natCast, reduceIte, Nat.reduceEqDiff, Nat.reduceAdd, and_self, and_true, true_and, and_false, false_and]
  refine z_ret dX7_settle_23 rfl (Nat.le_refl _) (Nat.le_refl _) (zext_rf _) ?_
  exact hQ h2 h3 hJ hE hV
set_option maxRecDepth 4000 in
theorem X8_takeIsles_ct {l : Launch} {Γ : zC} {h0 h : zM} {Q : Option zV → zC → zM → Prop} {p : Nat} {L : List Int} {D : zDM} (hΓ : zBase Γ) (hD : zDf h0 h p L D) (hQ : ∀ h9, zIc h0 h9 L D → Q (some (zI (L.length : Int))) Γ h9) : zCT l mX8_takeIsles 3 0 0 Γ [zR 1] h Q := by
  refine zCT_of (by decide) (Nat.le_of_ble_eq_true rfl) (ls := [some (zR 1)]) rfl ?_
  refine z_al0 dX8_takeIsles_0 (by first | decide | omega | assumption) ?_
  refine z_getR zfX8_10 dX8_takeIsles_1 (zkB hΓ rfl) rfl (zsB hΓ rfl) (zvB hΓ (by decide)) ?_
  refine z_iconst dX8_takeIsles_4 (by decide) ?_
  refine z_putI zfX8_87 dX8_takeIsles_5 (zkB hΓ rfl) rfl rfl ?_
  refine z_al0 dX8_takeIsles_8 (by first | decide | omega | assumption) ?_
  refine z_getR zfX8_35 dX8_takeIsles_9 (zkB hΓ rfl) rfl (zsB hΓ rfl) (zvB hΓ (by decide)) ?_
  refine z_al0 dX8_takeIsles_12 (by first | decide | omega | assumption) ?_
  refine z_getR zfX8_19 dX8_takeIsles_13 (zkB hΓ rfl) rfl (zsB hΓ rfl) (zvB hΓ (by decide)) ?_
  refine zcv1 dX8_takeIsles_16 zkX8_310 ziX7_settle zsX7_settle (zkB hΓ rfl) (by decide) rfl (Nat.le_of_ble_eq_true rfl) (by decide) (by first | decide | omega) ⟨Nat.le_refl _, Nat.le_refl _⟩ (X7_settle_ct hΓ (fun h2 h3 hJ hE hV _ => ?_))
  try simp only [zup_ap, zup_row, ne_eq, not_false_eq_true, zres, Int.toNat_natCast, reduceIte, Nat.reduceEqDiff, Nat.reduceAdd, and_self, and_true, true_and, and_false, false_and]
  refine z_al0 dX8_takeIsles_19 (by first | decide | omega | assumption) ?_
  refine z_getR zfX8_58 dX8_takeIsles_20 (zkB hΓ rfl) rfl (zsB hΓ rfl) (zvB hΓ (by decide)) ?_
  refine z_iconst dX8_takeIsles_23 (by decide) ?_
  refine z_putI zfX8_307 dX8_takeIsles_24 (zkB hΓ rfl) rfl rfl ?_
  refine z_al0 dX8_takeIsles_27 (by first | decide | omega | assumption) ?_
  refine z_iconst dX8_takeIsles_28 (by decide) ?_
  refine z_putZ zfX8_303 dX8_takeIsles_29 (zkB hΓ rfl) rfl rfl (by first | exact Or.inl rfl | exact Or.inr rfl | omega) ?_
  refine z_al0 dX8_takeIsles_32 (by first | decide | omega | assumption) ?_
  refine z_getR zfX8_35 dX8_takeIsles_33 (zkB hΓ rfl) rfl (zsB hΓ rfl) (zvB hΓ (by decide)) ?_
  refine z_getR zfX8_132 dX8_takeIsles_36 (zkB hΓ rfl) rfl (zsB hΓ rfl) (zvB hΓ (by decide)) ?_
  refine z_getI zfX8_210 dX8_takeIsles_39 (zkB hΓ rfl) rfl ?_
  rw [(zIc_of hD hJ hE hV).2.2.1]
  try simp only [zup_ap, zup_row, ne_eq, not_false_eq_true, zres, Int.toNat_natCast, reduceIte, Nat.reduceEqDiff, Nat.reduceAdd, and_self, and_true, true_and, and_false, false_and]
  refine z_iret dX8_takeIsles_42 rfl (Nat.le_refl _) (Nat.le_refl _) (zext_rf _) (fun hrr => ?_)
  exact hQ _ (zIc_of hD hJ hE hV)
def zc_cuM (r j : Nat) : Bool := (Nat.beq r 89 && Nat.beq j 6) || (Nat.beq r 89 && Nat.beq j 7) || Nat.beq r 91 || Nat.beq r 92
theorem X9_fault_d {l : Launch} {Γ : zC} {h0 h : zM} {Q : Option zV → zC → zM → Prop} {n : Nat} {s : Int} (hF : zfr zSS h0 h) (hΓ : zBase Γ) (hn : h0 89 6 = (n : Int)) (hn2 : n ≤ 160) (ht : ∀ j, j < n → 0 ≤ h0 3 j ∧ h0 3 j ≤ 255) (htap : ∀ j, j < n → h0 3 j = h0 90 j % 256) (hs : s = 0 ∨ s = 1) (hA : s = 0 → (zIs (h0 3) n).1 = true → ∀ h2 p2, zMr Γ h0 h2 n p2 (zIs (h0 3) n).2.2.1 (zIs (h0 3) n).2.2.2 → Q (some (zI (-1))) Γ h2) (hB : s = 1 → (zPv (h0 3) n).1 = true → ∀ h2, zfr zSS h0 h2 → Q (some (zI (-1))) Γ h2) (hC : ∀ v : Nat, ¬ (s = 0 ∧ (zIs (h0 3) n).1 = true) → ¬ (s = 1 ∧ (zPv (h0 3) n).1 = true) → ∀ h2, zfr zSS h0 h2 → Q (some (zI (v : Int))) Γ h2) : zCT l mX9_fault 1675 0 0 Γ [zR 89, zI s] h Q := by
  have e3 : h 3 = h0 3 := funext fun j => hF 3 j rfl
  have e90 : h 90 = h0 90 := funext fun j => hF 90 j rfl
  refine X9_fault_c (n := n) hΓ ((hF 89 6 rfl).trans hn) hn2 (by rw [e3]; exact ht) (by rw [e3, e90]; exact htap) ?_ ?_ ?_ ?_ (fun e => absurd hs e) <;> rw [e3]
  · intro e b h2 p2 hM
    refine hA e b h2 p2 ⟨⟨zfr_tr hF hM.1.1, ?_, hM.1.2.2⟩, hM.2⟩
    have h9 := hM.1.2.1
    rw [e3] at h9
    exact h9
  · intro e b h2 hM
    exact hC _ (fun x => by rw [b] at x; exact absurd x.2 (by decide)) (fun x => by omega) h2 (zfr_tr hF hM)
  · intro e b h2 hM
    exact hB e b h2 (zfr_tr hF hM)
  · intro e b h2 hM
    exact hC _ (fun x => by omega) (fun x => by rw [b] at x; exact absurd x.2 (by decide)) h2 (zfr_tr hF hM)
def zJa (hb h : zM) (k : Nat) : Prop := (∀ r, r ≠ 94 → r ≠ 98 → h r = hb r) ∧ ∀ i, i < k → h 94 i = hb 95 i ∧ h 98 i = -1
def zJb (hb h : zM) (k : Nat) : Prop := (∀ r, r ≠ 96 → h r = hb r) ∧ ∀ i, i < k → h 96 i = hb 97 i
def zJc (hb h : zM) (c k : Nat) : Prop := (∀ r, r ≠ 91 → h r = hb r) ∧ ∀ j, h 91 j = if 160 * c ≤ j ∧ j < 160 * c + k then hb 90 (j - 160 * c) else hb 91 j
theorem zJa_s {hb h : zM} {k : Nat} (H : zJa hb h k) : zJa hb (zup (zup h 94 k (h 95 k)) 98 k (-1)) (k + 1) := ⟨fun r a b => by rw [zup_row b, zup_row a]; exact H.1 r a b, fun i hi => by
  rw [zup_row (by decide), zup_ap, zup_ap]
  by_cases e : i = k
  · rw [if_pos ⟨rfl, e⟩, if_pos ⟨rfl, e⟩, e, H.1 95 (by decide) (by decide)]; exact ⟨rfl, rfl⟩
  · rw [if_neg (fun x => e x.2), if_neg (fun x => e x.2), zup_row (by decide)]; exact H.2 i (by omega)⟩
theorem zJb_s {hb h : zM} {k : Nat} (H : zJb hb h k) : zJb hb (zup h 96 k (h 97 k)) (k + 1) := ⟨fun r a => by rw [zup_row a]; exact H.1 r a, fun i hi => by
  rw [zup_ap]
  by_cases e : i = k
  · rw [if_pos ⟨rfl, e⟩, e, H.1 97 (by decide)]
  · rw [if_neg (fun x => e x.2)]; exact H.2 i (by omega)⟩
theorem zJc_s {hb h : zM} {c k : Nat} (H : zJc hb h c k) : zJc hb (zup h 91 (160 * c + k) (h 90 k)) c (k + 1) := ⟨fun r a => by rw [zup_row a]; exact H.1 r a, fun j => by
  rw [zup_ap]
  by_cases e : j = 160 * c + k
  · rw [if_pos ⟨rfl, e⟩, if_pos ⟨by omega, by omega⟩, e, H.1 90 (by decide), show 160 * c + k - 160 * c = k by omega]
  · rw [if_neg (fun x => e x.2), H.2 j]
    by_cases e2 : 160 * c ≤ j ∧ j < 160 * c + k
    · rw [if_pos e2, if_pos ⟨e2.1, by omega⟩]
    · rw [if_neg e2, if_neg (fun x => e2 ⟨x.1, by have := x.2; omega⟩)]⟩
set_option maxRecDepth 4000 in
theorem X9_tx_a {l : Launch} {Γ : zC} {hb : zM} {Q : Option zV → zC → zM → Prop} {s x : Int}  (hΓ : zBase Γ) (hK : ∀ h2, zJa hb h2 6 → zG (zFn l mX9_text 1676 0 0 Γ Q) 0 0 Γ h2 156 [some (zR 89), some (zI s), some (zI x), some (zI (6 : Nat))] []) : ∀ (m k : Nat) (h : zM), 6 - k < m → k ≤ 6 → zJa hb h k → zG (zFn l mX9_text 1676 0 0 Γ Q) 0 0 Γ h 125 [some (zR 89), some (zI s), some (zI x), some (zI (k : Nat))] [] := by
  intro m
  induction m with
  | zero => intros; omega
  | succ m ih =>
    intro k h hm hk hJ
    refine z_il3 dX9_text_125 ?_
    refine z_bipush (x := 6) dX9_text_126 (by rfl) (by decide) ?_
    refine z_icmp_ge (t := 156) dX9_text_128 (by rfl) (fun ht128 => ?_) (fun hf128 => ?_)
    · rw [show k = 6 by omega] at hJ ⊢
      exact hK h hJ
    · refine z_al0 dX9_text_131 (by first | decide | omega | assumption) ?_
      refine z_getR zfX9_37 dX9_text_132 (zkB hΓ rfl) rfl (zsB hΓ rfl) (zvB hΓ (by decide)) ?_
      refine z_il3 dX9_text_135 ?_
      refine z_al0 dX9_text_136 (by first | decide | omega | assumption) ?_
      refine z_getR zfX9_40 dX9_text_137 (zkB hΓ rfl) rfl (zsB hΓ rfl) (zvB hΓ (by decide)) ?_
      refine z_il3 dX9_text_140 ?_
      refine z_iald dX9_text_141 (zkB hΓ rfl) (by omega) (by omega) ?_
      try simp only [zup_ap, zup_row, ne_eq, not_false_eq_true, zres, Int.toNat_natCast, reduceIte, Nat.reduceEqDiff, Nat.reduceAdd, and_self, and_true, true_and, and_false, false_and]
      refine z_iast dX9_text_142 (zkB hΓ rfl) (by omega) (by omega) ?_
      try simp only [Int.toNat_natCast]
      refine z_al0 dX9_text_143 (by first | decide | omega | assumption) ?_
      refine z_getR zfX9_49 dX9_text_144 (zkB hΓ rfl) rfl (zsB hΓ rfl) (zvB hΓ (by decide)) ?_
      refine z_il3 dX9_text_147 ?_
      refine z_iconst dX9_text_148 (by decide) ?_
      refine z_iast dX9_text_149 (zkB hΓ rfl) (by omega) (by omega) ?_
      refine z_ii3 dX9_text_150 (by omega) (Nat.le_of_ble_eq_true rfl) rfl ?_
      refine z_goto (t := 125) dX9_text_153 (by rfl) ?_
      exact ih (k + 1) _ (by omega) (by omega) (zJa_s hJ)
set_option maxRecDepth 4000 in
theorem X9_tx_b {l : Launch} {Γ : zC} {hb : zM} {Q : Option zV → zC → zM → Prop} {s x : Int}  (hΓ : zBase Γ) (hK : ∀ h2, zJb hb h2 36 → zG (zFn l mX9_text 1676 0 0 Γ Q) 0 0 Γ h2 182 [some (zR 89), some (zI s), some (zI x), some (zI (36 : Nat))] []) : ∀ (m k : Nat) (h : zM), 36 - k < m → k ≤ 36 → zJb hb h k → zG (zFn l mX9_text 1676 0 0 Γ Q) 0 0 Γ h 158 [some (zR 89), some (zI s), some (zI x), some (zI (k : Nat))] [] := by
  intro m
  induction m with
  | zero => intros; omega
  | succ m ih =>
    intro k h hm hk hJ
    refine z_il3 dX9_text_158 ?_
    refine z_bipush (x := 36) dX9_text_159 (by rfl) (by decide) ?_
    refine z_icmp_ge (t := 182) dX9_text_161 (by rfl) (fun ht161 => ?_) (fun hf161 => ?_)
    · rw [show k = 36 by omega] at hJ ⊢
      exact hK h hJ
    · refine z_al0 dX9_text_164 (by first | decide | omega | assumption) ?_
      refine z_getR zfX9_43 dX9_text_165 (zkB hΓ rfl) rfl (zsB hΓ rfl) (zvB hΓ (by decide)) ?_
      refine z_il3 dX9_text_168 ?_
      refine z_al0 dX9_text_169 (by first | decide | omega | assumption) ?_
      refine z_getR zfX9_46 dX9_text_170 (zkB hΓ rfl) rfl (zsB hΓ rfl) (zvB hΓ (by decide)) ?_
      refine z_il3 dX9_text_173 ?_
      refine z_iald dX9_text_174 (zkB hΓ rfl) (by omega) (by omega) ?_
      try simp only [zup_ap, zup_row, ne_eq, not_false_eq_true, zres, Int.toNat_natCast, reduceIte, Nat.reduceEqDiff, Nat.reduceAdd, and_self, and_true, true_and, and_false, false_and]
      refine z_iast dX9_text_175 (zkB hΓ rfl) (by omega) (by omega) ?_
      try simp only [Int.toNat_natCast]
      refine z_ii3 dX9_text_176 (by omega) (Nat.le_of_ble_eq_true rfl) rfl ?_
      refine z_goto (t := 158) dX9_text_179 (by rfl) ?_
      exact ih (k + 1) _ (by omega) (by omega) (zJb_s hJ)
set_option maxRecDepth 4000 in
theorem X9_tx_c {l : Launch} {Γ : zC} {hb : zM} {Q : Option zV → zC → zM → Prop} {s : Int} {c n : Nat} (hc : hb 89 7 = (c : Int)) (hc4 : c < 4) (hn2 : n ≤ 160) (hΓ : zBase Γ) (hK : ∀ h2, zJc hb h2 c n → zG (zFn l mX9_text 1676 0 0 Γ Q) 0 0 Γ h2 88 [some (zR 89), some (zI s), some (zI (n : Int)), some (zI (n : Int))] []) : ∀ (m k : Nat) (h : zM), n - k < m → k ≤ n → zJc hb h c k → zG (zFn l mX9_text 1676 0 0 Γ Q) 0 0 Γ h 56 [some (zR 89), some (zI s), some (zI (n : Int)), some (zI (k : Nat))] [] := by
  intro m
  induction m with
  | zero => intros; omega
  | succ m ih =>
    intro k h hm hk hJ
    refine z_il3 dX9_text_56 ?_
    refine z_il2 dX9_text_57 ?_
    refine z_icmp_ge (t := 88) dX9_text_58 (by rfl) (fun ht58 => ?_) (fun hf58 => ?_)
    · rw [show k = n by omega] at hJ ⊢
      exact hK h hJ
    · refine z_al0 dX9_text_61 (by first | decide | omega | assumption) ?_
      refine z_getR zfX9_13 dX9_text_62 (zkB hΓ rfl) rfl (zsB hΓ rfl) (zvB hΓ (by decide)) ?_
      refine z_sipush (x := 160) dX9_text_65 (by rfl) (by decide) ?_
      refine z_al0 dX9_text_68 (by first | decide | omega | assumption) ?_
      refine z_getI zfX9_271 dX9_text_69 (zkB hΓ rfl) rfl ?_
      rw [hJ.1 89 (by decide), hc]
      try simp only [zup_ap, zup_row, ne_eq, not_false_eq_true, zres, Int.toNat_natCast, reduceIte, Nat.reduceEqDiff, Nat.reduceAdd, and_self, and_true, true_and, and_false, false_and]
      refine z_imul dX9_text_72 (by omega) ?_
      refine z_il3 dX9_text_73 ?_
      refine z_iadd dX9_text_74 (by omega) ?_
      refine z_al0 dX9_text_75 (by first | decide | omega | assumption) ?_
      refine z_getR zfX9_9 dX9_text_76 (zkB hΓ rfl) rfl (zsB hΓ rfl) (zvB hΓ (by decide)) ?_
      refine z_il3 dX9_text_79 ?_
      refine z_bald dX9_text_80 (zkB hΓ rfl) (by omega) (by omega) ?_
      try simp only [zup_ap, zup_row, ne_eq, not_false_eq_true, zres, Int.toNat_natCast, reduceIte, Nat.reduceEqDiff, Nat.reduceAdd, and_self, and_true, true_and, and_false, false_and]
      refine zrngM (fun hm9 => ?_)
      have hx9 := zom_a hm9 (zkB hΓ (r := 90) rfl) (j := k) (by omega)
      have hx9 : -128 ≤ h 90 k ∧ h 90 k < 128 := hx9
      refine z_bast dX9_text_81 (zkB hΓ rfl) (by omega) (by omega) (by omega) ?_
      rw [show (160 * (c : Int) + (k : Int)).toNat = 160 * c + k by omega]
      refine z_ii3 dX9_text_82 (by omega) (Nat.le_of_ble_eq_true rfl) rfl ?_
      refine z_goto (t := 56) dX9_text_85 (by rfl) ?_
      exact ih (k + 1) _ (by omega) (by omega) (zJc_s hJ)
set_option maxRecDepth 4000 in
theorem X9_isles_t {l : Launch} {Γ : zC} {hb h2 : zM} {Q : Option zV → zC → zM → Prop} {n p : Nat} {L : List Int} {D : zDM} {s x : Int} {y : Option zV} (hΓ : zBase Γ) (hn2 : n ≤ 160) (hL6 : L.length ≤ 6) (hM : zMr Γ hb h2 n p L D) (hQ : ∀ h9, zfr (zSx zc_isM) hb h9 → h9 89 6 = 0 → h9 89 22 = (L.length : Int) → (∀ i, i < L.length → h9 94 i = L.getD i 0) → (∀ a b, a < 6 → b < 6 → h9 96 (6 * a + b) = D a b) → (h9 89 28 = 0 ∧ h9 89 29 = 0 ∧ h9 89 39 = 0 ∧ h9 89 51 = 0 ∧ h9 89 60 = 0) → (∀ i, i < 6 → h9 98 i = -1) → Q (some (zI (L.length : Int))) Γ h9) : zG (zFn l mX9_text 1676 0 0 Γ Q) 0 0 Γ (zup h2 89 6 0) 115 [some (zR 89), some (zI s), some (zI x), y] [] := by
  refine z_al0 dX9_text_115 (by first | decide | omega | assumption) ?_
  refine z_al0 dX9_text_116 (by first | decide | omega | assumption) ?_
  refine z_getI zfX9_249 dX9_text_117 (zkB hΓ rfl) rfl ?_
  try rw [zup_ap, if_neg (fun x => absurd x.2 (by decide))]
  rw [hM.1.2.2.2.2.1]
  try simp only [zup_ap, zup_row, ne_eq, not_false_eq_true, zres, Int.toNat_natCast, reduceIte, Nat.reduceEqDiff, Nat.reduceAdd, and_self, and_true, true_and, and_false, false_and]
  refine z_putI zfX9_276 dX9_text_120 (zkB hΓ rfl) rfl rfl ?_
  refine z_iconst dX9_text_123 (by decide) ?_
  refine z_is3 dX9_text_124 (Nat.le_of_ble_eq_true rfl) rfl ?_
  refine X9_tx_a (hb := zup (zup h2 89 6 0) 89 22 (L.length : Int)) hΓ (fun h3 hJ => ?_) 7 0 _ (by omega) (by omega) ⟨fun _ _ _ => rfl, fun i hi => absurd hi (by omega)⟩
  refine z_iconst dX9_text_156 (by decide) ?_
  refine z_is3 dX9_text_157 (Nat.le_of_ble_eq_true rfl) rfl ?_
  refine X9_tx_b (hb := h3) hΓ (fun h4 hJ4 => ?_) 37 0 _ (by omega) (by omega) ⟨fun _ _ => rfl, fun i hi => absurd hi (by omega)⟩
  refine z_al0 dX9_text_182 (by first | decide | omega | assumption) ?_
  refine z_iconst dX9_text_183 (by decide) ?_
  refine z_putI zfX9_279 dX9_text_184 (zkB hΓ rfl) rfl rfl ?_
  refine z_al0 dX9_text_187 (by first | decide | omega | assumption) ?_
  refine z_iconst dX9_text_188 (by decide) ?_
  refine z_putI zfX9_282 dX9_text_189 (zkB hΓ rfl) rfl rfl ?_
  refine z_al0 dX9_text_192 (by first | decide | omega | assumption) ?_
  refine z_iconst dX9_text_193 (by decide) ?_
  refine z_putI zfX9_285 dX9_text_194 (zkB hΓ rfl) rfl rfl ?_
  refine z_al0 dX9_text_197 (by first | decide | omega | assumption) ?_
  refine z_iconst dX9_text_198 (by decide) ?_
  refine z_putI zfX9_288 dX9_text_199 (zkB hΓ rfl) rfl rfl ?_
  refine z_al0 dX9_text_202 (by first | decide | omega | assumption) ?_
  refine z_iconst dX9_text_203 (by decide) ?_
  refine z_putZ zfX9_291 dX9_text_204 (zkB hΓ rfl) rfl rfl (by first | exact Or.inl rfl | exact Or.inr rfl | omega) ?_
  refine z_al0 dX9_text_207 (by first | decide | omega | assumption) ?_
  refine z_getI zfX9_276 dX9_text_208 (zkB hΓ rfl) rfl ?_
  have hL9 : h4 89 22 = (L.length : Int) := by rw [hJ4.1 89 (by decide), hJ.1 89 (by decide) (by decide), zup_rj]
  simp only [zup_ap, Nat.reduceEqDiff, and_false, if_false]
  rw [hL9]
  try simp only [zup_ap, zup_row, ne_eq, not_false_eq_true, zres, Int.toNat_natCast, reduceIte, Nat.reduceEqDiff, Nat.reduceAdd, and_self, and_true, true_and, and_false, false_and]
  refine z_iret dX9_text_211 rfl (Nat.le_refl _) (Nat.le_refl _) (zext_rf _) (fun hrr => ?_)
  have f2 : zfr (zSx zc_isM) hb (zup (zup h2 89 6 0) 89 22 (L.length : Int)) := zfr_up (zfr_up (zfr_x hM.1.1) rfl) rfl
  have f3 : zfr (zSx zc_isM) hb h3 := fun r j q => by
    rw [hJ.1 r (fun e => by subst e; cases q) (fun e => by subst e; cases q)]; exact f2 r j q
  have f4 : zfr (zSx zc_isM) hb h4 := fun r j q => by
    rw [hJ4.1 r (fun e => by subst e; cases q)]; exact f3 r j q
  refine hQ _ (zfr_up (zfr_up (zfr_up (zfr_up (zfr_up f4 rfl) rfl) rfl) rfl) rfl) ?_ ?_ (fun i hi => ?_) (fun a b ha hb => ?_) ⟨?_, ?_, ?_, ?_, ?_⟩ (fun i hi => ?_)
  · simp only [zup_ap, Nat.reduceEqDiff, and_false, if_false]
    rw [hJ4.1 89 (by decide), hJ.1 89 (by decide) (by decide)]; simp [zup_ap]
  · simp only [zup_ap, Nat.reduceEqDiff, and_false, if_false]
    exact hL9
  · simp only [zup_row, ne_eq, Nat.reduceEqDiff, not_false_eq_true]
    rw [hJ4.1 94 (by decide), (hJ.2 i (by omega)).1, zup_row (by decide), zup_row (by decide)]; exact hM.1.2.2.2.2.2 i hi
  · simp only [zup_row, ne_eq, Nat.reduceEqDiff, not_false_eq_true]
    rw [hJ4.2 _ (by omega), hJ.1 97 (by decide) (by decide), zup_row (by decide), zup_row (by decide)]; exact hM.2 a b ha hb
  · simp [zup_ap]
  · simp [zup_ap]
  · simp [zup_ap]
  · simp [zup_ap]
  · simp [zup_ap]
  · simp only [zup_row, ne_eq, Nat.reduceEqDiff, not_false_eq_true]
    rw [hJ4.1 98 (by decide)]; exact (hJ.2 i hi).2
set_option maxRecDepth 4000 in
theorem X9_custom_t {l : Launch} {Γ : zC} {hb h2 : zM} {Q : Option zV → zC → zM → Prop} {n c : Nat} {s : Int} {y : Option zV} (hΓ : zBase Γ) (hn2 : n ≤ 160) (hF2 : zfr zSS hb h2) (hc : hb 89 7 = (c : Int)) (hc4 : c < 4) (hQ : ∀ h9, zfr (zSx zc_cuM) hb h9 → h9 89 6 = 0 → h9 89 7 = (c : Int) + 1 → (∀ j, h9 91 j = if 160 * c ≤ j ∧ j < 160 * c + n then hb 90 (j - 160 * c) else hb 91 j) → (∀ i, h9 92 i = if i = c then (n : Int) else hb 92 i) → Q (some (zI (c : Int))) Γ h9) : zG (zFn l mX9_text 1676 0 0 Γ Q) 0 0 Γ (zup h2 89 6 0) 54 [some (zR 89), some (zI s), some (zI (n : Int)), y] [] := by
  refine z_iconst dX9_text_54 (by decide) ?_
  refine z_is3 dX9_text_55 (Nat.le_of_ble_eq_true rfl) rfl ?_
  refine X9_tx_c (hb := zup h2 89 6 0) (n := n) (c := c) (by rw [zup_ap, if_neg (fun x => absurd x.2 (by decide)), hF2 89 7 rfl]; exact hc) hc4 hn2 hΓ (fun h3 hJ => ?_) (n + 1) 0 _ (by omega) (by omega) ⟨fun _ _ => rfl, fun j => by rw [if_neg (by omega)]⟩
  refine z_al0 dX9_text_88 (by first | decide | omega | assumption) ?_
  refine z_getR zfX9_16 dX9_text_89 (zkB hΓ rfl) rfl (zsB hΓ rfl) (zvB hΓ (by decide)) ?_
  refine z_al0 dX9_text_92 (by first | decide | omega | assumption) ?_
  have hc9 : h3 89 7 = (c : Int) := by rw [hJ.1 89 (by decide), zup_ap, if_neg (fun x => absurd x.2 (by decide)), hF2 89 7 rfl]; exact hc
  refine z_getI zfX9_271 dX9_text_93 (zkB hΓ rfl) rfl ?_
  try rw [zup_row (show (89 : Nat) ≠ 92 by decide)]
  first
  | rw [hc9]
  | (rw [zup_rj])
  try simp only [zup_ap, zup_row, ne_eq, not_false_eq_true, zres, Int.toNat_natCast, reduceIte, Nat.reduceEqDiff, Nat.reduceAdd, and_self, and_true, true_and, and_false, false_and]
  refine z_il2 dX9_text_96 ?_
  skip
  refine z_iast dX9_text_97 (zkB hΓ rfl) (by omega) (by omega) ?_
  refine z_al0 dX9_text_98 (by first | decide | omega | assumption) ?_
  refine z_dup dX9_text_99 rfl ?_
  refine z_getI zfX9_271 dX9_text_100 (zkB hΓ rfl) rfl ?_
  try rw [zup_row (show (89 : Nat) ≠ 92 by decide)]
  first
  | rw [hc9]
  | (rw [zup_rj])
  try simp only [zup_ap, zup_row, ne_eq, not_false_eq_true, zres, Int.toNat_natCast, reduceIte, Nat.reduceEqDiff, Nat.reduceAdd, and_self, and_true, true_and, and_false, false_and]
  refine z_iconst dX9_text_103 (by decide) ?_
  refine z_iadd dX9_text_104 (by omega) ?_
  refine z_putI zfX9_271 dX9_text_105 (zkB hΓ rfl) rfl rfl ?_
  refine z_al0 dX9_text_108 (by first | decide | omega | assumption) ?_
  refine z_getI zfX9_271 dX9_text_109 (zkB hΓ rfl) rfl ?_
  try rw [zup_row (show (89 : Nat) ≠ 92 by decide)]
  first
  | rw [hc9]
  | (rw [zup_rj])
  try simp only [zup_ap, zup_row, ne_eq, not_false_eq_true, zres, Int.toNat_natCast, reduceIte, Nat.reduceEqDiff, Nat.reduceAdd, and_self, and_true, true_and, and_false, false_and]
  refine z_iconst dX9_text_112 (by decide) ?_
  refine z_isub dX9_text_113 (by omega) ?_
  refine z_iret dX9_text_114 rfl (Nat.le_refl _) (Nat.le_refl _) (zext_rf _) (fun hrr => ?_)
  have f3 : zfr (zSx zc_cuM) hb h3 := fun r j q => by
    rw [hJ.1 r (fun e => by subst e; cases q)]; exact zfr_up (zfr_x hF2) (show zSx zc_cuM 89 6 = true from rfl) r j q
  rw [show (c : Int) + 1 - 1 = (c : Int) by omega]
  try simp only [Int.toNat_natCast]
  refine hQ _ (zfr_up (zfr_up f3 rfl) rfl) ?_ (zup_rj _ _ _ _) (fun j => ?_) (fun i => ?_)
  · rw [zup_ap, if_neg (fun x => absurd x.2 (by decide)), zup_row (by decide), hJ.1 89 (by decide), zup_rj]
  · rw [zup_row (by decide), zup_row (by decide), hJ.2 j, zup_row (by decide), zup_row (by decide)]
    have e91 : h2 90 = hb 90 := funext fun j => hF2 90 j rfl
    have e92 : h2 91 = hb 91 := funext fun j => hF2 91 j rfl
    rw [e91, e92]
  · rw [zup_row (by decide), zup_ap]
    by_cases e : i = c
    · rw [if_pos ⟨rfl, e⟩, if_pos e]
    · rw [if_neg (fun x => e x.2), if_neg e, hJ.1 92 (by decide), zup_row (by decide)]; exact hF2 92 i rfl
set_option maxRecDepth 4000 in
theorem X9_text_ct {l : Launch} {Γ : zC} {h : zM} {Q : Option zV → zC → zM → Prop} {n c : Nat} {s : Int} (hΓ : zBase Γ) (hn : h 89 6 = (n : Int)) (hn2 : n ≤ 160) (ht : ∀ j, j < n → 0 ≤ h 3 j ∧ h 3 j ≤ 255) (htap : ∀ j, j < n → h 3 j = h 90 j % 256) (hc : h 89 7 = (c : Int)) (hc4 : c ≤ 4) (hA : s = 0 → (zIs (h 3) n).1 = true → ∀ h9, zfr (zSx zc_isM) h h9 → h9 89 6 = 0 → h9 89 22 = ((zIs (h 3) n).2.2.1.length : Int) → (∀ i, i < (zIs (h 3) n).2.2.1.length → h9 94 i = (zIs (h 3) n).2.2.1.getD i 0) → (∀ a b, a < 6 → b < 6 → h9 96 (6 * a + b) = (zIs (h 3) n).2.2.2 a b) → (h9 89 28 = 0 ∧ h9 89 29 = 0 ∧ h9 89 39 = 0 ∧ h9 89 51 = 0 ∧ h9 89 60 = 0) → (∀ i, i < 6 → h9 98 i = -1) → Q (some (zI ((zIs (h 3) n).2.2.1.length : Int))) Γ h9) (hB : s = 1 → c < 4 → (zPv (h 3) n).1 = true → ∀ h9, zfr (zSx zc_cuM) h h9 → h9 89 6 = 0 → h9 89 7 = (c : Int) + 1 → (∀ j, h9 91 j = if 160 * c ≤ j ∧ j < 160 * c + n then h 90 (j - 160 * c) else h 91 j) → (∀ i, h9 92 i = if i = c then (n : Int) else h 92 i) → Q (some (zI (c : Int))) Γ h9) (hC : ¬ (s = 0 ∧ (zIs (h 3) n).1 = true) → ¬ (s = 1 ∧ c < 4 ∧ (zPv (h 3) n).1 = true) → ∀ h9, zfr zSS h h9 → Q (some (zI (-1))) Γ h9) : zCT l mX9_text 1676 0 0 Γ [zR 89, zI s] h Q := by
  refine zCT_of (by decide) (Nat.le_of_ble_eq_true rfl) (ls := [some (zR 89), some (zI s), none, none]) rfl ?_
  refine z_al0 dX9_text_0 (by first | decide | omega | assumption) ?_
  refine z_iconst dX9_text_1 (by decide) ?_
  refine z_putI zfX9_128 dX9_text_2 (zkB hΓ rfl) rfl rfl ?_
  refine z_il1 dX9_text_5 ?_
  refine z_i2l dX9_text_6 ?_
  refine z_lconst (x := 0) dX9_text_7 (by rfl) (by decide) ?_
  refine z_lconst (x := 1) dX9_text_8 (by rfl) (by decide) ?_
  refine zcs3 dX9_text_9 zkX9_261 ztX9_isIn (Nat.le_of_ble_eq_true rfl) (by decide) (by first | decide | omega) ⟨Nat.le_refl _, Nat.le_refl _⟩ (X9_isIn_ct (fun hg9 _ => ?_) (fun hg9 _ => ?_))
  · try simp only [zup_ap, zup_row, ne_eq, not_false_eq_true, zres, Int.toNat_natCast, reduceIte, Nat.reduceEqDiff, Nat.reduceAdd, and_self, and_true, true_and, and_false, false_and]
    refine z_if_eq (t := 37) dX9_text_12 (by rfl) (fun _ => ?_) (fun hx => absurd hx (by decide))
    refine z_iconst dX9_text_37 (by decide) ?_
    refine z_iret dX9_text_38 rfl (Nat.le_refl _) (Nat.le_refl _) (zext_rf _) (fun hrr => ?_)
    first
    | exact hC hz1 (fun x => hz2 ⟨x.1, x.2.2⟩) _ hF2
    | exact hC (by omega) (by omega) _ (zfr_up (zfr_rf _ h) rfl)
    | exact hC (fun x => by omega) (fun x => by omega) _ (zfr_up (zfr_rf _ h) rfl)
  · try simp only [zup_ap, zup_row, ne_eq, not_false_eq_true, zres, Int.toNat_natCast, reduceIte, Nat.reduceEqDiff, Nat.reduceAdd, and_self, and_true, true_and, and_false, false_and]
    refine z_if_eq (t := 37) dX9_text_12 (by rfl) (fun hx => absurd hx (by decide)) (fun _ => ?_)
    refine z_il1 dX9_text_15 ?_
    refine z_iconst dX9_text_16 (by decide) ?_
    refine z_icmp_ne (t := 28) dX9_text_17 (by rfl) (fun ht17 => ?_) (fun hf17 => ?_)
    · refine z_al0 dX9_text_28 (by first | decide | omega | assumption) ?_
      refine z_il1 dX9_text_29 ?_
      refine zcv1 dX9_text_30 zkX9_274 ziX9_fault zsX9_fault (zkB hΓ rfl) (by decide) rfl (Nat.le_of_ble_eq_true rfl) (by decide) (by first | decide | omega) ⟨Nat.le_refl _, Nat.le_refl _⟩ (X9_fault_d (h0 := h) (zfr_up (zfr_rf _ h) rfl) hΓ hn hn2 ht htap (by omega) (fun e8 hb h2 p2 hM _ => ?_) (fun e8 hb h2 hF2 _ => ?_) (fun v hz1 hz2 h2 hF2 _ => ?_))
      · try simp only [zup_ap, zup_row, ne_eq, not_false_eq_true, zres, Int.toNat_natCast, reduceIte, Nat.reduceEqDiff, Nat.reduceAdd, and_self, and_true, true_and, and_false, false_and]
        refine z_iconst dX9_text_33 (by decide) ?_
        refine z_icmp_eq (t := 39) dX9_text_34 (by rfl) (fun _ => ?_) (fun hx => absurd hx (by decide))
        refine z_al0 dX9_text_39 (by first | decide | omega | assumption) ?_
        refine z_getI zfX9_141 dX9_text_40 (zkB hΓ rfl) rfl ?_
        first | rw [hM.1.1 89 6 rfl, hn] | rw [hF2 89 6 rfl, hn]
        try simp only [zup_ap, zup_row, ne_eq, not_false_eq_true, zres, Int.toNat_natCast, reduceIte, Nat.reduceEqDiff, Nat.reduceAdd, and_self, and_true, true_and, and_false, false_and]
        refine z_is2 dX9_text_43 (Nat.le_of_ble_eq_true rfl) rfl ?_
        refine z_al0 dX9_text_44 (by first | decide | omega | assumption) ?_
        refine z_iconst dX9_text_45 (by decide) ?_
        refine z_putI zfX9_141 dX9_text_46 (zkB hΓ rfl) rfl rfl ?_
        refine z_il1 dX9_text_49 ?_
        refine z_iconst dX9_text_50 (by decide) ?_
        refine z_icmp_ne (t := 115) dX9_text_51 (by rfl) (fun ht51 => ?_) (fun hf51 => ?_)
        · first
          | (exfalso; omega)
          | (refine X9_isles_t hΓ hn2 (zIs_ok hn2 hb).1.2 hM (hA (by omega) hb))
        · first
          | (exfalso; omega)
          | (refine X9_isles_t hΓ hn2 (zIs_ok hn2 hb).1.2 hM (hA (by omega) hb))
          | (exact X9_custom_t hΓ hn2 hF2 hc (by omega) (hB (by omega) (by omega) hb))
      · try simp only [zup_ap, zup_row, ne_eq, not_false_eq_true, zres, Int.toNat_natCast, reduceIte, Nat.reduceEqDiff, Nat.reduceAdd, and_self, and_true, true_and, and_false, false_and]
        refine z_iconst dX9_text_33 (by decide) ?_
        refine z_icmp_eq (t := 39) dX9_text_34 (by rfl) (fun _ => ?_) (fun hx => absurd hx (by decide))
        refine z_al0 dX9_text_39 (by first | decide | omega | assumption) ?_
        refine z_getI zfX9_141 dX9_text_40 (zkB hΓ rfl) rfl ?_
        first | rw [hM.1.1 89 6 rfl, hn] | rw [hF2 89 6 rfl, hn]
        try simp only [zup_ap, zup_row, ne_eq, not_false_eq_true, zres, Int.toNat_natCast, reduceIte, Nat.reduceEqDiff, Nat.reduceAdd, and_self, and_true, true_and, and_false, false_and]
        refine z_is2 dX9_text_43 (Nat.le_of_ble_eq_true rfl) rfl ?_
        refine z_al0 dX9_text_44 (by first | decide | omega | assumption) ?_
        refine z_iconst dX9_text_45 (by decide) ?_
        refine z_putI zfX9_141 dX9_text_46 (zkB hΓ rfl) rfl rfl ?_
        refine z_il1 dX9_text_49 ?_
        refine z_iconst dX9_text_50 (by decide) ?_
        refine z_icmp_ne (t := 115) dX9_text_51 (by rfl) (fun ht51 => ?_) (fun hf51 => ?_)
        · first
          | (exfalso; omega)
          | (refine X9_isles_t hΓ hn2 (zIs_ok hn2 hb).1.2 hM (hA (by omega) hb))
        · first
          | (exfalso; omega)
          | (refine X9_isles_t hΓ hn2 (zIs_ok hn2 hb).1.2 hM (hA (by omega) hb))
          | (exact X9_custom_t hΓ hn2 hF2 hc (by omega) (hB (by omega) (by omega) hb))
      · have hv0 : (0 : Int) ≤ (v : Int) := by omega
        try simp only [zup_ap, zup_row, ne_eq, not_false_eq_true, zres, Int.toNat_natCast, reduceIte, Nat.reduceEqDiff, Nat.reduceAdd, and_self, and_true, true_and, and_false, false_and]
        
        refine z_iconst dX9_text_33 (by decide) ?_
        refine z_icmp_eq (t := 39) dX9_text_34 (by rfl) (fun ht34 => ?_) (fun hf34 => ?_)
        · exfalso; omega
        · refine z_iconst dX9_text_37 (by decide) ?_
          refine z_iret dX9_text_38 rfl (Nat.le_refl _) (Nat.le_refl _) (zext_rf _) (fun hrr => ?_)
          first
          | exact hC hz1 (fun x => hz2 ⟨x.1, x.2.2⟩) _ hF2
          | exact hC (by omega) (by omega) _ (zfr_up (zfr_rf _ h) rfl)
          | exact hC (fun x => by omega) (fun x => by omega) _ (zfr_up (zfr_rf _ h) rfl)
    · refine z_al0 dX9_text_20 (by first | decide | omega | assumption) ?_
      refine z_getI zfX9_271 dX9_text_21 (zkB hΓ rfl) rfl ?_
      try rw [zup_ap, if_neg (fun x => absurd x.2 (by decide))]
      rw [hc]
      try simp only [zup_ap, zup_row, ne_eq, not_false_eq_true, zres, Int.toNat_natCast, reduceIte, Nat.reduceEqDiff, Nat.reduceAdd, and_self, and_true, true_and, and_false, false_and]
      refine z_iconst dX9_text_24 (by decide) ?_
      refine z_icmp_eq (t := 37) dX9_text_25 (by rfl) (fun ht25 => ?_) (fun hf25 => ?_)
      · refine z_iconst dX9_text_37 (by decide) ?_
        refine z_iret dX9_text_38 rfl (Nat.le_refl _) (Nat.le_refl _) (zext_rf _) (fun hrr => ?_)
        first
        | exact hC hz1 (fun x => hz2 ⟨x.1, x.2.2⟩) _ hF2
        | exact hC (by omega) (by omega) _ (zfr_up (zfr_rf _ h) rfl)
        | exact hC (fun x => by omega) (fun x => by omega) _ (zfr_up (zfr_rf _ h) rfl)
      · refine z_al0 dX9_text_28 (by first | decide | omega | assumption) ?_
        refine z_il1 dX9_text_29 ?_
        refine zcv1 dX9_text_30 zkX9_274 ziX9_fault zsX9_fault (zkB hΓ rfl) (by decide) rfl (Nat.le_of_ble_eq_true rfl) (by decide) (by first | decide | omega) ⟨Nat.le_refl _, Nat.le_refl _⟩ (X9_fault_d (h0 := h) (zfr_up (zfr_rf _ h) rfl) hΓ hn hn2 ht htap (by omega) (fun e8 hb h2 p2 hM _ => ?_) (fun e8 hb h2 hF2 _ => ?_) (fun v hz1 hz2 h2 hF2 _ => ?_))
        · try simp only [zup_ap, zup_row, ne_eq, not_false_eq_true, zres, Int.toNat_natCast, reduceIte, Nat.reduceEqDiff, Nat.reduceAdd, and_self, and_true, true_and, and_false, false_and]
          refine z_iconst dX9_text_33 (by decide) ?_
          refine z_icmp_eq (t := 39) dX9_text_34 (by rfl) (fun _ => ?_) (fun hx => absurd hx (by decide))
          refine z_al0 dX9_text_39 (by first | decide | omega | assumption) ?_
          refine z_getI zfX9_141 dX9_text_40 (zkB hΓ rfl) rfl ?_
          first | rw [hM.1.1 89 6 rfl, hn] | rw [hF2 89 6 rfl, hn]
          try simp only [zup_ap, zup_row, ne_eq, not_false_eq_true, zres, Int.toNat_natCast, reduceIte, Nat.reduceEqDiff, Nat.reduceAdd, and_self, and_true, true_and, and_false, false_and]
          refine z_is2 dX9_text_43 (Nat.le_of_ble_eq_true rfl) rfl ?_
          refine z_al0 dX9_text_44 (by first | decide | omega | assumption) ?_
          refine z_iconst dX9_text_45 (by decide) ?_
          refine z_putI zfX9_141 dX9_text_46 (zkB hΓ rfl) rfl rfl ?_
          refine z_il1 dX9_text_49 ?_
          refine z_iconst dX9_text_50 (by decide) ?_
          refine z_icmp_ne (t := 115) dX9_text_51 (by rfl) (fun ht51 => ?_) (fun hf51 => ?_)
          · first
            | (exfalso; omega)
            | (refine X9_isles_t hΓ hn2 (zIs_ok hn2 hb).1.2 hM (hA (by omega) hb))
          · first
            | (exfalso; omega)
            | (refine X9_isles_t hΓ hn2 (zIs_ok hn2 hb).1.2 hM (hA (by omega) hb))
            | (exact X9_custom_t hΓ hn2 hF2 hc (by omega) (hB (by omega) (by omega) hb))
        · try simp only [zup_ap, zup_row, ne_eq, not_false_eq_true, zres, Int.toNat_natCast, reduceIte, Nat.reduceEqDiff, Nat.reduceAdd, and_self, and_true, true_and, and_false, false_and]
          refine z_iconst dX9_text_33 (by decide) ?_
          refine z_icmp_eq (t := 39) dX9_text_34 (by rfl) (fun _ => ?_) (fun hx => absurd hx (by decide))
          refine z_al0 dX9_text_39 (by first | decide | omega | assumption) ?_
          refine z_getI zfX9_141 dX9_text_40 (zkB hΓ rfl) rfl ?_
          first | rw [hM.1.1 89 6 rfl, hn] | rw [hF2 89 6 rfl, hn]
          try simp only [zup_ap, zup_row, ne_eq, not_false_eq_true, zres, Int.toNat_natCast, reduceIte, Nat.reduceEqDiff, Nat.reduceAdd, and_self, and_true, true_and, and_false, false_and]
          refine z_is2 dX9_text_43 (Nat.le_of_ble_eq_true rfl) rfl ?_
          refine z_al0 dX9_text_44 (by first | decide | omega | assumption) ?_
          refine z_iconst dX9_text_45 (by decide) ?_
          refine z_putI zfX9_141 dX9_text_46 (zkB hΓ rfl) rfl rfl ?_
          refine z_il1 dX9_text_49 ?_
          refine z_iconst dX9_text_50 (by decide) ?_
          refine z_icmp_ne (t := 115) dX9_text_51 (by rfl) (fun ht51 => ?_) (fun hf51 => ?_)
          · first
            | (exfalso; omega)
            | (refine X9_isles_t hΓ hn2 (zIs_ok hn2 hb).1.2 hM (hA (by omega) hb))
          · first
            | (exfalso; omega)
            | (refine X9_isles_t hΓ hn2 (zIs_ok hn2 hb).1.2 hM (hA (by omega) hb))
            | (exact X9_custom_t hΓ hn2 hF2 hc (by omega) (hB (by omega) (by omega) hb))
        · have hv0 : (0 : Int) ≤ (v : Int) := by omega
          try simp only [zup_ap, zup_row, ne_eq, not_false_eq_true, zres, Int.toNat_natCast, reduceIte, Nat.reduceEqDiff, Nat.reduceAdd, and_self, and_true, true_and, and_false, false_and]
          
          refine z_iconst dX9_text_33 (by decide) ?_
          refine z_icmp_eq (t := 39) dX9_text_34 (by rfl) (fun ht34 => ?_) (fun hf34 => ?_)
          · exfalso; omega
          · refine z_iconst dX9_text_37 (by decide) ?_
            refine z_iret dX9_text_38 rfl (Nat.le_refl _) (Nat.le_refl _) (zext_rf _) (fun hrr => ?_)
            first
            | exact hC hz1 (fun x => hz2 ⟨x.1, x.2.2⟩) _ hF2
            | exact hC (by omega) (by omega) _ (zfr_up (zfr_rf _ h) rfl)
            | exact hC (fun x => by omega) (fun x => by omega) _ (zfr_up (zfr_rf _ h) rfl)
