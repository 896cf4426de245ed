/-! SUMS in PARTS: what is barred, by how many PARTS a sum is come to; class and reference -/
def zan (f : Nat → Bool) : Nat → Bool
  | 0 => false
  | m + 1 => zan f m || f (m + 1)
theorem zan_iff (f : Nat → Bool) (m : Nat) : zan f m = true ↔ ∃ p, 1 ≤ p ∧ p ≤ m ∧ f p = true := by
  induction m with
  | zero => exact ⟨fun h => (by cases h), fun ⟨p, h1, h2, _⟩ => absurd h1 (by omega)⟩
  | succ m ih =>
    unfold zan
    rw [Bool.or_eq_true, ih]
    constructor
    · rintro (⟨p, h1, h2, h3⟩ | h)
      · exact ⟨p, h1, by omega, h3⟩
      · exact ⟨m + 1, by omega, Nat.le_refl _, h⟩
    · rintro ⟨p, h1, h2, h3⟩
      by_cases e : p = m + 1
      · subst e; exact Or.inr h3
      · exact Or.inl ⟨p, h1, by omega, h3⟩
theorem zb_ext {a b : Bool} (h : a = true ↔ b = true) : a = b := by cases a <;> cases b <;> simp_all
theorem zan_cg {f g : Nat → Bool} {m : Nat} (h : ∀ q, 1 ≤ q → q ≤ m → (f q = true ↔ g q = true)) : zan f m = zan g m := by
  refine zb_ext ?_
  rw [zan_iff, zan_iff]
  exact ⟨fun ⟨p, h1, h2, h3⟩ => ⟨p, h1, h2, (h p h1 h2).1 h3⟩, fun ⟨p, h1, h2, h3⟩ => ⟨p, h1, h2, (h p h1 h2).2 h3⟩⟩
theorem zan_stop (f : Nat → Bool) (m t : Nat) : zan (fun p => decide (p ≤ t) && f p) m = zan f (min m t) := by
  refine zb_ext ?_
  rw [zan_iff, zan_iff]
  constructor
  · rintro ⟨p, h1, h2, h3⟩
    simp only [Bool.and_eq_true, decide_eq_true_eq] at h3
    exact ⟨p, h1, by omega, h3.2⟩
  · rintro ⟨p, h1, h2, h3⟩
    exact ⟨p, h1, by omega, by simp only [Bool.and_eq_true, decide_eq_true_eq]; exact ⟨by omega, h3⟩⟩
def zpt (b : Nat → Int) (r : Int) (p : Nat) : Bool := decide (r % 2 = 0) || decide (b p = 0)
def zto (b : Nat → Int) (r : Int) (p : Nat) : Bool := decide (r / 2 % 2 = 0) || decide (b p = 0)
def zco (b : Nat → Int) (r : Int) (p : Nat) : Bool := decide (r / 4 % 2 = 0) || decide (b p = 0)
theorem zpt_t {b : Nat → Int} {r : Int} {p : Nat} (h : r % 2 = 0 ∨ b p = 0) : zpt b r p = true := by simp only [zpt, Bool.or_eq_true, decide_eq_true_eq]; exact h
theorem zto_t {b : Nat → Int} {r : Int} {p : Nat} (h : r / 2 % 2 = 0 ∨ b p = 0) : zto b r p = true := by simp only [zto, Bool.or_eq_true, decide_eq_true_eq]; exact h
theorem zco_t {b : Nat → Int} {r : Int} {p : Nat} (h : r / 4 % 2 = 0 ∨ b p = 0) : zco b r p = true := by simp only [zco, Bool.or_eq_true, decide_eq_true_eq]; exact h
theorem zpt_f {b : Nat → Int} {r : Int} {p : Nat} (h : ¬ (r % 2 = 0 ∨ b p = 0)) : zpt b r p = false := Bool.eq_false_iff.2 (fun e => h (by simpa only [zpt, Bool.or_eq_true, decide_eq_true_eq] using e))
theorem zto_f {b : Nat → Int} {r : Int} {p : Nat} (h : ¬ (r / 2 % 2 = 0 ∨ b p = 0)) : zto b r p = false := Bool.eq_false_iff.2 (fun e => h (by simpa only [zto, Bool.or_eq_true, decide_eq_true_eq] using e))
theorem zco_f {b : Nat → Int} {r : Int} {p : Nat} (h : ¬ (r / 4 % 2 = 0 ∨ b p = 0)) : zco b r p = false := Bool.eq_false_iff.2 (fun e => h (by simpa only [zco, Bool.or_eq_true, decide_eq_true_eq] using e))
/-- from 0 to t by k PARTS -/
def zcm (b : Nat → Int) (r : Int) (hd : Nat) : Nat → Nat → Bool
  | 0, t => decide (t = 0)
  | k + 1, t => zto b r t && zan (fun p => decide (p ≤ t) && (zpt b r p && zcm b r hd k (t - p))) hd
theorem zcm_z (b : Nat → Int) (r : Int) (hd k : Nat) : (k == 0) = zcm b r hd k 0 := by
  cases k with
  | zero => rfl
  | succ k =>
    show false = (zto b r 0 && zan _ hd)
    rw [zan_stop, Nat.min_zero]
    show false = (zto b r 0 && false)
    rw [Bool.and_false]
/-- from t to the sum by k PARTS -/
def zgo (b : Nat → Int) (r : Int) (hd sum : Nat) : Nat → Nat → Bool
  | 0, t => decide (t = sum)
  | k + 1, t => zan (fun p => decide (p ≤ sum - t) && (zpt b r p && (zto b r (t + p) && zgo b r hd sum k (t + p)))) hd
def zPu (h : zM) (b : Nat → Int) (r : Int) (hd : Nat) : Prop := (∀ n, n ≤ 200 → h 42 n = b n) ∧ h 41 5 = r ∧ h 41 4 = (hd : Int) ∧ (0 ≤ r ∧ r ≤ 7) ∧ hd ≤ 30
theorem zPu_cg {h h' : zM} {b : Nat → Int} {r : Int} {hd : Nat} (H : zPu h b r hd) (e : ∀ q, q ≠ 43 → q ≠ 44 → ¬ (46 ≤ q ∧ q ≤ 76) → h' q = h q) : zPu h' b r hd := ⟨fun n hn => by rw [e 42 (by decide) (by decide) (by decide)]; exact H.1 n hn, by rw [e 41 (by decide) (by decide) (by decide)]; exact H.2.1, by rw [e 41 (by decide) (by decide) (by decide)]; exact H.2.2.1, H.2.2.2.1, H.2.2.2.2⟩
theorem zia1 {r : Int} (h : 0 ≤ r ∧ r ≤ 7) : zf_iand r 1 = r % 2 := by
  have key : ∀ b : Fin 8, zf_iand (b.val : Int) 1 = (b.val : Int) % 2 := by decide +kernel
  have e := key ⟨r.toNat, by omega⟩
  simp only [Int.toNat_of_nonneg h.1] at e
  exact e
theorem zia2 {r : Int} (h : 0 ≤ r ∧ r ≤ 7) : zf_iand r 2 = r / 2 % 2 * 2 := by
  have key : ∀ b : Fin 8, zf_iand (b.val : Int) 2 = (b.val : Int) / 2 % 2 * 2 := by decide +kernel
  have e := key ⟨r.toNat, by omega⟩
  simp only [Int.toNat_of_nonneg h.1] at e
  exact e
theorem zia4 {r : Int} (h : 0 ≤ r ∧ r ≤ 7) : zf_iand r 4 = r / 4 % 2 * 4 := by
  have key : ∀ b : Fin 8, zf_iand (b.val : Int) 4 = (b.val : Int) / 4 % 2 * 4 := by decide +kernel
  have e := key ⟨r.toNat, by omega⟩
  simp only [Int.toNat_of_nonneg h.1] at e
  exact e
theorem zis0 {r : Int} (h : 0 ≤ r ∧ r ≤ 7) : zf_iand (zf_ishr r 0) 1 = r % 2 := by
  have key : ∀ b : Fin 8, zf_iand (zf_ishr (b.val : Int) 0) 1 = (b.val : Int) % 2 := by decide +kernel
  have e := key ⟨r.toNat, by omega⟩
  simp only [Int.toNat_of_nonneg h.1] at e
  exact e
theorem zis1 {r : Int} (h : 0 ≤ r ∧ r ≤ 7) : zf_iand (zf_ishr r 1) 1 = r / 2 % 2 := by
  have key : ∀ b : Fin 8, zf_iand (zf_ishr (b.val : Int) 1) 1 = (b.val : Int) / 2 % 2 := by decide +kernel
  have e := key ⟨r.toNat, by omega⟩
  simp only [Int.toNat_of_nonneg h.1] at e
  exact e
theorem zis2 {r : Int} (h : 0 ≤ r ∧ r ≤ 7) : zf_iand (zf_ishr r 2) 1 = r / 4 % 2 := by
  have key : ∀ b : Fin 8, zf_iand (zf_ishr (b.val : Int) 2) 1 = (b.val : Int) / 4 % 2 := by decide +kernel
  have e := key ⟨r.toNat, by omega⟩
  simp only [Int.toNat_of_nonneg h.1] at e
  exact e
set_option maxRecDepth 4000 in
theorem X4_isBarred_ct {l : Launch} {Γ : zC} {h : zM} {Q : Option zV → zC → zM → Prop} (hΓ : zBase Γ) {b : Nat → Int} {r : Int} {hd : Nat} (hP : zPu h b r hd) {n : Nat} (hn : n ≤ 200) (hQ0 : b n = 0 → Q (some (zI 0)) Γ h) (hQ1 : b n ≠ 0 → Q (some (zI 1)) Γ h) : zCT l mX4_isBarred 0 0 0 Γ [zR 41, zI (n : Int)] h Q := by
  have hr7 := hP.2.2.2.1
  have hd9 := hP.2.2.2.2
  refine zCT_of (by decide) (Nat.le_of_ble_eq_true rfl) (ls := [some (zR 41), some (zI (n : Int))]) rfl ?_
  refine z_il1 dX4_isBarred_0 ?_
  refine z_if_lt (t := 24) dX4_isBarred_1 (by rfl) (fun ht1 => ?_) (fun hf1 => ?_)
  · refine z_iconst dX4_isBarred_24 (by decide) ?_
    refine z_zret dX4_isBarred_25 rfl (Nat.le_refl _) (Nat.le_refl _) (zext_rf _) (by first | exact Or.inl rfl | exact Or.inr rfl | omega) ?_
    first | (exfalso; omega) | exact hQ0 (by omega) | exact hQ1 (by omega)
  · refine z_il1 dX4_isBarred_4 ?_
    refine z_sipush (x := 200) dX4_isBarred_5 (by rfl) (by decide) ?_
    refine z_icmp_gt (t := 24) dX4_isBarred_8 (by rfl) (fun ht8 => ?_) (fun hf8 => ?_)
    · refine z_iconst dX4_isBarred_24 (by decide) ?_
      refine z_zret dX4_isBarred_25 rfl (Nat.le_refl _) (Nat.le_refl _) (zext_rf _) (by first | exact Or.inl rfl | exact Or.inr rfl | omega) ?_
      first | (exfalso; omega) | exact hQ0 (by omega) | exact hQ1 (by omega)
    · refine z_al0 dX4_isBarred_11 (by first | decide | omega | assumption) ?_
      refine z_getR zfX4_9 dX4_isBarred_12 (zkB hΓ rfl) rfl (zsB hΓ rfl) (zvB hΓ (by decide)) ?_
      refine z_il1 dX4_isBarred_15 ?_
      refine z_zald dX4_isBarred_16 (zkB hΓ rfl) (by omega) (by omega) ?_
      rw [hP.1 _ (by omega)]
      try simp only [zup_ap, zup_row, ne_eq, not_false_eq_true, zres, Int.toNat_natCast, reduceIte, Nat.reduceEqDiff, Nat.reduceAdd, and_self, and_true, true_and, and_false, false_and]
      refine z_if_eq (t := 24) dX4_isBarred_17 (by rfl) (fun ht17 => ?_) (fun hf17 => ?_)
      · refine z_iconst dX4_isBarred_24 (by decide) ?_
        refine z_zret dX4_isBarred_25 rfl (Nat.le_refl _) (Nat.le_refl _) (zext_rf _) (by first | exact Or.inl rfl | exact Or.inr rfl | omega) ?_
        first | (exfalso; omega) | exact hQ0 (by omega) | exact hQ1 (by omega)
      · refine z_iconst dX4_isBarred_20 (by decide) ?_
        refine z_goto (t := 25) dX4_isBarred_21 (by rfl) ?_
        refine z_zret dX4_isBarred_25 rfl (Nat.le_refl _) (Nat.le_refl _) (zext_rf _) (by first | exact Or.inl rfl | exact Or.inr rfl | omega) ?_
        first | (exfalso; omega) | exact hQ0 (by omega) | exact hQ1 (by omega)
set_option maxRecDepth 4000 in
theorem X4_isPart_ct {l : Launch} {Γ : zC} {h : zM} {Q : Option zV → zC → zM → Prop} (hΓ : zBase Γ) {b : Nat → Int} {r : Int} {hd : Nat} (hP : zPu h b r hd) {n : Nat} (hn : n ≤ 200) (hQ0 : zpt b r n = false → Q (some (zI 0)) Γ h) (hQ1 : zpt b r n = true → Q (some (zI 1)) Γ h) : zCT l mX4_isPart 1 0 0 Γ [zR 41, zI (n : Int)] h Q := by
  have hr7 := hP.2.2.2.1
  have hd9 := hP.2.2.2.2
  refine zCT_of (by decide) (Nat.le_of_ble_eq_true rfl) (ls := [some (zR 41), some (zI (n : Int))]) rfl ?_
  refine z_al0 dX4_isPart_0 (by first | decide | omega | assumption) ?_
  refine z_getI zfX4_31 dX4_isPart_1 (zkB hΓ rfl) rfl ?_
  rw [hP.2.1]
  try simp only [zup_ap, zup_row, ne_eq, not_false_eq_true, zres, Int.toNat_natCast, reduceIte, Nat.reduceEqDiff, Nat.reduceAdd, and_self, and_true, true_and, and_false, false_and]
  refine z_iconst dX4_isPart_4 (by decide) ?_
  refine z_iand dX4_isPart_5 ?_
  rw [zia1 hr7]
  refine z_if_eq (t := 17) dX4_isPart_6 (by rfl) (fun ht6 => ?_) (fun hf6 => ?_)
  · refine z_iconst dX4_isPart_17 (by decide) ?_
    refine z_goto (t := 22) dX4_isPart_18 (by rfl) ?_
    refine z_zret dX4_isPart_22 rfl (Nat.le_refl _) (Nat.le_refl _) (zext_rf _) (by first | exact Or.inl rfl | exact Or.inr rfl | omega) ?_
    first | exact hQ0 (zpt_f (by omega)) | exact hQ1 (zpt_t (by omega))
  · refine z_al0 dX4_isPart_9 (by first | decide | omega | assumption) ?_
    refine z_il1 dX4_isPart_10 ?_
    refine zcv1 dX4_isPart_11 zkX4_78 ziX4_isBarred zsX4_isBarred (zkB hΓ rfl) (by decide) rfl (Nat.le_of_ble_eq_true rfl) (by decide) (by first | decide | omega) ⟨Nat.le_refl _, Nat.le_refl _⟩ (X4_isBarred_ct hΓ hP hn (fun hp9 _ => ?_) (fun hp9 _ => ?_))
    · try simp only [zup_ap, zup_row, ne_eq, not_false_eq_true, zres, Int.toNat_natCast, reduceIte, Nat.reduceEqDiff, Nat.reduceAdd, and_self, and_true, true_and, and_false, false_and]
      refine z_if_ne (t := 21) dX4_isPart_14 (by rfl) (fun hx => absurd hx (by decide)) (fun _ => ?_)
      refine z_iconst dX4_isPart_17 (by decide) ?_
      refine z_goto (t := 22) dX4_isPart_18 (by rfl) ?_
      refine z_zret dX4_isPart_22 rfl (Nat.le_refl _) (Nat.le_refl _) (zext_rf _) (by first | exact Or.inl rfl | exact Or.inr rfl | omega) ?_
      first | exact hQ0 (zpt_f (by omega)) | exact hQ1 (zpt_t (by omega))
    · try simp only [zup_ap, zup_row, ne_eq, not_false_eq_true, zres, Int.toNat_natCast, reduceIte, Nat.reduceEqDiff, Nat.reduceAdd, and_self, and_true, true_and, and_false, false_and]
      refine z_if_ne (t := 21) dX4_isPart_14 (by rfl) (fun _ => ?_) (fun hx => absurd hx (by decide))
      refine z_iconst dX4_isPart_21 (by decide) ?_
      refine z_zret dX4_isPart_22 rfl (Nat.le_refl _) (Nat.le_refl _) (zext_rf _) (by first | exact Or.inl rfl | exact Or.inr rfl | omega) ?_
      first | exact hQ0 (zpt_f (by omega)) | exact hQ1 (zpt_t (by omega))
set_option maxRecDepth 4000 in
theorem X4_isTotal_ct {l : Launch} {Γ : zC} {h : zM} {Q : Option zV → zC → zM → Prop} (hΓ : zBase Γ) {b : Nat → Int} {r : Int} {hd : Nat} (hP : zPu h b r hd) {n : Nat} (hn : n ≤ 200) (hQ0 : zto b r n = false → Q (some (zI 0)) Γ h) (hQ1 : zto b r n = true → Q (some (zI 1)) Γ h) : zCT l mX4_isTotal 1 0 0 Γ [zR 41, zI (n : Int)] h Q := by
  have hr7 := hP.2.2.2.1
  have hd9 := hP.2.2.2.2
  refine zCT_of (by decide) (Nat.le_of_ble_eq_true rfl) (ls := [some (zR 41), some (zI (n : Int))]) rfl ?_
  refine z_al0 dX4_isTotal_0 (by first | decide | omega | assumption) ?_
  refine z_getI zfX4_31 dX4_isTotal_1 (zkB hΓ rfl) rfl ?_
  rw [hP.2.1]
  try simp only [zup_ap, zup_row, ne_eq, not_false_eq_true, zres, Int.toNat_natCast, reduceIte, Nat.reduceEqDiff, Nat.reduceAdd, and_self, and_true, true_and, and_false, false_and]
  refine z_iconst dX4_isTotal_4 (by decide) ?_
  refine z_iand dX4_isTotal_5 ?_
  rw [zia2 hr7]
  refine z_if_eq (t := 17) dX4_isTotal_6 (by rfl) (fun ht6 => ?_) (fun hf6 => ?_)
  · refine z_iconst dX4_isTotal_17 (by decide) ?_
    refine z_goto (t := 22) dX4_isTotal_18 (by rfl) ?_
    refine z_zret dX4_isTotal_22 rfl (Nat.le_refl _) (Nat.le_refl _) (zext_rf _) (by first | exact Or.inl rfl | exact Or.inr rfl | omega) ?_
    first | exact hQ0 (zto_f (by omega)) | exact hQ1 (zto_t (by omega))
  · refine z_al0 dX4_isTotal_9 (by first | decide | omega | assumption) ?_
    refine z_il1 dX4_isTotal_10 ?_
    refine zcv1 dX4_isTotal_11 zkX4_78 ziX4_isBarred zsX4_isBarred (zkB hΓ rfl) (by decide) rfl (Nat.le_of_ble_eq_true rfl) (by decide) (by first | decide | omega) ⟨Nat.le_refl _, Nat.le_refl _⟩ (X4_isBarred_ct hΓ hP hn (fun hp9 _ => ?_) (fun hp9 _ => ?_))
    · try simp only [zup_ap, zup_row, ne_eq, not_false_eq_true, zres, Int.toNat_natCast, reduceIte, Nat.reduceEqDiff, Nat.reduceAdd, and_self, and_true, true_and, and_false, false_and]
      refine z_if_ne (t := 21) dX4_isTotal_14 (by rfl) (fun hx => absurd hx (by decide)) (fun _ => ?_)
      refine z_iconst dX4_isTotal_17 (by decide) ?_
      refine z_goto (t := 22) dX4_isTotal_18 (by rfl) ?_
      refine z_zret dX4_isTotal_22 rfl (Nat.le_refl _) (Nat.le_refl _) (zext_rf _) (by first | exact Or.inl rfl | exact Or.inr rfl | omega) ?_
      first | exact hQ0 (zto_f (by omega)) | exact hQ1 (zto_t (by omega))
    · try simp only [zup_ap, zup_row, ne_eq, not_false_eq_true, zres, Int.toNat_natCast, reduceIte, Nat.reduceEqDiff, Nat.reduceAdd, and_self, and_true, true_and, and_false, false_and]
      refine z_if_ne (t := 21) dX4_isTotal_14 (by rfl) (fun _ => ?_) (fun hx => absurd hx (by decide))
      refine z_iconst dX4_isTotal_21 (by decide) ?_
      refine z_zret dX4_isTotal_22 rfl (Nat.le_refl _) (Nat.le_refl _) (zext_rf _) (by first | exact Or.inl rfl | exact Or.inr rfl | omega) ?_
      first | exact hQ0 (zto_f (by omega)) | exact hQ1 (zto_t (by omega))
set_option maxRecDepth 4000 in
theorem X4_isCount_ct {l : Launch} {Γ : zC} {h : zM} {Q : Option zV → zC → zM → Prop} (hΓ : zBase Γ) {b : Nat → Int} {r : Int} {hd : Nat} (hP : zPu h b r hd) {n : Nat} (hn : n ≤ 200) (hQ0 : zco b r n = false → Q (some (zI 0)) Γ h) (hQ1 : zco b r n = true → Q (some (zI 1)) Γ h) : zCT l mX4_isCount 1 0 0 Γ [zR 41, zI (n : Int)] h Q := by
  have hr7 := hP.2.2.2.1
  have hd9 := hP.2.2.2.2
  refine zCT_of (by decide) (Nat.le_of_ble_eq_true rfl) (ls := [some (zR 41), some (zI (n : Int))]) rfl ?_
  refine z_al0 dX4_isCount_0 (by first | decide | omega | assumption) ?_
  refine z_getI zfX4_31 dX4_isCount_1 (zkB hΓ rfl) rfl ?_
  rw [hP.2.1]
  try simp only [zup_ap, zup_row, ne_eq, not_false_eq_true, zres, Int.toNat_natCast, reduceIte, Nat.reduceEqDiff, Nat.reduceAdd, and_self, and_true, true_and, and_false, false_and]
  refine z_iconst dX4_isCount_4 (by decide) ?_
  refine z_iand dX4_isCount_5 ?_
  rw [zia4 hr7]
  refine z_if_eq (t := 17) dX4_isCount_6 (by rfl) (fun ht6 => ?_) (fun hf6 => ?_)
  · refine z_iconst dX4_isCount_17 (by decide) ?_
    refine z_goto (t := 22) dX4_isCount_18 (by rfl) ?_
    refine z_zret dX4_isCount_22 rfl (Nat.le_refl _) (Nat.le_refl _) (zext_rf _) (by first | exact Or.inl rfl | exact Or.inr rfl | omega) ?_
    first | exact hQ0 (zco_f (by omega)) | exact hQ1 (zco_t (by omega))
  · refine z_al0 dX4_isCount_9 (by first | decide | omega | assumption) ?_
    refine z_il1 dX4_isCount_10 ?_
    refine zcv1 dX4_isCount_11 zkX4_78 ziX4_isBarred zsX4_isBarred (zkB hΓ rfl) (by decide) rfl (Nat.le_of_ble_eq_true rfl) (by decide) (by first | decide | omega) ⟨Nat.le_refl _, Nat.le_refl _⟩ (X4_isBarred_ct hΓ hP hn (fun hp9 _ => ?_) (fun hp9 _ => ?_))
    · try simp only [zup_ap, zup_row, ne_eq, not_false_eq_true, zres, Int.toNat_natCast, reduceIte, Nat.reduceEqDiff, Nat.reduceAdd, and_self, and_true, true_and, and_false, false_and]
      refine z_if_ne (t := 21) dX4_isCount_14 (by rfl) (fun hx => absurd hx (by decide)) (fun _ => ?_)
      refine z_iconst dX4_isCount_17 (by decide) ?_
      refine z_goto (t := 22) dX4_isCount_18 (by rfl) ?_
      refine z_zret dX4_isCount_22 rfl (Nat.le_refl _) (Nat.le_refl _) (zext_rf _) (by first | exact Or.inl rfl | exact Or.inr rfl | omega) ?_
      first | exact hQ0 (zco_f (by omega)) | exact hQ1 (zco_t (by omega))
    · try simp only [zup_ap, zup_row, ne_eq, not_false_eq_true, zres, Int.toNat_natCast, reduceIte, Nat.reduceEqDiff, Nat.reduceAdd, and_self, and_true, true_and, and_false, false_and]
      refine z_if_ne (t := 21) dX4_isCount_14 (by rfl) (fun _ => ?_) (fun hx => absurd hx (by decide))
      refine z_iconst dX4_isCount_21 (by decide) ?_
      refine z_zret dX4_isCount_22 rfl (Nat.le_refl _) (Nat.le_refl _) (zext_rf _) (by first | exact Or.inl rfl | exact Or.inr rfl | omega) ?_
      first | exact hQ0 (zco_f (by omega)) | exact hQ1 (zco_t (by omega))
def zlf (f : Nat → Bool) : Nat → Nat → Int
  | 0, _ => -1
  | m + 1, a => if f a then (a : Int) else zlf f m (a + 1)
theorem zlf_b (f : Nat → Bool) : ∀ m a, zlf f m a = -1 ∨ (a : Int) ≤ zlf f m a ∧ zlf f m a < a + m ∧ f (zlf f m a).toNat = true
  | 0, _ => Or.inl rfl
  | m + 1, a => by
    unfold zlf
    split
    · rename_i h; exact Or.inr ⟨Int.le_refl _, by omega, by rw [Int.toNat_natCast]; exact h⟩
    · rcases zlf_b f m (a + 1) with h | h
      · exact Or.inl h
      · exact Or.inr ⟨by omega, by omega, h.2.2⟩
theorem zlf_cg {f g : Nat → Bool} : ∀ m a, (∀ q, a ≤ q → q < a + m → f q = g q) → zlf f m a = zlf g m a
  | 0, _, _ => rfl
  | m + 1, a, h => by
    unfold zlf
    rw [h a (Nat.le_refl _) (by omega), zlf_cg m (a + 1) (fun q h1 h2 => h q (by omega) (by omega))]
set_option maxRecDepth 4000 in
theorem X4_fewest_l {l : Launch} {Γ : zC} {h : zM} {Q : Option zV → zC → zM → Prop} (hΓ : zBase Γ) {b : Nat → Int} {r : Int} {hd : Nat} (hP : zPu h b r hd) {x : Int} {f : Nat → Bool} (hB : zBt x f) : ∀ (m k : Nat), 61 - k < m → 1 ≤ k → k ≤ 61 → Q (some (zI (zlf (fun k => f k && zco b r k) (61 - k) k))) Γ h → zG (zFn l mX4_fewest 2 0 0 Γ Q) 0 0 Γ h 2 [some (zR 41), some (zL x), none, some (zI (k : Int))] [] := by
  have hr7 := hP.2.2.2.1
  have hd9 := hP.2.2.2.2
  intro m
  induction m with
  | zero => intros; omega
  | succ m ih =>
    intro k hm hk1 hk2 hQ
    refine z_il3 dX4_fewest_2 ?_
    refine z_bipush (x := 60) dX4_fewest_3 (by rfl) (by decide) ?_
    refine z_icmp_gt (t := 34) dX4_fewest_5 (by rfl) (fun ht5 => ?_) (fun hf5 => ?_)
    · refine z_iconst dX4_fewest_34 (by decide) ?_
      refine z_iret dX4_fewest_35 rfl (Nat.le_refl _) (Nat.le_refl _) (zext_rf _) (fun hrr => ?_)
      rw [show 61 - k = 0 by omega] at hQ
      exact hQ
    · refine z_ll1 dX4_fewest_8 ?_
      refine z_il3 dX4_fewest_9 ?_
      refine z_lushr dX4_fewest_10 ?_
      refine z_lconst (x := 1) dX4_fewest_11 (by rfl) (by decide) ?_
      refine z_land dX4_fewest_12 ?_
      refine z_lconst (x := 0) dX4_fewest_13 (by rfl) (by decide) ?_
      refine z_lcmp dX4_fewest_14 ?_
      rw [zBt_at hB (by omega)]
      refine z_if_eq (t := 28) dX4_fewest_15 (by rfl) (fun ht15 => ?_) (fun hf15 => ?_)
      · have hfk : f k = false := by
          cases hff : f k with
          | false => rfl
          | true => rw [hff, zcmp_0] at ht15; exact absurd ht15 (by decide)
        refine z_ii3 dX4_fewest_28 (by omega) (Nat.le_of_ble_eq_true rfl) rfl ?_
        refine z_goto (t := 2) dX4_fewest_31 (by rfl) ?_
        have e9 : zlf (fun k => f k && zco b r k) (61 - k) k = zlf (fun k => f k && zco b r k) (61 - (k + 1)) (k + 1) := by
          rw [show 61 - k = (61 - (k + 1)) + 1 by omega]
          rw [zlf]
          refine if_neg ?_
          first
          | (rw [hp9]; simp)
          | (rw [hfk]; simp)
        rw [e9] at hQ
        exact ih (k + 1) (by omega) (by omega) (by omega) hQ
      · have hfk : f k = true := by
          cases hff : f k with
          | true => rfl
          | false => rw [hff, zcmp_0] at hf15; exact absurd rfl hf15
        refine z_al0 dX4_fewest_18 (by first | decide | omega | assumption) ?_
        refine z_il3 dX4_fewest_19 ?_
        refine zcv1 dX4_fewest_20 zkX4_58 ziX4_isCount zsX4_isCount (zkB hΓ rfl) (by decide) rfl (Nat.le_of_ble_eq_true rfl) (by decide) (by first | decide | omega) ⟨Nat.le_refl _, Nat.le_refl _⟩ (X4_isCount_ct hΓ hP (n := k) (by omega) (fun hp9 _ => ?_) (fun hp9 _ => ?_))
        · try simp only [zup_ap, zup_row, ne_eq, not_false_eq_true, zres, Int.toNat_natCast, reduceIte, Nat.reduceEqDiff, Nat.reduceAdd, and_self, and_true, true_and, and_false, false_and]
          refine z_if_eq (t := 28) dX4_fewest_23 (by rfl) (fun _ => ?_) (fun hx => absurd hx (by decide))
          refine z_ii3 dX4_fewest_28 (by omega) (Nat.le_of_ble_eq_true rfl) rfl ?_
          refine z_goto (t := 2) dX4_fewest_31 (by rfl) ?_
          have e9 : zlf (fun k => f k && zco b r k) (61 - k) k = zlf (fun k => f k && zco b r k) (61 - (k + 1)) (k + 1) := by
            rw [show 61 - k = (61 - (k + 1)) + 1 by omega]
            rw [zlf]
            refine if_neg ?_
            first
            | (rw [hp9]; simp)
            | (rw [hfk]; simp)
          rw [e9] at hQ
          exact ih (k + 1) (by omega) (by omega) (by omega) hQ
        · try simp only [zup_ap, zup_row, ne_eq, not_false_eq_true, zres, Int.toNat_natCast, reduceIte, Nat.reduceEqDiff, Nat.reduceAdd, and_self, and_true, true_and, and_false, false_and]
          refine z_if_eq (t := 28) dX4_fewest_23 (by rfl) (fun hx => absurd hx (by decide)) (fun _ => ?_)
          refine z_il3 dX4_fewest_26 ?_
          refine z_iret dX4_fewest_27 rfl (Nat.le_refl _) (Nat.le_refl _) (zext_rf _) (fun hrr => ?_)
          rw [show 61 - k = (61 - (k + 1)) + 1 by omega, zlf, if_pos (by rw [hfk, hp9]; rfl)] at hQ
          exact hQ
set_option maxRecDepth 4000 in
theorem X4_fewest_ct {l : Launch} {Γ : zC} {h : zM} {Q : Option zV → zC → zM → Prop} (hΓ : zBase Γ) {b : Nat → Int} {r : Int} {hd : Nat} (hP : zPu h b r hd) {x : Int} {f : Nat → Bool} (hB : zBt x f) (hQ : Q (some (zI (zlf (fun k => f k && zco b r k) 60 1))) Γ h) : zCT l mX4_fewest 2 0 0 Γ [zR 41, zL x] h Q := by
  have hr7 := hP.2.2.2.1
  have hd9 := hP.2.2.2.2
  refine zCT_of (by decide) (Nat.le_of_ble_eq_true rfl) (ls := [some (zR 41), some (zL x), none, none]) rfl ?_
  refine z_iconst dX4_fewest_0 (by decide) ?_
  refine z_is3 dX4_fewest_1 (Nat.le_of_ble_eq_true rfl) rfl ?_
  exact X4_fewest_l hΓ hP hB _ 1 (Nat.lt_succ_self _) (by omega) (by omega) hQ
def zpd (b : Nat → Int) (r : Int) (hd s : Nat) : Bool := decide (zlf (fun k => zcm b r hd k s && zco b r k) 60 1 ≠ -1)
def zCf (h : zM) (b : Nat → Int) (r : Int) (hd : Nat) : Prop := ∀ u, u ≤ 200 → zBt (h 43 u) (fun k => zcm b r hd k u)
set_option maxRecDepth 4000 in
theorem X4_isPaid_ct {l : Launch} {Γ : zC} {h : zM} {Q : Option zV → zC → zM → Prop} (hΓ : zBase Γ) {b : Nat → Int} {r : Int} {hd : Nat} (hP : zPu h b r hd) (hC : zCf h b r hd) {s : Int} (hQ0 : ¬ (1 ≤ s ∧ s ≤ 200 ∧ zpd b r hd s.toNat = true) → Q (some (zI 0)) Γ h) (hQ1 : (1 ≤ s ∧ s ≤ 200 ∧ zpd b r hd s.toNat = true) → Q (some (zI 1)) Γ h) : zCT l mX4_isPaid 3 0 0 Γ [zR 41, zI s] h Q := by
  have hr7 := hP.2.2.2.1
  have hd9 := hP.2.2.2.2
  refine zCT_of (by decide) (Nat.le_of_ble_eq_true rfl) (ls := [some (zR 41), some (zI s)]) rfl ?_
  refine z_il1 dX4_isPaid_0 ?_
  refine z_iconst dX4_isPaid_1 (by decide) ?_
  refine z_icmp_lt (t := 30) dX4_isPaid_2 (by rfl) (fun ht2 => ?_) (fun hf2 => ?_)
  · refine z_iconst dX4_isPaid_30 (by decide) ?_
    refine z_zret dX4_isPaid_31 rfl (Nat.le_refl _) (Nat.le_refl _) (zext_rf _) (by first | exact Or.inl rfl | exact Or.inr rfl | omega) ?_
    first
    | exact hQ0 (by omega)
    | exact hQ0 (fun e => (by unfold zpd at e; have e2 := of_decide_eq_true e.2.2; omega))
    | exact hQ1 ⟨by omega, by omega, decide_eq_true (by omega)⟩
  · refine z_il1 dX4_isPaid_5 ?_
    refine z_sipush (x := 200) dX4_isPaid_6 (by rfl) (by decide) ?_
    refine z_icmp_gt (t := 30) dX4_isPaid_9 (by rfl) (fun ht9 => ?_) (fun hf9 => ?_)
    · refine z_iconst dX4_isPaid_30 (by decide) ?_
      refine z_zret dX4_isPaid_31 rfl (Nat.le_refl _) (Nat.le_refl _) (zext_rf _) (by first | exact Or.inl rfl | exact Or.inr rfl | omega) ?_
      first
      | exact hQ0 (by omega)
      | exact hQ0 (fun e => (by unfold zpd at e; have e2 := of_decide_eq_true e.2.2; omega))
      | exact hQ1 ⟨by omega, by omega, decide_eq_true (by omega)⟩
    · refine z_al0 dX4_isPaid_12 (by first | decide | omega | assumption) ?_
      refine z_al0 dX4_isPaid_13 (by first | decide | omega | assumption) ?_
      refine z_getR zfX4_15 dX4_isPaid_14 (zkB hΓ rfl) rfl (zsB hΓ rfl) (zvB hΓ (by decide)) ?_
      refine z_il1 dX4_isPaid_17 ?_
      refine z_lald dX4_isPaid_18 (zkB hΓ rfl) (by omega) (by omega) ?_
      try simp only [zup_ap, zup_row, ne_eq, not_false_eq_true, zres, Int.toNat_natCast, reduceIte, Nat.reduceEqDiff, Nat.reduceAdd, and_self, and_true, true_and, and_false, false_and]
      refine zcv1 dX4_isPaid_19 zkX4_46 ziX4_fewest zsX4_fewest (zkB hΓ rfl) (by decide) rfl (Nat.le_of_ble_eq_true rfl) (by decide) (by first | decide | omega) ⟨Nat.le_refl _, Nat.le_refl _⟩ (X4_fewest_ct hΓ hP (hC _ (by omega)) (fun _ => ?_))
      try simp only [zup_ap, zup_row, ne_eq, not_false_eq_true, zres, Int.toNat_natCast, reduceIte, Nat.reduceEqDiff, Nat.reduceAdd, and_self, and_true, true_and, and_false, false_and]
      refine z_iconst dX4_isPaid_22 (by decide) ?_
      refine z_icmp_eq (t := 30) dX4_isPaid_23 (by rfl) (fun ht23 => ?_) (fun hf23 => ?_)
      · refine z_iconst dX4_isPaid_30 (by decide) ?_
        refine z_zret dX4_isPaid_31 rfl (Nat.le_refl _) (Nat.le_refl _) (zext_rf _) (by first | exact Or.inl rfl | exact Or.inr rfl | omega) ?_
        first
        | exact hQ0 (by omega)
        | exact hQ0 (fun e => (by unfold zpd at e; have e2 := of_decide_eq_true e.2.2; omega))
        | exact hQ1 ⟨by omega, by omega, decide_eq_true (by omega)⟩
      · refine z_iconst dX4_isPaid_26 (by decide) ?_
        refine z_goto (t := 31) dX4_isPaid_27 (by rfl) ?_
        refine z_zret dX4_isPaid_31 rfl (Nat.le_refl _) (Nat.le_refl _) (zext_rf _) (by first | exact Or.inl rfl | exact Or.inr rfl | omega) ?_
        first
        | exact hQ0 (by omega)
        | exact hQ0 (fun e => (by unfold zpd at e; have e2 := of_decide_eq_true e.2.2; omega))
        | exact hQ1 ⟨by omega, by omega, decide_eq_true (by omega)⟩
set_option maxRecDepth 4000 in
theorem X4_cF_i {l : Launch} {Γ : zC} {h : zM} {Q : Option zV → zC → zM → Prop} (hΓ : zBase Γ) {b : Nat → Int} {r : Int} {hd : Nat} (hP : zPu h b r hd) {t : Nat} (ht : 1 ≤ t ∧ t ≤ 200) (hC : ∀ u, u < t → zBt (h 43 u) (fun k => zcm b r hd k u)) (hK : ∀ (y : Nat) (x : Int), zBt x (fun k => zan (fun p => zpt b r p && zcm b r hd k (t - p)) (min hd t)) → zG (zFn l mX4_countForward 2 0 0 Γ Q) 0 0 Γ h 63 [some (zR 41), some (zI (t : Int)), some (zL x), none, some (zI (y : Int))] []) : ∀ (m p : Nat) (x : Int), hd + 1 - p < m → p ≤ min hd t → zBt x (fun k => zan (fun p => zpt b r p && zcm b r hd k (t - p)) p) → zG (zFn l mX4_countForward 2 0 0 Γ Q) 0 0 Γ h 21 [some (zR 41), some (zI (t : Int)), some (zL x), none, some (zI ((p + 1 : Nat) : Int))] [] := by
  have hr7 := hP.2.2.2.1
  have hd9 := hP.2.2.2.2
  intro m
  induction m with
  | zero => intros; omega
  | succ m ih =>
    intro p x hm hp hx
    refine z_il4 dX4_countForward_21 ?_
    refine z_al0 dX4_countForward_23 (by first | decide | omega | assumption) ?_
    refine z_getI zfX4_27 dX4_countForward_24 (zkB hΓ rfl) rfl ?_
    rw [hP.2.2.1]
    try simp only [zup_ap, zup_row, ne_eq, not_false_eq_true, zres, Int.toNat_natCast, reduceIte, Nat.reduceEqDiff, Nat.reduceAdd, and_self, and_true, true_and, and_false, false_and]
    refine z_icmp_gt (t := 63) dX4_countForward_27 (by rfl) (fun ht27 => ?_) (fun hf27 => ?_)
    · have e9 : p = min hd t := by omega
      subst e9
      exact hK _ _ hx
    · refine z_il4 dX4_countForward_30 ?_
      refine z_il1 dX4_countForward_32 ?_
      refine z_icmp_gt (t := 63) dX4_countForward_33 (by rfl) (fun ht33 => ?_) (fun hf33 => ?_)
      · have e9 : p = min hd t := by omega
        subst e9
        exact hK _ _ hx
      · refine z_al0 dX4_countForward_36 (by first | decide | omega | assumption) ?_
        refine z_il4 dX4_countForward_37 ?_
        refine zcv1 dX4_countForward_39 zkX4_34 ziX4_isPart zsX4_isPart (zkB hΓ rfl) (by decide) rfl (Nat.le_of_ble_eq_true rfl) (by decide) (by first | decide | omega) ⟨Nat.le_refl _, Nat.le_refl _⟩ (X4_isPart_ct hΓ hP (n := p + 1) (by omega) (fun hp9 _ => ?_) (fun hp9 _ => ?_))
        · try simp only [zup_ap, zup_row, ne_eq, not_false_eq_true, zres, Int.toNat_natCast, reduceIte, Nat.reduceEqDiff, Nat.reduceAdd, and_self, and_true, true_and, and_false, false_and]
          refine z_if_eq (t := 57) dX4_countForward_42 (by rfl) (fun _ => ?_) (fun hx => absurd hx (by decide))
          refine z_ii4 dX4_countForward_57 (by omega) (Nat.le_of_ble_eq_true rfl) rfl ?_
          refine z_goto (t := 21) dX4_countForward_60 (by rfl) ?_
          refine ih (p + 1) _ (by omega) (by omega) ?_
          first
          | (refine zBt_cg hx (fun k _ => ?_)
             simp only [zan]
             rw [hp9]; simp)
          | (refine zBt_cg (zBt_or hx (hC (t - (p + 1)) (by omega))) (fun k _ => ?_)
             simp only [zan]
             rw [hp9]; simp)
        · try simp only [zup_ap, zup_row, ne_eq, not_false_eq_true, zres, Int.toNat_natCast, reduceIte, Nat.reduceEqDiff, Nat.reduceAdd, and_self, and_true, true_and, and_false, false_and]
          refine z_if_eq (t := 57) dX4_countForward_42 (by rfl) (fun hx => absurd hx (by decide)) (fun _ => ?_)
          refine z_ll2 dX4_countForward_45 ?_
          refine z_al0 dX4_countForward_46 (by first | decide | omega | assumption) ?_
          refine z_getR zfX4_15 dX4_countForward_47 (zkB hΓ rfl) rfl (zsB hΓ rfl) (zvB hΓ (by decide)) ?_
          refine z_il1 dX4_countForward_50 ?_
          refine z_il4 dX4_countForward_51 ?_
          refine z_isub dX4_countForward_53 (by omega) ?_
          refine z_lald dX4_countForward_54 (zkB hΓ rfl) (by omega) (by omega) ?_
          rw [show ((t : Int) - ((p + 1 : Nat) : Int)).toNat = t - (p + 1) by omega]
          try simp only [zup_ap, zup_row, ne_eq, not_false_eq_true, zres, Int.toNat_natCast, reduceIte, Nat.reduceEqDiff, Nat.reduceAdd, and_self, and_true, true_and, and_false, false_and]
          refine z_lor dX4_countForward_55 ?_
          refine z_ls2 dX4_countForward_56 (Nat.le_of_ble_eq_true rfl) rfl ?_
          refine z_ii4 dX4_countForward_57 (by omega) (Nat.le_of_ble_eq_true rfl) rfl ?_
          refine z_goto (t := 21) dX4_countForward_60 (by rfl) ?_
          refine ih (p + 1) _ (by omega) (by omega) ?_
          first
          | (refine zBt_cg hx (fun k _ => ?_)
             simp only [zan]
             rw [hp9]; simp)
          | (refine zBt_cg (zBt_or hx (hC (t - (p + 1)) (by omega))) (fun k _ => ?_)
             simp only [zan]
             rw [hp9]; simp)
set_option maxRecDepth 4000 in
theorem X4_cF_o {l : Launch} {Γ : zC} {h1 : zM} {Q : Option zV → zC → zM → Prop} (hΓ : zBase Γ) {b : Nat → Int} {r : Int} {hd : Nat} (hQ : ∀ h9, (∀ q, q ≠ 43 → h9 q = h1 q) → zCf h9 b r hd → Q none Γ h9) : ∀ (m t : Nat) {y2 y3 y4 : Option zV} (h : zM), 201 - t < m → 1 ≤ t → t ≤ 201 → zPu h b r hd → (∀ q, q ≠ 43 → h q = h1 q) → (∀ u, u < t → zBt (h 43 u) (fun k => zcm b r hd k u)) → zG (zFn l mX4_countForward 2 0 0 Γ Q) 0 0 Γ h 9 [some (zR 41), some (zI (t : Int)), y2, y3, y4] [] := by
  intro m
  induction m with
  | zero => intros; omega
  | succ m ih =>
    intro t y2 y3 y4 h hm h1t h2t hP hE hC
    have hr7 := hP.2.2.2.1
    have hd9 := hP.2.2.2.2
    refine z_il1 dX4_countForward_9 ?_
    refine z_sipush (x := 200) dX4_countForward_10 (by rfl) (by decide) ?_
    refine z_icmp_gt (t := 94) dX4_countForward_13 (by rfl) (fun ht13 => ?_) (fun hf13 => ?_)
    · refine z_ret dX4_countForward_94 rfl (Nat.le_refl _) (Nat.le_refl _) (zext_rf _) ?_
      exact hQ h hE (fun u hu => hC u (by omega))
    · refine z_lconst (x := 0) dX4_countForward_16 (by rfl) (by decide) ?_
      refine z_ls2 dX4_countForward_17 (Nat.le_of_ble_eq_true rfl) rfl ?_
      refine z_iconst dX4_countForward_18 (by decide) ?_
      refine z_is4 dX4_countForward_19 (Nat.le_of_ble_eq_true rfl) rfl ?_
      refine X4_cF_i hΓ hP (by omega) hC (fun y x hx => ?_) _ 0 _ (Nat.lt_succ_self _) (Nat.zero_le _) zBt_0
      refine z_al0 dX4_countForward_63 (by first | decide | omega | assumption) ?_
      refine z_getR zfX4_15 dX4_countForward_64 (zkB hΓ rfl) rfl (zsB hΓ rfl) (zvB hΓ (by decide)) ?_
      refine z_il1 dX4_countForward_67 ?_
      refine z_al0 dX4_countForward_68 (by first | decide | omega | assumption) ?_
      refine z_il1 dX4_countForward_69 ?_
      refine zcv1 dX4_countForward_70 zkX4_38 ziX4_isTotal zsX4_isTotal (zkB hΓ rfl) (by decide) rfl (Nat.le_of_ble_eq_true rfl) (by decide) (by first | decide | omega) ⟨Nat.le_refl _, Nat.le_refl _⟩ (X4_isTotal_ct hΓ hP (n := t) (by omega) (fun hp9 _ => ?_) (fun hp9 _ => ?_))
      · try simp only [zup_ap, zup_row, ne_eq, not_false_eq_true, zres, Int.toNat_natCast, reduceIte, Nat.reduceEqDiff, Nat.reduceAdd, and_self, and_true, true_and, and_false, false_and]
        refine z_if_eq (t := 86) dX4_countForward_73 (by rfl) (fun _ => ?_) (fun hx => absurd hx (by decide))
        refine z_lconst (x := 0) dX4_countForward_86 (by rfl) (by decide) ?_
        refine z_last dX4_countForward_87 (zkB hΓ rfl) (by omega) (by omega) ?_
        refine z_ii1 dX4_countForward_88 (by omega) (Nat.le_of_ble_eq_true rfl) rfl ?_
        refine z_goto (t := 9) dX4_countForward_91 (by rfl) ?_
        refine ih (t + 1) _ (by omega) (by omega) (by omega) (zPu_cg hP (fun q h1 _ _ => zup_row h1)) (fun q hq => (zup_row hq).trans (hE q hq)) (fun u hu => ?_)
        by_cases eu : u = t
        · subst eu
          simp only [zup_ap, and_self, if_true, Int.toNat_natCast]
          first
          | (refine zBt_cg (zBt_sh hx) (fun k _ => ?_)
             cases k with
             | zero => exact (decide_eq_false (show ¬ u = 0 by omega)).symm
             | succ k => show zan _ _ = (zto b r u && zan _ hd); rw [hp9, zan_stop, Bool.true_and])
          | (refine zBt_cg zBt_0 (fun k _ => ?_)
             cases k with
             | zero => exact (decide_eq_false (show ¬ u = 0 by omega)).symm
             | succ k => show false = (zto b r u && zan _ hd); rw [hp9, Bool.false_and])
        · rw [zup_ap, if_neg (fun e => eu (by have := e.2; omega))]
          exact hC u (by omega)
      · try simp only [zup_ap, zup_row, ne_eq, not_false_eq_true, zres, Int.toNat_natCast, reduceIte, Nat.reduceEqDiff, Nat.reduceAdd, and_self, and_true, true_and, and_false, false_and]
        refine z_if_eq (t := 86) dX4_countForward_73 (by rfl) (fun hx => absurd hx (by decide)) (fun _ => ?_)
        refine z_ll2 dX4_countForward_76 ?_
        refine z_iconst dX4_countForward_77 (by decide) ?_
        refine z_lshl dX4_countForward_78 ?_
        refine z_ldc2 (x := 2305843009213693951) dX4_countForward_79 zqX4_41 (by decide) ?_
        refine z_land dX4_countForward_82 ?_
        refine z_goto (t := 87) dX4_countForward_83 (by rfl) ?_
        refine z_last dX4_countForward_87 (zkB hΓ rfl) (by omega) (by omega) ?_
        refine z_ii1 dX4_countForward_88 (by omega) (Nat.le_of_ble_eq_true rfl) rfl ?_
        refine z_goto (t := 9) dX4_countForward_91 (by rfl) ?_
        refine ih (t + 1) _ (by omega) (by omega) (by omega) (zPu_cg hP (fun q h1 _ _ => zup_row h1)) (fun q hq => (zup_row hq).trans (hE q hq)) (fun u hu => ?_)
        by_cases eu : u = t
        · subst eu
          simp only [zup_ap, and_self, if_true, Int.toNat_natCast]
          first
          | (refine zBt_cg (zBt_sh hx) (fun k _ => ?_)
             cases k with
             | zero => exact (decide_eq_false (show ¬ u = 0 by omega)).symm
             | succ k => show zan _ _ = (zto b r u && zan _ hd); rw [hp9, zan_stop, Bool.true_and])
          | (refine zBt_cg zBt_0 (fun k _ => ?_)
             cases k with
             | zero => exact (decide_eq_false (show ¬ u = 0 by omega)).symm
             | succ k => show false = (zto b r u && zan _ hd); rw [hp9, Bool.false_and])
        · rw [zup_ap, if_neg (fun e => eu (by have := e.2; omega))]
          exact hC u (by omega)
set_option maxRecDepth 4000 in
theorem X4_countForward_ct {l : Launch} {Γ : zC} {h : zM} {Q : Option zV → zC → zM → Prop} (hΓ : zBase Γ) {b : Nat → Int} {r : Int} {hd : Nat} (hP : zPu h b r hd) (hQ : ∀ h9, (∀ q, q ≠ 43 → h9 q = h q) → zCf h9 b r hd → Q none Γ h9) : zCT l mX4_countForward 2 0 0 Γ [zR 41] h Q := by
  have hr7 := hP.2.2.2.1
  have hd9 := hP.2.2.2.2
  refine zCT_of (by decide) (Nat.le_of_ble_eq_true rfl) (ls := [some (zR 41), none, none, none, none]) rfl ?_
  refine z_al0 dX4_countForward_0 (by first | decide | omega | assumption) ?_
  refine z_getR zfX4_15 dX4_countForward_1 (zkB hΓ rfl) rfl (zsB hΓ rfl) (zvB hΓ (by decide)) ?_
  refine z_iconst dX4_countForward_4 (by decide) ?_
  refine z_lconst (x := 1) dX4_countForward_5 (by rfl) (by decide) ?_
  refine z_last dX4_countForward_6 (zkB hΓ rfl) (by omega) (by omega) ?_
  refine z_iconst dX4_countForward_7 (by decide) ?_
  refine z_is1 dX4_countForward_8 (Nat.le_of_ble_eq_true rfl) rfl ?_
  refine X4_cF_o hΓ hQ _ 1 _ (Nat.lt_succ_self _) (by omega) (by omega) (zPu_cg hP (fun q h1 _ _ => zup_row h1)) (fun q hq => zup_row hq) (fun u hu => ?_)
  have eu : u = 0 := by omega
  subst eu
  show zBt (zup h 43 0 1 43 0) _
  rw [zup_ap, if_pos ⟨rfl, rfl⟩]
  exact zBt_cg zBt_1 (fun k _ => zcm_z b r hd k)
