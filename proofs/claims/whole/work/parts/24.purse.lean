/-! SUMS in PARTS: what is barred, by how many PARTS a sum is come to; class and reference -/
def zan (f : Nat → Bool) : Nat → Bool
  | 0 => false
  | m + 1 => zan f m || f (m + 1)
theorem zan_iff (f : Nat → Bool) (m : Nat) : zan f m = true ↔ ∃ p, 1 ≤ p ∧ p ≤ m ∧ f p = true := by
  induction m with
  | zero => exact ⟨fun h => (by cases h), fun ⟨p, h1, h2, _⟩ => absurd h1 (by omega)⟩
  | succ m ih =>
    unfold zan
    rw [Bool.or_eq_true, ih]
    constructor
    · rintro (⟨p, h1, h2, h3⟩ | h)
      · exact ⟨p, h1, by omega, h3⟩
      · exact ⟨m + 1, by omega, Nat.le_refl _, h⟩
    · rintro ⟨p, h1, h2, h3⟩
      by_cases e : p = m + 1
      · subst e; exact Or.inr h3
      · exact Or.inl ⟨p, h1, by omega, h3⟩
theorem zb_ext {a b : Bool} (h : a = true ↔ b = true) : a = b := by cases a <;> cases b <;> simp_all
theorem zan_cg {f g : Nat → Bool} {m : Nat} (h : ∀ q, 1 ≤ q → q ≤ m → (f q = true ↔ g q = true)) : zan f m = zan g m := by
  refine zb_ext ?_
  rw [zan_iff, zan_iff]
  exact ⟨fun ⟨p, h1, h2, h3⟩ => ⟨p, h1, h2, (h p h1 h2).1 h3⟩, fun ⟨p, h1, h2, h3⟩ => ⟨p, h1, h2, (h p h1 h2).2 h3⟩⟩
theorem zan_stop (f : Nat → Bool) (m t : Nat) : zan (fun p => decide (p ≤ t) && f p) m = zan f (min m t) := by
  refine zb_ext ?_
  rw [zan_iff, zan_iff]
  constructor
  · rintro ⟨p, h1, h2, h3⟩
    simp only [Bool.and_eq_true, decide_eq_true_eq] at h3
    exact ⟨p, h1, by omega, h3.2⟩
  · rintro ⟨p, h1, h2, h3⟩
    exact ⟨p, h1, by omega, by simp only [Bool.and_eq_true, decide_eq_true_eq]; exact ⟨by omega, h3⟩⟩
def zpt (b : Nat → Int) (r : Int) (p : Nat) : Bool := decide (r % 2 = 0) || decide (b p = 0)
def zto (b : Nat → Int) (r : Int) (p : Nat) : Bool := decide (r / 2 % 2 = 0) || decide (b p = 0)
def zco (b : Nat → Int) (r : Int) (p : Nat) : Bool := decide (r / 4 % 2 = 0) || decide (b p = 0)
theorem zpt_t {b : Nat → Int} {r : Int} {p : Nat} (h : r % 2 = 0 ∨ b p = 0) : zpt b r p = true := by simp only [zpt, Bool.or_eq_true, decide_eq_true_eq]; exact h
theorem zto_t {b : Nat → Int} {r : Int} {p : Nat} (h : r / 2 % 2 = 0 ∨ b p = 0) : zto b r p = true := by simp only [zto, Bool.or_eq_true, decide_eq_true_eq]; exact h
theorem zco_t {b : Nat → Int} {r : Int} {p : Nat} (h : r / 4 % 2 = 0 ∨ b p = 0) : zco b r p = true := by simp only [zco, Bool.or_eq_true, decide_eq_true_eq]; exact h
theorem zpt_f {b : Nat → Int} {r : Int} {p : Nat} (h : ¬ (r % 2 = 0 ∨ b p = 0)) : zpt b r p = false := Bool.eq_false_iff.2 (fun e => h (by simpa only [zpt, Bool.or_eq_true, decide_eq_true_eq] using e))
theorem zto_f {b : Nat → Int} {r : Int} {p : Nat} (h : ¬ (r / 2 % 2 = 0 ∨ b p = 0)) : zto b r p = false := Bool.eq_false_iff.2 (fun e => h (by simpa only [zto, Bool.or_eq_true, decide_eq_true_eq] using e))
theorem zco_f {b : Nat → Int} {r : Int} {p : Nat} (h : ¬ (r / 4 % 2 = 0 ∨ b p = 0)) : zco b r p = false := Bool.eq_false_iff.2 (fun e => h (by simpa only [zco, Bool.or_eq_true, decide_eq_true_eq] using e))
/-- from 0 to t by k PARTS -/
def zcm (b : Nat → Int) (r : Int) (hd : Nat) : Nat → Nat → Bool
  | 0, t => decide (t = 0)
  | k + 1, t => zto b r t && zan (fun p => decide (p ≤ t) && (zpt b r p && zcm b r hd k (t - p))) hd
theorem zcm_z (b : Nat → Int) (r : Int) (hd k : Nat) : (k == 0) = zcm b r hd k 0 := by
  cases k with
  | zero => rfl
  | succ k =>
    show false = (zto b r 0 && zan _ hd)
    rw [zan_stop, Nat.min_zero]
    show false = (zto b r 0 && false)
    rw [Bool.and_false]
/-- from t to the sum by k PARTS -/
def zgo (b : Nat → Int) (r : Int) (hd sum : Nat) : Nat → Nat → Bool
  | 0, t => decide (t = sum)
  | k + 1, t => zan (fun p => decide (p ≤ sum - t) && (zpt b r p && (zto b r (t + p) && zgo b r hd sum k (t + p)))) hd
theorem zgo_z (b : Nat → Int) (r : Int) (hd sum k : Nat) : (k == 0) = zgo b r hd sum k sum := by
  cases k with
  | zero => exact (decide_eq_true rfl).symm
  | succ k =>
    show false = zan _ hd
    rw [zan_stop, Nat.sub_self, Nat.min_zero]
    rfl
def zPu (h : zM) (b : Nat → Int) (r : Int) (hd : Nat) : Prop := (∀ n, n ≤ 200 → h 42 n = b n) ∧ h 41 5 = r ∧ h 41 4 = (hd : Int) ∧ (0 ≤ r ∧ r ≤ 7) ∧ hd ≤ 30
theorem zPu_cg {h h' : zM} {b : Nat → Int} {r : Int} {hd : Nat} (H : zPu h b r hd) (e : ∀ q, q ≠ 43 → q ≠ 44 → ¬ (46 ≤ q ∧ q ≤ 76) → h' q = h q) : zPu h' b r hd := ⟨fun n hn => by rw [e 42 (by decide) (by decide) (by decide)]; exact H.1 n hn, by rw [e 41 (by decide) (by decide) (by decide)]; exact H.2.1, by rw [e 41 (by decide) (by decide) (by decide)]; exact H.2.2.1, H.2.2.2.1, H.2.2.2.2⟩
theorem zia1 {r : Int} (h : 0 ≤ r ∧ r ≤ 7) : zf_iand r 1 = r % 2 := by
  have key : ∀ b : Fin 8, zf_iand (b.val : Int) 1 = (b.val : Int) % 2 := by decide +kernel
  have e := key ⟨r.toNat, by omega⟩
  simp only [Int.toNat_of_nonneg h.1] at e
  exact e
theorem zia2 {r : Int} (h : 0 ≤ r ∧ r ≤ 7) : zf_iand r 2 = r / 2 % 2 * 2 := by
  have key : ∀ b : Fin 8, zf_iand (b.val : Int) 2 = (b.val : Int) / 2 % 2 * 2 := by decide +kernel
  have e := key ⟨r.toNat, by omega⟩
  simp only [Int.toNat_of_nonneg h.1] at e
  exact e
theorem zia4 {r : Int} (h : 0 ≤ r ∧ r ≤ 7) : zf_iand r 4 = r / 4 % 2 * 4 := by
  have key : ∀ b : Fin 8, zf_iand (b.val : Int) 4 = (b.val : Int) / 4 % 2 * 4 := by decide +kernel
  have e := key ⟨r.toNat, by omega⟩
  simp only [Int.toNat_of_nonneg h.1] at e
  exact e
theorem zis0 {r : Int} (h : 0 ≤ r ∧ r ≤ 7) : zf_iand (zf_ishr r 0) 1 = r % 2 := by
  have key : ∀ b : Fin 8, zf_iand (zf_ishr (b.val : Int) 0) 1 = (b.val : Int) % 2 := by decide +kernel
  have e := key ⟨r.toNat, by omega⟩
  simp only [Int.toNat_of_nonneg h.1] at e
  exact e
theorem zis1 {r : Int} (h : 0 ≤ r ∧ r ≤ 7) : zf_iand (zf_ishr r 1) 1 = r / 2 % 2 := by
  have key : ∀ b : Fin 8, zf_iand (zf_ishr (b.val : Int) 1) 1 = (b.val : Int) / 2 % 2 := by decide +kernel
  have e := key ⟨r.toNat, by omega⟩
  simp only [Int.toNat_of_nonneg h.1] at e
  exact e
theorem zis2 {r : Int} (h : 0 ≤ r ∧ r ≤ 7) : zf_iand (zf_ishr r 2) 1 = r / 4 % 2 := by
  have key : ∀ b : Fin 8, zf_iand (zf_ishr (b.val : Int) 2) 1 = (b.val : Int) / 4 % 2 := by decide +kernel
  have e := key ⟨r.toNat, by omega⟩
  simp only [Int.toNat_of_nonneg h.1] at e
  exact e
set_option maxRecDepth 4000 in
theorem X4_isBarred_ct {l : Launch} {Γ : zC} {h : zM} {Q : Option zV → zC → zM → Prop} (hΓ : zBase Γ) {b : Nat → Int} {r : Int} {hd : Nat} (hP : zPu h b r hd) {n : Nat} (hn : n ≤ 200) (hQ0 : b n = 0 → Q (some (zI 0)) Γ h) (hQ1 : b n ≠ 0 → Q (some (zI 1)) Γ h) : zCT l mX4_isBarred 0 0 0 Γ [zR 41, zI (n : Int)] h Q := by
  have hr7 := hP.2.2.2.1
  have hd9 := hP.2.2.2.2
  refine zCT_of (by decide) (Nat.le_of_ble_eq_true rfl) (ls := [some (zR 41), some (zI (n : Int))]) rfl ?_
  refine z_il1 dX4_isBarred_0 ?_
  refine z_if_lt (t := 24) dX4_isBarred_1 (by rfl) (fun ht1 => ?_) (fun hf1 => ?_)
  · refine z_iconst dX4_isBarred_24 (by decide) ?_
    refine z_zret dX4_isBarred_25 rfl (Nat.le_refl _) (Nat.le_refl _) (zext_rf _) (by first | exact Or.inl rfl | exact Or.inr rfl | omega) ?_
    first | (exfalso; omega) | exact hQ0 (by omega) | exact hQ1 (by omega)
  · refine z_il1 dX4_isBarred_4 ?_
    refine z_sipush (x := 200) dX4_isBarred_5 (by rfl) (by decide) ?_
    refine z_icmp_gt (t := 24) dX4_isBarred_8 (by rfl) (fun ht8 => ?_) (fun hf8 => ?_)
    · refine z_iconst dX4_isBarred_24 (by decide) ?_
      refine z_zret dX4_isBarred_25 rfl (Nat.le_refl _) (Nat.le_refl _) (zext_rf _) (by first | exact Or.inl rfl | exact Or.inr rfl | omega) ?_
      first | (exfalso; omega) | exact hQ0 (by omega) | exact hQ1 (by omega)
    · refine z_al0 dX4_isBarred_11 (by first | decide | omega | assumption) ?_
      refine z_getR zfX4_9 dX4_isBarred_12 (zkB hΓ rfl) rfl (zsB hΓ rfl) (zvB hΓ (by decide)) ?_
      refine z_il1 dX4_isBarred_15 ?_
      refine z_zald dX4_isBarred_16 (zkB hΓ rfl) (by omega) (by omega) ?_
      rw [hP.1 _ (by omega)]
      try simp only [zup_ap, zup_row, ne_eq, not_false_eq_true, zres, Int.toNat_natCast, reduceIte, Nat.reduceEqDiff, Nat.reduceAdd, and_self, and_true, true_and, and_false, false_and]
      refine z_if_eq (t := 24) dX4_isBarred_17 (by rfl) (fun ht17 => ?_) (fun hf17 => ?_)
      · refine z_iconst dX4_isBarred_24 (by decide) ?_
        refine z_zret dX4_isBarred_25 rfl (Nat.le_refl _) (Nat.le_refl _) (zext_rf _) (by first | exact Or.inl rfl | exact Or.inr rfl | omega) ?_
        first | (exfalso; omega) | exact hQ0 (by omega) | exact hQ1 (by omega)
      · refine z_iconst dX4_isBarred_20 (by decide) ?_
        refine z_goto (t := 25) dX4_isBarred_21 (by rfl) ?_
        refine z_zret dX4_isBarred_25 rfl (Nat.le_refl _) (Nat.le_refl _) (zext_rf _) (by first | exact Or.inl rfl | exact Or.inr rfl | omega) ?_
        first | (exfalso; omega) | exact hQ0 (by omega) | exact hQ1 (by omega)
set_option maxRecDepth 4000 in
theorem X4_isPart_ct {l : Launch} {Γ : zC} {h : zM} {Q : Option zV → zC → zM → Prop} (hΓ : zBase Γ) {b : Nat → Int} {r : Int} {hd : Nat} (hP : zPu h b r hd) {n : Nat} (hn : n ≤ 200) (hQ0 : zpt b r n = false → Q (some (zI 0)) Γ h) (hQ1 : zpt b r n = true → Q (some (zI 1)) Γ h) : zCT l mX4_isPart 1 0 0 Γ [zR 41, zI (n : Int)] h Q := by
  have hr7 := hP.2.2.2.1
  have hd9 := hP.2.2.2.2
  refine zCT_of (by decide) (Nat.le_of_ble_eq_true rfl) (ls := [some (zR 41), some (zI (n : Int))]) rfl ?_
  refine z_al0 dX4_isPart_0 (by first | decide | omega | assumption) ?_
  refine z_getI zfX4_31 dX4_isPart_1 (zkB hΓ rfl) rfl ?_
  rw [hP.2.1]
  try simp only [zup_ap, zup_row, ne_eq, not_false_eq_true, zres, Int.toNat_natCast, reduceIte, Nat.reduceEqDiff, Nat.reduceAdd, and_self, and_true, true_and, and_false, false_and]
  refine z_iconst dX4_isPart_4 (by decide) ?_
  refine z_iand dX4_isPart_5 ?_
  rw [zia1 hr7]
  refine z_if_eq (t := 17) dX4_isPart_6 (by rfl) (fun ht6 => ?_) (fun hf6 => ?_)
  · refine z_iconst dX4_isPart_17 (by decide) ?_
    refine z_goto (t := 22) dX4_isPart_18 (by rfl) ?_
    refine z_zret dX4_isPart_22 rfl (Nat.le_refl _) (Nat.le_refl _) (zext_rf _) (by first | exact Or.inl rfl | exact Or.inr rfl | omega) ?_
    first | exact hQ0 (zpt_f (by omega)) | exact hQ1 (zpt_t (by omega))
  · refine z_al0 dX4_isPart_9 (by first | decide | omega | assumption) ?_
    refine z_il1 dX4_isPart_10 ?_
    refine zcv1 dX4_isPart_11 zkX4_78 ziX4_isBarred zsX4_isBarred (zkB hΓ rfl) (by decide) rfl (Nat.le_of_ble_eq_true rfl) (by decide) (by first | decide | omega) ⟨Nat.le_refl _, Nat.le_refl _⟩ (X4_isBarred_ct hΓ hP hn (fun hp9 _ => ?_) (fun hp9 _ => ?_))
    · try simp only [zup_ap, zup_row, ne_eq, not_false_eq_true, zres, Int.toNat_natCast, reduceIte, Nat.reduceEqDiff, Nat.reduceAdd, and_self, and_true, true_and, and_false, false_and]
      refine z_if_ne (t := 21) dX4_isPart_14 (by rfl) (fun hx => absurd hx (by decide)) (fun _ => ?_)
      refine z_iconst dX4_isPart_17 (by decide) ?_
      refine z_goto (t := 22) dX4_isPart_18 (by rfl) ?_
      refine z_zret dX4_isPart_22 rfl (Nat.le_refl _) (Nat.le_refl _) (zext_rf _) (by first | exact Or.inl rfl | exact Or.inr rfl | omega) ?_
      first | exact hQ0 (zpt_f (by omega)) | exact hQ1 (zpt_t (by omega))
    · try simp only [zup_ap, zup_row, ne_eq, not_false_eq_true, zres, Int.toNat_natCast, reduceIte, Nat.reduceEqDiff, Nat.reduceAdd, and_self, and_true, true_and, and_false, false_and]
      refine z_if_ne (t := 21) dX4_isPart_14 (by rfl) (fun _ => ?_) (fun hx => absurd hx (by decide))
      refine z_iconst dX4_isPart_21 (by decide) ?_
      refine z_zret dX4_isPart_22 rfl (Nat.le_refl _) (Nat.le_refl _) (zext_rf _) (by first | exact Or.inl rfl | exact Or.inr rfl | omega) ?_
      first | exact hQ0 (zpt_f (by omega)) | exact hQ1 (zpt_t (by omega))
set_option maxRecDepth 4000 in
theorem X4_isTotal_ct {l : Launch} {Γ : zC} {h : zM} {Q : Option zV → zC → zM → Prop} (hΓ : zBase Γ) {b : Nat → Int} {r : Int} {hd : Nat} (hP : zPu h b r hd) {n : Nat} (hn : n ≤ 200) (hQ0 : zto b r n = false → Q (some (zI 0)) Γ h) (hQ1 : zto b r n = true → Q (some (zI 1)) Γ h) : zCT l mX4_isTotal 1 0 0 Γ [zR 41, zI (n : Int)] h Q := by
  have hr7 := hP.2.2.2.1
  have hd9 := hP.2.2.2.2
  refine zCT_of (by decide) (Nat.le_of_ble_eq_true rfl) (ls := [some (zR 41), some (zI (n : Int))]) rfl ?_
  refine z_al0 dX4_isTotal_0 (by first | decide | omega | assumption) ?_
  refine z_getI zfX4_31 dX4_isTotal_1 (zkB hΓ rfl) rfl ?_
  rw [hP.2.1]
  try simp only [zup_ap, zup_row, ne_eq, not_false_eq_true, zres, Int.toNat_natCast, reduceIte, Nat.reduceEqDiff, Nat.reduceAdd, and_self, and_true, true_and, and_false, false_and]
  refine z_iconst dX4_isTotal_4 (by decide) ?_
  refine z_iand dX4_isTotal_5 ?_
  rw [zia2 hr7]
  refine z_if_eq (t := 17) dX4_isTotal_6 (by rfl) (fun ht6 => ?_) (fun hf6 => ?_)
  · refine z_iconst dX4_isTotal_17 (by decide) ?_
    refine z_goto (t := 22) dX4_isTotal_18 (by rfl) ?_
    refine z_zret dX4_isTotal_22 rfl (Nat.le_refl _) (Nat.le_refl _) (zext_rf _) (by first | exact Or.inl rfl | exact Or.inr rfl | omega) ?_
    first | exact hQ0 (zto_f (by omega)) | exact hQ1 (zto_t (by omega))
  · refine z_al0 dX4_isTotal_9 (by first | decide | omega | assumption) ?_
    refine z_il1 dX4_isTotal_10 ?_
    refine zcv1 dX4_isTotal_11 zkX4_78 ziX4_isBarred zsX4_isBarred (zkB hΓ rfl) (by decide) rfl (Nat.le_of_ble_eq_true rfl) (by decide) (by first | decide | omega) ⟨Nat.le_refl _, Nat.le_refl _⟩ (X4_isBarred_ct hΓ hP hn (fun hp9 _ => ?_) (fun hp9 _ => ?_))
    · try simp only [zup_ap, zup_row, ne_eq, not_false_eq_true, zres, Int.toNat_natCast, reduceIte, Nat.reduceEqDiff, Nat.reduceAdd, and_self, and_true, true_and, and_false, false_and]
      refine z_if_ne (t := 21) dX4_isTotal_14 (by rfl) (fun hx => absurd hx (by decide)) (fun _ => ?_)
      refine z_iconst dX4_isTotal_17 (by decide) ?_
      refine z_goto (t := 22) dX4_isTotal_18 (by rfl) ?_
      refine z_zret dX4_isTotal_22 rfl (Nat.le_refl _) (Nat.le_refl _) (zext_rf _) (by first | exact Or.inl rfl | exact Or.inr rfl | omega) ?_
      first | exact hQ0 (zto_f (by omega)) | exact hQ1 (zto_t (by omega))
    · try simp only [zup_ap, zup_row, ne_eq, not_false_eq_true, zres, Int.toNat_natCast, reduceIte, Nat.reduceEqDiff, Nat.reduceAdd, and_self, and_true, true_and, and_false, false_and]
      refine z_if_ne (t := 21) dX4_isTotal_14 (by rfl) (fun _ => ?_) (fun hx => absurd hx (by decide))
      refine z_iconst dX4_isTotal_21 (by decide) ?_
      refine z_zret dX4_isTotal_22 rfl (Nat.le_refl _) (Nat.le_refl _) (zext_rf _) (by first | exact Or.inl rfl | exact Or.inr rfl | omega) ?_
      first | exact hQ0 (zto_f (by omega)) | exact hQ1 (zto_t (by omega))
set_option maxRecDepth 4000 in
theorem X4_isCount_ct {l : Launch} {Γ : zC} {h : zM} {Q : Option zV → zC → zM → Prop} (hΓ : zBase Γ) {b : Nat → Int} {r : Int} {hd : Nat} (hP : zPu h b r hd) {n : Nat} (hn : n ≤ 200) (hQ0 : zco b r n = false → Q (some (zI 0)) Γ h) (hQ1 : zco b r n = true → Q (some (zI 1)) Γ h) : zCT l mX4_isCount 1 0 0 Γ [zR 41, zI (n : Int)] h Q := by
  have hr7 := hP.2.2.2.1
  have hd9 := hP.2.2.2.2
  refine zCT_of (by decide) (Nat.le_of_ble_eq_true rfl) (ls := [some (zR 41), some (zI (n : Int))]) rfl ?_
  refine z_al0 dX4_isCount_0 (by first | decide | omega | assumption) ?_
  refine z_getI zfX4_31 dX4_isCount_1 (zkB hΓ rfl) rfl ?_
  rw [hP.2.1]
  try simp only [zup_ap, zup_row, ne_eq, not_false_eq_true, zres, Int.toNat_natCast, reduceIte, Nat.reduceEqDiff, Nat.reduceAdd, and_self, and_true, true_and, and_false, false_and]
  refine z_iconst dX4_isCount_4 (by decide) ?_
  refine z_iand dX4_isCount_5 ?_
  rw [zia4 hr7]
  refine z_if_eq (t := 17) dX4_isCount_6 (by rfl) (fun ht6 => ?_) (fun hf6 => ?_)
  · refine z_iconst dX4_isCount_17 (by decide) ?_
    refine z_goto (t := 22) dX4_isCount_18 (by rfl) ?_
    refine z_zret dX4_isCount_22 rfl (Nat.le_refl _) (Nat.le_refl _) (zext_rf _) (by first | exact Or.inl rfl | exact Or.inr rfl | omega) ?_
    first | exact hQ0 (zco_f (by omega)) | exact hQ1 (zco_t (by omega))
  · refine z_al0 dX4_isCount_9 (by first | decide | omega | assumption) ?_
    refine z_il1 dX4_isCount_10 ?_
    refine zcv1 dX4_isCount_11 zkX4_78 ziX4_isBarred zsX4_isBarred (zkB hΓ rfl) (by decide) rfl (Nat.le_of_ble_eq_true rfl) (by decide) (by first | decide | omega) ⟨Nat.le_refl _, Nat.le_refl _⟩ (X4_isBarred_ct hΓ hP hn (fun hp9 _ => ?_) (fun hp9 _ => ?_))
    · try simp only [zup_ap, zup_row, ne_eq, not_false_eq_true, zres, Int.toNat_natCast, reduceIte, Nat.reduceEqDiff, Nat.reduceAdd, and_self, and_true, true_and, and_false, false_and]
      refine z_if_ne (t := 21) dX4_isCount_14 (by rfl) (fun hx => absurd hx (by decide)) (fun _ => ?_)
      refine z_iconst dX4_isCount_17 (by decide) ?_
      refine z_goto (t := 22) dX4_isCount_18 (by rfl) ?_
      refine z_zret dX4_isCount_22 rfl (Nat.le_refl _) (Nat.le_refl _) (zext_rf _) (by first | exact Or.inl rfl | exact Or.inr rfl | omega) ?_
      first | exact hQ0 (zco_f (by omega)) | exact hQ1 (zco_t (by omega))
    · try simp only [zup_ap, zup_row, ne_eq, not_false_eq_true, zres, Int.toNat_natCast, reduceIte, Nat.reduceEqDiff, Nat.reduceAdd, and_self, and_true, true_and, and_false, false_and]
      refine z_if_ne (t := 21) dX4_isCount_14 (by rfl) (fun _ => ?_) (fun hx => absurd hx (by decide))
      refine z_iconst dX4_isCount_21 (by decide) ?_
      refine z_zret dX4_isCount_22 rfl (Nat.le_refl _) (Nat.le_refl _) (zext_rf _) (by first | exact Or.inl rfl | exact Or.inr rfl | omega) ?_
      first | exact hQ0 (zco_f (by omega)) | exact hQ1 (zco_t (by omega))
def zlf (f : Nat → Bool) : Nat → Nat → Int
  | 0, _ => -1
  | m + 1, a => if f a then (a : Int) else zlf f m (a + 1)
theorem zlf_b (f : Nat → Bool) : ∀ m a, zlf f m a = -1 ∨ (a : Int) ≤ zlf f m a ∧ zlf f m a < a + m ∧ f (zlf f m a).toNat = true
  | 0, _ => Or.inl rfl
  | m + 1, a => by
    unfold zlf
    split
    · rename_i h; exact Or.inr ⟨Int.le_refl _, by omega, by rw [Int.toNat_natCast]; exact h⟩
    · rcases zlf_b f m (a + 1) with h | h
      · exact Or.inl h
      · exact Or.inr ⟨by omega, by omega, h.2.2⟩
theorem zlf_cg {f g : Nat → Bool} : ∀ m a, (∀ q, a ≤ q → q < a + m → f q = g q) → zlf f m a = zlf g m a
  | 0, _, _ => rfl
  | m + 1, a, h => by
    unfold zlf
    rw [h a (Nat.le_refl _) (by omega), zlf_cg m (a + 1) (fun q h1 h2 => h q (by omega) (by omega))]
set_option maxRecDepth 4000 in
theorem X4_fewest_l {l : Launch} {Γ : zC} {h : zM} {Q : Option zV → zC → zM → Prop} (hΓ : zBase Γ) {b : Nat → Int} {r : Int} {hd : Nat} (hP : zPu h b r hd) {x : Int} {f : Nat → Bool} (hB : zBt x f) : ∀ (m k : Nat), 61 - k < m → 1 ≤ k → k ≤ 61 → Q (some (zI (zlf (fun k => f k && zco b r k) (61 - k) k))) Γ h → zG (zFn l mX4_fewest 2 0 0 Γ Q) 0 0 Γ h 2 [some (zR 41), some (zL x), none, some (zI (k : Int))] [] := by
  have hr7 := hP.2.2.2.1
  have hd9 := hP.2.2.2.2
  intro m
  induction m with
  | zero => intros; omega
  | succ m ih =>
    intro k hm hk1 hk2 hQ
    refine z_il3 dX4_fewest_2 ?_
    refine z_bipush (x := 60) dX4_fewest_3 (by rfl) (by decide) ?_
    refine z_icmp_gt (t := 34) dX4_fewest_5 (by rfl) (fun ht5 => ?_) (fun hf5 => ?_)
    · refine z_iconst dX4_fewest_34 (by decide) ?_
      refine z_iret dX4_fewest_35 rfl (Nat.le_refl _) (Nat.le_refl _) (zext_rf _) (fun hrr => ?_)
      rw [show 61 - k = 0 by omega] at hQ
      exact hQ
    · refine z_ll1 dX4_fewest_8 ?_
      refine z_il3 dX4_fewest_9 ?_
      refine z_lushr dX4_fewest_10 ?_
      refine z_lconst (x := 1) dX4_fewest_11 (by rfl) (by decide) ?_
      refine z_land dX4_fewest_12 ?_
      refine z_lconst (x := 0) dX4_fewest_13 (by rfl) (by decide) ?_
      refine z_lcmp dX4_fewest_14 ?_
      rw [zBt_at hB (by omega)]
      refine z_if_eq (t := 28) dX4_fewest_15 (by rfl) (fun ht15 => ?_) (fun hf15 => ?_)
      · have hfk : f k = false := by
          cases hff : f k with
          | false => rfl
          | true => rw [hff, zcmp_0] at ht15; exact absurd ht15 (by decide)
        refine z_ii3 dX4_fewest_28 (by omega) (Nat.le_of_ble_eq_true rfl) rfl ?_
        refine z_goto (t := 2) dX4_fewest_31 (by rfl) ?_
        have e9 : zlf (fun k => f k && zco b r k) (61 - k) k = zlf (fun k => f k && zco b r k) (61 - (k + 1)) (k + 1) := by
          rw [show 61 - k = (61 - (k + 1)) + 1 by omega]
          rw [zlf]
          refine if_neg ?_
          first
          | (rw [hp9]; simp)
          | (rw [hfk]; simp)
        rw [e9] at hQ
        exact ih (k + 1) (by omega) (by omega) (by omega) hQ
      · have hfk : f k = true := by
          cases hff : f k with
          | true => rfl
          | false => rw [hff, zcmp_0] at hf15; exact absurd rfl hf15
        refine z_al0 dX4_fewest_18 (by first | decide | omega | assumption) ?_
        refine z_il3 dX4_fewest_19 ?_
        refine zcv1 dX4_fewest_20 zkX4_58 ziX4_isCount zsX4_isCount (zkB hΓ rfl) (by decide) rfl (Nat.le_of_ble_eq_true rfl) (by decide) (by first | decide | omega) ⟨Nat.le_refl _, Nat.le_refl _⟩ (X4_isCount_ct hΓ hP (n := k) (by omega) (fun hp9 _ => ?_) (fun hp9 _ => ?_))
        · try simp only [zup_ap, zup_row, ne_eq, not_false_eq_true, zres, Int.toNat_natCast, reduceIte, Nat.reduceEqDiff, Nat.reduceAdd, and_self, and_true, true_and, and_false, false_and]
          refine z_if_eq (t := 28) dX4_fewest_23 (by rfl) (fun _ => ?_) (fun hx => absurd hx (by decide))
          refine z_ii3 dX4_fewest_28 (by omega) (Nat.le_of_ble_eq_true rfl) rfl ?_
          refine z_goto (t := 2) dX4_fewest_31 (by rfl) ?_
          have e9 : zlf (fun k => f k && zco b r k) (61 - k) k = zlf (fun k => f k && zco b r k) (61 - (k + 1)) (k + 1) := by
            rw [show 61 - k = (61 - (k + 1)) + 1 by omega]
            rw [zlf]
            refine if_neg ?_
            first
            | (rw [hp9]; simp)
            | (rw [hfk]; simp)
          rw [e9] at hQ
          exact ih (k + 1) (by omega) (by omega) (by omega) hQ
        · try simp only [zup_ap, zup_row, ne_eq, not_false_eq_true, zres, Int.toNat_natCast, reduceIte, Nat.reduceEqDiff, Nat.reduceAdd, and_self, and_true, true_and, and_false, false_and]
          refine z_if_eq (t := 28) dX4_fewest_23 (by rfl) (fun hx => absurd hx (by decide)) (fun _ => ?_)
          refine z_il3 dX4_fewest_26 ?_
          refine z_iret dX4_fewest_27 rfl (Nat.le_refl _) (Nat.le_refl _) (zext_rf _) (fun hrr => ?_)
          rw [show 61 - k = (61 - (k + 1)) + 1 by omega, zlf, if_pos (by rw [hfk, hp9]; rfl)] at hQ
          exact hQ
set_option maxRecDepth 4000 in
theorem X4_fewest_ct {l : Launch} {Γ : zC} {h : zM} {Q : Option zV → zC → zM → Prop} (hΓ : zBase Γ) {b : Nat → Int} {r : Int} {hd : Nat} (hP : zPu h b r hd) {x : Int} {f : Nat → Bool} (hB : zBt x f) (hQ : Q (some (zI (zlf (fun k => f k && zco b r k) 60 1))) Γ h) : zCT l mX4_fewest 2 0 0 Γ [zR 41, zL x] h Q := by
  have hr7 := hP.2.2.2.1
  have hd9 := hP.2.2.2.2
  refine zCT_of (by decide) (Nat.le_of_ble_eq_true rfl) (ls := [some (zR 41), some (zL x), none, none]) rfl ?_
  refine z_iconst dX4_fewest_0 (by decide) ?_
  refine z_is3 dX4_fewest_1 (Nat.le_of_ble_eq_true rfl) rfl ?_
  exact X4_fewest_l hΓ hP hB _ 1 (Nat.lt_succ_self _) (by omega) (by omega) hQ
def zpd (b : Nat → Int) (r : Int) (hd s : Nat) : Bool := decide (zlf (fun k => zcm b r hd k s && zco b r k) 60 1 ≠ -1)
def zCf (h : zM) (b : Nat → Int) (r : Int) (hd : Nat) : Prop := ∀ u, u ≤ 200 → zBt (h 43 u) (fun k => zcm b r hd k u)
set_option maxRecDepth 4000 in
theorem X4_isPaid_ct {l : Launch} {Γ : zC} {h : zM} {Q : Option zV → zC → zM → Prop} (hΓ : zBase Γ) {b : Nat → Int} {r : Int} {hd : Nat} (hP : zPu h b r hd) (hC : zCf h b r hd) {s : Int} (hQ0 : ¬ (1 ≤ s ∧ s ≤ 200 ∧ zpd b r hd s.toNat = true) → Q (some (zI 0)) Γ h) (hQ1 : (1 ≤ s ∧ s ≤ 200 ∧ zpd b r hd s.toNat = true) → Q (some (zI 1)) Γ h) : zCT l mX4_isPaid 3 0 0 Γ [zR 41, zI s] h Q := by
  have hr7 := hP.2.2.2.1
  have hd9 := hP.2.2.2.2
  refine zCT_of (by decide) (Nat.le_of_ble_eq_true rfl) (ls := [some (zR 41), some (zI s)]) rfl ?_
  refine z_il1 dX4_isPaid_0 ?_
  refine z_iconst dX4_isPaid_1 (by decide) ?_
  refine z_icmp_lt (t := 30) dX4_isPaid_2 (by rfl) (fun ht2 => ?_) (fun hf2 => ?_)
  · refine z_iconst dX4_isPaid_30 (by decide) ?_
    refine z_zret dX4_isPaid_31 rfl (Nat.le_refl _) (Nat.le_refl _) (zext_rf _) (by first | exact Or.inl rfl | exact Or.inr rfl | omega) ?_
    first
    | exact hQ0 (by omega)
    | exact hQ0 (fun e => (by unfold zpd at e; have e2 := of_decide_eq_true e.2.2; omega))
    | exact hQ1 ⟨by omega, by omega, decide_eq_true (by omega)⟩
  · refine z_il1 dX4_isPaid_5 ?_
    refine z_sipush (x := 200) dX4_isPaid_6 (by rfl) (by decide) ?_
    refine z_icmp_gt (t := 30) dX4_isPaid_9 (by rfl) (fun ht9 => ?_) (fun hf9 => ?_)
    · refine z_iconst dX4_isPaid_30 (by decide) ?_
      refine z_zret dX4_isPaid_31 rfl (Nat.le_refl _) (Nat.le_refl _) (zext_rf _) (by first | exact Or.inl rfl | exact Or.inr rfl | omega) ?_
      first
      | exact hQ0 (by omega)
      | exact hQ0 (fun e => (by unfold zpd at e; have e2 := of_decide_eq_true e.2.2; omega))
      | exact hQ1 ⟨by omega, by omega, decide_eq_true (by omega)⟩
    · refine z_al0 dX4_isPaid_12 (by first | decide | omega | assumption) ?_
      refine z_al0 dX4_isPaid_13 (by first | decide | omega | assumption) ?_
      refine z_getR zfX4_15 dX4_isPaid_14 (zkB hΓ rfl) rfl (zsB hΓ rfl) (zvB hΓ (by decide)) ?_
      refine z_il1 dX4_isPaid_17 ?_
      refine z_lald dX4_isPaid_18 (zkB hΓ rfl) (by omega) (by omega) ?_
      try simp only [zup_ap, zup_row, ne_eq, not_false_eq_true, zres, Int.toNat_natCast, reduceIte, Nat.reduceEqDiff, Nat.reduceAdd, and_self, and_true, true_and, and_false, false_and]
      refine zcv1 dX4_isPaid_19 zkX4_46 ziX4_fewest zsX4_fewest (zkB hΓ rfl) (by decide) rfl (Nat.le_of_ble_eq_true rfl) (by decide) (by first | decide | omega) ⟨Nat.le_refl _, Nat.le_refl _⟩ (X4_fewest_ct hΓ hP (hC _ (by omega)) (fun _ => ?_))
      try simp only [zup_ap, zup_row, ne_eq, not_false_eq_true, zres, Int.toNat_natCast, reduceIte, Nat.reduceEqDiff, Nat.reduceAdd, and_self, and_true, true_and, and_false, false_and]
      refine z_iconst dX4_isPaid_22 (by decide) ?_
      refine z_icmp_eq (t := 30) dX4_isPaid_23 (by rfl) (fun ht23 => ?_) (fun hf23 => ?_)
      · refine z_iconst dX4_isPaid_30 (by decide) ?_
        refine z_zret dX4_isPaid_31 rfl (Nat.le_refl _) (Nat.le_refl _) (zext_rf _) (by first | exact Or.inl rfl | exact Or.inr rfl | omega) ?_
        first
        | exact hQ0 (by omega)
        | exact hQ0 (fun e => (by unfold zpd at e; have e2 := of_decide_eq_true e.2.2; omega))
        | exact hQ1 ⟨by omega, by omega, decide_eq_true (by omega)⟩
      · refine z_iconst dX4_isPaid_26 (by decide) ?_
        refine z_goto (t := 31) dX4_isPaid_27 (by rfl) ?_
        refine z_zret dX4_isPaid_31 rfl (Nat.le_refl _) (Nat.le_refl _) (zext_rf _) (by first | exact Or.inl rfl | exact Or.inr rfl | omega) ?_
        first
        | exact hQ0 (by omega)
        | exact hQ0 (fun e => (by unfold zpd at e; have e2 := of_decide_eq_true e.2.2; omega))
        | exact hQ1 ⟨by omega, by omega, decide_eq_true (by omega)⟩
set_option maxRecDepth 4000 in
theorem X4_cF_i {l : Launch} {Γ : zC} {h : zM} {Q : Option zV → zC → zM → Prop} (hΓ : zBase Γ) {b : Nat → Int} {r : Int} {hd : Nat} (hP : zPu h b r hd) {t : Nat} (ht : 1 ≤ t ∧ t ≤ 200) (hC : ∀ u, u < t → zBt (h 43 u) (fun k => zcm b r hd k u)) (hK : ∀ (y : Nat) (x : Int), zBt x (fun k => zan (fun p => zpt b r p && zcm b r hd k (t - p)) (min hd t)) → zG (zFn l mX4_countForward 2 0 0 Γ Q) 0 0 Γ h 63 [some (zR 41), some (zI (t : Int)), some (zL x), none, some (zI (y : Int))] []) : ∀ (m p : Nat) (x : Int), hd + 1 - p < m → p ≤ min hd t → zBt x (fun k => zan (fun p => zpt b r p && zcm b r hd k (t - p)) p) → zG (zFn l mX4_countForward 2 0 0 Γ Q) 0 0 Γ h 21 [some (zR 41), some (zI (t : Int)), some (zL x), none, some (zI ((p + 1 : Nat) : Int))] [] := by
  have hr7 := hP.2.2.2.1
  have hd9 := hP.2.2.2.2
  intro m
  induction m with
  | zero => intros; omega
  | succ m ih =>
    intro p x hm hp hx
    refine z_il4 dX4_countForward_21 ?_
    refine z_al0 dX4_countForward_23 (by first | decide | omega | assumption) ?_
    refine z_getI zfX4_27 dX4_countForward_24 (zkB hΓ rfl) rfl ?_
    rw [hP.2.2.1]
    try simp only [zup_ap, zup_row, ne_eq, not_false_eq_true, zres, Int.toNat_natCast, reduceIte, Nat.reduceEqDiff, Nat.reduceAdd, and_self, and_true, true_and, and_false, false_and]
    refine z_icmp_gt (t := 63) dX4_countForward_27 (by rfl) (fun ht27 => ?_) (fun hf27 => ?_)
    · have e9 : p = min hd t := by omega
      subst e9
      exact hK _ _ hx
    · refine z_il4 dX4_countForward_30 ?_
      refine z_il1 dX4_countForward_32 ?_
      refine z_icmp_gt (t := 63) dX4_countForward_33 (by rfl) (fun ht33 => ?_) (fun hf33 => ?_)
      · have e9 : p = min hd t := by omega
        subst e9
        exact hK _ _ hx
      · refine z_al0 dX4_countForward_36 (by first | decide | omega | assumption) ?_
        refine z_il4 dX4_countForward_37 ?_
        refine zcv1 dX4_countForward_39 zkX4_34 ziX4_isPart zsX4_isPart (zkB hΓ rfl) (by decide) rfl (Nat.le_of_ble_eq_true rfl) (by decide) (by first | decide | omega) ⟨Nat.le_refl _, Nat.le_refl _⟩ (X4_isPart_ct hΓ hP (n := p + 1) (by omega) (fun hp9 _ => ?_) (fun hp9 _ => ?_))
        · try simp only [zup_ap, zup_row, ne_eq, not_false_eq_true, zres, Int.toNat_natCast, reduceIte, Nat.reduceEqDiff, Nat.reduceAdd, and_self, and_true, true_and, and_false, false_and]
          refine z_if_eq (t := 57) dX4_countForward_42 (by rfl) (fun _ => ?_) (fun hx => absurd hx (by decide))
          refine z_ii4 dX4_countForward_57 (by omega) (Nat.le_of_ble_eq_true rfl) rfl ?_
          refine z_goto (t := 21) dX4_countForward_60 (by rfl) ?_
          refine ih (p + 1) _ (by omega) (by omega) ?_
          first
          | (refine zBt_cg hx (fun k _ => ?_)
             simp only [zan]
             rw [hp9]; simp)
          | (refine zBt_cg (zBt_or hx (hC (t - (p + 1)) (by omega))) (fun k _ => ?_)
             simp only [zan]
             rw [hp9]; simp)
        · try simp only [zup_ap, zup_row, ne_eq, not_false_eq_true, zres, Int.toNat_natCast, reduceIte, Nat.reduceEqDiff, Nat.reduceAdd, and_self, and_true, true_and, and_false, false_and]
          refine z_if_eq (t := 57) dX4_countForward_42 (by rfl) (fun hx => absurd hx (by decide)) (fun _ => ?_)
          refine z_ll2 dX4_countForward_45 ?_
          refine z_al0 dX4_countForward_46 (by first | decide | omega | assumption) ?_
          refine z_getR zfX4_15 dX4_countForward_47 (zkB hΓ rfl) rfl (zsB hΓ rfl) (zvB hΓ (by decide)) ?_
          refine z_il1 dX4_countForward_50 ?_
          refine z_il4 dX4_countForward_51 ?_
          refine z_isub dX4_countForward_53 (by omega) ?_
          refine z_lald dX4_countForward_54 (zkB hΓ rfl) (by omega) (by omega) ?_
          rw [show ((t : Int) - ((p + 1 : Nat) : Int)).toNat = t - (p + 1) by omega]
          try simp only [zup_ap, zup_row, ne_eq, not_false_eq_true, zres, Int.toNat_natCast, reduceIte, Nat.reduceEqDiff, Nat.reduceAdd, and_self, and_true, true_and, and_false, false_and]
          refine z_lor dX4_countForward_55 ?_
          refine z_ls2 dX4_countForward_56 (Nat.le_of_ble_eq_true rfl) rfl ?_
          refine z_ii4 dX4_countForward_57 (by omega) (Nat.le_of_ble_eq_true rfl) rfl ?_
          refine z_goto (t := 21) dX4_countForward_60 (by rfl) ?_
          refine ih (p + 1) _ (by omega) (by omega) ?_
          first
          | (refine zBt_cg hx (fun k _ => ?_)
             simp only [zan]
             rw [hp9]; simp)
          | (refine zBt_cg (zBt_or hx (hC (t - (p + 1)) (by omega))) (fun k _ => ?_)
             simp only [zan]
             rw [hp9]; simp)
set_option maxRecDepth 4000 in
theorem X4_cF_o {l : Launch} {Γ : zC} {h1 : zM} {Q : Option zV → zC → zM → Prop} (hΓ : zBase Γ) {b : Nat → Int} {r : Int} {hd : Nat} (hQ : ∀ h9, (∀ q, q ≠ 43 → h9 q = h1 q) → zCf h9 b r hd → Q none Γ h9) : ∀ (m t : Nat) {y2 y3 y4 : Option zV} (h : zM), 201 - t < m → 1 ≤ t → t ≤ 201 → zPu h b r hd → (∀ q, q ≠ 43 → h q = h1 q) → (∀ u, u < t → zBt (h 43 u) (fun k => zcm b r hd k u)) → zG (zFn l mX4_countForward 2 0 0 Γ Q) 0 0 Γ h 9 [some (zR 41), some (zI (t : Int)), y2, y3, y4] [] := by
  intro m
  induction m with
  | zero => intros; omega
  | succ m ih =>
    intro t y2 y3 y4 h hm h1t h2t hP hE hC
    have hr7 := hP.2.2.2.1
    have hd9 := hP.2.2.2.2
    refine z_il1 dX4_countForward_9 ?_
    refine z_sipush (x := 200) dX4_countForward_10 (by rfl) (by decide) ?_
    refine z_icmp_gt (t := 94) dX4_countForward_13 (by rfl) (fun ht13 => ?_) (fun hf13 => ?_)
    · refine z_ret dX4_countForward_94 rfl (Nat.le_refl _) (Nat.le_refl _) (zext_rf _) ?_
      exact hQ h hE (fun u hu => hC u (by omega))
    · refine z_lconst (x := 0) dX4_countForward_16 (by rfl) (by decide) ?_
      refine z_ls2 dX4_countForward_17 (Nat.le_of_ble_eq_true rfl) rfl ?_
      refine z_iconst dX4_countForward_18 (by decide) ?_
      refine z_is4 dX4_countForward_19 (Nat.le_of_ble_eq_true rfl) rfl ?_
      refine X4_cF_i hΓ hP (by omega) hC (fun y x hx => ?_) _ 0 _ (Nat.lt_succ_self _) (Nat.zero_le _) zBt_0
      refine z_al0 dX4_countForward_63 (by first | decide | omega | assumption) ?_
      refine z_getR zfX4_15 dX4_countForward_64 (zkB hΓ rfl) rfl (zsB hΓ rfl) (zvB hΓ (by decide)) ?_
      refine z_il1 dX4_countForward_67 ?_
      refine z_al0 dX4_countForward_68 (by first | decide | omega | assumption) ?_
      refine z_il1 dX4_countForward_69 ?_
      refine zcv1 dX4_countForward_70 zkX4_38 ziX4_isTotal zsX4_isTotal (zkB hΓ rfl) (by decide) rfl (Nat.le_of_ble_eq_true rfl) (by decide) (by first | decide | omega) ⟨Nat.le_refl _, Nat.le_refl _⟩ (X4_isTotal_ct hΓ hP (n := t) (by omega) (fun hp9 _ => ?_) (fun hp9 _ => ?_))
      · try simp only [zup_ap, zup_row, ne_eq, not_false_eq_true, zres, Int.toNat_natCast, reduceIte, Nat.reduceEqDiff, Nat.reduceAdd, and_self, and_true, true_and, and_false, false_and]
        refine z_if_eq (t := 86) dX4_countForward_73 (by rfl) (fun _ => ?_) (fun hx => absurd hx (by decide))
        refine z_lconst (x := 0) dX4_countForward_86 (by rfl) (by decide) ?_
        refine z_last dX4_countForward_87 (zkB hΓ rfl) (by omega) (by omega) ?_
        refine z_ii1 dX4_countForward_88 (by omega) (Nat.le_of_ble_eq_true rfl) rfl ?_
        refine z_goto (t := 9) dX4_countForward_91 (by rfl) ?_
        refine ih (t + 1) _ (by omega) (by omega) (by omega) (zPu_cg hP (fun q h1 _ _ => zup_row h1)) (fun q hq => (zup_row hq).trans (hE q hq)) (fun u hu => ?_)
        by_cases eu : u = t
        · subst eu
          simp only [zup_ap, and_self, if_true, Int.toNat_natCast]
          first
          | (refine zBt_cg (zBt_sh hx) (fun k _ => ?_)
             cases k with
             | zero => exact (decide_eq_false (show ¬ u = 0 by omega)).symm
             | succ k => show zan _ _ = (zto b r u && zan _ hd); rw [hp9, zan_stop, Bool.true_and])
          | (refine zBt_cg zBt_0 (fun k _ => ?_)
             cases k with
             | zero => exact (decide_eq_false (show ¬ u = 0 by omega)).symm
             | succ k => show false = (zto b r u && zan _ hd); rw [hp9, Bool.false_and])
        · rw [zup_ap, if_neg (fun e => eu (by have := e.2; omega))]
          exact hC u (by omega)
      · try simp only [zup_ap, zup_row, ne_eq, not_false_eq_true, zres, Int.toNat_natCast, reduceIte, Nat.reduceEqDiff, Nat.reduceAdd, and_self, and_true, true_and, and_false, false_and]
        refine z_if_eq (t := 86) dX4_countForward_73 (by rfl) (fun hx => absurd hx (by decide)) (fun _ => ?_)
        refine z_ll2 dX4_countForward_76 ?_
        refine z_iconst dX4_countForward_77 (by decide) ?_
        refine z_lshl dX4_countForward_78 ?_
        refine z_ldc2 (x := 2305843009213693951) dX4_countForward_79 zqX4_41 (by decide) ?_
        refine z_land dX4_countForward_82 ?_
        refine z_goto (t := 87) dX4_countForward_83 (by rfl) ?_
        refine z_last dX4_countForward_87 (zkB hΓ rfl) (by omega) (by omega) ?_
        refine z_ii1 dX4_countForward_88 (by omega) (Nat.le_of_ble_eq_true rfl) rfl ?_
        refine z_goto (t := 9) dX4_countForward_91 (by rfl) ?_
        refine ih (t + 1) _ (by omega) (by omega) (by omega) (zPu_cg hP (fun q h1 _ _ => zup_row h1)) (fun q hq => (zup_row hq).trans (hE q hq)) (fun u hu => ?_)
        by_cases eu : u = t
        · subst eu
          simp only [zup_ap, and_self, if_true, Int.toNat_natCast]
          first
          | (refine zBt_cg (zBt_sh hx) (fun k _ => ?_)
             cases k with
             | zero => exact (decide_eq_false (show ¬ u = 0 by omega)).symm
             | succ k => show zan _ _ = (zto b r u && zan _ hd); rw [hp9, zan_stop, Bool.true_and])
          | (refine zBt_cg zBt_0 (fun k _ => ?_)
             cases k with
             | zero => exact (decide_eq_false (show ¬ u = 0 by omega)).symm
             | succ k => show false = (zto b r u && zan _ hd); rw [hp9, Bool.false_and])
        · rw [zup_ap, if_neg (fun e => eu (by have := e.2; omega))]
          exact hC u (by omega)
set_option maxRecDepth 4000 in
theorem X4_countForward_ct {l : Launch} {Γ : zC} {h : zM} {Q : Option zV → zC → zM → Prop} (hΓ : zBase Γ) {b : Nat → Int} {r : Int} {hd : Nat} (hP : zPu h b r hd) (hQ : ∀ h9, (∀ q, q ≠ 43 → h9 q = h q) → zCf h9 b r hd → Q none Γ h9) : zCT l mX4_countForward 2 0 0 Γ [zR 41] h Q := by
  have hr7 := hP.2.2.2.1
  have hd9 := hP.2.2.2.2
  refine zCT_of (by decide) (Nat.le_of_ble_eq_true rfl) (ls := [some (zR 41), none, none, none, none]) rfl ?_
  refine z_al0 dX4_countForward_0 (by first | decide | omega | assumption) ?_
  refine z_getR zfX4_15 dX4_countForward_1 (zkB hΓ rfl) rfl (zsB hΓ rfl) (zvB hΓ (by decide)) ?_
  refine z_iconst dX4_countForward_4 (by decide) ?_
  refine z_lconst (x := 1) dX4_countForward_5 (by rfl) (by decide) ?_
  refine z_last dX4_countForward_6 (zkB hΓ rfl) (by omega) (by omega) ?_
  refine z_iconst dX4_countForward_7 (by decide) ?_
  refine z_is1 dX4_countForward_8 (Nat.le_of_ble_eq_true rfl) rfl ?_
  refine X4_cF_o hΓ hQ _ 1 _ (Nat.lt_succ_self _) (by omega) (by omega) (zPu_cg hP (fun q h1 _ _ => zup_row h1)) (fun q hq => zup_row hq) (fun u hu => ?_)
  have eu : u = 0 := by omega
  subst eu
  show zBt (zup h 43 0 1 43 0) _
  rw [zup_ap, if_pos ⟨rfl, rfl⟩]
  exact zBt_cg zBt_1 (fun k _ => zcm_z b r hd k)
set_option maxRecDepth 4000 in
theorem X4_cB_i {l : Launch} {Γ : zC} {h : zM} {Q : Option zV → zC → zM → Prop} (hΓ : zBase Γ) {b : Nat → Int} {r : Int} {hd : Nat} (hP : zPu h b r hd) {t sum : Nat} (ht : t < sum ∧ sum ≤ 200) (hC : ∀ u, t < u → u ≤ sum → zBt (h 43 u) (fun k => zto b r u && zgo b r hd sum k u)) (hK : ∀ (y : Nat) (x : Int), zBt x (fun k => zan (fun p => zpt b r p && (zto b r (t + p) && zgo b r hd sum k (t + p))) (min hd (sum - t))) → zG (zFn l mX4_countBack 2 0 0 Γ Q) 0 0 Γ h 76 [some (zR 41), some (zI (sum : Int)), some (zI (t : Int)), some (zL x), none, some (zI (y : Int))] []) : ∀ (m p : Nat) (x : Int), hd + 1 - p < m → p ≤ min hd (sum - t) → zBt x (fun k => zan (fun p => zpt b r p && (zto b r (t + p) && zgo b r hd sum k (t + p))) p) → zG (zFn l mX4_countBack 2 0 0 Γ Q) 0 0 Γ h 32 [some (zR 41), some (zI (sum : Int)), some (zI (t : Int)), some (zL x), none, some (zI ((p + 1 : Nat) : Int))] [] := by
  have hr7 := hP.2.2.2.1
  have hd9 := hP.2.2.2.2
  intro m
  induction m with
  | zero => intros; omega
  | succ m ih =>
    intro p x hm hp hx
    refine z_il5 dX4_countBack_32 ?_
    refine z_al0 dX4_countBack_34 (by first | decide | omega | assumption) ?_
    refine z_getI zfX4_27 dX4_countBack_35 (zkB hΓ rfl) rfl ?_
    rw [hP.2.2.1]
    try simp only [zup_ap, zup_row, ne_eq, not_false_eq_true, zres, Int.toNat_natCast, reduceIte, Nat.reduceEqDiff, Nat.reduceAdd, and_self, and_true, true_and, and_false, false_and]
    refine z_icmp_gt (t := 76) dX4_countBack_38 (by rfl) (fun ht38 => ?_) (fun hf38 => ?_)
    · have e9 : p = min hd (sum - t) := by omega
      subst e9
      exact hK _ _ hx
    · refine z_il5 dX4_countBack_41 ?_
      refine z_il1 dX4_countBack_43 ?_
      refine z_il2 dX4_countBack_44 ?_
      refine z_isub dX4_countBack_45 (by omega) ?_
      refine z_icmp_gt (t := 76) dX4_countBack_46 (by rfl) (fun ht46 => ?_) (fun hf46 => ?_)
      · have e9 : p = min hd (sum - t) := by omega
        subst e9
        exact hK _ _ hx
      · refine z_al0 dX4_countBack_49 (by first | decide | omega | assumption) ?_
        refine z_il5 dX4_countBack_50 ?_
        refine zcv1 dX4_countBack_52 zkX4_34 ziX4_isPart zsX4_isPart (zkB hΓ rfl) (by decide) rfl (Nat.le_of_ble_eq_true rfl) (by decide) (by first | decide | omega) ⟨Nat.le_refl _, Nat.le_refl _⟩ (X4_isPart_ct hΓ hP (n := p + 1) (by omega) (fun hp9 _ => ?_) (fun hp9 _ => ?_))
        · try simp only [zup_ap, zup_row, ne_eq, not_false_eq_true, zres, Int.toNat_natCast, reduceIte, Nat.reduceEqDiff, Nat.reduceAdd, and_self, and_true, true_and, and_false, false_and]
          refine z_if_eq (t := 70) dX4_countBack_55 (by rfl) (fun _ => ?_) (fun hx => absurd hx (by decide))
          refine z_ii5 dX4_countBack_70 (by omega) (Nat.le_of_ble_eq_true rfl) rfl ?_
          refine z_goto (t := 32) dX4_countBack_73 (by rfl) ?_
          refine ih (p + 1) _ (by omega) (by omega) ?_
          first
          | (refine zBt_cg hx (fun k _ => ?_)
             simp only [zan]
             rw [hp9]; simp)
          | (refine zBt_cg (zBt_or hx (hC (t + (p + 1)) (by omega) (by omega))) (fun k _ => ?_)
             simp only [zan]
             rw [hp9]; simp)
        · try simp only [zup_ap, zup_row, ne_eq, not_false_eq_true, zres, Int.toNat_natCast, reduceIte, Nat.reduceEqDiff, Nat.reduceAdd, and_self, and_true, true_and, and_false, false_and]
          refine z_if_eq (t := 70) dX4_countBack_55 (by rfl) (fun hx => absurd hx (by decide)) (fun _ => ?_)
          refine z_ll3 dX4_countBack_58 ?_
          refine z_al0 dX4_countBack_59 (by first | decide | omega | assumption) ?_
          refine z_getR zfX4_15 dX4_countBack_60 (zkB hΓ rfl) rfl (zsB hΓ rfl) (zvB hΓ (by decide)) ?_
          refine z_il2 dX4_countBack_63 ?_
          refine z_il5 dX4_countBack_64 ?_
          refine z_iadd dX4_countBack_66 (by omega) ?_
          refine z_lald dX4_countBack_67 (zkB hΓ rfl) (by omega) (by omega) ?_
          rw [show ((t : Int) + ((p + 1 : Nat) : Int)).toNat = t + (p + 1) by omega]
          try simp only [zup_ap, zup_row, ne_eq, not_false_eq_true, zres, Int.toNat_natCast, reduceIte, Nat.reduceEqDiff, Nat.reduceAdd, and_self, and_true, true_and, and_false, false_and]
          refine z_lor dX4_countBack_68 ?_
          refine z_ls3 dX4_countBack_69 (Nat.le_of_ble_eq_true rfl) rfl ?_
          refine z_ii5 dX4_countBack_70 (by omega) (Nat.le_of_ble_eq_true rfl) rfl ?_
          refine z_goto (t := 32) dX4_countBack_73 (by rfl) ?_
          refine ih (p + 1) _ (by omega) (by omega) ?_
          first
          | (refine zBt_cg hx (fun k _ => ?_)
             simp only [zan]
             rw [hp9]; simp)
          | (refine zBt_cg (zBt_or hx (hC (t + (p + 1)) (by omega) (by omega))) (fun k _ => ?_)
             simp only [zan]
             rw [hp9]; simp)
set_option maxRecDepth 4000 in
theorem X4_cB_o {l : Launch} {Γ : zC} {h1 : zM} {Q : Option zV → zC → zM → Prop} (hΓ : zBase Γ) {b : Nat → Int} {r : Int} {hd : Nat} {sum : Nat} (hs9 : sum ≤ 200) (hQ : ∀ h9, (∀ q, q ≠ 43 → h9 q = h1 q) → (∀ u, u ≤ sum → zBt (h9 43 u) (fun k => zto b r u && zgo b r hd sum k u)) → Q none Γ h9) : ∀ (m : Nat) (t9 : Int) {y3 y4 y5 : Option zV} (h : zM), t9 + 1 < m → -1 ≤ t9 → t9 < sum → zPu h b r hd → (∀ q, q ≠ 43 → h q = h1 q) → (∀ u : Nat, t9 < u → u ≤ sum → zBt (h 43 u) (fun k => zto b r u && zgo b r hd sum k u)) → zG (zFn l mX4_countBack 2 0 0 Γ Q) 0 0 Γ h 23 [some (zR 41), some (zI (sum : Int)), some (zI t9), y3, y4, y5] [] := by
  intro m
  induction m with
  | zero => intros; omega
  | succ m ih =>
    intro t9 y3 y4 y5 h hm h1t h2t hP hE hC
    have hr7 := hP.2.2.2.1
    have hd9 := hP.2.2.2.2
    refine z_il2 dX4_countBack_23 ?_
    refine z_if_lt (t := 107) dX4_countBack_24 (by rfl) (fun ht24 => ?_) (fun hf24 => ?_)
    · refine z_ret dX4_countBack_107 rfl (Nat.le_refl _) (Nat.le_refl _) (zext_rf _) ?_
      exact hQ h hE (fun u hu => hC u (by omega) hu)
    · obtain ⟨t, rfl⟩ := Int.eq_ofNat_of_zero_le (show 0 ≤ t9 by omega)
      refine z_lconst (x := 0) dX4_countBack_27 (by rfl) (by decide) ?_
      refine z_ls3 dX4_countBack_28 (Nat.le_of_ble_eq_true rfl) rfl ?_
      refine z_iconst dX4_countBack_29 (by decide) ?_
      refine z_is5 dX4_countBack_30 (Nat.le_of_ble_eq_true rfl) rfl ?_
      refine X4_cB_i hΓ hP (t := t) (sum := sum) (by omega) (fun u h1 h2 => hC u (by omega) h2) (fun y x hx => ?_) _ 0 _ (Nat.lt_succ_self _) (Nat.zero_le _) zBt_0
      refine z_al0 dX4_countBack_76 (by first | decide | omega | assumption) ?_
      refine z_getR zfX4_15 dX4_countBack_77 (zkB hΓ rfl) rfl (zsB hΓ rfl) (zvB hΓ (by decide)) ?_
      refine z_il2 dX4_countBack_80 ?_
      refine z_al0 dX4_countBack_81 (by first | decide | omega | assumption) ?_
      refine z_il2 dX4_countBack_82 ?_
      refine zcv1 dX4_countBack_83 zkX4_38 ziX4_isTotal zsX4_isTotal (zkB hΓ rfl) (by decide) rfl (Nat.le_of_ble_eq_true rfl) (by decide) (by first | decide | omega) ⟨Nat.le_refl _, Nat.le_refl _⟩ (X4_isTotal_ct hΓ hP (n := t) (by omega) (fun hp9 _ => ?_) (fun hp9 _ => ?_))
      · try simp only [zup_ap, zup_row, ne_eq, not_false_eq_true, zres, Int.toNat_natCast, reduceIte, Nat.reduceEqDiff, Nat.reduceAdd, and_self, and_true, true_and, and_false, false_and]
        refine z_if_eq (t := 99) dX4_countBack_86 (by rfl) (fun _ => ?_) (fun hx => absurd hx (by decide))
        refine z_lconst (x := 0) dX4_countBack_99 (by rfl) (by decide) ?_
        refine z_last dX4_countBack_100 (zkB hΓ rfl) (by omega) (by omega) ?_
        refine z_ii2 dX4_countBack_101 (by omega) (Nat.le_of_ble_eq_true rfl) rfl ?_
        refine z_goto (t := 23) dX4_countBack_104 (by rfl) ?_
        refine ih ((t : Int) + -1) _ (by omega) (by omega) (by omega) (zPu_cg hP (fun q h1 _ _ => zup_row h1)) (fun q hq => (zup_row hq).trans (hE q hq)) (fun u hu hu2 => ?_)
        by_cases eu : u = t
        · subst eu
          simp only [zup_ap, and_self, if_true, Int.toNat_natCast]
          first
          | (refine zBt_cg (zBt_sh hx) (fun k _ => ?_)
             rw [hp9, Bool.true_and]
             cases k with
             | zero => exact (decide_eq_false (show ¬ u = sum by omega)).symm
             | succ k => show zan _ _ = zan _ hd; rw [zan_stop])
          | (refine zBt_cg zBt_0 (fun k _ => ?_)
             rw [hp9, Bool.false_and])
        · rw [zup_ap, if_neg (fun e => eu (by have := e.2; omega))]
          exact hC u (by omega) hu2
      · try simp only [zup_ap, zup_row, ne_eq, not_false_eq_true, zres, Int.toNat_natCast, reduceIte, Nat.reduceEqDiff, Nat.reduceAdd, and_self, and_true, true_and, and_false, false_and]
        refine z_if_eq (t := 99) dX4_countBack_86 (by rfl) (fun hx => absurd hx (by decide)) (fun _ => ?_)
        refine z_ll3 dX4_countBack_89 ?_
        refine z_iconst dX4_countBack_90 (by decide) ?_
        refine z_lshl dX4_countBack_91 ?_
        refine z_ldc2 (x := 2305843009213693951) dX4_countBack_92 zqX4_41 (by decide) ?_
        refine z_land dX4_countBack_95 ?_
        refine z_goto (t := 100) dX4_countBack_96 (by rfl) ?_
        refine z_last dX4_countBack_100 (zkB hΓ rfl) (by omega) (by omega) ?_
        refine z_ii2 dX4_countBack_101 (by omega) (Nat.le_of_ble_eq_true rfl) rfl ?_
        refine z_goto (t := 23) dX4_countBack_104 (by rfl) ?_
        refine ih ((t : Int) + -1) _ (by omega) (by omega) (by omega) (zPu_cg hP (fun q h1 _ _ => zup_row h1)) (fun q hq => (zup_row hq).trans (hE q hq)) (fun u hu hu2 => ?_)
        by_cases eu : u = t
        · subst eu
          simp only [zup_ap, and_self, if_true, Int.toNat_natCast]
          first
          | (refine zBt_cg (zBt_sh hx) (fun k _ => ?_)
             rw [hp9, Bool.true_and]
             cases k with
             | zero => exact (decide_eq_false (show ¬ u = sum by omega)).symm
             | succ k => show zan _ _ = zan _ hd; rw [zan_stop])
          | (refine zBt_cg zBt_0 (fun k _ => ?_)
             rw [hp9, Bool.false_and])
        · rw [zup_ap, if_neg (fun e => eu (by have := e.2; omega))]
          exact hC u (by omega) hu2
set_option maxRecDepth 4000 in
theorem X4_countBack_ct {l : Launch} {Γ : zC} {h : zM} {Q : Option zV → zC → zM → Prop} (hΓ : zBase Γ) {b : Nat → Int} {r : Int} {hd : Nat} (hP : zPu h b r hd) {sum : Nat} (hs9 : sum ≤ 200) (hQ : ∀ h9, (∀ q, q ≠ 43 → h9 q = h q) → (∀ u, u ≤ sum → zBt (h9 43 u) (fun k => zto b r u && zgo b r hd sum k u)) → Q none Γ h9) : zCT l mX4_countBack 2 0 0 Γ [zR 41, zI (sum : Int)] h Q := by
  have hr7 := hP.2.2.2.1
  have hd9 := hP.2.2.2.2
  refine zCT_of (by decide) (Nat.le_of_ble_eq_true rfl) (ls := [some (zR 41), some (zI (sum : Int)), none, none, none, none]) rfl ?_
  refine z_al0 dX4_countBack_0 (by first | decide | omega | assumption) ?_
  refine z_getR zfX4_15 dX4_countBack_1 (zkB hΓ rfl) rfl (zsB hΓ rfl) (zvB hΓ (by decide)) ?_
  refine z_il1 dX4_countBack_4 ?_
  refine z_al0 dX4_countBack_5 (by first | decide | omega | assumption) ?_
  refine z_il1 dX4_countBack_6 ?_
  refine zcv1 dX4_countBack_7 zkX4_38 ziX4_isTotal zsX4_isTotal (zkB hΓ rfl) (by decide) rfl (Nat.le_of_ble_eq_true rfl) (by decide) (by first | decide | omega) ⟨Nat.le_refl _, Nat.le_refl _⟩ (X4_isTotal_ct hΓ hP (n := sum) (by omega) (fun hp9 _ => ?_) (fun hp9 _ => ?_))
  · try simp only [zup_ap, zup_row, ne_eq, not_false_eq_true, zres, Int.toNat_natCast, reduceIte, Nat.reduceEqDiff, Nat.reduceAdd, and_self, and_true, true_and, and_false, false_and]
    refine z_if_eq (t := 17) dX4_countBack_10 (by rfl) (fun _ => ?_) (fun hx => absurd hx (by decide))
    refine z_lconst (x := 0) dX4_countBack_17 (by rfl) (by decide) ?_
    refine z_last dX4_countBack_18 (zkB hΓ rfl) (by omega) (by omega) ?_
    refine z_il1 dX4_countBack_19 ?_
    refine z_iconst dX4_countBack_20 (by decide) ?_
    refine z_isub dX4_countBack_21 (by omega) ?_
    refine z_is2 dX4_countBack_22 (Nat.le_of_ble_eq_true rfl) rfl ?_
    refine X4_cB_o hΓ hs9 hQ ((sum : Int) + 1).toNat.succ _ _ (by omega) (by omega) (by omega) (zPu_cg hP (fun q h1 _ _ => zup_row h1)) (fun q hq => zup_row hq) (fun u hu hu2 => ?_)
    have eu : u = sum := by omega
    subst eu
    rw [zup_ap, if_pos ⟨rfl, by omega⟩]
    first
    | (refine zBt_cg zBt_1 (fun k _ => ?_)
       rw [hp9, Bool.true_and]
       exact zgo_z b r hd u k)
    | (refine zBt_cg zBt_0 (fun k _ => ?_)
       rw [hp9, Bool.false_and])
  · try simp only [zup_ap, zup_row, ne_eq, not_false_eq_true, zres, Int.toNat_natCast, reduceIte, Nat.reduceEqDiff, Nat.reduceAdd, and_self, and_true, true_and, and_false, false_and]
    refine z_if_eq (t := 17) dX4_countBack_10 (by rfl) (fun hx => absurd hx (by decide)) (fun _ => ?_)
    refine z_lconst (x := 1) dX4_countBack_13 (by rfl) (by decide) ?_
    refine z_goto (t := 18) dX4_countBack_14 (by rfl) ?_
    refine z_last dX4_countBack_18 (zkB hΓ rfl) (by omega) (by omega) ?_
    refine z_il1 dX4_countBack_19 ?_
    refine z_iconst dX4_countBack_20 (by decide) ?_
    refine z_isub dX4_countBack_21 (by omega) ?_
    refine z_is2 dX4_countBack_22 (Nat.le_of_ble_eq_true rfl) rfl ?_
    refine X4_cB_o hΓ hs9 hQ ((sum : Int) + 1).toNat.succ _ _ (by omega) (by omega) (by omega) (zPu_cg hP (fun q h1 _ _ => zup_row h1)) (fun q hq => zup_row hq) (fun u hu hu2 => ?_)
    have eu : u = sum := by omega
    subst eu
    rw [zup_ap, if_pos ⟨rfl, by omega⟩]
    first
    | (refine zBt_cg zBt_1 (fun k _ => ?_)
       rw [hp9, Bool.true_and]
       exact zgo_z b r hd u k)
    | (refine zBt_cg zBt_0 (fun k _ => ?_)
       rw [hp9, Bool.false_and])
def zsc (f : Nat → Bool) (i : Int) : Nat → Nat → Int → Int
  | 0, _, n => if i = -1 then n else -1
  | m + 1, a, n => if f a then (if n = i then (a : Int) else zsc f i m (a + 1) (n + 1)) else zsc f i m (a + 1) n
theorem zsc_cg {f g : Nat → Bool} {i : Int} : ∀ m a n, (∀ q, a ≤ q → q < a + m → f q = g q) → zsc f i m a n = zsc g i m a n
  | 0, _, _, _ => rfl
  | m + 1, a, n, h => by
    unfold zsc
    rw [h a (Nat.le_refl _) (by omega), zsc_cg m (a + 1) _ (fun q h1 h2 => h q (by omega) (by omega)), zsc_cg m (a + 1) _ (fun q h1 h2 => h q (by omega) (by omega))]
theorem zsc_0 {f : Nat → Bool} {i n : Int} {a : Nat} : zsc f i 0 a n = if i = -1 then n else -1 := rfl
theorem zsc_t {f : Nat → Bool} {i n : Int} {m a : Nat} (h : f a = true) (h2 : n = i) : zsc f i (m + 1) a n = (a : Int) := by unfold zsc; rw [if_pos h, if_pos h2]
theorem zsc_u {f : Nat → Bool} {i n : Int} {m a : Nat} (h : f a = true) (h2 : n ≠ i) : zsc f i (m + 1) a n = zsc f i m (a + 1) (n + 1) := by rw [zsc, if_pos h, if_neg h2]
theorem zsc_f {f : Nat → Bool} {i n : Int} {m a : Nat} (h : f a = false) : zsc f i (m + 1) a n = zsc f i m (a + 1) n := by rw [zsc, if_neg (by rw [h]; decide)]
def zup9 (b : Nat → Int) (r : Int) (hd s : Nat) : Bool := !zpd b r hd s
set_option maxRecDepth 4000 in
theorem X4_unpaid_l {l : Launch} {Γ : zC} {h : zM} {Q : Option zV → zC → zM → Prop} (hΓ : zBase Γ) {b : Nat → Int} {r : Int} {hd : Nat} (hP : zPu h b r hd) (hC : zCf h b r hd) : ∀ (m s : Nat) (n : Int), 201 - s < m → 1 ≤ s → s ≤ 201 → (0 ≤ n ∧ n < s) → Q (some (zI (zsc (zup9 b r hd) (-1) (201 - s) s n))) Γ h → zG (zFn l mX4_unpaid 4 0 0 Γ Q) 0 0 Γ h 4 [some (zR 41), some (zI n), some (zI (s : Int))] [] := by
  have hr7 := hP.2.2.2.1
  have hd9 := hP.2.2.2.2
  intro m
  induction m with
  | zero => intros; omega
  | succ m ih =>
    intro s n hm hk1 hk2 hn hQ
    refine z_il2 dX4_unpaid_4 ?_
    refine z_sipush (x := 200) dX4_unpaid_5 (by rfl) (by decide) ?_
    refine z_icmp_gt (t := 28) dX4_unpaid_8 (by rfl) (fun ht8 => ?_) (fun hf8 => ?_)
    · refine z_il1 dX4_unpaid_28 ?_
      refine z_iret dX4_unpaid_29 rfl (Nat.le_refl _) (Nat.le_refl _) (zext_rf _) (fun hrr => ?_)
      rw [show 201 - s = 0 by omega, zsc_0, if_pos rfl] at hQ
      exact hQ
    · refine z_al0 dX4_unpaid_11 (by first | decide | omega | assumption) ?_
      refine z_il2 dX4_unpaid_12 ?_
      refine zcv1 dX4_unpaid_13 zkX4_43 ziX4_isPaid zsX4_isPaid (zkB hΓ rfl) (by decide) rfl (Nat.le_of_ble_eq_true rfl) (by decide) (by first | decide | omega) ⟨Nat.le_refl _, Nat.le_refl _⟩ (X4_isPaid_ct hΓ hP hC (fun hp9 _ => ?_) (fun hp9 _ => ?_))
      · try simp only [zup_ap, zup_row, ne_eq, not_false_eq_true, zres, Int.toNat_natCast, reduceIte, Nat.reduceEqDiff, Nat.reduceAdd, and_self, and_true, true_and, and_false, false_and]
        refine z_if_ne (t := 22) dX4_unpaid_16 (by rfl) (fun hx => absurd hx (by decide)) (fun _ => ?_)
        refine z_ii1 dX4_unpaid_19 (by omega) (Nat.le_of_ble_eq_true rfl) rfl ?_
        refine z_ii2 dX4_unpaid_22 (by omega) (Nat.le_of_ble_eq_true rfl) rfl ?_
        refine z_goto (t := 4) dX4_unpaid_25 (by rfl) ?_
        have e8 : 201 - s = (201 - (s + 1)) + 1 := by omega
        rw [e8] at hQ
        first
        | (rw [zsc_f (by unfold zup9; rw [Int.toNat_natCast] at hp9; rw [hp9.2.2]; rfl)] at hQ
           exact ih (s + 1) _ (by omega) (by omega) (by omega) (by omega) hQ)
        | (rw [zsc_u (by unfold zup9; rw [Int.toNat_natCast] at hp9; rw [Bool.eq_false_iff.2 (fun e => hp9 ⟨by omega, by omega, e⟩)]; rfl) (by omega)] at hQ
           exact ih (s + 1) _ (by omega) (by omega) (by omega) (by omega) hQ)
      · try simp only [zup_ap, zup_row, ne_eq, not_false_eq_true, zres, Int.toNat_natCast, reduceIte, Nat.reduceEqDiff, Nat.reduceAdd, and_self, and_true, true_and, and_false, false_and]
        refine z_if_ne (t := 22) dX4_unpaid_16 (by rfl) (fun _ => ?_) (fun hx => absurd hx (by decide))
        refine z_ii2 dX4_unpaid_22 (by omega) (Nat.le_of_ble_eq_true rfl) rfl ?_
        refine z_goto (t := 4) dX4_unpaid_25 (by rfl) ?_
        have e8 : 201 - s = (201 - (s + 1)) + 1 := by omega
        rw [e8] at hQ
        first
        | (rw [zsc_f (by unfold zup9; rw [Int.toNat_natCast] at hp9; rw [hp9.2.2]; rfl)] at hQ
           exact ih (s + 1) _ (by omega) (by omega) (by omega) (by omega) hQ)
        | (rw [zsc_u (by unfold zup9; rw [Int.toNat_natCast] at hp9; rw [Bool.eq_false_iff.2 (fun e => hp9 ⟨by omega, by omega, e⟩)]; rfl) (by omega)] at hQ
           exact ih (s + 1) _ (by omega) (by omega) (by omega) (by omega) hQ)
set_option maxRecDepth 4000 in
theorem X4_unpaid_ct {l : Launch} {Γ : zC} {h : zM} {Q : Option zV → zC → zM → Prop} (hΓ : zBase Γ) {b : Nat → Int} {r : Int} {hd : Nat} (hP : zPu h b r hd) (hC : zCf h b r hd) (hQ : Q (some (zI (zsc (zup9 b r hd) (-1) 200 1 0))) Γ h) : zCT l mX4_unpaid 4 0 0 Γ [zR 41] h Q := by
  have hr7 := hP.2.2.2.1
  have hd9 := hP.2.2.2.2
  refine zCT_of (by decide) (Nat.le_of_ble_eq_true rfl) (ls := [some (zR 41), none, none]) rfl ?_
  refine z_iconst dX4_unpaid_0 (by decide) ?_
  refine z_is1 dX4_unpaid_1 (Nat.le_of_ble_eq_true rfl) rfl ?_
  refine z_iconst dX4_unpaid_2 (by decide) ?_
  refine z_is2 dX4_unpaid_3 (Nat.le_of_ble_eq_true rfl) rfl ?_
  exact X4_unpaid_l hΓ hP hC _ 1 0 (Nat.lt_succ_self _) (by omega) (by omega) (by omega) hQ
set_option maxRecDepth 4000 in
theorem X4_unpaidAt_l {l : Launch} {Γ : zC} {h : zM} {Q : Option zV → zC → zM → Prop} (hΓ : zBase Γ) {b : Nat → Int} {r : Int} {hd : Nat} (hP : zPu h b r hd) (hC : zCf h b r hd) {i : Int} (hi9 : i ≠ -1) : ∀ (m s : Nat) (n : Int), 201 - s < m → 1 ≤ s → s ≤ 201 → (0 ≤ n ∧ n < s) → Q (some (zI (zsc (zup9 b r hd) i (201 - s) s n))) Γ h → zG (zFn l mX4_unpaidAt 4 0 0 Γ Q) 0 0 Γ h 4 [some (zR 41), some (zI i), some (zI n), some (zI (s : Int))] [] := by
  have hr7 := hP.2.2.2.1
  have hd9 := hP.2.2.2.2
  intro m
  induction m with
  | zero => intros; omega
  | succ m ih =>
    intro s n hm hk1 hk2 hn hQ
    refine z_il3 dX4_unpaidAt_4 ?_
    refine z_sipush (x := 200) dX4_unpaidAt_5 (by rfl) (by decide) ?_
    refine z_icmp_gt (t := 35) dX4_unpaidAt_8 (by rfl) (fun ht8 => ?_) (fun hf8 => ?_)
    · refine z_iconst dX4_unpaidAt_35 (by decide) ?_
      refine z_iret dX4_unpaidAt_36 rfl (Nat.le_refl _) (Nat.le_refl _) (zext_rf _) (fun hrr => ?_)
      rw [show 201 - s = 0 by omega, zsc_0, if_neg hi9] at hQ
      exact hQ
    · refine z_al0 dX4_unpaidAt_11 (by first | decide | omega | assumption) ?_
      refine z_il3 dX4_unpaidAt_12 ?_
      refine zcv1 dX4_unpaidAt_13 zkX4_43 ziX4_isPaid zsX4_isPaid (zkB hΓ rfl) (by decide) rfl (Nat.le_of_ble_eq_true rfl) (by decide) (by first | decide | omega) ⟨Nat.le_refl _, Nat.le_refl _⟩ (X4_isPaid_ct hΓ hP hC (fun hp9 _ => ?_) (fun hp9 _ => ?_))
      · try simp only [zup_ap, zup_row, ne_eq, not_false_eq_true, zres, Int.toNat_natCast, reduceIte, Nat.reduceEqDiff, Nat.reduceAdd, and_self, and_true, true_and, and_false, false_and]
        refine z_if_ne (t := 29) dX4_unpaidAt_16 (by rfl) (fun hx => absurd hx (by decide)) (fun _ => ?_)
        refine z_il2 dX4_unpaidAt_19 ?_
        refine z_il1 dX4_unpaidAt_20 ?_
        refine z_icmp_ne (t := 26) dX4_unpaidAt_21 (by rfl) (fun ht21 => ?_) (fun hf21 => ?_)
        · refine z_ii2 dX4_unpaidAt_26 (by omega) (Nat.le_of_ble_eq_true rfl) rfl ?_
          refine z_ii3 dX4_unpaidAt_29 (by omega) (Nat.le_of_ble_eq_true rfl) rfl ?_
          refine z_goto (t := 4) dX4_unpaidAt_32 (by rfl) ?_
          have e8 : 201 - s = (201 - (s + 1)) + 1 := by omega
          rw [e8] at hQ
          first
          | (rw [zsc_f (by unfold zup9; rw [Int.toNat_natCast] at hp9; rw [hp9.2.2]; rfl)] at hQ
             exact ih (s + 1) _ (by omega) (by omega) (by omega) (by omega) hQ)
          | (rw [zsc_u (by unfold zup9; rw [Int.toNat_natCast] at hp9; rw [Bool.eq_false_iff.2 (fun e => hp9 ⟨by omega, by omega, e⟩)]; rfl) (by omega)] at hQ
             exact ih (s + 1) _ (by omega) (by omega) (by omega) (by omega) hQ)
        · refine z_il3 dX4_unpaidAt_24 ?_
          refine z_iret dX4_unpaidAt_25 rfl (Nat.le_refl _) (Nat.le_refl _) (zext_rf _) (fun hrr => ?_)
          have e8 : 201 - s = (201 - (s + 1)) + 1 := by omega
          rw [e8] at hQ
          rw [zsc_t (by unfold zup9; rw [Int.toNat_natCast] at hp9; rw [Bool.eq_false_iff.2 (fun e => hp9 ⟨by omega, by omega, e⟩)]; rfl) (by omega)] at hQ
          exact hQ
      · try simp only [zup_ap, zup_row, ne_eq, not_false_eq_true, zres, Int.toNat_natCast, reduceIte, Nat.reduceEqDiff, Nat.reduceAdd, and_self, and_true, true_and, and_false, false_and]
        refine z_if_ne (t := 29) dX4_unpaidAt_16 (by rfl) (fun _ => ?_) (fun hx => absurd hx (by decide))
        refine z_ii3 dX4_unpaidAt_29 (by omega) (Nat.le_of_ble_eq_true rfl) rfl ?_
        refine z_goto (t := 4) dX4_unpaidAt_32 (by rfl) ?_
        have e8 : 201 - s = (201 - (s + 1)) + 1 := by omega
        rw [e8] at hQ
        first
        | (rw [zsc_f (by unfold zup9; rw [Int.toNat_natCast] at hp9; rw [hp9.2.2]; rfl)] at hQ
           exact ih (s + 1) _ (by omega) (by omega) (by omega) (by omega) hQ)
        | (rw [zsc_u (by unfold zup9; rw [Int.toNat_natCast] at hp9; rw [Bool.eq_false_iff.2 (fun e => hp9 ⟨by omega, by omega, e⟩)]; rfl) (by omega)] at hQ
           exact ih (s + 1) _ (by omega) (by omega) (by omega) (by omega) hQ)
set_option maxRecDepth 4000 in
theorem X4_unpaidAt_ct {l : Launch} {Γ : zC} {h : zM} {Q : Option zV → zC → zM → Prop} (hΓ : zBase Γ) {b : Nat → Int} {r : Int} {hd : Nat} (hP : zPu h b r hd) (hC : zCf h b r hd) {i : Int} (hi9 : i ≠ -1) (hQ : Q (some (zI (zsc (zup9 b r hd) i 200 1 0))) Γ h) : zCT l mX4_unpaidAt 4 0 0 Γ [zR 41, zI i] h Q := by
  have hr7 := hP.2.2.2.1
  have hd9 := hP.2.2.2.2
  refine zCT_of (by decide) (Nat.le_of_ble_eq_true rfl) (ls := [some (zR 41), some (zI i), none, none]) rfl ?_
  refine z_iconst dX4_unpaidAt_0 (by decide) ?_
  refine z_is2 dX4_unpaidAt_1 (Nat.le_of_ble_eq_true rfl) rfl ?_
  refine z_iconst dX4_unpaidAt_2 (by decide) ?_
  refine z_is3 dX4_unpaidAt_3 (Nat.le_of_ble_eq_true rfl) rfl ?_
  exact X4_unpaidAt_l hΓ hP hC hi9 _ 1 0 (Nat.lt_succ_self _) (by omega) (by omega) (by omega) hQ
def zgr (f : Nat → Bool) : Nat → Nat
  | 0 => 0
  | m + 1 => if f (m + 1) then m + 1 else zgr f m
theorem zgr_b (f : Nat → Bool) : ∀ m, zgr f m ≤ m
  | 0 => Nat.le_refl _
  | m + 1 => by unfold zgr; split; exact Nat.le_refl _; exact Nat.le_succ_of_le (zgr_b f m)
theorem zgr_1 {f : Nat → Bool} : ∀ {m}, zan f m = true → 1 ≤ zgr f m ∧ f (zgr f m) = true
  | 0, h => by cases h
  | m + 1, h => by
    unfold zgr
    split
    · rename_i h2; exact ⟨by omega, h2⟩
    · rename_i h2
      unfold zan at h
      refine zgr_1 ?_
      cases e : f (m + 1) with
      | true => exact absurd e h2
      | false => rw [e, Bool.or_false] at h; exact h
/-- what a PART must be to come from t to the sum with so many behind it -/
def zgf (b : Nat → Int) (r : Int) (hd sum t k : Nat) (p : Nat) : Bool := zpt b r p && (zto b r (t + p) && zgo b r hd sum k (t + p))
theorem zgo_s (b : Nat → Int) (r : Int) (hd sum t k : Nat) : zgo b r hd sum (k + 1) t = zan (zgf b r hd sum t k) (min hd (sum - t)) := by
  show zan _ _ = _
  rw [zan_stop]
  rfl
set_option maxRecDepth 4000 in
theorem X4_gP_l {l : Launch} {Γ : zC} {h : zM} {Q : Option zV → zC → zM → Prop} (hΓ : zBase Γ) {b : Nat → Int} {r : Int} {hd : Nat} (hP : zPu h b r hd) {sum t k : Nat} (hs9 : t ≤ sum ∧ sum ≤ 200) (hk : k ≤ 60) (hC : ∀ u, u ≤ sum → zBt (h 43 u) (fun k => zto b r u && zgo b r hd sum k u)) : ∀ (m : Nat) (p9 : Int), p9 < m → 0 ≤ p9 → p9 ≤ sum - t → Q (some (zI ((zgr (zgf b r hd sum t k) p9.toNat : Nat) : Int))) Γ h → zG (zFn l mX4_greatestPart 2 0 0 Γ Q) 0 0 Γ h 12 [some (zR 41), some (zI (t : Int)), some (zI (sum : Int)), some (zI (k : Int)), some (zI p9)] [] := by
  have hr7 := hP.2.2.2.1
  have hd9 := hP.2.2.2.2
  intro m
  induction m with
  | zero => intros; omega
  | succ m ih =>
    intro p9 hm hp1 hp2 hQ
    refine z_il4 dX4_greatestPart_12 ?_
    refine z_if_le (t := 53) dX4_greatestPart_14 (by rfl) (fun ht14 => ?_) (fun hf14 => ?_)
    · refine z_iconst dX4_greatestPart_53 (by decide) ?_
      refine z_iret dX4_greatestPart_54 rfl (Nat.le_refl _) (Nat.le_refl _) (zext_rf _) (fun hrr => ?_)
      rw [show p9.toNat = 0 by omega] at hQ
      exact hQ
    · obtain ⟨p, rfl⟩ := Int.eq_ofNat_of_zero_le (show 0 ≤ p9 by omega)
      have e8 : p = (p - 1) + 1 := by omega
      refine z_al0 dX4_greatestPart_17 (by first | decide | omega | assumption) ?_
      refine z_il4 dX4_greatestPart_18 ?_
      refine zcv1 dX4_greatestPart_20 zkX4_34 ziX4_isPart zsX4_isPart (zkB hΓ rfl) (by decide) rfl (Nat.le_of_ble_eq_true rfl) (by decide) (by first | decide | omega) ⟨Nat.le_refl _, Nat.le_refl _⟩ (X4_isPart_ct hΓ hP (n := p) (by omega) (fun hp9 _ => ?_) (fun hp9 _ => ?_))
      · try simp only [zup_ap, zup_row, ne_eq, not_false_eq_true, zres, Int.toNat_natCast, reduceIte, Nat.reduceEqDiff, Nat.reduceAdd, and_self, and_true, true_and, and_false, false_and]
        refine z_if_eq (t := 47) dX4_greatestPart_23 (by rfl) (fun _ => ?_) (fun hx => absurd hx (by decide))
        refine z_ii4 dX4_greatestPart_47 (by omega) (Nat.le_of_ble_eq_true rfl) rfl ?_
        refine z_goto (t := 12) dX4_greatestPart_50 (by rfl) ?_
        rw [Int.toNat_natCast, e8, zgr, ← e8] at hQ
        rw [if_neg (by first | (rw [hfk]; decide) | (unfold zgf; rw [hp9]; simp))] at hQ
        refine ih ((p : Int) + -1) (by omega) (by omega) (by omega) ?_
        rw [show ((p : Int) + -1).toNat = p - 1 by omega]
        exact hQ
      · try simp only [zup_ap, zup_row, ne_eq, not_false_eq_true, zres, Int.toNat_natCast, reduceIte, Nat.reduceEqDiff, Nat.reduceAdd, and_self, and_true, true_and, and_false, false_and]
        refine z_if_eq (t := 47) dX4_greatestPart_23 (by rfl) (fun hx => absurd hx (by decide)) (fun _ => ?_)
        refine z_al0 dX4_greatestPart_26 (by first | decide | omega | assumption) ?_
        refine z_getR zfX4_15 dX4_greatestPart_27 (zkB hΓ rfl) rfl (zsB hΓ rfl) (zvB hΓ (by decide)) ?_
        refine z_il1 dX4_greatestPart_30 ?_
        refine z_il4 dX4_greatestPart_31 ?_
        refine z_iadd dX4_greatestPart_33 (by omega) ?_
        refine z_lald dX4_greatestPart_34 (zkB hΓ rfl) (by omega) (by omega) ?_
        rw [show ((t : Int) + (p : Int)).toNat = t + p by omega]
        try simp only [zup_ap, zup_row, ne_eq, not_false_eq_true, zres, Int.toNat_natCast, reduceIte, Nat.reduceEqDiff, Nat.reduceAdd, and_self, and_true, true_and, and_false, false_and]
        refine z_il3 dX4_greatestPart_35 ?_
        refine z_lushr dX4_greatestPart_36 ?_
        refine z_lconst (x := 1) dX4_greatestPart_37 (by rfl) (by decide) ?_
        refine z_land dX4_greatestPart_38 ?_
        refine z_lconst (x := 0) dX4_greatestPart_39 (by rfl) (by decide) ?_
        refine z_lcmp dX4_greatestPart_40 ?_
        refine z_if_eq (t := 47) dX4_greatestPart_41 (by rfl) (fun ht41 => ?_) (fun hf41 => ?_)
        · have hfk : zgf b r hd sum t k p = false := by
            unfold zgf
            cases hff : (zto b r (t + p) && zgo b r hd sum k (t + p)) with
            | false => exact Bool.and_false _
            | true => rw [zBt_at (hC (t + p) (by omega)) hk, hff, zcmp_0] at ht41; exact absurd ht41 (by decide)
          refine z_ii4 dX4_greatestPart_47 (by omega) (Nat.le_of_ble_eq_true rfl) rfl ?_
          refine z_goto (t := 12) dX4_greatestPart_50 (by rfl) ?_
          rw [Int.toNat_natCast, e8, zgr, ← e8] at hQ
          rw [if_neg (by first | (rw [hfk]; decide) | (unfold zgf; rw [hp9]; simp))] at hQ
          refine ih ((p : Int) + -1) (by omega) (by omega) (by omega) ?_
          rw [show ((p : Int) + -1).toNat = p - 1 by omega]
          exact hQ
        · have hfk : zgf b r hd sum t k p = true := by
            unfold zgf
            cases hff : (zto b r (t + p) && zgo b r hd sum k (t + p)) with
            | true => rw [hp9]; rfl
            | false => rw [zBt_at (hC (t + p) (by omega)) hk, hff, zcmp_0] at hf41; exact absurd rfl hf41
          refine z_il4 dX4_greatestPart_44 ?_
          refine z_iret dX4_greatestPart_46 rfl (Nat.le_refl _) (Nat.le_refl _) (zext_rf _) (fun hrr => ?_)
          rw [Int.toNat_natCast, e8, zgr, ← e8, if_pos hfk] at hQ
          exact hQ
set_option maxRecDepth 4000 in
theorem X4_greatestPart_ct {l : Launch} {Γ : zC} {h : zM} {Q : Option zV → zC → zM → Prop} (hΓ : zBase Γ) {b : Nat → Int} {r : Int} {hd : Nat} (hP : zPu h b r hd) {sum t k : Nat} (hs9 : t ≤ sum ∧ sum ≤ 200) (hk : k ≤ 60) (hC : ∀ u, u ≤ sum → zBt (h 43 u) (fun k => zto b r u && zgo b r hd sum k u)) (hQ : Q (some (zI ((zgr (zgf b r hd sum t k) (min hd (sum - t)) : Nat) : Int))) Γ h) : zCT l mX4_greatestPart 2 0 0 Γ [zR 41, zI (t : Int), zI (sum : Int), zI (k : Int)] h Q := by
  have hr7 := hP.2.2.2.1
  have hd9 := hP.2.2.2.2
  refine zCT_of (by decide) (Nat.le_of_ble_eq_true rfl) (ls := [some (zR 41), some (zI (t : Int)), some (zI (sum : Int)), some (zI (k : Int)), none]) rfl ?_
  refine z_al0 dX4_greatestPart_0 (by first | decide | omega | assumption) ?_
  refine z_getI zfX4_27 dX4_greatestPart_1 (zkB hΓ rfl) rfl ?_
  rw [hP.2.2.1]
  try simp only [zup_ap, zup_row, ne_eq, not_false_eq_true, zres, Int.toNat_natCast, reduceIte, Nat.reduceEqDiff, Nat.reduceAdd, and_self, and_true, true_and, and_false, false_and]
  refine z_il2 dX4_greatestPart_4 ?_
  refine z_il1 dX4_greatestPart_5 ?_
  refine z_isub dX4_greatestPart_6 (by omega) ?_
  refine z_mmin dX4_greatestPart_7 zkX4_81 ztJ9_min_7cf53 (Nat.le_of_ble_eq_true rfl) (by first | decide | omega) ⟨Nat.le_refl _, Nat.le_refl _⟩ ?_
  refine z_is4 dX4_greatestPart_10 (Nat.le_of_ble_eq_true rfl) rfl ?_
  refine X4_gP_l hΓ hP hs9 hk hC 400 _ (by omega) (by omega) (by omega) ?_
  rw [show (if (sum : Int) - (t : Int) < (hd : Int) then (sum : Int) - (t : Int) else (hd : Int)).toNat = min hd (sum - t) by split <;> omega]
  exact hQ
def zpar (b : Nat → Int) (r : Int) (hd sum : Nat) : Int := zlf (fun k => (zto b r 0 && zgo b r hd sum k 0) && zco b r k) 60 1
def ztl (b : Nat → Int) (r : Int) (hd sum P : Nat) : Nat → Nat × Nat
  | 0 => (0, 0)
  | k + 1 => ((ztl b r hd sum P k).1 + zgr (zgf b r hd sum (ztl b r hd sum P k).1 (P - k - 1)) (min hd (sum - (ztl b r hd sum P k).1)), zgr (zgf b r hd sum (ztl b r hd sum P k).1 (P - k - 1)) (min hd (sum - (ztl b r hd sum P k).1)))
theorem ztl_b (b : Nat → Int) (r : Int) (hd sum P : Nat) : ∀ k, (ztl b r hd sum P k).1 ≤ sum
  | 0 => Nat.zero_le _
  | k + 1 => by
    show (ztl b r hd sum P k).1 + zgr _ _ ≤ sum
    have h1 := zgr_b (zgf b r hd sum (ztl b r hd sum P k).1 (P - k - 1)) (min hd (sum - (ztl b r hd sum P k).1))
    have h2 := ztl_b b r hd sum P k
    omega
theorem ztl_ok {b : Nat → Int} {r : Int} {hd sum P : Nat} (h : zgo b r hd sum P 0 = true) : ∀ k, k ≤ P → zgo b r hd sum (P - k) (ztl b r hd sum P k).1 = true
  | 0, _ => h
  | k + 1, hk => by
    have h1 := ztl_ok h k (by omega)
    rw [show P - k = (P - k - 1) + 1 by omega, zgo_s] at h1
    have h2 := (zgr_1 h1).2
    unfold zgf at h2
    simp only [Bool.and_eq_true] at h2
    exact h2.2.2
def zrp (b : Nat → Int) (r : Int) (hd sum : Nat) (i : Int) : Int := if i = -1 then zpar b r hd sum else if i < 0 ∨ zpar b r hd sum ≤ i then -1 else ((ztl b r hd sum (zpar b r hd sum).toNat (i.toNat + 1)).2 : Int)
set_option maxRecDepth 4000 in
theorem X4_rP_l {l : Launch} {Γ : zC} {h : zM} {Q : Option zV → zC → zM → Prop} (hΓ : zBase Γ) {b : Nat → Int} {r : Int} {hd : Nat} (hP : zPu h b r hd) {sum P i : Nat} (hs9 : sum ≤ 200) (hP9 : i < P ∧ P ≤ 60) (hC : ∀ u, u ≤ sum → zBt (h 43 u) (fun k => zto b r u && zgo b r hd sum k u)) (hQ : Q (some (zI ((ztl b r hd sum P (i + 1)).2 : Int))) Γ h) : ∀ (m k : Nat) (p9 : Int), i + 1 - k < m → k ≤ i + 1 → (k = 0 ∨ p9 = ((ztl b r hd sum P k).2 : Int)) → Q (some (zI ((ztl b r hd sum P (i + 1)).2 : Int))) Γ h → zG (zFn l mX4_rowPart 3 0 0 Γ Q) 0 0 Γ h 57 [some (zR 41), some (zI (sum : Int)), some (zI (i : Int)), some (zI (P : Int)), some (zI ((ztl b r hd sum P k).1 : Int)), some (zI p9), some (zI (k : Int))] [] := by
  have hr7 := hP.2.2.2.1
  have hd9 := hP.2.2.2.2
  intro m
  induction m with
  | zero => intros; omega
  | succ m ih =>
    intro k p9 hm hk1 hp9 hQ
    have htb := ztl_b b r hd sum P k
    have htc := zgr_b (zgf b r hd sum (ztl b r hd sum P k).1 (P - k - 1)) (min hd (sum - (ztl b r hd sum P k).1))
    refine z_il6 dX4_rowPart_57 ?_
    refine z_il2 dX4_rowPart_59 ?_
    refine z_icmp_gt (t := 91) dX4_rowPart_60 (by rfl) (fun ht60 => ?_) (fun hf60 => ?_)
    · refine z_il5 dX4_rowPart_91 ?_
      refine z_iret dX4_rowPart_93 rfl (Nat.le_refl _) (Nat.le_refl _) (zext_rf _) (fun hrr => ?_)
      have ek : k = i + 1 := by omega
      rcases hp9 with hp9 | hp9
      · omega
      · subst ek; rw [hp9]; exact hQ
    · refine z_al0 dX4_rowPart_63 (by first | decide | omega | assumption) ?_
      refine z_il4 dX4_rowPart_64 ?_
      refine z_il1 dX4_rowPart_66 ?_
      refine z_il3 dX4_rowPart_67 ?_
      refine z_il6 dX4_rowPart_68 ?_
      refine z_isub dX4_rowPart_70 (by omega) ?_
      refine z_iconst dX4_rowPart_71 (by decide) ?_
      refine z_isub dX4_rowPart_72 (by omega) ?_
      rw [show (P : Int) - (k : Int) - 1 = ((P - k - 1 : Nat) : Int) by omega]
      refine zcv3 dX4_rowPart_73 zkX4_54 ziX4_greatestPart zsX4_greatestPart (zkB hΓ rfl) (by decide) rfl (Nat.le_of_ble_eq_true rfl) (by decide) (by first | decide | omega) ⟨Nat.le_refl _, Nat.le_refl _⟩ (X4_greatestPart_ct hΓ hP ⟨ztl_b _ _ _ _ _ _, hs9⟩ (by omega) hC (fun _ => ?_))
      try simp only [zup_ap, zup_row, ne_eq, not_false_eq_true, zres, Int.toNat_natCast, reduceIte, Nat.reduceEqDiff, Nat.reduceAdd, and_self, and_true, true_and, and_false, false_and]
      refine z_is5 dX4_rowPart_76 (Nat.le_of_ble_eq_true rfl) rfl ?_
      refine z_il4 dX4_rowPart_78 ?_
      refine z_il5 dX4_rowPart_80 ?_
      refine z_iadd dX4_rowPart_82 (by omega) ?_
      refine z_is4 dX4_rowPart_83 (Nat.le_of_ble_eq_true rfl) rfl ?_
      refine z_ii6 dX4_rowPart_85 (by omega) (Nat.le_of_ble_eq_true rfl) rfl ?_
      refine z_goto (t := 57) dX4_rowPart_88 (by rfl) ?_
      refine ih (k + 1) _ (by omega) (by omega) ?_ hQ
      exact Or.inr rfl
set_option maxRecDepth 4000 in
theorem X4_rowPart_ct {l : Launch} {Γ : zC} {h : zM} {Q : Option zV → zC → zM → Prop} (hΓ : zBase Γ) {b : Nat → Int} {r : Int} {hd : Nat} (hP : zPu h b r hd) {sum : Nat} {i : Int} (hs1 : 1 ≤ sum) (hs9 : sum ≤ 200) (hQ : ∀ h9, (∀ q, q ≠ 43 → h9 q = h q) → Q (some (zI (zrp b r hd sum i))) Γ h9) : zCT l mX4_rowPart 3 0 0 Γ [zR 41, zI (sum : Int), zI i] h Q := by
  have hr7 := hP.2.2.2.1
  have hd9 := hP.2.2.2.2
  refine zCT_of (by decide) (Nat.le_of_ble_eq_true rfl) (ls := [some (zR 41), some (zI (sum : Int)), some (zI i), none, none, none, none]) rfl ?_
  refine z_il1 dX4_rowPart_0 ?_
  refine z_iconst dX4_rowPart_1 (by decide) ?_
  refine z_icmp_lt (t := 12) dX4_rowPart_2 (by rfl) (fun ht2 => ?_) (fun hf2 => ?_)
  · refine z_iconst dX4_rowPart_12 (by decide) ?_
    refine z_iret dX4_rowPart_13 rfl (Nat.le_refl _) (Nat.le_refl _) (zext_rf _) (fun hrr => ?_)
    omega
  · refine z_il1 dX4_rowPart_5 ?_
    refine z_sipush (x := 200) dX4_rowPart_6 (by rfl) (by decide) ?_
    refine z_icmp_le (t := 14) dX4_rowPart_9 (by rfl) (fun ht9 => ?_) (fun hf9 => ?_)
    · refine z_al0 dX4_rowPart_14 (by first | decide | omega | assumption) ?_
      refine z_il1 dX4_rowPart_15 ?_
      refine zcv1 dX4_rowPart_16 zkX4_50 ziX4_countBack zsX4_countBack (zkB hΓ rfl) (by decide) rfl (Nat.le_of_ble_eq_true rfl) (by decide) (by first | decide | omega) ⟨Nat.le_refl _, Nat.le_refl _⟩ (X4_countBack_ct hΓ hP hs9 (fun h9 hE hC _ => ?_))
      try simp only [zup_ap, zup_row, ne_eq, not_false_eq_true, zres, Int.toNat_natCast, reduceIte, Nat.reduceEqDiff, Nat.reduceAdd, and_self, and_true, true_and, and_false, false_and]
      refine z_al0 dX4_rowPart_19 (by first | decide | omega | assumption) ?_
      refine z_al0 dX4_rowPart_20 (by first | decide | omega | assumption) ?_
      refine z_getR zfX4_15 dX4_rowPart_21 (zkB hΓ rfl) rfl (zsB hΓ rfl) (zvB hΓ (by decide)) ?_
      refine z_iconst dX4_rowPart_24 (by decide) ?_
      refine z_lald dX4_rowPart_25 (zkB hΓ rfl) (by omega) (by omega) ?_
      try simp only [zup_ap, zup_row, ne_eq, not_false_eq_true, zres, Int.toNat_natCast, reduceIte, Nat.reduceEqDiff, Nat.reduceAdd, and_self, and_true, true_and, and_false, false_and]
      refine zcv1 dX4_rowPart_26 zkX4_46 ziX4_fewest zsX4_fewest (zkB hΓ rfl) (by decide) rfl (Nat.le_of_ble_eq_true rfl) (by decide) (by first | decide | omega) ⟨Nat.le_refl _, Nat.le_refl _⟩ (X4_fewest_ct hΓ (zPu_cg hP (fun q h1 _ _ => hE q h1)) (hC 0 (Nat.zero_le _)) (fun _ => ?_))
      try simp only [zup_ap, zup_row, ne_eq, not_false_eq_true, zres, Int.toNat_natCast, reduceIte, Nat.reduceEqDiff, Nat.reduceAdd, and_self, and_true, true_and, and_false, false_and]
      have hz9 := zlf_b (fun k => (zto b r 0 && zgo b r hd sum k 0) && zco b r k) 60 1
      have hQ9 := hQ h9 hE
      unfold zrp zpar at hQ9
      generalize zlf (fun k => (zto b r 0 && zgo b r hd sum k 0) && zco b r k) 60 1 = z at hz9 hQ9
      refine z_is3 dX4_rowPart_29 (Nat.le_of_ble_eq_true rfl) rfl ?_
      refine z_il2 dX4_rowPart_30 ?_
      refine z_iconst dX4_rowPart_31 (by decide) ?_
      refine z_icmp_ne (t := 37) dX4_rowPart_32 (by rfl) (fun ht32 => ?_) (fun hf32 => ?_)
      · refine z_il2 dX4_rowPart_37 ?_
        refine z_if_lt (t := 46) dX4_rowPart_38 (by rfl) (fun ht38 => ?_) (fun hf38 => ?_)
        · refine z_iconst dX4_rowPart_46 (by decide) ?_
          refine z_iret dX4_rowPart_47 rfl (Nat.le_refl _) (Nat.le_refl _) (zext_rf _) (fun hrr => ?_)
          rw [if_neg (by omega), if_pos (by omega)] at hQ9
          exact hQ9
        · refine z_il2 dX4_rowPart_41 ?_
          refine z_il3 dX4_rowPart_42 ?_
          refine z_icmp_lt (t := 48) dX4_rowPart_43 (by rfl) (fun ht43 => ?_) (fun hf43 => ?_)
          · refine z_iconst dX4_rowPart_48 (by decide) ?_
            refine z_is4 dX4_rowPart_49 (Nat.le_of_ble_eq_true rfl) rfl ?_
            refine z_iconst dX4_rowPart_51 (by decide) ?_
            refine z_is5 dX4_rowPart_52 (Nat.le_of_ble_eq_true rfl) rfl ?_
            refine z_iconst dX4_rowPart_54 (by decide) ?_
            refine z_is6 dX4_rowPart_55 (Nat.le_of_ble_eq_true rfl) rfl ?_
            obtain ⟨i9, rfl⟩ := Int.eq_ofNat_of_zero_le (show 0 ≤ i by omega)
            obtain ⟨P, rfl⟩ := Int.eq_ofNat_of_zero_le (show 0 ≤ z by omega)
            rw [if_neg (by omega), if_neg (by omega), Int.toNat_natCast, Int.toNat_natCast] at hQ9
            exact X4_rP_l hΓ (zPu_cg hP (fun q h1 _ _ => hE q h1)) hs9 (by omega) hC hQ9 _ 0 (-1) (Nat.lt_succ_self _) (Nat.zero_le _) (Or.inl rfl) hQ9
          · refine z_iconst dX4_rowPart_46 (by decide) ?_
            refine z_iret dX4_rowPart_47 rfl (Nat.le_refl _) (Nat.le_refl _) (zext_rf _) (fun hrr => ?_)
            rw [if_neg (by omega), if_pos (by omega)] at hQ9
            exact hQ9
      · refine z_il3 dX4_rowPart_35 ?_
        refine z_iret dX4_rowPart_36 rfl (Nat.le_refl _) (Nat.le_refl _) (zext_rf _) (fun hrr => ?_)
        rw [if_pos (by omega)] at hQ9
        exact hQ9
    · refine z_iconst dX4_rowPart_12 (by decide) ?_
      refine z_iret dX4_rowPart_13 rfl (Nat.le_refl _) (Nat.le_refl _) (zext_rf _) (fun hrr => ?_)
      omega
