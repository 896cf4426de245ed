/-! families split -/
theorem zpt5 (b : Nat → Int) (k : Nat) : zpt b 5 k = decide (b k = 0) := by
  show (decide ((5 : Int) % 2 = 0) || _) = _
  rw [show decide ((5 : Int) % 2 = 0) = false by decide]; rfl
theorem zto5 (b : Nat → Int) (k : Nat) : zto b 5 k = true := by
  show (decide ((5 : Int) / 2 % 2 = 0) || _) = _
  rw [show decide ((5 : Int) / 2 % 2 = 0) = true by decide]; rfl
theorem zco5 (b : Nat → Int) (k : Nat) : zco b 5 k = decide (b k = 0) := by
  show (decide ((5 : Int) / 4 % 2 = 0) || _) = _
  rw [show decide ((5 : Int) / 4 % 2 = 0) = false by decide]; rfl
/-- so many groups, none greater than m, come to n -/
def zEf (b : Nat → Int) (m : Nat) : Nat → Nat → Bool
  | 0, n => decide (n = 0)
  | g + 1, n => zan (fun p => decide (p ≤ n) && (decide (b p = 0) && zEf b m g (n - p))) m
theorem zEf_s {b : Nat → Int} {m g n : Nat} : zEf b m (g + 1) n = true ↔ ∃ p, 1 ≤ p ∧ p ≤ m ∧ p ≤ n ∧ b p = 0 ∧ zEf b m g (n - p) = true := by
  show zan _ m = true ↔ _
  rw [zan_iff]
  simp only [Bool.and_eq_true, decide_eq_true_eq]
theorem zgo_E (b : Nat → Int) (s : Nat) : ∀ k t, t ≤ s → zgo b 5 30 s k t = zEf b 30 k (s - t)
  | 0, t, h => by
    show decide (t = s) = decide (s - t = 0)
    by_cases e : t = s
    · rw [decide_eq_true e, decide_eq_true (by omega)]
    · rw [decide_eq_false e, decide_eq_false (by omega)]
  | k + 1, t, h => by
    refine zan_cg (fun q h1 h2 => ?_)
    simp only [Bool.and_eq_true, decide_eq_true_eq, zpt5, zto5, true_and]
    constructor
    · rintro ⟨h3, h4, h5⟩
      rw [zgo_E b s k (t + q) (by omega)] at h5
      exact ⟨h3, h4, by rw [show s - t - q = s - (t + q) by omega]; exact h5⟩
    · rintro ⟨h3, h4, h5⟩
      refine ⟨h3, h4, ?_⟩
      rw [zgo_E b s k (t + q) (by omega), show s - (t + q) = s - t - q by omega]; exact h5
theorem zEf_mono {b : Nat → Int} {p m : Nat} (h : p ≤ m) : ∀ g n, zEf b p g n = true → zEf b m g n = true
  | 0, _, e => e
  | g + 1, n, e => by
    rw [zEf_s] at e ⊢
    obtain ⟨q, h1, h2, h3, h4, h5⟩ := e
    exact ⟨q, h1, by omega, h3, h4, zEf_mono h g _ h5⟩
theorem zEf_b {b : Nat → Int} {m : Nat} : ∀ g n, zEf b m g n = true → g ≤ n ∧ n ≤ m * g
  | 0, n, e => by
    have e : n = 0 := of_decide_eq_true e
    subst e; exact ⟨Nat.le_refl _, Nat.zero_le _⟩
  | g + 1, n, e => by
    rw [zEf_s] at e
    obtain ⟨q, h1, h2, h3, h4, h5⟩ := e
    have h6 := zEf_b g _ h5
    rw [Nat.mul_succ]
    omega
/-- where a bound is too small a greater group can be put first -/
theorem zEf_mx {b : Nat → Int} {p m : Nat} : ∀ g n, zEf b m g n = true → zEf b p g n = false → ∃ q, p < q ∧ q ≤ m ∧ q ≤ n ∧ b q = 0 ∧ 1 ≤ g ∧ zEf b m (g - 1) (n - q) = true
  | 0, n, e, e2 => by rw [show zEf b p 0 n = zEf b m 0 n from rfl, e] at e2; cases e2
  | g + 1, n, e, e2 => by
    rw [zEf_s] at e
    obtain ⟨a, h1, h2, h3, h4, h5⟩ := e
    by_cases ha : p < a
    · exact ⟨a, ha, h2, h3, h4, by omega, h5⟩
    · have h6 : zEf b p g (n - a) = false := Bool.eq_false_iff.2 (fun h => by
        rw [Bool.eq_false_iff] at e2
        exact e2 (zEf_s.2 ⟨a, h1, by omega, h3, h4, h⟩))
      obtain ⟨q, g1, g2, g3, g4, g5, g6⟩ := zEf_mx g _ h5 h6
      refine ⟨q, g1, g2, by omega, g4, by omega, ?_⟩
      show zEf b m g (n - q) = true
      rw [show g = (g - 1) + 1 by omega, zEf_s]
      exact ⟨a, h1, h2, by omega, h4, by rw [show n - q - a = n - a - q by omega]; exact g6⟩
theorem zgr_mx {f : Nat → Bool} : ∀ {m p}, 1 ≤ p → p ≤ m → f p = true → p ≤ zgr f m
  | 0, p, h1, h2, _ => by omega
  | m + 1, p, h1, h2, h3 => by
    unfold zgr
    split
    · exact h2
    · rename_i h4
      by_cases e : p = m + 1
      · subst e; exact absurd h3 h4
      · exact zgr_mx h1 (by omega) h3
theorem zgr_is {f : Nat → Bool} {a : Nat} (h1 : 1 ≤ a) (h2 : f a = true) : ∀ {m}, a ≤ m → (∀ p, a < p → p ≤ m → f p = false) → zgr f m = a
  | 0, h3, _ => by omega
  | m + 1, h3, h4 => by
    unfold zgr
    by_cases e : a = m + 1
    · subst e; rw [if_pos h2]
    · rw [if_neg (by rw [h4 (m + 1) (by omega) (Nat.le_refl _)]; decide)]
      exact zgr_is h1 h2 (by omega) (fun p a b => h4 p a (by omega))
/-- the greatest group that may be first: all others are no greater -/
theorem zEf_gr {b : Nat → Int} {m j n : Nat} (h : zEf b m (j + 1) n = true) : ∃ a, a = zgr (fun p => decide (b p = 0) && zEf b m j (n - p)) (min m n) ∧ 1 ≤ a ∧ a ≤ m ∧ a ≤ n ∧ b a = 0 ∧ zEf b a j (n - a) = true ∧ ∀ p, 1 ≤ p → p ≤ m → p ≤ n → b p = 0 → zEf b m j (n - p) = true → p ≤ a := by
  have h0 := h
  rw [zEf_s] at h
  obtain ⟨q, h1, h2, h3, h4, h5⟩ := h
  have h6 : zan (fun p => decide (b p = 0) && zEf b m j (n - p)) (min m n) = true := (zan_iff _ _).2 ⟨q, h1, by omega, by simp only [Bool.and_eq_true, decide_eq_true_eq]; exact ⟨h4, h5⟩⟩
  have h7 := zgr_1 h6
  have h8 := zgr_b (fun p => decide (b p = 0) && zEf b m j (n - p)) (min m n)
  have hM : ∀ p, 1 ≤ p → p ≤ m → p ≤ n → b p = 0 → zEf b m j (n - p) = true → p ≤ zgr (fun p => decide (b p = 0) && zEf b m j (n - p)) (min m n) := fun p g1 g2 g3 g4 g5 => zgr_mx g1 (by omega) (by simp only [Bool.and_eq_true, decide_eq_true_eq]; exact ⟨g4, g5⟩)
  generalize zgr (fun p => decide (b p = 0) && zEf b m j (n - p)) (min m n) = a at h7 h8 hM
  simp only [Bool.and_eq_true, decide_eq_true_eq] at h7
  refine ⟨a, rfl, h7.1, by omega, by omega, h7.2.1, ?_, hM⟩
  cases h9 : zEf b a j (n - a) with
  | true => rfl
  | false =>
    obtain ⟨q, g1, g2, g3, g4, g5, g6⟩ := zEf_mx j _ h7.2.2 h9
    have g7 := hM q (by omega) g2 (by omega) g4 (by
      rw [show j = (j - 1) + 1 by omega, zEf_s]
      exact ⟨a, h7.1, by omega, by omega, h7.2.1, by rw [show n - q - a = n - a - q by omega]; exact g6⟩)
    omega
/-- the reference's way: sizes falling -/
def zLf (b : Nat → Int) (g n : Nat) (p : Nat) : Bool := decide (b p = 0) && zEf b p g (n - p)
theorem zLf_E {b : Nat → Int} {m g n : Nat} : zan (zLf b g n) (min m n) = zEf b m (g + 1) n := by
  refine zb_ext ⟨fun h => ?_, fun h => ?_⟩
  · rw [zan_iff] at h
    obtain ⟨p, h1, h2, h3⟩ := h
    unfold zLf at h3
    simp only [Bool.and_eq_true, decide_eq_true_eq] at h3
    exact zEf_s.2 ⟨p, h1, by omega, by omega, h3.1, zEf_mono (by omega) _ _ h3.2⟩
  · obtain ⟨a, -, h1, h2, h3, h4, h5, -⟩ := zEf_gr h
    rw [zan_iff]
    exact ⟨a, h1, by omega, by unfold zLf; simp only [Bool.and_eq_true, decide_eq_true_eq]; exact ⟨h4, h5⟩⟩
theorem zLf_0 {b : Nat → Int} {g n c : Nat} (h : c * (g + 1) < n) : zan (zLf b g n) c = false := Bool.eq_false_iff.2 (fun e => by
  rw [zan_iff] at e
  obtain ⟨p, h1, h2, h3⟩ := e
  unfold zLf at h3
  simp only [Bool.and_eq_true, decide_eq_true_eq] at h3
  have h4 := (zEf_b _ _ h3.2).2
  have h5 : p * g ≤ c * g := Nat.mul_le_mul_right _ h2
  rw [Nat.mul_succ] at h
  omega)
theorem zmul30 {a b : Nat} (ha : a ≤ 31) (hb : b ≤ 31) : 0 ≤ (a : Int) * (b : Int) ∧ (a : Int) * (b : Int) ≤ 961 := by
  have h := Nat.mul_le_mul ha hb
  have e : ((a * b : Nat) : Int) = (a : Int) * (b : Int) := Int.natCast_mul _ _
  omega
set_option maxRecDepth 4000 in
theorem X9_lands_l {l : Launch} {Γ : zC} {h : zM} {b : Nat → Int} {Q : Option zV → zC → zM → Prop} {n g m9 : Nat} (hΓ : zBase Γ) (hB : ∀ n, n ≤ 200 → h 102 n = b n) (hn : n ≤ 30) (hg : g ≤ 29) (hR : ∀ {n m : Nat} {Q : Option zV → zC → zM → Prop}, n ≤ 30 → m ≤ 30 → (zEf b m g n = false → Q (some (zI 0)) Γ h) → (zEf b m g n = true → Q (some (zI 1)) Γ h) → zCT l mX9_lands g 0 0 Γ [zR 89, zI (n : Int), zI (g : Int), zI (m : Int)] h Q) : ∀ (m : Nat) (c9 : Int), c9 < m → 0 ≤ c9 → c9 ≤ n → (zan (zLf b g n) c9.toNat = false → Q (some (zI 0)) Γ h) → (zan (zLf b g n) c9.toNat = true → Q (some (zI 1)) Γ h) → zG (zFn l mX9_lands (g + 1) 0 0 Γ Q) 0 0 Γ h 21 [some (zR 89), some (zI (n : Int)), some (zI ((g + 1 : Nat) : Int)), some (zI (m9 : Int)), some (zI c9)] [] := by
  intro m
  induction m with
  | zero => intros; omega
  | succ m ih =>
    intro c9 hm h1 h2 hQ0 hQ1
    refine z_il4 dX9_lands_21 ?_
    refine z_if_le (t := 68) dX9_lands_23 (by rfl) (fun ht23 => ?_) (fun hf23 => ?_)
    · refine z_iconst dX9_lands_68 (by decide) ?_
      refine z_zret dX9_lands_69 rfl (Nat.le_refl _) (Nat.le_refl _) (zext_rf _) (by first | exact Or.inl rfl | exact Or.inr rfl | omega) ?_
      refine hQ0 ?_
      first
      | (rw [show c9.toNat = 0 by omega]; rfl)
      | (rw [Int.toNat_natCast]
         refine zLf_0 ?_
         have hm9 : ((c * (g + 1) : Nat) : Int) = (c : Int) * ((g + 1 : Nat) : Int) := Int.natCast_mul _ _
         omega)
    · obtain ⟨c, rfl⟩ := Int.eq_ofNat_of_zero_le (show 0 ≤ c9 by omega)
      have hmu := zmul30 (a := c) (b := g + 1) (by omega) (by omega)
      have ec : c = (c - 1) + 1 := by omega
      refine z_il4 dX9_lands_26 ?_
      refine z_il2 dX9_lands_28 ?_
      refine z_imul dX9_lands_29 (by omega) ?_
      refine z_il1 dX9_lands_30 ?_
      refine z_icmp_lt (t := 68) dX9_lands_31 (by rfl) (fun ht31 => ?_) (fun hf31 => ?_)
      · refine z_iconst dX9_lands_68 (by decide) ?_
        refine z_zret dX9_lands_69 rfl (Nat.le_refl _) (Nat.le_refl _) (zext_rf _) (by first | exact Or.inl rfl | exact Or.inr rfl | omega) ?_
        refine hQ0 ?_
        first
        | (rw [show c9.toNat = 0 by omega]; rfl)
        | (rw [Int.toNat_natCast]
           refine zLf_0 ?_
           have hm9 : ((c * (g + 1) : Nat) : Int) = (c : Int) * ((g + 1 : Nat) : Int) := Int.natCast_mul _ _
           omega)
      · refine z_al0 dX9_lands_34 (by first | decide | omega | assumption) ?_
        refine z_getR zfX9_68 dX9_lands_35 (zkB hΓ rfl) rfl (zsB hΓ rfl) (zvB hΓ (by decide)) ?_
        refine z_il4 dX9_lands_38 ?_
        refine z_zald dX9_lands_40 (zkB hΓ rfl) (by omega) (by omega) ?_
        try simp only [Int.toNat_natCast]
        rw [hB _ (by omega)]
        try simp only [zup_ap, zup_row, ne_eq, not_false_eq_true, zres, Int.toNat_natCast, reduceIte, Nat.reduceEqDiff, Nat.reduceAdd, and_self, and_true, true_and, and_false, false_and]
        refine z_if_ne (t := 62) dX9_lands_41 (by rfl) (fun ht41 => ?_) (fun hf41 => ?_)
        · refine z_ii4 dX9_lands_62 (by omega) (Nat.le_of_ble_eq_true rfl) rfl ?_
          refine z_goto (t := 21) dX9_lands_65 (by rfl) ?_
          refine ih ((c : Int) + -1) (by omega) (by omega) (by omega) ?_ ?_
          · intro e
            refine hQ0 ?_
            rw [Int.toNat_natCast, ec, zan, ← ec]
            rw [show ((c : Int) + -1).toNat = c - 1 by omega] at e
            rw [e, Bool.false_or]
            unfold zLf
            first
            | (rw [hp9]; exact Bool.and_false _)
            | (rw [decide_eq_false (by omega)]; rfl)
          · intro e
            refine hQ1 ?_
            rw [Int.toNat_natCast, ec, zan, ← ec]
            rw [show ((c : Int) + -1).toNat = c - 1 by omega] at e
            rw [e, Bool.true_or]
        · refine z_al0 dX9_lands_44 (by first | decide | omega | assumption) ?_
          refine z_il1 dX9_lands_45 ?_
          refine z_il4 dX9_lands_46 ?_
          refine z_isub dX9_lands_48 (by omega) ?_
          refine z_il2 dX9_lands_49 ?_
          refine z_iconst dX9_lands_50 (by decide) ?_
          refine z_isub dX9_lands_51 (by omega) ?_
          refine z_il4 dX9_lands_52 ?_
          rw [show (n : Int) - (c : Int) = ((n - c : Nat) : Int) by omega, show ((g + 1 : Nat) : Int) - 1 = ((g : Nat) : Int) by omega]
          refine zcv3 dX9_lands_54 zkX9_359 ziX9_lands zsX9_lands (zkB hΓ rfl) (by decide) rfl (Nat.le_of_ble_eq_true rfl) (by decide) (by first | decide | omega) ⟨Nat.le_refl _, Nat.le_refl _⟩ (hR (by omega) (by omega) (fun hp9 _ => ?_) (fun hp9 _ => ?_))
          · try simp only [zup_ap, zup_row, ne_eq, not_false_eq_true, zres, Int.toNat_natCast, reduceIte, Nat.reduceEqDiff, Nat.reduceAdd, and_self, and_true, true_and, and_false, false_and]
            refine z_if_eq (t := 62) dX9_lands_57 (by rfl) (fun _ => ?_) (fun hx => absurd hx (by decide))
            refine z_ii4 dX9_lands_62 (by omega) (Nat.le_of_ble_eq_true rfl) rfl ?_
            refine z_goto (t := 21) dX9_lands_65 (by rfl) ?_
            refine ih ((c : Int) + -1) (by omega) (by omega) (by omega) ?_ ?_
            · intro e
              refine hQ0 ?_
              rw [Int.toNat_natCast, ec, zan, ← ec]
              rw [show ((c : Int) + -1).toNat = c - 1 by omega] at e
              rw [e, Bool.false_or]
              unfold zLf
              first
              | (rw [hp9]; exact Bool.and_false _)
              | (rw [decide_eq_false (by omega)]; rfl)
            · intro e
              refine hQ1 ?_
              rw [Int.toNat_natCast, ec, zan, ← ec]
              rw [show ((c : Int) + -1).toNat = c - 1 by omega] at e
              rw [e, Bool.true_or]
          · try simp only [zup_ap, zup_row, ne_eq, not_false_eq_true, zres, Int.toNat_natCast, reduceIte, Nat.reduceEqDiff, Nat.reduceAdd, and_self, and_true, true_and, and_false, false_and]
            refine z_if_eq (t := 62) dX9_lands_57 (by rfl) (fun hx => absurd hx (by decide)) (fun _ => ?_)
            refine z_iconst dX9_lands_60 (by decide) ?_
            refine z_zret dX9_lands_61 rfl (Nat.le_refl _) (Nat.le_refl _) (zext_rf _) (by first | exact Or.inl rfl | exact Or.inr rfl | omega) ?_
            refine hQ1 ?_
            rw [Int.toNat_natCast, ec, zan, ← ec, show zLf b g n c = true by unfold zLf; rw [hp9, decide_eq_true (by omega)]; rfl, Bool.or_true]
set_option maxRecDepth 4000 in
theorem X9_lands_ct {l : Launch} {Γ : zC} {h : zM} {b : Nat → Int} (hΓ : zBase Γ) (hB : ∀ n, n ≤ 200 → h 102 n = b n) : ∀ (g : Nat), g ≤ 30 → ∀ {n m : Nat} {Q : Option zV → zC → zM → Prop}, n ≤ 30 → m ≤ 30 → (zEf b m g n = false → Q (some (zI 0)) Γ h) → (zEf b m g n = true → Q (some (zI 1)) Γ h) → zCT l mX9_lands g 0 0 Γ [zR 89, zI (n : Int), zI (g : Int), zI (m : Int)] h Q
  | 0, hg, n, m, Q, hn, hm, hQ0, hQ1 => by
    refine zCT_of (by decide) (Nat.le_of_ble_eq_true rfl) (ls := [some (zR 89), some (zI (n : Int)), some (zI ((0 : Nat) : Int)), some (zI (m : Int)), none]) rfl ?_
    refine z_il2 dX9_lands_0 ?_
    refine z_if_ne (t := 14) dX9_lands_1 (by rfl) (fun ht1 => ?_) (fun hf1 => ?_)
    · exfalso; omega
    · refine z_il1 dX9_lands_4 ?_
      refine z_if_ne (t := 12) dX9_lands_5 (by rfl) (fun ht5 => ?_) (fun hf5 => ?_)
      · refine z_iconst dX9_lands_12 (by decide) ?_
        refine z_zret dX9_lands_13 rfl (Nat.le_refl _) (Nat.le_refl _) (zext_rf _) (by first | exact Or.inl rfl | exact Or.inr rfl | omega) ?_
        first | exact hQ1 (decide_eq_true (by omega)) | exact hQ0 (decide_eq_false (by omega))
      · refine z_iconst dX9_lands_8 (by decide) ?_
        refine z_goto (t := 13) dX9_lands_9 (by rfl) ?_
        refine z_zret dX9_lands_13 rfl (Nat.le_refl _) (Nat.le_refl _) (zext_rf _) (by first | exact Or.inl rfl | exact Or.inr rfl | omega) ?_
        first | exact hQ1 (decide_eq_true (by omega)) | exact hQ0 (decide_eq_false (by omega))
  | g + 1, hg, n, m, Q, hn, hm, hQ0, hQ1 => by
    refine zCT_of (by decide) (Nat.le_of_ble_eq_true rfl) (ls := [some (zR 89), some (zI (n : Int)), some (zI ((g + 1 : Nat) : Int)), some (zI (m : Int)), none]) rfl ?_
    refine z_il2 dX9_lands_0 ?_
    refine z_if_ne (t := 14) dX9_lands_1 (by rfl) (fun ht1 => ?_) (fun hf1 => ?_)
    · refine z_il3 dX9_lands_14 ?_
      refine z_il1 dX9_lands_15 ?_
      refine z_mmin dX9_lands_16 zkX9_347 ztJ9_min_7cf53 (Nat.le_of_ble_eq_true rfl) (by first | decide | omega) ⟨Nat.le_refl _, Nat.le_refl _⟩ ?_
      refine z_is4 dX9_lands_19 (Nat.le_of_ble_eq_true rfl) rfl ?_
      rw [show (if (n : Int) < (m : Int) then (n : Int) else (m : Int)) = ((min m n : Nat) : Int) by split <;> omega]
      refine X9_lands_l hΓ hB hn (by omega) (fun h1 h2 q0 q1 => X9_lands_ct hΓ hB g (by omega) h1 h2 q0 q1) _ _ (Int.lt_of_lt_of_le (Int.lt_succ _) (Int.le_refl ((((min m n + 1 : Nat)) : Nat) : Int))) (by omega) (by omega) ?_ ?_
      · rw [Int.toNat_natCast, zLf_E]; exact hQ0
      · rw [Int.toNat_natCast, zLf_E]; exact hQ1
    · exfalso; omega
set_option maxRecDepth 4000 in
theorem X8_isFamily_ct {l : Launch} {Γ : zC} {h0 h : zM} {Q : Option zV → zC → zM → Prop} {i s : Int} (hI : zIv Γ h0) (hF : zfr zSS h0 h) (hQ0 : ¬ ((0 ≤ i ∧ i < h0 89 22) ∧ (1 ≤ s ∧ s ≤ 30)) → Q (some (zI 0)) Γ h) (hQ1 : ((0 ≤ i ∧ i < h0 89 22) ∧ (1 ≤ s ∧ s ≤ 30)) → Q (some (zI 1)) Γ h) : zCT l mX8_isFamily 1 0 0 Γ [zR 1, zI i, zI s] h Q := by
  have hΓ := hI.base
  have hx2 := hI.isl
  refine zCT_of (by decide) (Nat.le_of_ble_eq_true rfl) (ls := [some (zR 1), some (zI i), some (zI s)]) rfl ?_
  refine z_al0 dX8_isFamily_0 (by first | decide | omega | assumption) ?_
  refine z_getR zfX8_35 dX8_isFamily_1 (zkB hΓ rfl) rfl (zsB hΓ rfl) (zvB hΓ (by decide)) ?_
  refine z_il1 dX8_isFamily_4 ?_
  refine zcv1 dX8_isFamily_5 zkX8_114 ziX7_isIsle zsX7_isIsle (zkB hΓ rfl) (by decide) rfl (Nat.le_of_ble_eq_true rfl) (by decide) (by first | decide | omega) ⟨Nat.le_refl _, Nat.le_refl _⟩ (X7_isIsle_ct hI hF (fun hg1 _ => ?_) (fun hg1 _ => ?_))
  · try simp only [zup_ap, zup_row, ne_eq, not_false_eq_true, zres, Int.toNat_natCast, reduceIte, Nat.reduceEqDiff, Nat.reduceAdd, and_self, and_true, true_and, and_false, false_and]
    refine z_if_eq (t := 26) dX8_isFamily_8 (by rfl) (fun _ => ?_) (fun hx => absurd hx (by decide))
    refine z_iconst dX8_isFamily_26 (by decide) ?_
    refine z_zret dX8_isFamily_27 rfl (Nat.le_refl _) (Nat.le_refl _) (zext_rf _) (by first | exact Or.inl rfl | exact Or.inr rfl | omega) ?_
    first | exact hQ0 (by omega) | exact hQ1 (by omega)
  · try simp only [zup_ap, zup_row, ne_eq, not_false_eq_true, zres, Int.toNat_natCast, reduceIte, Nat.reduceEqDiff, Nat.reduceAdd, and_self, and_true, true_and, and_false, false_and]
    refine z_if_eq (t := 26) dX8_isFamily_8 (by rfl) (fun hx => absurd hx (by decide)) (fun _ => ?_)
    refine z_il2 dX8_isFamily_11 ?_
    refine z_iconst dX8_isFamily_12 (by decide) ?_
    refine z_icmp_lt (t := 26) dX8_isFamily_13 (by rfl) (fun ht13 => ?_) (fun hf13 => ?_)
    · refine z_iconst dX8_isFamily_26 (by decide) ?_
      refine z_zret dX8_isFamily_27 rfl (Nat.le_refl _) (Nat.le_refl _) (zext_rf _) (by first | exact Or.inl rfl | exact Or.inr rfl | omega) ?_
      first | exact hQ0 (by omega) | exact hQ1 (by omega)
    · refine z_il2 dX8_isFamily_16 ?_
      refine z_bipush (x := 30) dX8_isFamily_17 (by rfl) (by decide) ?_
      refine z_icmp_gt (t := 26) dX8_isFamily_19 (by rfl) (fun ht19 => ?_) (fun hf19 => ?_)
      · refine z_iconst dX8_isFamily_26 (by decide) ?_
        refine z_zret dX8_isFamily_27 rfl (Nat.le_refl _) (Nat.le_refl _) (zext_rf _) (by first | exact Or.inl rfl | exact Or.inr rfl | omega) ?_
        first | exact hQ0 (by omega) | exact hQ1 (by omega)
      · refine z_iconst dX8_isFamily_22 (by decide) ?_
        refine z_goto (t := 27) dX8_isFamily_23 (by rfl) ?_
        refine z_zret dX8_isFamily_27 rfl (Nat.le_refl _) (Nat.le_refl _) (zext_rf _) (by first | exact Or.inl rfl | exact Or.inr rfl | omega) ?_
        first | exact hQ0 (by omega) | exact hQ1 (by omega)
set_option maxRecDepth 4000 in
theorem X8_openFamily_ct {l : Launch} {Γ : zC} {h0 h : zM} {Q : Option zV → zC → zM → Prop} {i : Int} (hI : zIv Γ h0) (hF : zfr zSS h0 h) (hO : h0 89 30 = -1) (hv : 0 ≤ i ∧ i < h0 89 22) (hQ : ∀ h9, zfr zSS h0 h9 → zPu h9 (zbF h0 i (h0 89 29)) 5 30 → Q none Γ h9) : zCT l mX8_openFamily 5 0 0 Γ [zR 1, zI i] h Q := by
  have hΓ := hI.base
  have hx2 := hI.isl
  refine zCT_of (by decide) (Nat.le_of_ble_eq_true rfl) (ls := [some (zR 1), some (zI i)]) rfl ?_
  refine z_al0 dX8_openFamily_0 (by first | decide | omega | assumption) ?_
  refine z_il1 dX8_openFamily_1 ?_
  refine z_bipush (x := 30) dX8_openFamily_2 (by rfl) (by decide) ?_
  refine z_iconst dX8_openFamily_4 (by decide) ?_
  refine zcv3 dX8_openFamily_5 zkX8_152 ziX8_openPurse zsX8_openPurse (zkB hΓ rfl) (by decide) rfl (Nat.le_of_ble_eq_true rfl) (by decide) (by first | decide | omega) ⟨Nat.le_refl _, Nat.le_refl _⟩ (X8_openPurse_ct (hd := 30) hI hF hO hv (by decide) (by decide) (fun h2 hO2 hF2 hP _ => ?_))
  try simp only [zup_ap, zup_row, ne_eq, not_false_eq_true, zres, Int.toNat_natCast, reduceIte, Nat.reduceEqDiff, Nat.reduceAdd, and_self, and_true, true_and, and_false, false_and]
  refine z_ret dX8_openFamily_8 rfl (Nat.le_refl _) (Nat.le_refl _) (zext_rf _) ?_
  exact hQ h2 hF2 hP
/-- how many groups, or the i-th of them -/
def zvFamily (h : zM) (i s j : Int) : Int := if (0 ≤ i ∧ i < h 89 22) ∧ (1 ≤ s ∧ s ≤ 30) then zrp (zbF h i (h 89 29)) 5 30 s.toNat j else -1
set_option maxRecDepth 4000 in
theorem X8_family_ct {l : Launch} {Γ : zC} {h0 h : zM} {Q : Option zV → zC → zM → Prop} {i s j : Int} (hI : zIv Γ h0) (hF : zfr zSS h0 h) (hO : h0 89 30 = -1) (hQ : ∀ h9, zfr zSS h0 h9 → Q (some (zI (zvFamily h0 i s j))) Γ h9) : zCT l mX8_family 6 0 0 Γ [zR 1, zI i, zI s, zI j] h Q := by
  have hΓ := hI.base
  have hx2 := hI.isl
  have hx3 := hI.hnd
  obtain ⟨hd, hhd⟩ := Int.eq_ofNat_of_zero_le (show 0 ≤ h0 89 32 by omega)
  have hdn : (h0 89 32).toNat = hd := by omega
  have hnw := hI.now
  refine zCT_of (by decide) (Nat.le_of_ble_eq_true rfl) (ls := [some (zR 1), some (zI i), some (zI s), some (zI j)]) rfl ?_
  refine z_al0 dX8_family_0 (by first | decide | omega | assumption) ?_
  refine z_il1 dX8_family_1 ?_
  refine z_il2 dX8_family_2 ?_
  refine zcv2 dX8_family_3 zkX8_177 ziX8_isFamily zsX8_isFamily (zkB hΓ rfl) (by decide) rfl (Nat.le_of_ble_eq_true rfl) (by decide) (by first | decide | omega) ⟨Nat.le_refl _, Nat.le_refl _⟩ (X8_isFamily_ct hI hF (fun hg1 _ => ?_) (fun hg1 _ => ?_))
  · try simp only [zup_ap, zup_row, ne_eq, not_false_eq_true, zres, Int.toNat_natCast, reduceIte, Nat.reduceEqDiff, Nat.reduceAdd, and_self, and_true, true_and, and_false, false_and]
    refine z_if_ne (t := 11) dX8_family_6 (by rfl) (fun hx => absurd hx (by decide)) (fun _ => ?_)
    refine z_iconst dX8_family_9 (by decide) ?_
    refine z_iret dX8_family_10 rfl (Nat.le_refl _) (Nat.le_refl _) (zext_rf _) (fun hrr => ?_)
    have hw9 := hQ _ hF
    unfold zvFamily at hw9
    rw [if_neg (by omega)] at hw9
    exact hw9
  · try simp only [zup_ap, zup_row, ne_eq, not_false_eq_true, zres, Int.toNat_natCast, reduceIte, Nat.reduceEqDiff, Nat.reduceAdd, and_self, and_true, true_and, and_false, false_and]
    refine z_if_ne (t := 11) dX8_family_6 (by rfl) (fun _ => ?_) (fun hx => absurd hx (by decide))
    refine z_al0 dX8_family_11 (by first | decide | omega | assumption) ?_
    refine z_il1 dX8_family_12 ?_
    refine zcv1 dX8_family_13 zkX8_181 ziX8_openFamily zsX8_openFamily (zkB hΓ rfl) (by decide) rfl (Nat.le_of_ble_eq_true rfl) (by decide) (by first | decide | omega) ⟨Nat.le_refl _, Nat.le_refl _⟩ (X8_openFamily_ct hI hF hO hg1.1 (fun h2 hF2 hP _ => ?_))
    try simp only [zup_ap, zup_row, ne_eq, not_false_eq_true, zres, Int.toNat_natCast, reduceIte, Nat.reduceEqDiff, Nat.reduceAdd, and_self, and_true, true_and, and_false, false_and]
    refine z_al0 dX8_family_16 (by first | decide | omega | assumption) ?_
    refine z_getR zfX8_49 dX8_family_17 (zkB hΓ rfl) rfl (zsB hΓ rfl) (zvB hΓ (by decide)) ?_
    refine z_il2 dX8_family_20 ?_
    refine z_il3 dX8_family_21 ?_
    obtain ⟨s9, rfl⟩ := Int.eq_ofNat_of_zero_le (show 0 ≤ s by omega)
    refine zcv2 dX8_family_22 zkX8_156 ziX4_rowPart zsX4_rowPart (zkB hΓ rfl) (by decide) rfl (Nat.le_of_ble_eq_true rfl) (by decide) (by first | decide | omega) ⟨Nat.le_refl _, Nat.le_refl _⟩ (X4_rowPart_ct hΓ hP (by omega) (by omega) (fun h3 hE3 _ => ?_))
    try simp only [zup_ap, zup_row, ne_eq, not_false_eq_true, zres, Int.toNat_natCast, reduceIte, Nat.reduceEqDiff, Nat.reduceAdd, and_self, and_true, true_and, and_false, false_and]
    refine z_iret dX8_family_25 rfl (Nat.le_refl _) (Nat.le_refl _) (zext_rf _) (fun hrr => ?_)
    have hw9 := hQ _ (zfr_1 hF2 zs43 hE3)
    unfold zvFamily at hw9
    rw [if_pos (by omega)] at hw9
    rw [Int.toNat_natCast] at hw9
    exact hw9
theorem zlf_no {f : Nat → Bool} : ∀ m a, (∀ q, a ≤ q → q < a + m → f q = false) → zlf f m a = -1
  | 0, _, _ => rfl
  | m + 1, a, h => by rw [zlf, if_neg (by rw [h a (Nat.le_refl _) (by omega)]; decide)]; exact zlf_no m (a + 1) (fun q h1 h2 => h q (by omega) (by omega))
theorem zlf_n {f : Nat → Bool} {m a : Nat} (h : f a = false) : zlf f (m + 1) a = zlf f m (a + 1) := by rw [zlf, if_neg (by rw [h]; decide)]
theorem zlf_y {f : Nat → Bool} {m a : Nat} (h : f a = true) : zlf f (m + 1) a = (a : Int) := by rw [zlf, if_pos h]
def zFm (b : Nat → Int) (s k : Nat) : Bool := zEf b 30 k s && decide (b k = 0)
theorem zpar_f (b : Nat → Int) (s : Nat) : zpar b 5 30 s = zlf (zFm b s) 60 1 := zlf_cg _ _ (fun q _ _ => by
  unfold zFm
  rw [zto5, zco5, zgo_E b s q 0 (Nat.zero_le _), Bool.true_and, Nat.sub_zero])
theorem zFm_0 {b : Nat → Int} {s k : Nat} (h : s < k) : zFm b s k = false := by
  unfold zFm
  rw [show zEf b 30 k s = false from Bool.eq_false_iff.2 (fun e => by have := (zEf_b _ _ e).1; omega)]; rfl
theorem zEf_cap {b : Nat → Int} {k s : Nat} (hs : s ≤ 30) : zEf b s k s = zEf b 30 k s := by
  refine zb_ext ⟨zEf_mono hs _ _, fun h => ?_⟩
  cases h9 : zEf b s k s with
  | true => rfl
  | false =>
    obtain ⟨q, g1, g2, g3, -⟩ := zEf_mx _ _ h h9
    omega
theorem zgf_5 (b : Nat → Int) (s t k : Nat) (ht : t ≤ s) : ∀ m, m ≤ s - t → zgr (zgf b 5 30 s t k) m = zgr (fun p => decide (b p = 0) && zEf b 30 k (s - t - p)) m
  | 0, _ => rfl
  | m + 1, hm => by
    have e : zgf b 5 30 s t k (m + 1) = (decide (b (m + 1) = 0) && zEf b 30 k (s - t - (m + 1))) := by
      unfold zgf
      rw [zpt5, zto5, Bool.true_and, zgo_E _ _ _ _ (by omega), show s - t - (m + 1) = s - (t + (m + 1)) by omega]
    unfold zgr
    rw [e, zgf_5 b s t k ht m (by omega)]
set_option maxRecDepth 4000 in
theorem X9_fm_c {l : Launch} {Γ : zC} {h : zM} {Q : Option zV → zC → zM → Prop} {b : Nat → Int} {i j : Int} {s P k n g : Nat} (hΓ : zBase Γ) (hB : ∀ n, n ≤ 200 → h 102 n = b n) (hn : n ≤ 30) (hP : k < P ∧ P ≤ 30) (hg : 1 ≤ g) (hK : zG (zFn l mX9_family 1682 0 0 Γ Q) 0 0 Γ h 151 [some (zR 89), some (zI i), some (zI (s : Int)), some (zI j), some (zI (P : Int)), some (zI (n : Int)), some (zI (g : Int)), some (zI (k : Int))] []) : ∀ (m : Nat) (c : Nat), c < m → c ≤ n → zgr (zLf b (P - k - 1) n) c = g → zG (zFn l mX9_family 1682 0 0 Γ Q) 0 0 Γ h 114 [some (zR 89), some (zI i), some (zI (s : Int)), some (zI j), some (zI (P : Int)), some (zI (n : Int)), some (zI (c : Int)), some (zI (k : Int))] [] := by
  intro m
  induction m with
  | zero => intros; omega
  | succ m ih =>
    intro c hm hc hz
    have hp1 : 1 ≤ c := by
      cases c with
      | zero => change 0 = g at hz; omega
      | succ p => omega
    refine z_al0 dX9_family_114 (by first | decide | omega | assumption) ?_
    refine z_getR zfX9_68 dX9_family_115 (zkB hΓ rfl) rfl (zsB hΓ rfl) (zvB hΓ (by decide)) ?_
    refine z_il6 dX9_family_118 ?_
    refine z_zald dX9_family_120 (zkB hΓ rfl) (by omega) (by omega) ?_
    try simp only [Int.toNat_natCast]
    rw [hB _ (by omega)]
    try simp only [zup_ap, zup_row, ne_eq, not_false_eq_true, zres, Int.toNat_natCast, reduceIte, Nat.reduceEqDiff, Nat.reduceAdd, and_self, and_true, true_and, and_false, false_and]
    refine z_if_ne (t := 145) dX9_family_121 (by rfl) (fun ht121 => ?_) (fun hf121 => ?_)
    · refine z_ii6 dX9_family_145 (by omega) (Nat.le_of_ble_eq_true rfl) rfl ?_
      refine z_goto (t := 114) dX9_family_148 (by rfl) ?_
      have e8 : c = (c - 1) + 1 := by omega
      rw [e8, zgr, ← e8, if_neg (by unfold zLf; first | (rw [hp9]; simp; done) | (rw [decide_eq_false (by omega)]; simp; done))] at hz
      have ih9 := ih (c - 1) (by omega) (by omega) hz
      rw [show ((c - 1 : Nat) : Int) = (c : Int) + -1 by omega] at ih9
      exact ih9
    · refine z_al0 dX9_family_124 (by first | decide | omega | assumption) ?_
      refine z_il5 dX9_family_125 ?_
      refine z_il6 dX9_family_127 ?_
      refine z_isub dX9_family_129 (by omega) ?_
      refine z_il4 dX9_family_130 ?_
      refine z_il7 dX9_family_132 ?_
      refine z_isub dX9_family_134 (by omega) ?_
      refine z_iconst dX9_family_135 (by decide) ?_
      refine z_isub dX9_family_136 (by omega) ?_
      refine z_il6 dX9_family_137 ?_
      rw [show (n : Int) - (c : Int) = ((n - c : Nat) : Int) by omega, show (P : Int) - (k : Int) - 1 = ((P - k - 1 : Nat) : Int) by omega]
      refine zcv3 dX9_family_139 zkX9_359 ziX9_lands zsX9_lands (zkB hΓ rfl) (by decide) rfl (Nat.le_of_ble_eq_true rfl) (by decide) (by first | decide | omega) ⟨Nat.le_refl _, Nat.le_refl _⟩ (X9_lands_ct hΓ hB (P - k - 1) (by omega) (n := n - c) (m := c) (by omega) (by omega) (fun hp9 _ => ?_) (fun hp9 _ => ?_))
      · try simp only [zup_ap, zup_row, ne_eq, not_false_eq_true, zres, Int.toNat_natCast, reduceIte, Nat.reduceEqDiff, Nat.reduceAdd, and_self, and_true, true_and, and_false, false_and]
        refine z_if_ne (t := 151) dX9_family_142 (by rfl) (fun hx => absurd hx (by decide)) (fun _ => ?_)
        refine z_ii6 dX9_family_145 (by omega) (Nat.le_of_ble_eq_true rfl) rfl ?_
        refine z_goto (t := 114) dX9_family_148 (by rfl) ?_
        have e8 : c = (c - 1) + 1 := by omega
        rw [e8, zgr, ← e8, if_neg (by unfold zLf; first | (rw [hp9]; simp; done) | (rw [decide_eq_false (by omega)]; simp; done))] at hz
        have ih9 := ih (c - 1) (by omega) (by omega) hz
        rw [show ((c - 1 : Nat) : Int) = (c : Int) + -1 by omega] at ih9
        exact ih9
      · try simp only [zup_ap, zup_row, ne_eq, not_false_eq_true, zres, Int.toNat_natCast, reduceIte, Nat.reduceEqDiff, Nat.reduceAdd, and_self, and_true, true_and, and_false, false_and]
        refine z_if_ne (t := 151) dX9_family_142 (by rfl) (fun _ => ?_) (fun hx => absurd hx (by decide))
        have e8 : c = (c - 1) + 1 := by omega
        rw [e8, zgr, ← e8, if_pos (by unfold zLf; rw [hp9, decide_eq_true (by omega)]; rfl)] at hz
        subst hz
        exact hK
set_option maxRecDepth 4000 in
theorem X9_fm_b {l : Launch} {Γ : zC} {h : zM} {Q : Option zV → zC → zM → Prop} {b : Nat → Int} {i : Int} {s P j9 : Nat} (hΓ : zBase Γ) (hB : ∀ n, n ≤ 200 → h 102 n = b n) (hs : s ≤ 30) (hP : j9 < P ∧ P ≤ 30) (hgo : zgo b 5 30 s P 0 = true) (hQ : Q (some (zI ((ztl b 5 30 s P (j9 + 1)).2 : Int))) Γ h) : ∀ (m : Nat) (k : Nat) (c : Int), j9 + 1 - k < m → k ≤ j9 + 1 → (k = 0 ∨ c = ((ztl b 5 30 s P k).2 : Int)) → (k ≤ j9 → ∀ p : Nat, 1 ≤ p → p ≤ 30 → p ≤ s - (ztl b 5 30 s P k).1 → b p = 0 → zEf b 30 (P - k - 1) (s - (ztl b 5 30 s P k).1 - p) = true → (p : Int) ≤ c) → zG (zFn l mX9_family 1682 0 0 Γ Q) 0 0 Γ h 99 [some (zR 89), some (zI i), some (zI (s : Int)), some (zI (j9 : Int)), some (zI (P : Int)), some (zI ((s - (ztl b 5 30 s P k).1 : Nat) : Int)), some (zI c), some (zI (k : Int))] [] := by
  intro m
  induction m with
  | zero => intros; omega
  | succ m ih =>
    intro k c hm hk1 hp9 hM
    have htk0 := ztl_b b 5 30 s P k
    refine z_il7 dX9_family_99 ?_
    refine z_il3 dX9_family_101 ?_
    refine z_icmp_gt (t := 164) dX9_family_102 (by rfl) (fun ht102 => ?_) (fun hf102 => ?_)
    · refine z_il6 dX9_family_164 ?_
      refine z_iret dX9_family_166 rfl (Nat.le_refl _) (Nat.le_refl _) (zext_rf _) (fun hrr => ?_)
      have ek : k = j9 + 1 := by omega
      rcases hp9 with hp9 | hp9
      · omega
      · subst ek; rw [hp9]; exact hQ
    · refine z_il6 dX9_family_105 ?_
      refine z_il5 dX9_family_107 ?_
      refine z_mmin dX9_family_109 zkX9_347 ztJ9_min_7cf53 (Nat.le_of_ble_eq_true rfl) (by first | decide | omega) ⟨Nat.le_refl _, Nat.le_refl _⟩ ?_
      refine z_is6 dX9_family_112 (Nat.le_of_ble_eq_true rfl) rfl ?_
      have htk := ztl_b b 5 30 s P k
      have hok := ztl_ok hgo k (by omega)
      rw [zgo_E _ _ _ _ htk, show P - k = (P - k - 1) + 1 by omega] at hok
      obtain ⟨a, ha, ha1, ha2, ha3, ha4, ha5, ha6⟩ := zEf_gr hok
      have hac : (a : Int) ≤ c := hM (by omega) a ha1 ha2 ha3 ha4 (zEf_mono ha2 _ _ ha5)
      rw [← zgf_5 b s _ _ htk _ (by omega)] at ha
      obtain ⟨c9, rfl⟩ := Int.eq_ofNat_of_zero_le (show 0 ≤ c by omega)
      rw [show (if ((s - (ztl b 5 30 s P k).1 : Nat) : Int) < (c9 : Int) then ((s - (ztl b 5 30 s P k).1 : Nat) : Int) else (c9 : Int)) = ((min c9 (s - (ztl b 5 30 s P k).1) : Nat) : Int) by split <;> omega]
      have hz9 : zgr (zLf b (P - k - 1) (s - (ztl b 5 30 s P k).1)) (min c9 (s - (ztl b 5 30 s P k).1)) = a := by
        refine zgr_is ha1 ?_ (by omega) (fun p p1 p2 => ?_)
        · unfold zLf; rw [ha5, decide_eq_true ha4]; rfl
        · cases hp : zLf b (P - k - 1) (s - (ztl b 5 30 s P k).1) p with
          | false => rfl
          | true =>
            unfold zLf at hp
            simp only [Bool.and_eq_true, decide_eq_true_eq] at hp
            have := ha6 p (by omega) (by omega) (by omega) hp.1 (zEf_mono (by omega) _ _ hp.2)
            omega
      refine X9_fm_c hΓ hB (by omega) (by omega) ha1 ?_ _ _ (Nat.lt_succ_self _) (by omega) hz9
      refine z_il5 dX9_family_151 ?_
      refine z_il6 dX9_family_153 ?_
      refine z_isub dX9_family_155 (by omega) ?_
      refine z_is5 dX9_family_156 (Nat.le_of_ble_eq_true rfl) rfl ?_
      refine z_ii7 dX9_family_158 (by omega) (Nat.le_of_ble_eq_true rfl) rfl ?_
      refine z_goto (t := 99) dX9_family_161 (by rfl) ?_
      have e7 : (ztl b 5 30 s P (k + 1)).1 = (ztl b 5 30 s P k).1 + a := by rw [ha]; rfl
      have e6 : (ztl b 5 30 s P (k + 1)).2 = a := by rw [ha]; rfl
      refine cast ?_ (ih (k + 1) (a : Int) (by omega) (by omega) (Or.inr (by rw [e6])) (fun hk p p1 p2 p3 p4 p5 => ?_))
      · rw [e7, show ((s - ((ztl b 5 30 s P k).1 + a) : Nat) : Int) = ((s - (ztl b 5 30 s P k).1 : Nat) : Int) - (a : Int) by omega]; rfl
      · have h9 := ha6 p p1 p2 (by omega) p4 (by
          rw [show P - k - 1 = (P - (k + 1) - 1) + 1 by omega, zEf_s]
          refine ⟨a, ha1, ha2, by omega, ha4, ?_⟩
          rw [show s - (ztl b 5 30 s P k).1 - p - a = s - (ztl b 5 30 s P (k + 1)).1 - p by omega]
          exact p5)
        omega
set_option maxRecDepth 4000 in
theorem X9_fm_a {l : Launch} {Γ : zC} {h : zM} {Q : Option zV → zC → zM → Prop} {b : Nat → Int} {i j : Int} {s : Nat} (hΓ : zBase Γ) (hB : ∀ n, n ≤ 200 → h 102 n = b n) (hs : s ≤ 30) (hj : -1 ≤ j) : ∀ (m : Nat) (k : Nat), 61 - k < m → 1 ≤ k → k ≤ s + 1 → Q (some (zI (if j = -1 then (zlf (zFm b s) (61 - k) k) else if j < 0 ∨ (zlf (zFm b s) (61 - k) k) ≤ j then -1 else ((ztl b 5 30 s (zlf (zFm b s) (61 - k) k).toNat (j.toNat + 1)).2 : Int)))) Γ h → zG (zFn l mX9_family 1682 0 0 Γ Q) 0 0 Γ h 44 [some (zR 89), some (zI i), some (zI (s : Int)), some (zI j), some (zI (k : Int)), none, none, none] [] := by
  intro m
  induction m with
  | zero => intros; omega
  | succ m ih =>
    intro k hm hk1 hk2 hQ
    refine z_il4 dX9_family_44 ?_
    refine z_il2 dX9_family_46 ?_
    refine z_icmp_gt (t := 173) dX9_family_47 (by rfl) (fun ht47 => ?_) (fun hf47 => ?_)
    · refine z_iconst dX9_family_173 (by decide) ?_
      refine z_iret dX9_family_174 rfl (Nat.le_refl _) (Nat.le_refl _) (zext_rf _) (fun hrr => ?_)
      rw [zlf_no _ _ (fun q h1 h2 => zFm_0 (by omega))] at hQ
      first
      | exact hQ
      | (by_cases ej : j = -1
         · rw [if_pos ej] at hQ; exact hQ
         · rw [if_neg ej, if_pos (by omega)] at hQ; exact hQ)
    · refine z_al0 dX9_family_50 (by first | decide | omega | assumption) ?_
      refine z_getR zfX9_68 dX9_family_51 (zkB hΓ rfl) rfl (zsB hΓ rfl) (zvB hΓ (by decide)) ?_
      refine z_il4 dX9_family_54 ?_
      refine z_zald dX9_family_56 (zkB hΓ rfl) (by omega) (by omega) ?_
      try simp only [Int.toNat_natCast]
      rw [hB _ (by omega)]
      try simp only [zup_ap, zup_row, ne_eq, not_false_eq_true, zres, Int.toNat_natCast, reduceIte, Nat.reduceEqDiff, Nat.reduceAdd, and_self, and_true, true_and, and_false, false_and]
      refine z_if_ne (t := 167) dX9_family_57 (by rfl) (fun ht57 => ?_) (fun hf57 => ?_)
      · refine z_ii4 dX9_family_167 (by omega) (Nat.le_of_ble_eq_true rfl) rfl ?_
        refine z_goto (t := 44) dX9_family_170 (by rfl) ?_
        rw [show 61 - k = (61 - (k + 1)) + 1 by omega, zlf_n (f := zFm b s) (by unfold zFm; first | (rw [← zEf_cap hs, hp9]; simp; done) | (rw [decide_eq_false (by omega)]; simp; done))] at hQ
        exact ih (k + 1) (by omega) (by omega) (by omega) hQ
      · refine z_al0 dX9_family_60 (by first | decide | omega | assumption) ?_
        refine z_il2 dX9_family_61 ?_
        refine z_il4 dX9_family_62 ?_
        refine z_il2 dX9_family_64 ?_
        refine zcv3 dX9_family_65 zkX9_359 ziX9_lands zsX9_lands (zkB hΓ rfl) (by decide) rfl (Nat.le_of_ble_eq_true rfl) (by decide) (by first | decide | omega) ⟨Nat.le_refl _, Nat.le_refl _⟩ (X9_lands_ct hΓ hB k (by omega) (n := s) (m := s) (by omega) (by omega) (fun hp9 _ => ?_) (fun hp9 _ => ?_))
        · try simp only [zup_ap, zup_row, ne_eq, not_false_eq_true, zres, Int.toNat_natCast, reduceIte, Nat.reduceEqDiff, Nat.reduceAdd, and_self, and_true, true_and, and_false, false_and]
          refine z_if_ne (t := 74) dX9_family_68 (by rfl) (fun hx => absurd hx (by decide)) (fun _ => ?_)
          refine z_goto (t := 167) dX9_family_71 (by rfl) ?_
          refine z_ii4 dX9_family_167 (by omega) (Nat.le_of_ble_eq_true rfl) rfl ?_
          refine z_goto (t := 44) dX9_family_170 (by rfl) ?_
          rw [show 61 - k = (61 - (k + 1)) + 1 by omega, zlf_n (f := zFm b s) (by unfold zFm; first | (rw [← zEf_cap hs, hp9]; simp; done) | (rw [decide_eq_false (by omega)]; simp; done))] at hQ
          exact ih (k + 1) (by omega) (by omega) (by omega) hQ
        · try simp only [zup_ap, zup_row, ne_eq, not_false_eq_true, zres, Int.toNat_natCast, reduceIte, Nat.reduceEqDiff, Nat.reduceAdd, and_self, and_true, true_and, and_false, false_and]
          refine z_if_ne (t := 74) dX9_family_68 (by rfl) (fun _ => ?_) (fun hx => absurd hx (by decide))
          have hf9 : zFm b s k = true := by
            unfold zFm; rw [← zEf_cap hs, hp9, decide_eq_true (by omega)]; rfl
          rw [show 61 - k = (61 - (k + 1)) + 1 by omega, zlf_y hf9] at hQ
          have hgo : zgo b 5 30 s k 0 = true := by rw [zgo_E _ _ _ _ (Nat.zero_le _), Nat.sub_zero, ← zEf_cap hs, hp9]
          refine z_il3 dX9_family_74 ?_
          refine z_iconst dX9_family_75 (by decide) ?_
          refine z_icmp_ne (t := 82) dX9_family_76 (by rfl) (fun ht76 => ?_) (fun hf76 => ?_)
          · refine z_il3 dX9_family_82 ?_
            refine z_il4 dX9_family_83 ?_
            refine z_icmp_lt (t := 90) dX9_family_85 (by rfl) (fun ht85 => ?_) (fun hf85 => ?_)
            · refine z_il2 dX9_family_90 ?_
              refine z_is5 dX9_family_91 (Nat.le_of_ble_eq_true rfl) rfl ?_
              refine z_il2 dX9_family_93 ?_
              refine z_is6 dX9_family_94 (Nat.le_of_ble_eq_true rfl) rfl ?_
              refine z_iconst dX9_family_96 (by decide) ?_
              refine z_is7 dX9_family_97 (Nat.le_of_ble_eq_true rfl) rfl ?_
              obtain ⟨j9, rfl⟩ := Int.eq_ofNat_of_zero_le (show 0 ≤ j by omega)
              rw [if_neg (by omega), if_neg (by omega), Int.toNat_natCast, Int.toNat_natCast] at hQ
              exact X9_fm_b hΓ hB hs (by omega) hgo hQ _ 0 _ (Nat.lt_succ_self _) (Nat.zero_le _) (Or.inl rfl) (fun _ p _ _ p3 _ _ => by show (p : Int) ≤ (s : Int); omega)
            · refine z_iconst dX9_family_88 (by decide) ?_
              refine z_iret dX9_family_89 rfl (Nat.le_refl _) (Nat.le_refl _) (zext_rf _) (fun hrr => ?_)
              rw [if_neg (by omega), if_pos (by omega)] at hQ
              exact hQ
          · refine z_il4 dX9_family_79 ?_
            refine z_iret dX9_family_81 rfl (Nat.le_refl _) (Nat.le_refl _) (zext_rf _) (fun hrr => ?_)
            rw [if_pos (by omega)] at hQ
            exact hQ
set_option maxRecDepth 4000 in
theorem X9_family_ct {l : Launch} {Γ : zC} {h0 h : zM} {Q : Option zV → zC → zM → Prop} {i s j : Int} (hI : zIv Γ h0) (hF : zfr zSS h0 h) (hQ : ∀ h9, zfr zSS h0 h9 → Q (some (zI (zvFamily h0 i s j))) Γ h9) : zCT l mX9_family 1682 0 0 Γ [zR 89, zI i, zI s, zI j] h Q := by
  have hΓ := hI.base
  have hx2 := hI.isl
  have hx3 := hI.hnd
  obtain ⟨hd, hhd⟩ := Int.eq_ofNat_of_zero_le (show 0 ≤ h0 89 32 by omega)
  have hdn : (h0 89 32).toNat = hd := by omega
  have hnw := hI.now
  refine zCT_of (by decide) (Nat.le_of_ble_eq_true rfl) (ls := [some (zR 89), some (zI i), some (zI s), some (zI j), none, none, none, none]) rfl ?_
  refine z_al0 dX9_family_0 (by first | decide | omega | assumption) ?_
  refine z_iconst dX9_family_1 (by decide) ?_
  refine z_putI zfX9_128 dX9_family_2 (zkB hΓ rfl) rfl rfl ?_
  replace hF : zfr zSS h0 (zup h 89 0 0) := zfr_up hF rfl
  generalize zup h 89 0 0 = h at hF ⊢
  refine z_al0 dX9_family_5 (by first | decide | omega | assumption) ?_
  refine z_il1 dX9_family_6 ?_
  refine zcv1 dX9_family_7 zkX9_299 ziX9_isIsle zsX9_isIsle (zkB hΓ rfl) (by decide) rfl (Nat.le_of_ble_eq_true rfl) (by decide) (by first | decide | omega) ⟨Nat.le_refl _, Nat.le_refl _⟩ (X9_isIsle_ct hI hF (fun hg1 _ => ?_) (fun hg1 _ => ?_))
  · try simp only [zup_ap, zup_row, ne_eq, not_false_eq_true, zres, Int.toNat_natCast, reduceIte, Nat.reduceEqDiff, Nat.reduceAdd, and_self, and_true, true_and, and_false, false_and]
    refine z_if_eq (t := 30) dX9_family_10 (by rfl) (fun _ => ?_) (fun hx => absurd hx (by decide))
    refine z_iconst dX9_family_30 (by decide) ?_
    refine z_iret dX9_family_31 rfl (Nat.le_refl _) (Nat.le_refl _) (zext_rf _) (fun hrr => ?_)
    first
    | (have hw9 := hQ _ hF
       unfold zvFamily at hw9
       rw [if_neg (by omega)] at hw9
       exact hw9)
    | (have hw9 := hQ _ hF
       unfold zvFamily at hw9
       rw [if_pos (by omega)] at hw9
       unfold zrp at hw9
       rw [if_neg (by omega), if_pos (by omega)] at hw9
       exact hw9)
  · try simp only [zup_ap, zup_row, ne_eq, not_false_eq_true, zres, Int.toNat_natCast, reduceIte, Nat.reduceEqDiff, Nat.reduceAdd, and_self, and_true, true_and, and_false, false_and]
    refine z_if_eq (t := 30) dX9_family_10 (by rfl) (fun hx => absurd hx (by decide)) (fun _ => ?_)
    refine z_il2 dX9_family_13 ?_
    refine z_i2l dX9_family_14 ?_
    refine z_lconst (x := 1) dX9_family_15 (by rfl) (by decide) ?_
    refine z_ldc2 (x := 30) dX9_family_16 zqX9_362 (by decide) ?_
    refine zcs3 dX9_family_19 zkX9_261 ztX9_isIn (Nat.le_of_ble_eq_true rfl) (by decide) (by first | decide | omega) ⟨Nat.le_refl _, Nat.le_refl _⟩ (X9_isIn_ct (fun hg2 _ => ?_) (fun hg2 _ => ?_))
    · try simp only [zup_ap, zup_row, ne_eq, not_false_eq_true, zres, Int.toNat_natCast, reduceIte, Nat.reduceEqDiff, Nat.reduceAdd, and_self, and_true, true_and, and_false, false_and]
      refine z_if_eq (t := 30) dX9_family_22 (by rfl) (fun _ => ?_) (fun hx => absurd hx (by decide))
      refine z_iconst dX9_family_30 (by decide) ?_
      refine z_iret dX9_family_31 rfl (Nat.le_refl _) (Nat.le_refl _) (zext_rf _) (fun hrr => ?_)
      first
      | (have hw9 := hQ _ hF
         unfold zvFamily at hw9
         rw [if_neg (by omega)] at hw9
         exact hw9)
      | (have hw9 := hQ _ hF
         unfold zvFamily at hw9
         rw [if_pos (by omega)] at hw9
         unfold zrp at hw9
         rw [if_neg (by omega), if_pos (by omega)] at hw9
         exact hw9)
    · try simp only [zup_ap, zup_row, ne_eq, not_false_eq_true, zres, Int.toNat_natCast, reduceIte, Nat.reduceEqDiff, Nat.reduceAdd, and_self, and_true, true_and, and_false, false_and]
      refine z_if_eq (t := 30) dX9_family_22 (by rfl) (fun hx => absurd hx (by decide)) (fun _ => ?_)
      refine z_il3 dX9_family_25 ?_
      refine z_iconst dX9_family_26 (by decide) ?_
      refine z_icmp_ge (t := 32) dX9_family_27 (by rfl) (fun ht27 => ?_) (fun hf27 => ?_)
      · refine z_al0 dX9_family_32 (by first | decide | omega | assumption) ?_
        refine z_il1 dX9_family_33 ?_
        refine z_al0 dX9_family_34 (by first | decide | omega | assumption) ?_
        refine z_getI zfX9_288 dX9_family_35 (zkB hΓ rfl) rfl ?_
        rw [hF 89 29 rfl]
        try simp only [zup_ap, zup_row, ne_eq, not_false_eq_true, zres, Int.toNat_natCast, reduceIte, Nat.reduceEqDiff, Nat.reduceAdd, and_self, and_true, true_and, and_false, false_and]
        refine zcv2 dX9_family_38 zkX9_337 ziX9_layBad zsX9_layBad (zkB hΓ rfl) (by decide) rfl (Nat.le_of_ble_eq_true rfl) (by decide) (by first | decide | omega) ⟨Nat.le_refl _, Nat.le_refl _⟩ (X9_layBad_ct hI hF hg1 (fun h2 hA2 hB2 _ => ?_))
        try simp only [zup_ap, zup_row, ne_eq, not_false_eq_true, zres, Int.toNat_natCast, reduceIte, Nat.reduceEqDiff, Nat.reduceAdd, and_self, and_true, true_and, and_false, false_and]
        replace hF := zfr_B hF zs102 hA2
        obtain ⟨s, rfl⟩ := Int.eq_ofNat_of_zero_le (show 0 ≤ s by omega)
        have hw9 := hQ _ hF
        unfold zvFamily at hw9
        rw [if_pos (by omega)] at hw9
        unfold zrp at hw9
        rw [zpar_f, Int.toNat_natCast] at hw9
        refine z_iconst dX9_family_41 (by decide) ?_
        refine z_is4 dX9_family_42 (Nat.le_of_ble_eq_true rfl) rfl ?_
        exact X9_fm_a hΓ hB2 (by omega) (by omega) _ 1 (Nat.lt_succ_self _) (by omega) (by omega) hw9
      · refine z_iconst dX9_family_30 (by decide) ?_
        refine z_iret dX9_family_31 rfl (Nat.le_refl _) (Nat.le_refl _) (zext_rf _) (fun hrr => ?_)
        first
        | (have hw9 := hQ _ hF
           unfold zvFamily at hw9
           rw [if_neg (by omega)] at hw9
           exact hw9)
        | (have hw9 := hQ _ hF
           unfold zvFamily at hw9
           rw [if_pos (by omega)] at hw9
           unfold zrp at hw9
           rw [if_neg (by omega), if_pos (by omega)] at hw9
           exact hw9)
