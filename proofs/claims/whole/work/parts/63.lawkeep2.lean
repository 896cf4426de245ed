/-! what holds, kept: good, image, back, feed, drown; the law's out -/
def zS121 (r j : Nat) : Bool := Nat.beq r 121
theorem zIv_out {Γ : zC} {h h' : zM} (e : zfr zS121 h h') (H : zIv Γ h) : zIv Γ h' := by
  have R : ∀ r, (∀ j, zS121 r j = false) → h' r = h r := fun r q => funext (fun j => e r j (q j))
  refine zIv.mk H.base ?_ ?_ ?_ ?_ ?_ ?_ ?_ ?_ ?_ ?_ ?_ ?_ ?_ ?_ ?_ ?_ ?_ ?_ ?_ ?_ ?_ ?_ ?_
  · rw [e 89 7 rfl]; exact H.num
  · rw [e 89 6 rfl]; exact H.len
  · rw [e 89 6 rfl, e 2 1 rfl]; exact H.tln
  · rw [e 89 6 rfl, R 3 (fun _ => rfl), R 90 (fun _ => rfl)]; exact H.tap
  · rw [e 89 22 rfl]; exact H.isl
  · rw [e 89 22 rfl, e 16 0 rfl]; exact H.cisl
  · rw [R 17 (fun _ => rfl), R 94 (fun _ => rfl), e 89 22 rfl]; exact H.tab
  · intro a b ha hb
    have ea : h' (19 + a) = h (19 + a) := R _ (fun j => by
      rcases (show a = 0 ∨ a = 1 ∨ a = 2 ∨ a = 3 ∨ a = 4 ∨ a = 5 by omega) with rfl | rfl | rfl | rfl | rfl | rfl <;> rfl)
    rw [ea, R 96 (fun _ => rfl)]; exact H.day a b ha hb
  · rw [e 89 29 rfl, e 25 0 rfl]; exact H.now
  · rw [e 89 28 rfl, e 25 1 rfl]; exact H.chn
  · rw [R 26 (fun _ => rfl), R 27 (fun _ => rfl), R 28 (fun _ => rfl), R 99 (fun _ => rfl), R 100 (fun _ => rfl), R 101 (fun _ => rfl)]; exact H.chr
  · rw [e 89 51 rfl, e 25 2 rfl]; exact H.sdn
  · rw [R 29 (fun _ => rfl), R 30 (fun _ => rfl), R 31 (fun _ => rfl), R 113 (fun _ => rfl), R 114 (fun _ => rfl), R 115 (fun _ => rfl)]; exact H.sdr
  · rw [e 89 51 rfl, e 89 22 rfl, R 113 (fun _ => rfl), R 114 (fun _ => rfl)]; exact H.sdv
  · rw [e 89 60 rfl, e 1 10 rfl]; exact H.img
  · rw [e 89 60 rfl, e 34 0 rfl, e 34 1 rfl, e 34 2 rfl, e 89 59 rfl, e 89 57 rfl, e 89 58 rfl, e 89 22 rfl, R 120 (fun _ => rfl), R 35 (fun _ => rfl), R 36 (fun _ => rfl), R 37 (fun _ => rfl), R 38 (fun _ => rfl), R 39 (fun _ => rfl), R 40 (fun _ => rfl)]; exact H.imr
  · rw [e 89 7 rfl, e 15 3 rfl]; exact H.cus
  · rw [e 89 7 rfl, e 89 22 rfl, R 32 (fun _ => rfl), R 98 (fun _ => rfl)]; exact H.cof
  · intro c hc
    rw [e 89 7 rfl] at hc
    obtain ⟨a1, a2, a3, a4, a5, a6, a7⟩ := H.txt c hc
    have e9 := zcd_cg (R 91 (fun _ => rfl)) (R 92 (fun _ => rfl)) c
    have e8 : zTxt h' c = zTxt h c := by unfold zTxt; rw [R 91 (fun _ => rfl)]
    refine ⟨?_, ?_, ?_, a4, ?_, ?_, fun j hj => ?_⟩
    · rw [R 92 (fun _ => rfl)]; exact a1
    · rw [e9, e8, R 92 (fun _ => rfl)]; exact a2
    · rw [R 33 (fun _ => rfl)]; exact a3
    · rw [e9]; exact a5
    · rw [e9]; exact a6
    · rw [e9] at hj ⊢
      rw [e _ _ (by
        cases h9 : Nat.beq (123 + 3 * c) 121 with
        | false => exact h9
        | true => have := Nat.eq_of_beq_eq_true h9; omega)]
      exact a7 j hj
  · rw [e 89 32 rfl, e 1 11 rfl]; exact H.hnd
  · rw [R 106 (fun _ => rfl), R 86 (fun _ => rfl)]; exact H.wts
  · rw [e 89 39 rfl, e 77 2 rfl]; exact H.gds
  · intro g i hg hi
    rw [e 89 39 rfl] at hg
    have hg3 := H.gds
    have ea : h' (79 + g) = h (79 + g) := R _ (fun j => by
      rcases (show g = 0 ∨ g = 1 ∨ g = 2 by omega) with rfl | rfl | rfl <;> rfl)
    rw [ea, R 107 (fun _ => rfl)]; exact H.prc g i hg hi
theorem zTbF_out (h : zM) (x a b : Int) : ∀ k, zTbF (zup h 121 0 x) a b k = zTbF h a b k
  | 0 => rfl
  | k + 1 => by
    have ih := zTbF_out h x a b k
    show (if zup h 121 0 x 99 k = a ∧ zup h 121 0 x 100 k ≤ b ∧ (zTbF (zup h 121 0 x) a b k).1 ≤ zup h 121 0 x 100 k then (zup h 121 0 x 100 k, zup h 121 0 x 101 k) else zTbF (zup h 121 0 x) a b k) = _
    rw [ih]
    rfl
theorem zTb_out (h : zM) (x a b : Int) : zTb (zup h 121 0 x) a b = zTb h a b := by
  show (zTbF (zup h 121 0 x) a b (zup h 121 0 x 89 28).toNat).2 = _
  rw [zTbF_out]
  rfl
theorem zfr_121 {h : zM} {x : Int} : zfr zS121 h (zup h 121 0 x) := fun r j q => by
  rw [zup_row (fun e => by subst e; cases q)]
theorem zK_good {Γ : zC} {h h1 h2 : zM} {g : Nat} (hI : zIv Γ h) (hg : h 89 39 = (g : Int)) (hc : h 89 22 ≠ 0 ∧ h 89 39 < 3) (E1 : ∀ a, a ≠ 79 + g → h1 a = h a) (V1 : ∀ j, j < 6 → h1 (79 + g) j = 10) (E2 : ∀ a, a ≠ 107 → h2 a = (zup (zup h1 77 2 ((g : Int) + 1)) 89 0 0) a) (E3 : ∀ j, (j < 6 * g ∨ 6 * g + 6 ≤ j) → h2 107 j = (zup (zup h1 77 2 ((g : Int) + 1)) 89 0 0) 107 j) (V2 : ∀ j, j < 6 → h2 107 (6 * g + j) = 10) : zIv Γ (zup h2 89 39 ((g : Int) + 1)) ∧ (zup h2 89 39 ((g : Int) + 1)) 89 30 = h 89 30 := by
  have hg3 : g < 3 := by omega
  have key : zfr (zSx zc_good) h (zup h2 89 39 ((g : Int) + 1)) := fun r j q => by
    have n107 : r ≠ 107 := fun e => by subst e; cases q
    have n39 : ¬ (r = 89 ∧ j = 39) := fun e => by obtain ⟨rfl, rfl⟩ := e; cases q
    have n0 : ¬ (r = 89 ∧ j = 0) := fun e => by obtain ⟨rfl, rfl⟩ := e; cases q
    have n77 : ¬ (r = 77 ∧ j = 2) := fun e => by obtain ⟨rfl, rfl⟩ := e; cases q
    have ng : r ≠ 79 + g := fun e => by
      rcases (show g = 0 ∨ g = 1 ∨ g = 2 by omega) with rfl | rfl | rfl <;> (subst e; cases q)
    rw [zup_ap, if_neg n39, E2 r n107, zup_ap, if_neg n0, zup_ap, if_neg n77, E1 r ng]
  refine ⟨zIv_good key hI ?_ (fun g' i hg' hi => ?_), key 89 30 rfl⟩
  · rw [zup_row (by decide), E2 77 (by decide), zup_row (by decide), zup_rj, zup_rj]
    omega
  · rw [zup_rj] at hg'
    rw [zup_row (by omega), zup_row (by decide)]
    by_cases e : g' = g
    · subst e
      rw [E2 _ (by omega), zup_row (by omega), zup_row (by omega), V1 i hi, V2 i hi]
      omega
    · rw [E2 _ (by omega), zup_row (by omega), zup_row (by omega), E1 _ (by omega), E3 _ (by omega), zup_row (by decide), zup_row (by decide), E1 _ (by omega)]
      exact hI.prc g' i (by omega) hi
theorem zK_image {Γ : zC} {h h1 h2 : zM} (hI : zIv Γ h) (a1 : h1 34 0 = h 25 0 ∧ h1 34 1 = h 25 1 ∧ h1 34 2 = h 25 2) (a2 : ∀ j, j < 20 → h1 35 j = h 26 j ∧ h1 36 j = h 27 j ∧ h1 37 j = h 28 j) (a3 : ∀ j, j < 40 → h1 38 j = h 29 j ∧ h1 39 j = h 30 j ∧ h1 40 j = h 31 j) (a4 : ∀ q, q ≠ 34 → ¬ (35 ≤ q ∧ q ≤ 40) → h1 q = h q) (a5 : ∀ j, 3 ≤ j → h1 34 j = h 34 j)
    (b1 : ∀ q, q ≠ 89 → q ≠ 120 → h2 q = (zup h1 1 10 1) q) (b2 : ∀ j, j ≠ 0 → j ≠ 57 → j ≠ 58 → j ≠ 59 → j ≠ 60 → h2 89 j = (zup h1 1 10 1) 89 j) (b3 : h2 89 57 = (zup h1 1 10 1) 89 28 ∧ h2 89 58 = (zup h1 1 10 1) 89 51 ∧ h2 89 59 = (zup h1 1 10 1) 89 29 ∧ h2 89 60 = 1) (b4 : ∀ j, j < 20 → h2 120 (3 * j) = (zup h1 1 10 1) 99 j ∧ h2 120 (3 * j + 1) = (zup h1 1 10 1) 100 j ∧ h2 120 (3 * j + 2) = (zup h1 1 10 1) 101 j) (b5 : ∀ j, j < 40 → h2 120 (60 + 3 * j) = (zup h1 1 10 1) 113 j ∧ h2 120 (60 + 3 * j + 1) = (zup h1 1 10 1) 114 j ∧ h2 120 (60 + 3 * j + 2) = (zup h1 1 10 1) 115 j) : zIv Γ h2 ∧ h2 89 30 = h 89 30 := by
  have m : ∀ q, q ≠ 1 → q ≠ 34 → ¬ (35 ≤ q ∧ q ≤ 40) → (zup h1 1 10 1) q = h q := fun q x y z => by rw [zup_row x, a4 q y z]
  have m34 : ∀ q, (34 ≤ q ∧ q ≤ 40) → h2 q = h1 q := fun q x => by rw [b1 q (by omega) (by omega), zup_row (by omega)]
  have key : zfr (zSx zc_image) h h2 := fun r j q => by
    have n120 : r ≠ 120 := fun e => by subst e; cases q
    have n10 : ¬ (r = 1 ∧ j = 10) := fun e => by obtain ⟨rfl, rfl⟩ := e; cases q
    have n35 : ¬ (35 ≤ r ∧ r ≤ 40) := fun e => by
      rcases (show r = 35 ∨ r = 36 ∨ r = 37 ∨ r = 38 ∨ r = 39 ∨ r = 40 by omega) with rfl | rfl | rfl | rfl | rfl | rfl <;> cases q
    by_cases r9 : r = 89
    · subst r9
      rw [b2 j (fun e => by subst e; cases q) (fun e => by subst e; cases q) (fun e => by subst e; cases q) (fun e => by subst e; cases q) (fun e => by subst e; cases q), m 89 (by decide) (by decide) (by omega)]
    · rw [b1 r r9 n120, zup_ap, if_neg n10]
      by_cases r4 : r = 34
      · subst r4
        have x0 : j ≠ 0 := fun e => by subst e; cases q
        have x1 : j ≠ 1 := fun e => by subst e; cases q
        have x2 : j ≠ 2 := fun e => by subst e; cases q
        exact a5 j (by omega)
      · rw [a4 r r4 n35]
  have m9 : (zup h1 1 10 1) 89 = h 89 := m 89 (by decide) (by decide) (by omega)
  refine ⟨zIv_image key hI ?_ (fun _ => ⟨?_, ?_, ?_, fun j hj => ?_, fun j hj => ?_, fun j hj => ?_⟩), key 89 30 rfl⟩
  · rw [b1 1 (by decide) (by decide), zup_rj, b3.2.2.2]; exact ⟨rfl, Or.inr rfl⟩
  · rw [m34 34 (by omega), a1.1, b3.2.2.1, m9]; exact hI.now
  · rw [m34 34 (by omega), a1.2.1, b3.1, m9]; exact hI.chn
  · rw [m34 34 (by omega), a1.2.2, b3.2.1, m9]; exact hI.sdn
  · obtain ⟨x1, x2, x3⟩ := a2 j hj
    obtain ⟨y1, y2, y3⟩ := b4 j hj
    rw [m34 35 (by omega), m34 36 (by omega), m34 37 (by omega), x1, x2, x3, y1, y2, y3, m 99 (by decide) (by decide) (by omega), m 100 (by decide) (by decide) (by omega), m 101 (by decide) (by decide) (by omega)]
    exact hI.chr j hj
  · obtain ⟨x1, x2, x3⟩ := a3 j hj
    obtain ⟨y1, y2, y3⟩ := b5 j hj
    rw [m34 38 (by omega), m34 39 (by omega), m34 40 (by omega), x1, x2, x3, y1, y2, y3, m 113 (by decide) (by decide) (by omega), m 114 (by decide) (by decide) (by omega), m 115 (by decide) (by decide) (by omega)]
    exact hI.sdr j hj
  · rw [b3.2.1, m9] at hj
    have hs := hI.sdn
    obtain ⟨y1, y2, y3⟩ := b5 j (by omega)
    rw [y1, y2, m 113 (by decide) (by decide) (by omega), m 114 (by decide) (by decide) (by omega), b2 22 (by decide) (by decide) (by decide) (by decide) (by decide), m9]
    exact hI.sdv j hj
theorem zK_back {Γ : zC} {h h1 h2 : zM} (hI : zIv Γ h) (h60 : h 89 60 = 1) (a1 : h1 25 0 = h 34 0 ∧ h1 25 1 = h 34 1 ∧ h1 25 2 = h 34 2) (a2 : ∀ j, j < 20 → h1 26 j = h 35 j ∧ h1 27 j = h 36 j ∧ h1 28 j = h 37 j) (a3 : ∀ j, j < 40 → h1 29 j = h 38 j ∧ h1 30 j = h 39 j ∧ h1 31 j = h 40 j) (a4 : ∀ q, q ≠ 25 → ¬ (26 ≤ q ∧ q ≤ 31) → h1 q = h q) (a5 : ∀ j, 3 ≤ j → h1 25 j = h 25 j)
    (b1 : ∀ q, q ≠ 89 → ¬ (99 ≤ q ∧ q ≤ 101) → ¬ (113 ≤ q ∧ q ≤ 115) → h2 q = h1 q) (b2 : ∀ j, j ≠ 0 → j ≠ 28 → j ≠ 51 → j ≠ 29 → h2 89 j = h1 89 j) (b3 : h2 89 28 = h1 89 57 ∧ h2 89 51 = h1 89 58 ∧ h2 89 29 = h1 89 59) (b4 : ∀ j, j < 20 → h2 99 j = h1 120 (3 * j) ∧ h2 100 j = h1 120 (3 * j + 1) ∧ h2 101 j = h1 120 (3 * j + 2)) (b5 : ∀ j, j < 40 → h2 113 j = h1 120 (60 + 3 * j) ∧ h2 114 j = h1 120 (60 + 3 * j + 1) ∧ h2 115 j = h1 120 (60 + 3 * j + 2)) : zIv Γ h2 ∧ h2 89 30 = h 89 30 := by
  obtain ⟨i0, i1, i2, i3, i4, i5⟩ := hI.imr h60
  have m9 : h1 89 = h 89 := a4 89 (by decide) (by omega)
  have m120 : h1 120 = h 120 := a4 120 (by decide) (by omega)
  have m25 : ∀ q, (25 ≤ q ∧ q ≤ 31) → h2 q = h1 q := fun q x => b1 q (by omega) (by omega) (by omega)
  have key : zfr (zSx zc_back) h h2 := fun r j q => by
    have n99 : ¬ (99 ≤ r ∧ r ≤ 101) := fun e => by
      rcases (show r = 99 ∨ r = 100 ∨ r = 101 by omega) with rfl | rfl | rfl <;> cases q
    have n113 : ¬ (113 ≤ r ∧ r ≤ 115) := fun e => by
      rcases (show r = 113 ∨ r = 114 ∨ r = 115 by omega) with rfl | rfl | rfl <;> cases q
    have n26 : ¬ (26 ≤ r ∧ r ≤ 31) := fun e => by
      rcases (show r = 26 ∨ r = 27 ∨ r = 28 ∨ r = 29 ∨ r = 30 ∨ r = 31 by omega) with rfl | rfl | rfl | rfl | rfl | rfl <;> cases q
    by_cases r9 : r = 89
    · subst r9
      rw [b2 j (fun e => by subst e; cases q) (fun e => by subst e; cases q) (fun e => by subst e; cases q) (fun e => by subst e; cases q), m9]
    · rw [b1 r r9 n99 n113]
      by_cases r4 : r = 25
      · subst r4
        have x0 : j ≠ 0 := fun e => by subst e; cases q
        have x1 : j ≠ 1 := fun e => by subst e; cases q
        have x2 : j ≠ 2 := fun e => by subst e; cases q
        exact a5 j (by omega)
      · rw [a4 r r4 n26]
  refine ⟨zIv_back key hI ?_ ?_ (fun j hj => ?_) ?_ (fun j hj => ?_) (fun j hj => ?_), key 89 30 rfl⟩
  · rw [m25 25 (by omega), a1.1, b3.2.2, m9]; exact i0
  · rw [m25 25 (by omega), a1.2.1, b3.1, m9]; exact i1
  · obtain ⟨x1, x2, x3⟩ := a2 j hj
    obtain ⟨y1, y2, y3⟩ := b4 j hj
    rw [m25 26 (by omega), m25 27 (by omega), m25 28 (by omega), x1, x2, x3, y1, y2, y3, m120]
    exact i3 j hj
  · rw [m25 25 (by omega), a1.2.2, b3.2.1, m9]; exact i2
  · obtain ⟨x1, x2, x3⟩ := a3 j hj
    obtain ⟨y1, y2, y3⟩ := b5 j hj
    rw [m25 29 (by omega), m25 30 (by omega), m25 31 (by omega), x1, x2, x3, y1, y2, y3, m120]
    exact i4 j hj
  · rw [b3.2.1, m9] at hj
    obtain ⟨y1, y2, y3⟩ := b5 j (by omega)
    rw [y1, y2, m120, b2 22 (by decide) (by decide) (by decide) (by decide), m9]
    exact i5 j hj
theorem zK_feed {Γ : zC} {h h1 h2 : zM} {S : zTp} (hI : zIv Γ h) (hS : S.1 ≤ 160) (a1 : ∀ q, q ≠ 2 → q ≠ 3 → h1 q = h q) (a2 : ∀ i, i ≠ 1 → h1 2 i = h 2 i) (a3 : h1 2 1 = (S.1 : Int)) (a4 : ∀ j, j < S.1 → h1 3 j = S.2 j) (b1 : ∀ q, q ≠ 89 → q ≠ 90 → h2 q = h1 q) (b2 : ∀ i, i ≠ 6 → i ≠ 0 → h2 89 i = h1 89 i) (b3 : h2 89 6 = (S.1 : Int)) (b4 : ∀ j, j < S.1 → h2 90 j % 256 = S.2 j) : zIv Γ h2 ∧ h2 89 30 = h 89 30 := by
  have key : zfr (zSx zc_tape) h h2 := fun r j q => by
    have n3 : r ≠ 3 := fun e => by subst e; cases q
    have n90 : r ≠ 90 := fun e => by subst e; cases q
    by_cases r9 : r = 89
    · subst r9
      rw [b2 j (fun e => by subst e; cases q) (fun e => by subst e; cases q), a1 89 (by decide) (by decide)]
    · rw [b1 r r9 n90]
      by_cases r2 : r = 2
      · subst r2
        exact a2 j (fun e => by subst e; cases q)
      · rw [a1 r r2 n3]
  refine ⟨zIv_tape key hI (by rw [b3]; omega) (by rw [b3, b1 2 (by decide) (by decide), a3]) (fun j hj => ?_), key 89 30 rfl⟩
  rw [b3] at hj
  rw [b1 3 (by decide) (by decide), a4 j (by omega), b4 j (by omega)]
theorem zK_drown {Γ : zC} {h h1 h2 : zM} {S : zDS} (hI : zIv Γ h) (D1 : zDc h1 S) (F1 : zf8 h h1) (D2 : zDr h2 S) (F2 : (∀ q, q ≠ 89 → ¬ (99 ≤ q ∧ q ≤ 101) → h2 q = h1 q) ∧ ∀ j, j ≠ 28 → j ≠ 29 → j ≠ 47 → j ≠ 0 → h2 89 j = h1 89 j) : zIv Γ h2 ∧ h2 89 30 = h 89 30 := by
  obtain ⟨d1, d2, d3, d4, d5, d6⟩ := D1
  obtain ⟨e1, e2, e3, e4, -, -⟩ := D2
  have key : zfr (zSx zc_change) h h2 := fun r j q => by
    have n99 : ¬ (99 ≤ r ∧ r ≤ 101) := fun e => by
      rcases (show r = 99 ∨ r = 100 ∨ r = 101 by omega) with rfl | rfl | rfl <;> cases q
    have n26 : ¬ (26 ≤ r ∧ r ≤ 28) := fun e => by
      rcases (show r = 26 ∨ r = 27 ∨ r = 28 by omega) with rfl | rfl | rfl <;> cases q
    by_cases r9 : r = 89
    · subst r9
      rw [F2.2 j (fun e => by subst e; cases q) (fun e => by subst e; cases q) (fun e => by subst e; cases q) (fun e => by subst e; cases q), F1.1 89 (by omega)]
    · rw [F2.1 r r9 n99]
      by_cases r4 : r = 25
      · subst r4
        exact F1.2 j (fun e => by subst e; cases q) (fun e => by subst e; cases q) (fun e => by subst e; cases q)
      · rw [F1.1 r (by omega)]
  have m : ∀ q, (25 ≤ q ∧ q ≤ 28) → h2 q = h1 q := fun q x => F2.1 q (by omega) (by omega)
  refine ⟨zIv_change key hI ?_ ?_ (fun j hj => ?_), key 89 30 rfl⟩
  · rw [m 25 (by omega), d2, e2]; exact ⟨rfl, d5⟩
  · rw [m 25 (by omega), d3, e3]; exact ⟨rfl, Int.natCast_nonneg _, by omega⟩
  · obtain ⟨x1, x2, x3⟩ := d4 j hj
    obtain ⟨y1, y2, y3⟩ := e4 j hj
    rw [m 26 (by omega), m 27 (by omega), m 28 (by omega), x1, x2, x3, y1, y2, y3]
    exact ⟨rfl, rfl, rfl⟩
def zdS0 (h : zM) : Int × Nat × (Nat → Int × Int × Int) := (h 89 29, (h 89 28).toNat, fun j => (h 99 j, h 100 j, h 101 j))
theorem zK_drS {Γ : zC} {h h1 : zM} (hI : zIv Γ h) (e : ∀ q, q = 89 ∨ (99 ≤ q ∧ q ≤ 101) → h1 q = h q) : ∀ x, zDr (zup (zup h1 89 0 0) 89 47 x) (x, zdS0 h) := fun x => by
  have hn := hI.now
  have hk := hI.chn
  refine ⟨zup_rj _ _ _ _, ?_, ?_, fun j hj => ⟨?_, ?_, ?_⟩, hn.2, ?_⟩
  · rw [zup_ap, if_neg (fun y => absurd y.2 (by decide)), zup_ap, if_neg (fun y => absurd y.2 (by decide)), e 89 (Or.inl rfl)]; rfl
  · rw [zup_ap, if_neg (fun y => absurd y.2 (by decide)), zup_ap, if_neg (fun y => absurd y.2 (by decide)), e 89 (Or.inl rfl)]
    show h 89 28 = (((h 89 28).toNat : Nat) : Int)
    omega
  · rw [zup_row (by decide), zup_row (by decide), e 99 (by omega)]; rfl
  · rw [zup_row (by decide), zup_row (by decide), e 100 (by omega)]; rfl
  · rw [zup_row (by decide), zup_row (by decide), e 101 (by omega)]; rfl
  · show (h 89 28).toNat ≤ 20
    omega
