/-! calls that change what is held; what holds between the calls, kept -/
theorem zble121 {r : Nat} (h : 121 < r) : Nat.ble r 121 = false := by
  cases e : Nat.ble r 121 with
  | false => rfl
  | true => exact absurd (Nat.le_of_ble_eq_true e) (by omega)
def zSx (c : Nat → Nat → Bool) (r j : Nat) : Bool := zSS r j || (Nat.ble r 121 && c r j)
theorem zSx_hi {c : Nat → Nat → Bool} {r j : Nat} (h : 121 < r) : zSx c r j = Nat.beq (r % 3) 1 := by
  unfold zSx
  rw [zSS_hi h, zble121 h]; simp
theorem zfr_x {c : Nat → Nat → Bool} {h0 h : zM} (H : zfr zSS h0 h) : zfr (zSx c) h0 h := fun r j q => H r j (by
  unfold zSx at q
  simp only [Bool.or_eq_false_iff] at q
  exact q.1)
def zc_hand (r j : Nat) : Bool := (Nat.beq r 1 && Nat.beq j 11) || (Nat.beq r 89 && Nat.beq j 32)
set_option maxRecDepth 4000 in
theorem zIv_hand {Γ : zC} {h h' : zM} (e : zfr (zSx zc_hand) h h') (H : zIv Γ h) (hnd : h' 1 11 = h' 89 32 ∧ 1 ≤ h' 89 32 ∧ h' 89 32 ≤ 20) : zIv Γ h' := by
  have R : ∀ r, (∀ j, zSx zc_hand r j = false) → h' r = h r := fun r q => funext (fun j => e r j (q j))
  refine zIv.mk H.base ?_ ?_ ?_ ?_ ?_ ?_ ?_ ?_ ?_ ?_ ?_ ?_ ?_ ?_ ?_ ?_ ?_ ?_ ?_ hnd ?_ ?_ ?_
  · rw [e 89 7 rfl]; exact H.num
  · rw [e 89 6 rfl]; exact H.len
  · rw [e 89 6 rfl, e 2 1 rfl]; exact H.tln
  · rw [e 89 6 rfl, R 3 (fun _ => rfl), R 90 (fun _ => rfl)]; exact H.tap
  · rw [e 89 22 rfl]; exact H.isl
  · rw [e 89 22 rfl, e 16 0 rfl]; exact H.cisl
  · rw [R 17 (fun _ => rfl), R 94 (fun _ => rfl), e 89 22 rfl]; exact H.tab
  · intro a b ha hb
    have ea : h' (19 + a) = h (19 + a) := R _ (fun j => by
      rcases (show a = 0 ∨ a = 1 ∨ a = 2 ∨ a = 3 ∨ a = 4 ∨ a = 5 by omega) with rfl | rfl | rfl | rfl | rfl | rfl <;> rfl)
    rw [ea, R 96 (fun _ => rfl)]; exact H.day a b ha hb
  · rw [e 89 29 rfl, e 25 0 rfl]; exact H.now
  · rw [e 89 28 rfl, e 25 1 rfl]; exact H.chn
  · rw [R 26 (fun _ => rfl), R 27 (fun _ => rfl), R 28 (fun _ => rfl), R 99 (fun _ => rfl), R 100 (fun _ => rfl), R 101 (fun _ => rfl)]; exact H.chr
  · rw [e 89 51 rfl, e 25 2 rfl]; exact H.sdn
  · rw [R 29 (fun _ => rfl), R 30 (fun _ => rfl), R 31 (fun _ => rfl), R 113 (fun _ => rfl), R 114 (fun _ => rfl), R 115 (fun _ => rfl)]; exact H.sdr
  · rw [e 89 51 rfl, e 89 22 rfl, R 113 (fun _ => rfl), R 114 (fun _ => rfl)]; exact H.sdv
  · rw [e 89 60 rfl, e 1 10 rfl]; exact H.img
  · rw [e 89 60 rfl, e 34 0 rfl, e 34 1 rfl, e 34 2 rfl, e 89 59 rfl, e 89 57 rfl, e 89 58 rfl, e 89 22 rfl, R 120 (fun _ => rfl), R 35 (fun _ => rfl), R 36 (fun _ => rfl), R 37 (fun _ => rfl), R 38 (fun _ => rfl), R 39 (fun _ => rfl), R 40 (fun _ => rfl)]; exact H.imr
  · rw [e 89 7 rfl, e 15 3 rfl]; exact H.cus
  · rw [e 89 7 rfl, e 89 22 rfl, R 32 (fun _ => rfl), R 98 (fun _ => rfl)]; exact H.cof
  · intro c hc
    rw [e 89 7 rfl] at hc
    obtain ⟨a1, a2, a3, a4, a5, a6, a7⟩ := H.txt c hc
    have e9 := zcd_cg (R 91 (fun _ => rfl)) (R 92 (fun _ => rfl)) c
    have e8 : zTxt h' c = zTxt h c := by unfold zTxt; rw [R 91 (fun _ => rfl)]
    refine ⟨?_, ?_, ?_, a4, ?_, ?_, fun j hj => ?_⟩
    · rw [R 92 (fun _ => rfl)]; exact a1
    · rw [e9, e8, R 92 (fun _ => rfl)]; exact a2
    · rw [R 33 (fun _ => rfl)]; exact a3
    · rw [e9]; exact a5
    · rw [e9]; exact a6
    · rw [e9] at hj ⊢
      rw [e _ _ (by rw [zSx_hi (by omega), show (123 + 3 * c) % 3 = 0 by omega]; rfl)]
      exact a7 j hj
  · rw [R 106 (fun _ => rfl), R 86 (fun _ => rfl)]; exact H.wts
  · rw [e 89 39 rfl, e 77 2 rfl]; exact H.gds
  · intro g i hg hi
    rw [e 89 39 rfl] at hg
    have hg3 := H.gds
    have ea : h' (79 + g) = h (79 + g) := R _ (fun j => by
      rcases (show g = 0 ∨ g = 1 ∨ g = 2 by omega) with rfl | rfl | rfl <;> rfl)
    rw [ea, R 107 (fun _ => rfl)]; exact H.prc g i hg hi
def zc_weight (r j : Nat) : Bool := Nat.beq r 86 || Nat.beq r 106
set_option maxRecDepth 4000 in
theorem zIv_weight {Γ : zC} {h h' : zM} (e : zfr (zSx zc_weight) h h') (H : zIv Γ h) (wts : ∀ n, 1 ≤ n → n < 100 → (0 ≤ h' 106 n ∧ h' 106 n ≤ 100) ∧ h' 86 n = if h' 106 n = 0 then 1 else h' 106 n - 1) : zIv Γ h' := by
  have R : ∀ r, (∀ j, zSx zc_weight r j = false) → h' r = h r := fun r q => funext (fun j => e r j (q j))
  refine zIv.mk H.base ?_ ?_ ?_ ?_ ?_ ?_ ?_ ?_ ?_ ?_ ?_ ?_ ?_ ?_ ?_ ?_ ?_ ?_ ?_ ?_ wts ?_ ?_
  · rw [e 89 7 rfl]; exact H.num
  · rw [e 89 6 rfl]; exact H.len
  · rw [e 89 6 rfl, e 2 1 rfl]; exact H.tln
  · rw [e 89 6 rfl, R 3 (fun _ => rfl), R 90 (fun _ => rfl)]; exact H.tap
  · rw [e 89 22 rfl]; exact H.isl
  · rw [e 89 22 rfl, e 16 0 rfl]; exact H.cisl
  · rw [R 17 (fun _ => rfl), R 94 (fun _ => rfl), e 89 22 rfl]; exact H.tab
  · intro a b ha hb
    have ea : h' (19 + a) = h (19 + a) := R _ (fun j => by
      rcases (show a = 0 ∨ a = 1 ∨ a = 2 ∨ a = 3 ∨ a = 4 ∨ a = 5 by omega) with rfl | rfl | rfl | rfl | rfl | rfl <;> rfl)
    rw [ea, R 96 (fun _ => rfl)]; exact H.day a b ha hb
  · rw [e 89 29 rfl, e 25 0 rfl]; exact H.now
  · rw [e 89 28 rfl, e 25 1 rfl]; exact H.chn
  · rw [R 26 (fun _ => rfl), R 27 (fun _ => rfl), R 28 (fun _ => rfl), R 99 (fun _ => rfl), R 100 (fun _ => rfl), R 101 (fun _ => rfl)]; exact H.chr
  · rw [e 89 51 rfl, e 25 2 rfl]; exact H.sdn
  · rw [R 29 (fun _ => rfl), R 30 (fun _ => rfl), R 31 (fun _ => rfl), R 113 (fun _ => rfl), R 114 (fun _ => rfl), R 115 (fun _ => rfl)]; exact H.sdr
  · rw [e 89 51 rfl, e 89 22 rfl, R 113 (fun _ => rfl), R 114 (fun _ => rfl)]; exact H.sdv
  · rw [e 89 60 rfl, e 1 10 rfl]; exact H.img
  · rw [e 89 60 rfl, e 34 0 rfl, e 34 1 rfl, e 34 2 rfl, e 89 59 rfl, e 89 57 rfl, e 89 58 rfl, e 89 22 rfl, R 120 (fun _ => rfl), R 35 (fun _ => rfl), R 36 (fun _ => rfl), R 37 (fun _ => rfl), R 38 (fun _ => rfl), R 39 (fun _ => rfl), R 40 (fun _ => rfl)]; exact H.imr
  · rw [e 89 7 rfl, e 15 3 rfl]; exact H.cus
  · rw [e 89 7 rfl, e 89 22 rfl, R 32 (fun _ => rfl), R 98 (fun _ => rfl)]; exact H.cof
  · intro c hc
    rw [e 89 7 rfl] at hc
    obtain ⟨a1, a2, a3, a4, a5, a6, a7⟩ := H.txt c hc
    have e9 := zcd_cg (R 91 (fun _ => rfl)) (R 92 (fun _ => rfl)) c
    have e8 : zTxt h' c = zTxt h c := by unfold zTxt; rw [R 91 (fun _ => rfl)]
    refine ⟨?_, ?_, ?_, a4, ?_, ?_, fun j hj => ?_⟩
    · rw [R 92 (fun _ => rfl)]; exact a1
    · rw [e9, e8, R 92 (fun _ => rfl)]; exact a2
    · rw [R 33 (fun _ => rfl)]; exact a3
    · rw [e9]; exact a5
    · rw [e9]; exact a6
    · rw [e9] at hj ⊢
      rw [e _ _ (by rw [zSx_hi (by omega), show (123 + 3 * c) % 3 = 0 by omega]; rfl)]
      exact a7 j hj
  · rw [e 89 32 rfl, e 1 11 rfl]; exact H.hnd
  · rw [e 89 39 rfl, e 77 2 rfl]; exact H.gds
  · intro g i hg hi
    rw [e 89 39 rfl] at hg
    have hg3 := H.gds
    have ea : h' (79 + g) = h (79 + g) := R _ (fun j => by
      rcases (show g = 0 ∨ g = 1 ∨ g = 2 by omega) with rfl | rfl | rfl <;> rfl)
    rw [ea, R 107 (fun _ => rfl)]; exact H.prc g i hg hi
def zc_custom (r j : Nat) : Bool := Nat.beq r 32 || Nat.beq r 98
set_option maxRecDepth 4000 in
theorem zIv_custom {Γ : zC} {h h' : zM} (e : zfr (zSx zc_custom) h h') (H : zIv Γ h) (cof : ∀ i : Nat, i < 6 → (i : Int) < h' 89 22 → h' 32 i = h' 98 i ∧ -1 ≤ h' 98 i ∧ h' 98 i < h' 89 7) : zIv Γ h' := by
  have R : ∀ r, (∀ j, zSx zc_custom r j = false) → h' r = h r := fun r q => funext (fun j => e r j (q j))
  refine zIv.mk H.base ?_ ?_ ?_ ?_ ?_ ?_ ?_ ?_ ?_ ?_ ?_ ?_ ?_ ?_ ?_ ?_ ?_ cof ?_ ?_ ?_ ?_ ?_
  · rw [e 89 7 rfl]; exact H.num
  · rw [e 89 6 rfl]; exact H.len
  · rw [e 89 6 rfl, e 2 1 rfl]; exact H.tln
  · rw [e 89 6 rfl, R 3 (fun _ => rfl), R 90 (fun _ => rfl)]; exact H.tap
  · rw [e 89 22 rfl]; exact H.isl
  · rw [e 89 22 rfl, e 16 0 rfl]; exact H.cisl
  · rw [R 17 (fun _ => rfl), R 94 (fun _ => rfl), e 89 22 rfl]; exact H.tab
  · intro a b ha hb
    have ea : h' (19 + a) = h (19 + a) := R _ (fun j => by
      rcases (show a = 0 ∨ a = 1 ∨ a = 2 ∨ a = 3 ∨ a = 4 ∨ a = 5 by omega) with rfl | rfl | rfl | rfl | rfl | rfl <;> rfl)
    rw [ea, R 96 (fun _ => rfl)]; exact H.day a b ha hb
  · rw [e 89 29 rfl, e 25 0 rfl]; exact H.now
  · rw [e 89 28 rfl, e 25 1 rfl]; exact H.chn
  · rw [R 26 (fun _ => rfl), R 27 (fun _ => rfl), R 28 (fun _ => rfl), R 99 (fun _ => rfl), R 100 (fun _ => rfl), R 101 (fun _ => rfl)]; exact H.chr
  · rw [e 89 51 rfl, e 25 2 rfl]; exact H.sdn
  · rw [R 29 (fun _ => rfl), R 30 (fun _ => rfl), R 31 (fun _ => rfl), R 113 (fun _ => rfl), R 114 (fun _ => rfl), R 115 (fun _ => rfl)]; exact H.sdr
  · rw [e 89 51 rfl, e 89 22 rfl, R 113 (fun _ => rfl), R 114 (fun _ => rfl)]; exact H.sdv
  · rw [e 89 60 rfl, e 1 10 rfl]; exact H.img
  · rw [e 89 60 rfl, e 34 0 rfl, e 34 1 rfl, e 34 2 rfl, e 89 59 rfl, e 89 57 rfl, e 89 58 rfl, e 89 22 rfl, R 120 (fun _ => rfl), R 35 (fun _ => rfl), R 36 (fun _ => rfl), R 37 (fun _ => rfl), R 38 (fun _ => rfl), R 39 (fun _ => rfl), R 40 (fun _ => rfl)]; exact H.imr
  · rw [e 89 7 rfl, e 15 3 rfl]; exact H.cus
  · intro c hc
    rw [e 89 7 rfl] at hc
    obtain ⟨a1, a2, a3, a4, a5, a6, a7⟩ := H.txt c hc
    have e9 := zcd_cg (R 91 (fun _ => rfl)) (R 92 (fun _ => rfl)) c
    have e8 : zTxt h' c = zTxt h c := by unfold zTxt; rw [R 91 (fun _ => rfl)]
    refine ⟨?_, ?_, ?_, a4, ?_, ?_, fun j hj => ?_⟩
    · rw [R 92 (fun _ => rfl)]; exact a1
    · rw [e9, e8, R 92 (fun _ => rfl)]; exact a2
    · rw [R 33 (fun _ => rfl)]; exact a3
    · rw [e9]; exact a5
    · rw [e9]; exact a6
    · rw [e9] at hj ⊢
      rw [e _ _ (by rw [zSx_hi (by omega), show (123 + 3 * c) % 3 = 0 by omega]; rfl)]
      exact a7 j hj
  · rw [e 89 32 rfl, e 1 11 rfl]; exact H.hnd
  · rw [R 106 (fun _ => rfl), R 86 (fun _ => rfl)]; exact H.wts
  · rw [e 89 39 rfl, e 77 2 rfl]; exact H.gds
  · intro g i hg hi
    rw [e 89 39 rfl] at hg
    have hg3 := H.gds
    have ea : h' (79 + g) = h (79 + g) := R _ (fun j => by
      rcases (show g = 0 ∨ g = 1 ∨ g = 2 by omega) with rfl | rfl | rfl <;> rfl)
    rw [ea, R 107 (fun _ => rfl)]; exact H.prc g i hg hi
def zc_today (r j : Nat) : Bool := (Nat.beq r 25 && Nat.beq j 0) || (Nat.beq r 89 && Nat.beq j 29)
set_option maxRecDepth 4000 in
theorem zIv_today {Γ : zC} {h h' : zM} (e : zfr (zSx zc_today) h h') (H : zIv Γ h) (now : h' 25 0 = h' 89 29 ∧ 0 ≤ h' 89 29 ∧ h' 89 29 ≤ 99) : zIv Γ h' := by
  have R : ∀ r, (∀ j, zSx zc_today r j = false) → h' r = h r := fun r q => funext (fun j => e r j (q j))
  refine zIv.mk H.base ?_ ?_ ?_ ?_ ?_ ?_ ?_ ?_ now ?_ ?_ ?_ ?_ ?_ ?_ ?_ ?_ ?_ ?_ ?_ ?_ ?_ ?_
  · rw [e 89 7 rfl]; exact H.num
  · rw [e 89 6 rfl]; exact H.len
  · rw [e 89 6 rfl, e 2 1 rfl]; exact H.tln
  · rw [e 89 6 rfl, R 3 (fun _ => rfl), R 90 (fun _ => rfl)]; exact H.tap
  · rw [e 89 22 rfl]; exact H.isl
  · rw [e 89 22 rfl, e 16 0 rfl]; exact H.cisl
  · rw [R 17 (fun _ => rfl), R 94 (fun _ => rfl), e 89 22 rfl]; exact H.tab
  · intro a b ha hb
    have ea : h' (19 + a) = h (19 + a) := R _ (fun j => by
      rcases (show a = 0 ∨ a = 1 ∨ a = 2 ∨ a = 3 ∨ a = 4 ∨ a = 5 by omega) with rfl | rfl | rfl | rfl | rfl | rfl <;> rfl)
    rw [ea, R 96 (fun _ => rfl)]; exact H.day a b ha hb
  · rw [e 89 28 rfl, e 25 1 rfl]; exact H.chn
  · rw [R 26 (fun _ => rfl), R 27 (fun _ => rfl), R 28 (fun _ => rfl), R 99 (fun _ => rfl), R 100 (fun _ => rfl), R 101 (fun _ => rfl)]; exact H.chr
  · rw [e 89 51 rfl, e 25 2 rfl]; exact H.sdn
  · rw [R 29 (fun _ => rfl), R 30 (fun _ => rfl), R 31 (fun _ => rfl), R 113 (fun _ => rfl), R 114 (fun _ => rfl), R 115 (fun _ => rfl)]; exact H.sdr
  · rw [e 89 51 rfl, e 89 22 rfl, R 113 (fun _ => rfl), R 114 (fun _ => rfl)]; exact H.sdv
  · rw [e 89 60 rfl, e 1 10 rfl]; exact H.img
  · rw [e 89 60 rfl, e 34 0 rfl, e 34 1 rfl, e 34 2 rfl, e 89 59 rfl, e 89 57 rfl, e 89 58 rfl, e 89 22 rfl, R 120 (fun _ => rfl), R 35 (fun _ => rfl), R 36 (fun _ => rfl), R 37 (fun _ => rfl), R 38 (fun _ => rfl), R 39 (fun _ => rfl), R 40 (fun _ => rfl)]; exact H.imr
  · rw [e 89 7 rfl, e 15 3 rfl]; exact H.cus
  · rw [e 89 7 rfl, e 89 22 rfl, R 32 (fun _ => rfl), R 98 (fun _ => rfl)]; exact H.cof
  · intro c hc
    rw [e 89 7 rfl] at hc
    obtain ⟨a1, a2, a3, a4, a5, a6, a7⟩ := H.txt c hc
    have e9 := zcd_cg (R 91 (fun _ => rfl)) (R 92 (fun _ => rfl)) c
    have e8 : zTxt h' c = zTxt h c := by unfold zTxt; rw [R 91 (fun _ => rfl)]
    refine ⟨?_, ?_, ?_, a4, ?_, ?_, fun j hj => ?_⟩
    · rw [R 92 (fun _ => rfl)]; exact a1
    · rw [e9, e8, R 92 (fun _ => rfl)]; exact a2
    · rw [R 33 (fun _ => rfl)]; exact a3
    · rw [e9]; exact a5
    · rw [e9]; exact a6
    · rw [e9] at hj ⊢
      rw [e _ _ (by rw [zSx_hi (by omega), show (123 + 3 * c) % 3 = 0 by omega]; rfl)]
      exact a7 j hj
  · rw [e 89 32 rfl, e 1 11 rfl]; exact H.hnd
  · rw [R 106 (fun _ => rfl), R 86 (fun _ => rfl)]; exact H.wts
  · rw [e 89 39 rfl, e 77 2 rfl]; exact H.gds
  · intro g i hg hi
    rw [e 89 39 rfl] at hg
    have hg3 := H.gds
    have ea : h' (79 + g) = h (79 + g) := R _ (fun j => by
      rcases (show g = 0 ∨ g = 1 ∨ g = 2 by omega) with rfl | rfl | rfl <;> rfl)
    rw [ea, R 107 (fun _ => rfl)]; exact H.prc g i hg hi
def zc_change (r j : Nat) : Bool := Nat.beq r 26 || Nat.beq r 27 || Nat.beq r 28 || Nat.beq r 99 || Nat.beq r 100 || Nat.beq r 101 || (Nat.beq r 25 && Nat.beq j 1) || (Nat.beq r 89 && Nat.beq j 28) || (Nat.beq r 25 && Nat.beq j 0) || (Nat.beq r 89 && Nat.beq j 29)
set_option maxRecDepth 4000 in
theorem zIv_change {Γ : zC} {h h' : zM} (e : zfr (zSx zc_change) h h') (H : zIv Γ h) (now : h' 25 0 = h' 89 29 ∧ 0 ≤ h' 89 29 ∧ h' 89 29 ≤ 99) (chn : h' 25 1 = h' 89 28 ∧ 0 ≤ h' 89 28 ∧ h' 89 28 ≤ 20) (chr : ∀ j, j < 20 → h' 26 j = h' 99 j ∧ h' 27 j = h' 100 j ∧ h' 28 j = h' 101 j) : zIv Γ h' := by
  have R : ∀ r, (∀ j, zSx zc_change r j = false) → h' r = h r := fun r q => funext (fun j => e r j (q j))
  refine zIv.mk H.base ?_ ?_ ?_ ?_ ?_ ?_ ?_ ?_ now chn chr ?_ ?_ ?_ ?_ ?_ ?_ ?_ ?_ ?_ ?_ ?_ ?_
  · rw [e 89 7 rfl]; exact H.num
  · rw [e 89 6 rfl]; exact H.len
  · rw [e 89 6 rfl, e 2 1 rfl]; exact H.tln
  · rw [e 89 6 rfl, R 3 (fun _ => rfl), R 90 (fun _ => rfl)]; exact H.tap
  · rw [e 89 22 rfl]; exact H.isl
  · rw [e 89 22 rfl, e 16 0 rfl]; exact H.cisl
  · rw [R 17 (fun _ => rfl), R 94 (fun _ => rfl), e 89 22 rfl]; exact H.tab
  · intro a b ha hb
    have ea : h' (19 + a) = h (19 + a) := R _ (fun j => by
      rcases (show a = 0 ∨ a = 1 ∨ a = 2 ∨ a = 3 ∨ a = 4 ∨ a = 5 by omega) with rfl | rfl | rfl | rfl | rfl | rfl <;> rfl)
    rw [ea, R 96 (fun _ => rfl)]; exact H.day a b ha hb
  · rw [e 89 51 rfl, e 25 2 rfl]; exact H.sdn
  · rw [R 29 (fun _ => rfl), R 30 (fun _ => rfl), R 31 (fun _ => rfl), R 113 (fun _ => rfl), R 114 (fun _ => rfl), R 115 (fun _ => rfl)]; exact H.sdr
  · rw [e 89 51 rfl, e 89 22 rfl, R 113 (fun _ => rfl), R 114 (fun _ => rfl)]; exact H.sdv
  · rw [e 89 60 rfl, e 1 10 rfl]; exact H.img
  · rw [e 89 60 rfl, e 34 0 rfl, e 34 1 rfl, e 34 2 rfl, e 89 59 rfl, e 89 57 rfl, e 89 58 rfl, e 89 22 rfl, R 120 (fun _ => rfl), R 35 (fun _ => rfl), R 36 (fun _ => rfl), R 37 (fun _ => rfl), R 38 (fun _ => rfl), R 39 (fun _ => rfl), R 40 (fun _ => rfl)]; exact H.imr
  · rw [e 89 7 rfl, e 15 3 rfl]; exact H.cus
  · rw [e 89 7 rfl, e 89 22 rfl, R 32 (fun _ => rfl), R 98 (fun _ => rfl)]; exact H.cof
  · intro c hc
    rw [e 89 7 rfl] at hc
    obtain ⟨a1, a2, a3, a4, a5, a6, a7⟩ := H.txt c hc
    have e9 := zcd_cg (R 91 (fun _ => rfl)) (R 92 (fun _ => rfl)) c
    have e8 : zTxt h' c = zTxt h c := by unfold zTxt; rw [R 91 (fun _ => rfl)]
    refine ⟨?_, ?_, ?_, a4, ?_, ?_, fun j hj => ?_⟩
    · rw [R 92 (fun _ => rfl)]; exact a1
    · rw [e9, e8, R 92 (fun _ => rfl)]; exact a2
    · rw [R 33 (fun _ => rfl)]; exact a3
    · rw [e9]; exact a5
    · rw [e9]; exact a6
    · rw [e9] at hj ⊢
      rw [e _ _ (by rw [zSx_hi (by omega), show (123 + 3 * c) % 3 = 0 by omega]; rfl)]
      exact a7 j hj
  · rw [e 89 32 rfl, e 1 11 rfl]; exact H.hnd
  · rw [R 106 (fun _ => rfl), R 86 (fun _ => rfl)]; exact H.wts
  · rw [e 89 39 rfl, e 77 2 rfl]; exact H.gds
  · intro g i hg hi
    rw [e 89 39 rfl] at hg
    have hg3 := H.gds
    have ea : h' (79 + g) = h (79 + g) := R _ (fun j => by
      rcases (show g = 0 ∨ g = 1 ∨ g = 2 by omega) with rfl | rfl | rfl <;> rfl)
    rw [ea, R 107 (fun _ => rfl)]; exact H.prc g i hg hi
def zc_say (r j : Nat) : Bool := Nat.beq r 29 || Nat.beq r 30 || Nat.beq r 31 || Nat.beq r 113 || Nat.beq r 114 || Nat.beq r 115 || (Nat.beq r 25 && Nat.beq j 2) || (Nat.beq r 89 && Nat.beq j 51)
set_option maxRecDepth 4000 in
theorem zIv_say {Γ : zC} {h h' : zM} (e : zfr (zSx zc_say) h h') (H : zIv Γ h) (sdn : h' 25 2 = h' 89 51 ∧ 0 ≤ h' 89 51 ∧ h' 89 51 ≤ 40) (sdr : ∀ j, j < 40 → h' 29 j = h' 113 j ∧ h' 30 j = h' 114 j ∧ h' 31 j = h' 115 j) (sdv : ∀ j : Nat, (j : Int) < h' 89 51 → (0 ≤ h' 113 j ∧ h' 113 j < h' 89 22) ∧ 0 ≤ h' 114 j ∧ h' 114 j ≤ 999) : zIv Γ h' := by
  have R : ∀ r, (∀ j, zSx zc_say r j = false) → h' r = h r := fun r q => funext (fun j => e r j (q j))
  refine zIv.mk H.base ?_ ?_ ?_ ?_ ?_ ?_ ?_ ?_ ?_ ?_ ?_ sdn sdr sdv ?_ ?_ ?_ ?_ ?_ ?_ ?_ ?_ ?_
  · rw [e 89 7 rfl]; exact H.num
  · rw [e 89 6 rfl]; exact H.len
  · rw [e 89 6 rfl, e 2 1 rfl]; exact H.tln
  · rw [e 89 6 rfl, R 3 (fun _ => rfl), R 90 (fun _ => rfl)]; exact H.tap
  · rw [e 89 22 rfl]; exact H.isl
  · rw [e 89 22 rfl, e 16 0 rfl]; exact H.cisl
  · rw [R 17 (fun _ => rfl), R 94 (fun _ => rfl), e 89 22 rfl]; exact H.tab
  · intro a b ha hb
    have ea : h' (19 + a) = h (19 + a) := R _ (fun j => by
      rcases (show a = 0 ∨ a = 1 ∨ a = 2 ∨ a = 3 ∨ a = 4 ∨ a = 5 by omega) with rfl | rfl | rfl | rfl | rfl | rfl <;> rfl)
    rw [ea, R 96 (fun _ => rfl)]; exact H.day a b ha hb
  · rw [e 89 29 rfl, e 25 0 rfl]; exact H.now
  · rw [e 89 28 rfl, e 25 1 rfl]; exact H.chn
  · rw [R 26 (fun _ => rfl), R 27 (fun _ => rfl), R 28 (fun _ => rfl), R 99 (fun _ => rfl), R 100 (fun _ => rfl), R 101 (fun _ => rfl)]; exact H.chr
  · rw [e 89 60 rfl, e 1 10 rfl]; exact H.img
  · rw [e 89 60 rfl, e 34 0 rfl, e 34 1 rfl, e 34 2 rfl, e 89 59 rfl, e 89 57 rfl, e 89 58 rfl, e 89 22 rfl, R 120 (fun _ => rfl), R 35 (fun _ => rfl), R 36 (fun _ => rfl), R 37 (fun _ => rfl), R 38 (fun _ => rfl), R 39 (fun _ => rfl), R 40 (fun _ => rfl)]; exact H.imr
  · rw [e 89 7 rfl, e 15 3 rfl]; exact H.cus
  · rw [e 89 7 rfl, e 89 22 rfl, R 32 (fun _ => rfl), R 98 (fun _ => rfl)]; exact H.cof
  · intro c hc
    rw [e 89 7 rfl] at hc
    obtain ⟨a1, a2, a3, a4, a5, a6, a7⟩ := H.txt c hc
    have e9 := zcd_cg (R 91 (fun _ => rfl)) (R 92 (fun _ => rfl)) c
    have e8 : zTxt h' c = zTxt h c := by unfold zTxt; rw [R 91 (fun _ => rfl)]
    refine ⟨?_, ?_, ?_, a4, ?_, ?_, fun j hj => ?_⟩
    · rw [R 92 (fun _ => rfl)]; exact a1
    · rw [e9, e8, R 92 (fun _ => rfl)]; exact a2
    · rw [R 33 (fun _ => rfl)]; exact a3
    · rw [e9]; exact a5
    · rw [e9]; exact a6
    · rw [e9] at hj ⊢
      rw [e _ _ (by rw [zSx_hi (by omega), show (123 + 3 * c) % 3 = 0 by omega]; rfl)]
      exact a7 j hj
  · rw [e 89 32 rfl, e 1 11 rfl]; exact H.hnd
  · rw [R 106 (fun _ => rfl), R 86 (fun _ => rfl)]; exact H.wts
  · rw [e 89 39 rfl, e 77 2 rfl]; exact H.gds
  · intro g i hg hi
    rw [e 89 39 rfl] at hg
    have hg3 := H.gds
    have ea : h' (79 + g) = h (79 + g) := R _ (fun j => by
      rcases (show g = 0 ∨ g = 1 ∨ g = 2 by omega) with rfl | rfl | rfl <;> rfl)
    rw [ea, R 107 (fun _ => rfl)]; exact H.prc g i hg hi
def zc_good (r j : Nat) : Bool := Nat.beq r 79 || Nat.beq r 80 || Nat.beq r 81 || Nat.beq r 107 || (Nat.beq r 77 && Nat.beq j 2) || (Nat.beq r 89 && Nat.beq j 39)
set_option maxRecDepth 4000 in
theorem zIv_good {Γ : zC} {h h' : zM} (e : zfr (zSx zc_good) h h') (H : zIv Γ h) (gds : h' 77 2 = h' 89 39 ∧ 0 ≤ h' 89 39 ∧ h' 89 39 ≤ 3) (prc : ∀ g i : Nat, (g : Int) < h' 89 39 → i < 6 → h' (79 + g) i = h' 107 (6 * g + i) ∧ 1 ≤ h' 107 (6 * g + i) ∧ h' 107 (6 * g + i) ≤ 99) : zIv Γ h' := by
  have R : ∀ r, (∀ j, zSx zc_good r j = false) → h' r = h r := fun r q => funext (fun j => e r j (q j))
  refine zIv.mk H.base ?_ ?_ ?_ ?_ ?_ ?_ ?_ ?_ ?_ ?_ ?_ ?_ ?_ ?_ ?_ ?_ ?_ ?_ ?_ ?_ ?_ gds prc
  · rw [e 89 7 rfl]; exact H.num
  · rw [e 89 6 rfl]; exact H.len
  · rw [e 89 6 rfl, e 2 1 rfl]; exact H.tln
  · rw [e 89 6 rfl, R 3 (fun _ => rfl), R 90 (fun _ => rfl)]; exact H.tap
  · rw [e 89 22 rfl]; exact H.isl
  · rw [e 89 22 rfl, e 16 0 rfl]; exact H.cisl
  · rw [R 17 (fun _ => rfl), R 94 (fun _ => rfl), e 89 22 rfl]; exact H.tab
  · intro a b ha hb
    have ea : h' (19 + a) = h (19 + a) := R _ (fun j => by
      rcases (show a = 0 ∨ a = 1 ∨ a = 2 ∨ a = 3 ∨ a = 4 ∨ a = 5 by omega) with rfl | rfl | rfl | rfl | rfl | rfl <;> rfl)
    rw [ea, R 96 (fun _ => rfl)]; exact H.day a b ha hb
  · rw [e 89 29 rfl, e 25 0 rfl]; exact H.now
  · rw [e 89 28 rfl, e 25 1 rfl]; exact H.chn
  · rw [R 26 (fun _ => rfl), R 27 (fun _ => rfl), R 28 (fun _ => rfl), R 99 (fun _ => rfl), R 100 (fun _ => rfl), R 101 (fun _ => rfl)]; exact H.chr
  · rw [e 89 51 rfl, e 25 2 rfl]; exact H.sdn
  · rw [R 29 (fun _ => rfl), R 30 (fun _ => rfl), R 31 (fun _ => rfl), R 113 (fun _ => rfl), R 114 (fun _ => rfl), R 115 (fun _ => rfl)]; exact H.sdr
  · rw [e 89 51 rfl, e 89 22 rfl, R 113 (fun _ => rfl), R 114 (fun _ => rfl)]; exact H.sdv
  · rw [e 89 60 rfl, e 1 10 rfl]; exact H.img
  · rw [e 89 60 rfl, e 34 0 rfl, e 34 1 rfl, e 34 2 rfl, e 89 59 rfl, e 89 57 rfl, e 89 58 rfl, e 89 22 rfl, R 120 (fun _ => rfl), R 35 (fun _ => rfl), R 36 (fun _ => rfl), R 37 (fun _ => rfl), R 38 (fun _ => rfl), R 39 (fun _ => rfl), R 40 (fun _ => rfl)]; exact H.imr
  · rw [e 89 7 rfl, e 15 3 rfl]; exact H.cus
  · rw [e 89 7 rfl, e 89 22 rfl, R 32 (fun _ => rfl), R 98 (fun _ => rfl)]; exact H.cof
  · intro c hc
    rw [e 89 7 rfl] at hc
    obtain ⟨a1, a2, a3, a4, a5, a6, a7⟩ := H.txt c hc
    have e9 := zcd_cg (R 91 (fun _ => rfl)) (R 92 (fun _ => rfl)) c
    have e8 : zTxt h' c = zTxt h c := by unfold zTxt; rw [R 91 (fun _ => rfl)]
    refine ⟨?_, ?_, ?_, a4, ?_, ?_, fun j hj => ?_⟩
    · rw [R 92 (fun _ => rfl)]; exact a1
    · rw [e9, e8, R 92 (fun _ => rfl)]; exact a2
    · rw [R 33 (fun _ => rfl)]; exact a3
    · rw [e9]; exact a5
    · rw [e9]; exact a6
    · rw [e9] at hj ⊢
      rw [e _ _ (by rw [zSx_hi (by omega), show (123 + 3 * c) % 3 = 0 by omega]; rfl)]
      exact a7 j hj
  · rw [e 89 32 rfl, e 1 11 rfl]; exact H.hnd
  · rw [R 106 (fun _ => rfl), R 86 (fun _ => rfl)]; exact H.wts
def zc_image (r j : Nat) : Bool := (Nat.beq r 34 && Nat.beq j 0) || (Nat.beq r 34 && Nat.beq j 1) || (Nat.beq r 34 && Nat.beq j 2) || Nat.beq r 35 || Nat.beq r 36 || Nat.beq r 37 || Nat.beq r 38 || Nat.beq r 39 || Nat.beq r 40 || Nat.beq r 120 || (Nat.beq r 1 && Nat.beq j 10) || (Nat.beq r 89 && Nat.beq j 57) || (Nat.beq r 89 && Nat.beq j 58) || (Nat.beq r 89 && Nat.beq j 59) || (Nat.beq r 89 && Nat.beq j 60)
set_option maxRecDepth 4000 in
theorem zIv_image {Γ : zC} {h h' : zM} (e : zfr (zSx zc_image) h h') (H : zIv Γ h) (img : h' 1 10 = h' 89 60 ∧ (h' 89 60 = 0 ∨ h' 89 60 = 1)) (imr : h' 89 60 = 1 → (h' 34 0 = h' 89 59 ∧ 0 ≤ h' 89 59 ∧ h' 89 59 ≤ 99) ∧ (h' 34 1 = h' 89 57 ∧ 0 ≤ h' 89 57 ∧ h' 89 57 ≤ 20) ∧ (h' 34 2 = h' 89 58 ∧ 0 ≤ h' 89 58 ∧ h' 89 58 ≤ 40) ∧ (∀ j, j < 20 → h' 35 j = h' 120 (3 * j) ∧ h' 36 j = h' 120 (3 * j + 1) ∧ h' 37 j = h' 120 (3 * j + 2)) ∧ (∀ j, j < 40 → h' 38 j = h' 120 (60 + 3 * j) ∧ h' 39 j = h' 120 (60 + 3 * j + 1) ∧ h' 40 j = h' 120 (60 + 3 * j + 2)) ∧ ∀ j : Nat, (j : Int) < h' 89 58 → (0 ≤ h' 120 (60 + 3 * j) ∧ h' 120 (60 + 3 * j) < h' 89 22) ∧ 0 ≤ h' 120 (60 + 3 * j + 1) ∧ h' 120 (60 + 3 * j + 1) ≤ 999) : zIv Γ h' := by
  have R : ∀ r, (∀ j, zSx zc_image r j = false) → h' r = h r := fun r q => funext (fun j => e r j (q j))
  refine zIv.mk H.base ?_ ?_ ?_ ?_ ?_ ?_ ?_ ?_ ?_ ?_ ?_ ?_ ?_ ?_ img imr ?_ ?_ ?_ ?_ ?_ ?_ ?_
  · rw [e 89 7 rfl]; exact H.num
  · rw [e 89 6 rfl]; exact H.len
  · rw [e 89 6 rfl, e 2 1 rfl]; exact H.tln
  · rw [e 89 6 rfl, R 3 (fun _ => rfl), R 90 (fun _ => rfl)]; exact H.tap
  · rw [e 89 22 rfl]; exact H.isl
  · rw [e 89 22 rfl, e 16 0 rfl]; exact H.cisl
  · rw [R 17 (fun _ => rfl), R 94 (fun _ => rfl), e 89 22 rfl]; exact H.tab
  · intro a b ha hb
    have ea : h' (19 + a) = h (19 + a) := R _ (fun j => by
      rcases (show a = 0 ∨ a = 1 ∨ a = 2 ∨ a = 3 ∨ a = 4 ∨ a = 5 by omega) with rfl | rfl | rfl | rfl | rfl | rfl <;> rfl)
    rw [ea, R 96 (fun _ => rfl)]; exact H.day a b ha hb
  · rw [e 89 29 rfl, e 25 0 rfl]; exact H.now
  · rw [e 89 28 rfl, e 25 1 rfl]; exact H.chn
  · rw [R 26 (fun _ => rfl), R 27 (fun _ => rfl), R 28 (fun _ => rfl), R 99 (fun _ => rfl), R 100 (fun _ => rfl), R 101 (fun _ => rfl)]; exact H.chr
  · rw [e 89 51 rfl, e 25 2 rfl]; exact H.sdn
  · rw [R 29 (fun _ => rfl), R 30 (fun _ => rfl), R 31 (fun _ => rfl), R 113 (fun _ => rfl), R 114 (fun _ => rfl), R 115 (fun _ => rfl)]; exact H.sdr
  · rw [e 89 51 rfl, e 89 22 rfl, R 113 (fun _ => rfl), R 114 (fun _ => rfl)]; exact H.sdv
  · rw [e 89 7 rfl, e 15 3 rfl]; exact H.cus
  · rw [e 89 7 rfl, e 89 22 rfl, R 32 (fun _ => rfl), R 98 (fun _ => rfl)]; exact H.cof
  · intro c hc
    rw [e 89 7 rfl] at hc
    obtain ⟨a1, a2, a3, a4, a5, a6, a7⟩ := H.txt c hc
    have e9 := zcd_cg (R 91 (fun _ => rfl)) (R 92 (fun _ => rfl)) c
    have e8 : zTxt h' c = zTxt h c := by unfold zTxt; rw [R 91 (fun _ => rfl)]
    refine ⟨?_, ?_, ?_, a4, ?_, ?_, fun j hj => ?_⟩
    · rw [R 92 (fun _ => rfl)]; exact a1
    · rw [e9, e8, R 92 (fun _ => rfl)]; exact a2
    · rw [R 33 (fun _ => rfl)]; exact a3
    · rw [e9]; exact a5
    · rw [e9]; exact a6
    · rw [e9] at hj ⊢
      rw [e _ _ (by rw [zSx_hi (by omega), show (123 + 3 * c) % 3 = 0 by omega]; rfl)]
      exact a7 j hj
  · rw [e 89 32 rfl, e 1 11 rfl]; exact H.hnd
  · rw [R 106 (fun _ => rfl), R 86 (fun _ => rfl)]; exact H.wts
  · rw [e 89 39 rfl, e 77 2 rfl]; exact H.gds
  · intro g i hg hi
    rw [e 89 39 rfl] at hg
    have hg3 := H.gds
    have ea : h' (79 + g) = h (79 + g) := R _ (fun j => by
      rcases (show g = 0 ∨ g = 1 ∨ g = 2 by omega) with rfl | rfl | rfl <;> rfl)
    rw [ea, R 107 (fun _ => rfl)]; exact H.prc g i hg hi
def zc_back (r j : Nat) : Bool := (Nat.beq r 25 && Nat.beq j 0) || (Nat.beq r 25 && Nat.beq j 1) || (Nat.beq r 25 && Nat.beq j 2) || (Nat.beq r 89 && Nat.beq j 29) || (Nat.beq r 89 && Nat.beq j 28) || (Nat.beq r 89 && Nat.beq j 51) || Nat.beq r 26 || Nat.beq r 27 || Nat.beq r 28 || Nat.beq r 29 || Nat.beq r 30 || Nat.beq r 31 || Nat.beq r 99 || Nat.beq r 100 || Nat.beq r 101 || Nat.beq r 113 || Nat.beq r 114 || Nat.beq r 115
set_option maxRecDepth 4000 in
theorem zIv_back {Γ : zC} {h h' : zM} (e : zfr (zSx zc_back) h h') (H : zIv Γ h) (now : h' 25 0 = h' 89 29 ∧ 0 ≤ h' 89 29 ∧ h' 89 29 ≤ 99) (chn : h' 25 1 = h' 89 28 ∧ 0 ≤ h' 89 28 ∧ h' 89 28 ≤ 20) (chr : ∀ j, j < 20 → h' 26 j = h' 99 j ∧ h' 27 j = h' 100 j ∧ h' 28 j = h' 101 j) (sdn : h' 25 2 = h' 89 51 ∧ 0 ≤ h' 89 51 ∧ h' 89 51 ≤ 40) (sdr : ∀ j, j < 40 → h' 29 j = h' 113 j ∧ h' 30 j = h' 114 j ∧ h' 31 j = h' 115 j) (sdv : ∀ j : Nat, (j : Int) < h' 89 51 → (0 ≤ h' 113 j ∧ h' 113 j < h' 89 22) ∧ 0 ≤ h' 114 j ∧ h' 114 j ≤ 999) : zIv Γ h' := by
  have R : ∀ r, (∀ j, zSx zc_back r j = false) → h' r = h r := fun r q => funext (fun j => e r j (q j))
  refine zIv.mk H.base ?_ ?_ ?_ ?_ ?_ ?_ ?_ ?_ now chn chr sdn sdr sdv ?_ ?_ ?_ ?_ ?_ ?_ ?_ ?_ ?_
  · rw [e 89 7 rfl]; exact H.num
  · rw [e 89 6 rfl]; exact H.len
  · rw [e 89 6 rfl, e 2 1 rfl]; exact H.tln
  · rw [e 89 6 rfl, R 3 (fun _ => rfl), R 90 (fun _ => rfl)]; exact H.tap
  · rw [e 89 22 rfl]; exact H.isl
  · rw [e 89 22 rfl, e 16 0 rfl]; exact H.cisl
  · rw [R 17 (fun _ => rfl), R 94 (fun _ => rfl), e 89 22 rfl]; exact H.tab
  · intro a b ha hb
    have ea : h' (19 + a) = h (19 + a) := R _ (fun j => by
      rcases (show a = 0 ∨ a = 1 ∨ a = 2 ∨ a = 3 ∨ a = 4 ∨ a = 5 by omega) with rfl | rfl | rfl | rfl | rfl | rfl <;> rfl)
    rw [ea, R 96 (fun _ => rfl)]; exact H.day a b ha hb
  · rw [e 89 60 rfl, e 1 10 rfl]; exact H.img
  · rw [e 89 60 rfl, e 34 0 rfl, e 34 1 rfl, e 34 2 rfl, e 89 59 rfl, e 89 57 rfl, e 89 58 rfl, e 89 22 rfl, R 120 (fun _ => rfl), R 35 (fun _ => rfl), R 36 (fun _ => rfl), R 37 (fun _ => rfl), R 38 (fun _ => rfl), R 39 (fun _ => rfl), R 40 (fun _ => rfl)]; exact H.imr
  · rw [e 89 7 rfl, e 15 3 rfl]; exact H.cus
  · rw [e 89 7 rfl, e 89 22 rfl, R 32 (fun _ => rfl), R 98 (fun _ => rfl)]; exact H.cof
  · intro c hc
    rw [e 89 7 rfl] at hc
    obtain ⟨a1, a2, a3, a4, a5, a6, a7⟩ := H.txt c hc
    have e9 := zcd_cg (R 91 (fun _ => rfl)) (R 92 (fun _ => rfl)) c
    have e8 : zTxt h' c = zTxt h c := by unfold zTxt; rw [R 91 (fun _ => rfl)]
    refine ⟨?_, ?_, ?_, a4, ?_, ?_, fun j hj => ?_⟩
    · rw [R 92 (fun _ => rfl)]; exact a1
    · rw [e9, e8, R 92 (fun _ => rfl)]; exact a2
    · rw [R 33 (fun _ => rfl)]; exact a3
    · rw [e9]; exact a5
    · rw [e9]; exact a6
    · rw [e9] at hj ⊢
      rw [e _ _ (by rw [zSx_hi (by omega), show (123 + 3 * c) % 3 = 0 by omega]; rfl)]
      exact a7 j hj
  · rw [e 89 32 rfl, e 1 11 rfl]; exact H.hnd
  · rw [R 106 (fun _ => rfl), R 86 (fun _ => rfl)]; exact H.wts
  · rw [e 89 39 rfl, e 77 2 rfl]; exact H.gds
  · intro g i hg hi
    rw [e 89 39 rfl] at hg
    have hg3 := H.gds
    have ea : h' (79 + g) = h (79 + g) := R _ (fun j => by
      rcases (show g = 0 ∨ g = 1 ∨ g = 2 by omega) with rfl | rfl | rfl <;> rfl)
    rw [ea, R 107 (fun _ => rfl)]; exact H.prc g i hg hi
def zc_tape (r j : Nat) : Bool := Nat.beq r 3 || Nat.beq r 90 || (Nat.beq r 2 && Nat.beq j 1) || (Nat.beq r 89 && Nat.beq j 6)
set_option maxRecDepth 4000 in
theorem zIv_tape {Γ : zC} {h h' : zM} (e : zfr (zSx zc_tape) h h') (H : zIv Γ h) (len : 0 ≤ h' 89 6 ∧ h' 89 6 ≤ 160) (tln : h' 2 1 = h' 89 6) (tap : ∀ j : Nat, (j : Int) < h' 89 6 → h' 3 j = h' 90 j % 256) : zIv Γ h' := by
  have R : ∀ r, (∀ j, zSx zc_tape r j = false) → h' r = h r := fun r q => funext (fun j => e r j (q j))
  refine zIv.mk H.base ?_ len tln tap ?_ ?_ ?_ ?_ ?_ ?_ ?_ ?_ ?_ ?_ ?_ ?_ ?_ ?_ ?_ ?_ ?_ ?_ ?_
  · rw [e 89 7 rfl]; exact H.num
  · rw [e 89 22 rfl]; exact H.isl
  · rw [e 89 22 rfl, e 16 0 rfl]; exact H.cisl
  · rw [R 17 (fun _ => rfl), R 94 (fun _ => rfl), e 89 22 rfl]; exact H.tab
  · intro a b ha hb
    have ea : h' (19 + a) = h (19 + a) := R _ (fun j => by
      rcases (show a = 0 ∨ a = 1 ∨ a = 2 ∨ a = 3 ∨ a = 4 ∨ a = 5 by omega) with rfl | rfl | rfl | rfl | rfl | rfl <;> rfl)
    rw [ea, R 96 (fun _ => rfl)]; exact H.day a b ha hb
  · rw [e 89 29 rfl, e 25 0 rfl]; exact H.now
  · rw [e 89 28 rfl, e 25 1 rfl]; exact H.chn
  · rw [R 26 (fun _ => rfl), R 27 (fun _ => rfl), R 28 (fun _ => rfl), R 99 (fun _ => rfl), R 100 (fun _ => rfl), R 101 (fun _ => rfl)]; exact H.chr
  · rw [e 89 51 rfl, e 25 2 rfl]; exact H.sdn
  · rw [R 29 (fun _ => rfl), R 30 (fun _ => rfl), R 31 (fun _ => rfl), R 113 (fun _ => rfl), R 114 (fun _ => rfl), R 115 (fun _ => rfl)]; exact H.sdr
  · rw [e 89 51 rfl, e 89 22 rfl, R 113 (fun _ => rfl), R 114 (fun _ => rfl)]; exact H.sdv
  · rw [e 89 60 rfl, e 1 10 rfl]; exact H.img
  · rw [e 89 60 rfl, e 34 0 rfl, e 34 1 rfl, e 34 2 rfl, e 89 59 rfl, e 89 57 rfl, e 89 58 rfl, e 89 22 rfl, R 120 (fun _ => rfl), R 35 (fun _ => rfl), R 36 (fun _ => rfl), R 37 (fun _ => rfl), R 38 (fun _ => rfl), R 39 (fun _ => rfl), R 40 (fun _ => rfl)]; exact H.imr
  · rw [e 89 7 rfl, e 15 3 rfl]; exact H.cus
  · rw [e 89 7 rfl, e 89 22 rfl, R 32 (fun _ => rfl), R 98 (fun _ => rfl)]; exact H.cof
  · intro c hc
    rw [e 89 7 rfl] at hc
    obtain ⟨a1, a2, a3, a4, a5, a6, a7⟩ := H.txt c hc
    have e9 := zcd_cg (R 91 (fun _ => rfl)) (R 92 (fun _ => rfl)) c
    have e8 : zTxt h' c = zTxt h c := by unfold zTxt; rw [R 91 (fun _ => rfl)]
    refine ⟨?_, ?_, ?_, a4, ?_, ?_, fun j hj => ?_⟩
    · rw [R 92 (fun _ => rfl)]; exact a1
    · rw [e9, e8, R 92 (fun _ => rfl)]; exact a2
    · rw [R 33 (fun _ => rfl)]; exact a3
    · rw [e9]; exact a5
    · rw [e9]; exact a6
    · rw [e9] at hj ⊢
      rw [e _ _ (by rw [zSx_hi (by omega), show (123 + 3 * c) % 3 = 0 by omega]; rfl)]
      exact a7 j hj
  · rw [e 89 32 rfl, e 1 11 rfl]; exact H.hnd
  · rw [R 106 (fun _ => rfl), R 86 (fun _ => rfl)]; exact H.wts
  · rw [e 89 39 rfl, e 77 2 rfl]; exact H.gds
  · intro g i hg hi
    rw [e 89 39 rfl] at hg
    have hg3 := H.gds
    have ea : h' (79 + g) = h (79 + g) := R _ (fun j => by
      rcases (show g = 0 ∨ g = 1 ∨ g = 2 by omega) with rfl | rfl | rfl <;> rfl)
    rw [ea, R 107 (fun _ => rfl)]; exact H.prc g i hg hi
set_option maxRecDepth 4000 in
theorem X9_isIsle_b {l : Launch} {Γ : zC} {h : zM} {Q : Option zV → zC → zM → Prop} {i N : Int} (hΓ : zBase Γ) (hn : h 89 22 = N) (hQ0 : ¬ (0 ≤ i ∧ i < N) → Q (some (zI 0)) Γ h) (hQ1 : (0 ≤ i ∧ i < N) → Q (some (zI 1)) Γ h) : zCT l mX9_isIsle 0 0 0 Γ [zR 89, zI i] h Q := by
  refine zCT_of (by decide) (Nat.le_of_ble_eq_true rfl) (ls := [some (zR 89), some (zI i)]) rfl ?_
  refine z_il1 dX9_isIsle_0 ?_
  refine z_if_lt (t := 16) dX9_isIsle_1 (by rfl) (fun ht1 => ?_) (fun hf1 => ?_)
  · refine z_iconst dX9_isIsle_16 (by decide) ?_
    refine z_zret dX9_isIsle_17 rfl (Nat.le_refl _) (Nat.le_refl _) (zext_rf _) (by first | exact Or.inl rfl | exact Or.inr rfl | omega) ?_
    first | exact hQ0 (by omega) | exact hQ1 (by omega)
  · refine z_il1 dX9_isIsle_4 ?_
    refine z_al0 dX9_isIsle_5 (by first | decide | omega | assumption) ?_
    refine z_getI zfX9_276 dX9_isIsle_6 (zkB hΓ rfl) rfl ?_
    rw [hn]
    try simp only [zup_ap, zup_row, ne_eq, not_false_eq_true, zres, Int.toNat_natCast, reduceIte, Nat.reduceEqDiff, Nat.reduceAdd, and_self, and_true, true_and, and_false, false_and]
    refine z_icmp_ge (t := 16) dX9_isIsle_9 (by rfl) (fun ht9 => ?_) (fun hf9 => ?_)
    · refine z_iconst dX9_isIsle_16 (by decide) ?_
      refine z_zret dX9_isIsle_17 rfl (Nat.le_refl _) (Nat.le_refl _) (zext_rf _) (by first | exact Or.inl rfl | exact Or.inr rfl | omega) ?_
      first | exact hQ0 (by omega) | exact hQ1 (by omega)
    · refine z_iconst dX9_isIsle_12 (by decide) ?_
      refine z_goto (t := 17) dX9_isIsle_13 (by rfl) ?_
      refine z_zret dX9_isIsle_17 rfl (Nat.le_refl _) (Nat.le_refl _) (zext_rf _) (by first | exact Or.inl rfl | exact Or.inr rfl | omega) ?_
      first | exact hQ0 (by omega) | exact hQ1 (by omega)
set_option maxRecDepth 4000 in
theorem X8_hand_ct {l : Launch} {Γ : zC} {h : zM} {Q : Option zV → zC → zM → Prop} (hΓ : zBase Γ) {v : Int} (hQ0 : ¬ (1 ≤ v ∧ v ≤ 20) → Q (some (zI 0)) Γ h) (hQ1 : (1 ≤ v ∧ v ≤ 20) → Q (some (zI 1)) Γ (zup h 1 11 v)) : zCT l mX8_hand 0 0 0 Γ [zR 1, zI v] h Q := by
  refine zCT_of (by decide) (Nat.le_of_ble_eq_true rfl) (ls := [some (zR 1), some (zI v)]) rfl ?_
  refine z_il1 dX8_hand_0 ?_
  refine z_iconst dX8_hand_1 (by decide) ?_
  refine z_icmp_lt (t := 11) dX8_hand_2 (by rfl) (fun ht2 => ?_) (fun hf2 => ?_)
  · refine z_iconst dX8_hand_11 (by decide) ?_
    refine z_zret dX8_hand_12 rfl (Nat.le_refl _) (Nat.le_refl _) (zext_rf _) (by first | exact Or.inl rfl | exact Or.inr rfl | omega) ?_
    first | exact hQ0 (by omega) | exact hQ1 (by omega)
  · refine z_il1 dX8_hand_5 ?_
    refine z_bipush (x := 20) dX8_hand_6 (by rfl) (by decide) ?_
    refine z_icmp_le (t := 13) dX8_hand_8 (by rfl) (fun ht8 => ?_) (fun hf8 => ?_)
    · refine z_al0 dX8_hand_13 (by first | decide | omega | assumption) ?_
      refine z_il1 dX8_hand_14 ?_
      refine z_putI zfX8_79 dX8_hand_15 (zkB hΓ rfl) rfl rfl ?_
      refine z_iconst dX8_hand_18 (by decide) ?_
      refine z_zret dX8_hand_19 rfl (Nat.le_refl _) (Nat.le_refl _) (zext_rf _) (by first | exact Or.inl rfl | exact Or.inr rfl | omega) ?_
      first | exact hQ0 (by omega) | exact hQ1 (by omega)
    · refine z_iconst dX8_hand_11 (by decide) ?_
      refine z_zret dX8_hand_12 rfl (Nat.le_refl _) (Nat.le_refl _) (zext_rf _) (by first | exact Or.inl rfl | exact Or.inr rfl | omega) ?_
      first | exact hQ0 (by omega) | exact hQ1 (by omega)
set_option maxRecDepth 4000 in
theorem X9_hand_ct {l : Launch} {Γ : zC} {h : zM} {Q : Option zV → zC → zM → Prop} (hΓ : zBase Γ) {v : Int} (hQ0 : ¬ (1 ≤ v ∧ v ≤ 20) → Q (some (zI 0)) Γ (zup h 89 0 0)) (hQ1 : (1 ≤ v ∧ v ≤ 20) → Q (some (zI 1)) Γ (zup (zup h 89 0 0) 89 32 v)) : zCT l mX9_hand 1 0 0 Γ [zR 89, zI v] h Q := by
  refine zCT_of (by decide) (Nat.le_of_ble_eq_true rfl) (ls := [some (zR 89), some (zI v)]) rfl ?_
  refine z_al0 dX9_hand_0 (by first | decide | omega | assumption) ?_
  refine z_iconst dX9_hand_1 (by decide) ?_
  refine z_putI zfX9_128 dX9_hand_2 (zkB hΓ rfl) rfl rfl ?_
  refine z_il1 dX9_hand_5 ?_
  refine z_i2l dX9_hand_6 ?_
  refine z_lconst (x := 1) dX9_hand_7 (by rfl) (by decide) ?_
  refine z_ldc2 (x := 20) dX9_hand_8 zqX9_315 (by decide) ?_
  refine zcs3 dX9_hand_11 zkX9_261 ztX9_isIn (Nat.le_of_ble_eq_true rfl) (by decide) (by first | decide | omega) ⟨Nat.le_refl _, Nat.le_refl _⟩ (X9_isIn_ct (fun hg1 _ => ?_) (fun hg1 _ => ?_))
  · try simp only [zup_ap, zup_row, ne_eq, not_false_eq_true, zres, Int.toNat_natCast, reduceIte, Nat.reduceEqDiff, Nat.reduceAdd, and_self, and_true, true_and, and_false, false_and]
    refine z_if_ne (t := 19) dX9_hand_14 (by rfl) (fun hx => absurd hx (by decide)) (fun _ => ?_)
    refine z_iconst dX9_hand_17 (by decide) ?_
    refine z_zret dX9_hand_18 rfl (Nat.le_refl _) (Nat.le_refl _) (zext_rf _) (by first | exact Or.inl rfl | exact Or.inr rfl | omega) ?_
    first | exact hQ0 (by omega) | exact hQ1 (by omega)
  · try simp only [zup_ap, zup_row, ne_eq, not_false_eq_true, zres, Int.toNat_natCast, reduceIte, Nat.reduceEqDiff, Nat.reduceAdd, and_self, and_true, true_and, and_false, false_and]
    refine z_if_ne (t := 19) dX9_hand_14 (by rfl) (fun _ => ?_) (fun hx => absurd hx (by decide))
    refine z_al0 dX9_hand_19 (by first | decide | omega | assumption) ?_
    refine z_il1 dX9_hand_20 ?_
    refine z_putI zfX9_65 dX9_hand_21 (zkB hΓ rfl) rfl rfl ?_
    refine z_iconst dX9_hand_24 (by decide) ?_
    refine z_zret dX9_hand_25 rfl (Nat.le_refl _) (Nat.le_refl _) (zext_rf _) (by first | exact Or.inl rfl | exact Or.inr rfl | omega) ?_
    first | exact hQ0 (by omega) | exact hQ1 (by omega)
set_option maxRecDepth 4000 in
theorem X8_weight_ct {l : Launch} {Γ : zC} {h : zM} {Q : Option zV → zC → zM → Prop} (hΓ : zBase Γ) {n v : Int} (hQ0 : ¬ ((1 ≤ n ∧ n ≤ 99) ∧ (0 ≤ v ∧ v ≤ 99)) → Q (some (zI 0)) Γ h) (hQ1 : ((1 ≤ n ∧ n ≤ 99) ∧ (0 ≤ v ∧ v ≤ 99)) → Q (some (zI 1)) Γ (zup h 86 n.toNat v)) : zCT l mX8_weight 0 0 0 Γ [zR 1, zI n, zI v] h Q := by
  refine zCT_of (by decide) (Nat.le_of_ble_eq_true rfl) (ls := [some (zR 1), some (zI n), some (zI v)]) rfl ?_
  refine z_il1 dX8_weight_0 ?_
  refine z_iconst dX8_weight_1 (by decide) ?_
  refine z_icmp_lt (t := 21) dX8_weight_2 (by rfl) (fun ht2 => ?_) (fun hf2 => ?_)
  · refine z_iconst dX8_weight_21 (by decide) ?_
    refine z_zret dX8_weight_22 rfl (Nat.le_refl _) (Nat.le_refl _) (zext_rf _) (by first | exact Or.inl rfl | exact Or.inr rfl | omega) ?_
    first | exact hQ0 (by omega) | exact hQ1 (by omega)
  · refine z_il1 dX8_weight_5 ?_
    refine z_bipush (x := 99) dX8_weight_6 (by rfl) (by decide) ?_
    refine z_icmp_gt (t := 21) dX8_weight_8 (by rfl) (fun ht8 => ?_) (fun hf8 => ?_)
    · refine z_iconst dX8_weight_21 (by decide) ?_
      refine z_zret dX8_weight_22 rfl (Nat.le_refl _) (Nat.le_refl _) (zext_rf _) (by first | exact Or.inl rfl | exact Or.inr rfl | omega) ?_
      first | exact hQ0 (by omega) | exact hQ1 (by omega)
    · refine z_il2 dX8_weight_11 ?_
      refine z_if_lt (t := 21) dX8_weight_12 (by rfl) (fun ht12 => ?_) (fun hf12 => ?_)
      · refine z_iconst dX8_weight_21 (by decide) ?_
        refine z_zret dX8_weight_22 rfl (Nat.le_refl _) (Nat.le_refl _) (zext_rf _) (by first | exact Or.inl rfl | exact Or.inr rfl | omega) ?_
        first | exact hQ0 (by omega) | exact hQ1 (by omega)
      · refine z_il2 dX8_weight_15 ?_
        refine z_bipush (x := 99) dX8_weight_16 (by rfl) (by decide) ?_
        refine z_icmp_le (t := 23) dX8_weight_18 (by rfl) (fun ht18 => ?_) (fun hf18 => ?_)
        · refine z_al0 dX8_weight_23 (by first | decide | omega | assumption) ?_
          refine z_getR zfX8_62 dX8_weight_24 (zkB hΓ rfl) rfl (zsB hΓ rfl) (zvB hΓ (by decide)) ?_
          refine z_il1 dX8_weight_27 ?_
          refine z_il2 dX8_weight_28 ?_
          refine z_iast dX8_weight_29 (zkB hΓ rfl) (by omega) (by omega) ?_
          refine z_iconst dX8_weight_30 (by decide) ?_
          refine z_zret dX8_weight_31 rfl (Nat.le_refl _) (Nat.le_refl _) (zext_rf _) (by first | exact Or.inl rfl | exact Or.inr rfl | omega) ?_
          first | exact hQ0 (by omega) | exact hQ1 (by omega)
        · refine z_iconst dX8_weight_21 (by decide) ?_
          refine z_zret dX8_weight_22 rfl (Nat.le_refl _) (Nat.le_refl _) (zext_rf _) (by first | exact Or.inl rfl | exact Or.inr rfl | omega) ?_
          first | exact hQ0 (by omega) | exact hQ1 (by omega)
set_option maxRecDepth 4000 in
theorem X9_weight_ct {l : Launch} {Γ : zC} {h : zM} {Q : Option zV → zC → zM → Prop} (hΓ : zBase Γ) {n v : Int} (hQ0 : ¬ ((1 ≤ n ∧ n ≤ 99) ∧ (0 ≤ v ∧ v ≤ 99)) → Q (some (zI 0)) Γ (zup h 89 0 0)) (hQ1 : ((1 ≤ n ∧ n ≤ 99) ∧ (0 ≤ v ∧ v ≤ 99)) → Q (some (zI 1)) Γ (zup (zup h 89 0 0) 106 n.toNat (v + 1))) : zCT l mX9_weight 1 0 0 Γ [zR 89, zI n, zI v] h Q := by
  refine zCT_of (by decide) (Nat.le_of_ble_eq_true rfl) (ls := [some (zR 89), some (zI n), some (zI v)]) rfl ?_
  refine z_al0 dX9_weight_0 (by first | decide | omega | assumption) ?_
  refine z_iconst dX9_weight_1 (by decide) ?_
  refine z_putI zfX9_128 dX9_weight_2 (zkB hΓ rfl) rfl rfl ?_
  refine z_il1 dX9_weight_5 ?_
  refine z_i2l dX9_weight_6 ?_
  refine z_lconst (x := 1) dX9_weight_7 (by rfl) (by decide) ?_
  refine z_ldc2 (x := 99) dX9_weight_8 zqX9_294 (by decide) ?_
  refine zcs3 dX9_weight_11 zkX9_261 ztX9_isIn (Nat.le_of_ble_eq_true rfl) (by decide) (by first | decide | omega) ⟨Nat.le_refl _, Nat.le_refl _⟩ (X9_isIn_ct (fun hg1 _ => ?_) (fun hg1 _ => ?_))
  · try simp only [zup_ap, zup_row, ne_eq, not_false_eq_true, zres, Int.toNat_natCast, reduceIte, Nat.reduceEqDiff, Nat.reduceAdd, and_self, and_true, true_and, and_false, false_and]
    refine z_if_eq (t := 29) dX9_weight_14 (by rfl) (fun _ => ?_) (fun hx => absurd hx (by decide))
    refine z_iconst dX9_weight_29 (by decide) ?_
    refine z_zret dX9_weight_30 rfl (Nat.le_refl _) (Nat.le_refl _) (zext_rf _) (by first | exact Or.inl rfl | exact Or.inr rfl | omega) ?_
    first | exact hQ0 (by omega) | exact hQ1 (by omega)
  · try simp only [zup_ap, zup_row, ne_eq, not_false_eq_true, zres, Int.toNat_natCast, reduceIte, Nat.reduceEqDiff, Nat.reduceAdd, and_self, and_true, true_and, and_false, false_and]
    refine z_if_eq (t := 29) dX9_weight_14 (by rfl) (fun hx => absurd hx (by decide)) (fun _ => ?_)
    refine z_il2 dX9_weight_17 ?_
    refine z_i2l dX9_weight_18 ?_
    refine z_lconst (x := 0) dX9_weight_19 (by rfl) (by decide) ?_
    refine z_ldc2 (x := 99) dX9_weight_20 zqX9_294 (by decide) ?_
    refine zcs3 dX9_weight_23 zkX9_261 ztX9_isIn (Nat.le_of_ble_eq_true rfl) (by decide) (by first | decide | omega) ⟨Nat.le_refl _, Nat.le_refl _⟩ (X9_isIn_ct (fun hg1 _ => ?_) (fun hg1 _ => ?_))
    · try simp only [zup_ap, zup_row, ne_eq, not_false_eq_true, zres, Int.toNat_natCast, reduceIte, Nat.reduceEqDiff, Nat.reduceAdd, and_self, and_true, true_and, and_false, false_and]
      refine z_if_ne (t := 31) dX9_weight_26 (by rfl) (fun hx => absurd hx (by decide)) (fun _ => ?_)
      refine z_iconst dX9_weight_29 (by decide) ?_
      refine z_zret dX9_weight_30 rfl (Nat.le_refl _) (Nat.le_refl _) (zext_rf _) (by first | exact Or.inl rfl | exact Or.inr rfl | omega) ?_
      first | exact hQ0 (by omega) | exact hQ1 (by omega)
    · try simp only [zup_ap, zup_row, ne_eq, not_false_eq_true, zres, Int.toNat_natCast, reduceIte, Nat.reduceEqDiff, Nat.reduceAdd, and_self, and_true, true_and, and_false, false_and]
      refine z_if_ne (t := 31) dX9_weight_26 (by rfl) (fun _ => ?_) (fun hx => absurd hx (by decide))
      refine z_al0 dX9_weight_31 (by first | decide | omega | assumption) ?_
      refine z_getR zfX9_82 dX9_weight_32 (zkB hΓ rfl) rfl (zsB hΓ rfl) (zvB hΓ (by decide)) ?_
      refine z_il1 dX9_weight_35 ?_
      refine z_il2 dX9_weight_36 ?_
      refine z_iconst dX9_weight_37 (by decide) ?_
      refine z_iadd dX9_weight_38 (by omega) ?_
      refine z_iast dX9_weight_39 (zkB hΓ rfl) (by omega) (by omega) ?_
      refine z_iconst dX9_weight_40 (by decide) ?_
      refine z_zret dX9_weight_41 rfl (Nat.le_refl _) (Nat.le_refl _) (zext_rf _) (by first | exact Or.inl rfl | exact Or.inr rfl | omega) ?_
      first | exact hQ0 (by omega) | exact hQ1 (by omega)
set_option maxRecDepth 4000 in
theorem X8_custom_ct {l : Launch} {Γ : zC} {h0 h : zM} {Q : Option zV → zC → zM → Prop} {i c : Int} (hI : zIv Γ h0) (hF : zfr zSS h0 h) (hQ0 : ¬ ((0 ≤ i ∧ i < h0 89 22) ∧ (-1 ≤ c ∧ c < h0 89 7)) → Q (some (zI 0)) Γ h) (hQ1 : ((0 ≤ i ∧ i < h0 89 22) ∧ (-1 ≤ c ∧ c < h0 89 7)) → Q (some (zI 1)) Γ (zup h 32 i.toNat c)) : zCT l mX8_custom 1 0 0 Γ [zR 1, zI i, zI c] h Q := by
  have hΓ := hI.base
  have hx2 := hI.isl
  refine zCT_of (by decide) (Nat.le_of_ble_eq_true rfl) (ls := [some (zR 1), some (zI i), some (zI c)]) rfl ?_
  refine z_al0 dX8_custom_0 (by first | decide | omega | assumption) ?_
  refine z_getR zfX8_35 dX8_custom_1 (zkB hΓ rfl) rfl (zsB hΓ rfl) (zvB hΓ (by decide)) ?_
  refine z_il1 dX8_custom_4 ?_
  refine zcv1 dX8_custom_5 zkX8_114 ziX7_isIsle zsX7_isIsle (zkB hΓ rfl) (by decide) rfl (Nat.le_of_ble_eq_true rfl) (by decide) (by first | decide | omega) ⟨Nat.le_refl _, Nat.le_refl _⟩ (X7_isIsle_ct hI hF (fun hg1 _ => ?_) (fun hg1 _ => ?_))
  · try simp only [zup_ap, zup_row, ne_eq, not_false_eq_true, zres, Int.toNat_natCast, reduceIte, Nat.reduceEqDiff, Nat.reduceAdd, and_self, and_true, true_and, and_false, false_and]
    refine z_if_eq (t := 27) dX8_custom_8 (by rfl) (fun _ => ?_) (fun hx => absurd hx (by decide))
    refine z_iconst dX8_custom_27 (by decide) ?_
    refine z_zret dX8_custom_28 rfl (Nat.le_refl _) (Nat.le_refl _) (zext_rf _) (by first | exact Or.inl rfl | exact Or.inr rfl | omega) ?_
    first | exact hQ0 (by omega) | exact hQ1 (by omega)
  · try simp only [zup_ap, zup_row, ne_eq, not_false_eq_true, zres, Int.toNat_natCast, reduceIte, Nat.reduceEqDiff, Nat.reduceAdd, and_self, and_true, true_and, and_false, false_and]
    refine z_if_eq (t := 27) dX8_custom_8 (by rfl) (fun hx => absurd hx (by decide)) (fun _ => ?_)
    refine z_il2 dX8_custom_11 ?_
    refine z_iconst dX8_custom_12 (by decide) ?_
    refine z_icmp_lt (t := 27) dX8_custom_13 (by rfl) (fun ht13 => ?_) (fun hf13 => ?_)
    · refine z_iconst dX8_custom_27 (by decide) ?_
      refine z_zret dX8_custom_28 rfl (Nat.le_refl _) (Nat.le_refl _) (zext_rf _) (by first | exact Or.inl rfl | exact Or.inr rfl | omega) ?_
      first | exact hQ0 (by omega) | exact hQ1 (by omega)
    · refine z_il2 dX8_custom_16 ?_
      refine z_al0 dX8_custom_17 (by first | decide | omega | assumption) ?_
      refine z_getR zfX8_35 dX8_custom_18 (zkB hΓ rfl) rfl (zsB hΓ rfl) (zvB hΓ (by decide)) ?_
      refine z_getI zfX8_108 dX8_custom_21 (zkB hΓ rfl) rfl ?_
      rw [hF 15 3 rfl, hI.cus.1]
      try simp only [zup_ap, zup_row, ne_eq, not_false_eq_true, zres, Int.toNat_natCast, reduceIte, Nat.reduceEqDiff, Nat.reduceAdd, and_self, and_true, true_and, and_false, false_and]
      refine z_icmp_lt (t := 29) dX8_custom_24 (by rfl) (fun ht24 => ?_) (fun hf24 => ?_)
      · refine z_al0 dX8_custom_29 (by first | decide | omega | assumption) ?_
        refine z_getR zfX8_35 dX8_custom_30 (zkB hΓ rfl) rfl (zsB hΓ rfl) (zvB hΓ (by decide)) ?_
        refine z_getR zfX8_139 dX8_custom_33 (zkB hΓ rfl) rfl (zsB hΓ rfl) (zvB hΓ (by decide)) ?_
        refine z_il1 dX8_custom_36 ?_
        refine z_il2 dX8_custom_37 ?_
        refine z_iast dX8_custom_38 (zkB hΓ rfl) (by omega) (by omega) ?_
        refine z_iconst dX8_custom_39 (by decide) ?_
        refine z_zret dX8_custom_40 rfl (Nat.le_refl _) (Nat.le_refl _) (zext_rf _) (by first | exact Or.inl rfl | exact Or.inr rfl | omega) ?_
        first | exact hQ0 (by omega) | exact hQ1 (by omega)
      · refine z_iconst dX8_custom_27 (by decide) ?_
        refine z_zret dX8_custom_28 rfl (Nat.le_refl _) (Nat.le_refl _) (zext_rf _) (by first | exact Or.inl rfl | exact Or.inr rfl | omega) ?_
        first | exact hQ0 (by omega) | exact hQ1 (by omega)
set_option maxRecDepth 4000 in
theorem X9_custom_ct {l : Launch} {Γ : zC} {h : zM} {Q : Option zV → zC → zM → Prop} {i c N M : Int} (hΓ : zBase Γ) (hn : h 89 22 = N) (hm : h 89 7 = M) (hN : N ≤ 6) (hM : 0 ≤ M ∧ M ≤ 4) (hQ0 : ¬ ((0 ≤ i ∧ i < N) ∧ (-1 ≤ c ∧ c < M)) → Q (some (zI 0)) Γ (zup h 89 0 0)) (hQ1 : ((0 ≤ i ∧ i < N) ∧ (-1 ≤ c ∧ c < M)) → Q (some (zI 1)) Γ (zup (zup h 89 0 0) 98 i.toNat c)) : zCT l mX9_custom 1 0 0 Γ [zR 89, zI i, zI c] h Q := by
  refine zCT_of (by decide) (Nat.le_of_ble_eq_true rfl) (ls := [some (zR 89), some (zI i), some (zI c)]) rfl ?_
  refine z_al0 dX9_custom_0 (by first | decide | omega | assumption) ?_
  refine z_iconst dX9_custom_1 (by decide) ?_
  refine z_putI zfX9_128 dX9_custom_2 (zkB hΓ rfl) rfl rfl ?_
  refine z_al0 dX9_custom_5 (by first | decide | omega | assumption) ?_
  refine z_il1 dX9_custom_6 ?_
  refine zcv1 dX9_custom_7 zkX9_299 ziX9_isIsle zsX9_isIsle (zkB hΓ rfl) (by decide) rfl (Nat.le_of_ble_eq_true rfl) (by decide) (by first | decide | omega) ⟨Nat.le_refl _, Nat.le_refl _⟩ (X9_isIsle_b hΓ (N := N) (by exact hn) (fun hg1 _ => ?_) (fun hg1 _ => ?_))
  · try simp only [zup_ap, zup_row, ne_eq, not_false_eq_true, zres, Int.toNat_natCast, reduceIte, Nat.reduceEqDiff, Nat.reduceAdd, and_self, and_true, true_and, and_false, false_and]
    refine z_if_eq (t := 34) dX9_custom_10 (by rfl) (fun _ => ?_) (fun hx => absurd hx (by decide))
    refine z_iconst dX9_custom_34 (by decide) ?_
    refine z_zret dX9_custom_35 rfl (Nat.le_refl _) (Nat.le_refl _) (zext_rf _) (by first | exact Or.inl rfl | exact Or.inr rfl | omega) ?_
    first | exact hQ0 (by omega) | exact hQ1 (by omega)
  · try simp only [zup_ap, zup_row, ne_eq, not_false_eq_true, zres, Int.toNat_natCast, reduceIte, Nat.reduceEqDiff, Nat.reduceAdd, and_self, and_true, true_and, and_false, false_and]
    refine z_if_eq (t := 34) dX9_custom_10 (by rfl) (fun hx => absurd hx (by decide)) (fun _ => ?_)
    refine z_il2 dX9_custom_13 ?_
    refine z_iconst dX9_custom_14 (by decide) ?_
    refine z_icmp_eq (t := 36) dX9_custom_15 (by rfl) (fun ht15 => ?_) (fun hf15 => ?_)
    · refine z_al0 dX9_custom_36 (by first | decide | omega | assumption) ?_
      refine z_getR zfX9_49 dX9_custom_37 (zkB hΓ rfl) rfl (zsB hΓ rfl) (zvB hΓ (by decide)) ?_
      refine z_il1 dX9_custom_40 ?_
      refine z_il2 dX9_custom_41 ?_
      refine z_iast dX9_custom_42 (zkB hΓ rfl) (by omega) (by omega) ?_
      refine z_iconst dX9_custom_43 (by decide) ?_
      refine z_zret dX9_custom_44 rfl (Nat.le_refl _) (Nat.le_refl _) (zext_rf _) (by first | exact Or.inl rfl | exact Or.inr rfl | omega) ?_
      first | exact hQ0 (by omega) | exact hQ1 (by omega)
    · refine z_il2 dX9_custom_18 ?_
      refine z_i2l dX9_custom_19 ?_
      refine z_lconst (x := 0) dX9_custom_20 (by rfl) (by decide) ?_
      refine z_al0 dX9_custom_21 (by first | decide | omega | assumption) ?_
      refine z_getI zfX9_271 dX9_custom_22 (zkB hΓ rfl) rfl ?_
      try simp only [zup_ap, zup_row, ne_eq, not_false_eq_true, zres, Int.toNat_natCast, reduceIte, Nat.reduceEqDiff, Nat.reduceAdd, and_self, and_true, true_and, and_false, false_and]
      rw [hm]
      try simp only [zup_ap, zup_row, ne_eq, not_false_eq_true, zres, Int.toNat_natCast, reduceIte, Nat.reduceEqDiff, Nat.reduceAdd, and_self, and_true, true_and, and_false, false_and]
      refine z_iconst dX9_custom_25 (by decide) ?_
      refine z_isub dX9_custom_26 (by omega) ?_
      refine z_i2l dX9_custom_27 ?_
      refine zcs3 dX9_custom_28 zkX9_261 ztX9_isIn (Nat.le_of_ble_eq_true rfl) (by decide) (by first | decide | omega) ⟨Nat.le_refl _, Nat.le_refl _⟩ (X9_isIn_ct (fun hg2 _ => ?_) (fun hg2 _ => ?_))
      · try simp only [zup_ap, zup_row, ne_eq, not_false_eq_true, zres, Int.toNat_natCast, reduceIte, Nat.reduceEqDiff, Nat.reduceAdd, and_self, and_true, true_and, and_false, false_and]
        refine z_if_ne (t := 36) dX9_custom_31 (by rfl) (fun hx => absurd hx (by decide)) (fun _ => ?_)
        refine z_iconst dX9_custom_34 (by decide) ?_
        refine z_zret dX9_custom_35 rfl (Nat.le_refl _) (Nat.le_refl _) (zext_rf _) (by first | exact Or.inl rfl | exact Or.inr rfl | omega) ?_
        first | exact hQ0 (by omega) | exact hQ1 (by omega)
      · try simp only [zup_ap, zup_row, ne_eq, not_false_eq_true, zres, Int.toNat_natCast, reduceIte, Nat.reduceEqDiff, Nat.reduceAdd, and_self, and_true, true_and, and_false, false_and]
        refine z_if_ne (t := 36) dX9_custom_31 (by rfl) (fun _ => ?_) (fun hx => absurd hx (by decide))
        refine z_al0 dX9_custom_36 (by first | decide | omega | assumption) ?_
        refine z_getR zfX9_49 dX9_custom_37 (zkB hΓ rfl) rfl (zsB hΓ rfl) (zvB hΓ (by decide)) ?_
        refine z_il1 dX9_custom_40 ?_
        refine z_il2 dX9_custom_41 ?_
        refine z_iast dX9_custom_42 (zkB hΓ rfl) (by omega) (by omega) ?_
        refine z_iconst dX9_custom_43 (by decide) ?_
        refine z_zret dX9_custom_44 rfl (Nat.le_refl _) (Nat.le_refl _) (zext_rf _) (by first | exact Or.inl rfl | exact Or.inr rfl | omega) ?_
        first | exact hQ0 (by omega) | exact hQ1 (by omega)
set_option maxRecDepth 4000 in
theorem X8_today_ct {l : Launch} {Γ : zC} {h : zM} {Q : Option zV → zC → zM → Prop} (hΓ : zBase Γ) {d : Int} (hQ0 : ¬ (0 ≤ d ∧ d ≤ 99) → Q (some (zI 0)) Γ h) (hQ1 : (0 ≤ d ∧ d ≤ 99) → Q (some (zI 1)) Γ (zup h 25 0 d)) : zCT l mX8_today 1 0 0 Γ [zR 1, zI d] h Q := by
  refine zCT_of (by decide) (Nat.le_of_ble_eq_true rfl) (ls := [some (zR 1), some (zI d)]) rfl ?_
  refine z_il1 dX8_today_0 ?_
  refine zcs1 dX8_today_1 zkX8_118 ztX8_isDay (Nat.le_of_ble_eq_true rfl) (by decide) (by first | decide | omega) ⟨Nat.le_refl _, Nat.le_refl _⟩ (X8_isDay_ct (fun hg1 _ => ?_) (fun hg1 _ => ?_))
  · try simp only [zup_ap, zup_row, ne_eq, not_false_eq_true, zres, Int.toNat_natCast, reduceIte, Nat.reduceEqDiff, Nat.reduceAdd, and_self, and_true, true_and, and_false, false_and]
    refine z_if_ne (t := 9) dX8_today_4 (by rfl) (fun hx => absurd hx (by decide)) (fun _ => ?_)
    refine z_iconst dX8_today_7 (by decide) ?_
    refine z_zret dX8_today_8 rfl (Nat.le_refl _) (Nat.le_refl _) (zext_rf _) (by first | exact Or.inl rfl | exact Or.inr rfl | omega) ?_
    first | exact hQ0 (by omega) | exact hQ1 (by omega)
  · try simp only [zup_ap, zup_row, ne_eq, not_false_eq_true, zres, Int.toNat_natCast, reduceIte, Nat.reduceEqDiff, Nat.reduceAdd, and_self, and_true, true_and, and_false, false_and]
    refine z_if_ne (t := 9) dX8_today_4 (by rfl) (fun _ => ?_) (fun hx => absurd hx (by decide))
    refine z_al0 dX8_today_9 (by first | decide | omega | assumption) ?_
    refine z_getR zfX8_35 dX8_today_10 (zkB hΓ rfl) rfl (zsB hΓ rfl) (zvB hΓ (by decide)) ?_
    refine z_getR zfX8_190 dX8_today_13 (zkB hΓ rfl) rfl (zsB hΓ rfl) (zvB hΓ (by decide)) ?_
    refine z_il1 dX8_today_16 ?_
    refine z_putI zfX8_193 dX8_today_17 (zkB hΓ rfl) rfl rfl ?_
    refine z_iconst dX8_today_20 (by decide) ?_
    refine z_zret dX8_today_21 rfl (Nat.le_refl _) (Nat.le_refl _) (zext_rf _) (by first | exact Or.inl rfl | exact Or.inr rfl | omega) ?_
    first | exact hQ0 (by omega) | exact hQ1 (by omega)
set_option maxRecDepth 4000 in
theorem X9_today_ct {l : Launch} {Γ : zC} {h : zM} {Q : Option zV → zC → zM → Prop} (hΓ : zBase Γ) {d : Int} (hQ0 : ¬ (0 ≤ d ∧ d ≤ 99) → Q (some (zI 0)) Γ (zup h 89 0 0)) (hQ1 : (0 ≤ d ∧ d ≤ 99) → Q (some (zI 1)) Γ (zup (zup h 89 0 0) 89 29 d)) : zCT l mX9_today 2 0 0 Γ [zR 89, zI d] h Q := by
  refine zCT_of (by decide) (Nat.le_of_ble_eq_true rfl) (ls := [some (zR 89), some (zI d)]) rfl ?_
  refine z_al0 dX9_today_0 (by first | decide | omega | assumption) ?_
  refine z_iconst dX9_today_1 (by decide) ?_
  refine z_putI zfX9_128 dX9_today_2 (zkB hΓ rfl) rfl rfl ?_
  refine z_il1 dX9_today_5 ?_
  refine zcs1 dX9_today_6 zkX9_302 ztX9_isDay (Nat.le_of_ble_eq_true rfl) (by decide) (by first | decide | omega) ⟨Nat.le_refl _, Nat.le_refl _⟩ (X9_isDay_ct (fun hg1 _ => ?_) (fun hg1 _ => ?_))
  · try simp only [zup_ap, zup_row, ne_eq, not_false_eq_true, zres, Int.toNat_natCast, reduceIte, Nat.reduceEqDiff, Nat.reduceAdd, and_self, and_true, true_and, and_false, false_and]
    refine z_if_ne (t := 14) dX9_today_9 (by rfl) (fun hx => absurd hx (by decide)) (fun _ => ?_)
    refine z_iconst dX9_today_12 (by decide) ?_
    refine z_zret dX9_today_13 rfl (Nat.le_refl _) (Nat.le_refl _) (zext_rf _) (by first | exact Or.inl rfl | exact Or.inr rfl | omega) ?_
    first | exact hQ0 (by omega) | exact hQ1 (by omega)
  · try simp only [zup_ap, zup_row, ne_eq, not_false_eq_true, zres, Int.toNat_natCast, reduceIte, Nat.reduceEqDiff, Nat.reduceAdd, and_self, and_true, true_and, and_false, false_and]
    refine z_if_ne (t := 14) dX9_today_9 (by rfl) (fun _ => ?_) (fun hx => absurd hx (by decide))
    refine z_al0 dX9_today_14 (by first | decide | omega | assumption) ?_
    refine z_il1 dX9_today_15 ?_
    refine z_putI zfX9_288 dX9_today_16 (zkB hΓ rfl) rfl rfl ?_
    refine z_iconst dX9_today_19 (by decide) ?_
    refine z_zret dX9_today_20 rfl (Nat.le_refl _) (Nat.le_refl _) (zext_rf _) (by first | exact Or.inl rfl | exact Or.inr rfl | omega) ?_
    first | exact hQ0 (by omega) | exact hQ1 (by omega)
set_option maxRecDepth 4000 in
theorem X3_addChange_ct {l : Launch} {Γ : zC} {h : zM} {Q : Option zV → zC → zM → Prop} (hΓ : zBase Γ) {i d t k : Int} (hk : h 25 1 = k) (hk0 : 0 ≤ k) (hQ0 : ¬ k < 20 → Q (some (zI 0)) Γ h) (hQ1 : k < 20 → Q (some (zI 1)) Γ (zup (zup (zup (zup h 26 k.toNat i) 27 k.toNat d) 28 k.toNat t) 25 1 (k + 1))) : zCT l mX3_addChange 0 0 0 Γ [zR 25, zI i, zI d, zI t] h Q := by
  refine zCT_of (by decide) (Nat.le_of_ble_eq_true rfl) (ls := [some (zR 25), some (zI i), some (zI d), some (zI t)]) rfl ?_
  refine z_al0 dX3_addChange_0 (by first | decide | omega | assumption) ?_
  refine z_getI zfX3_34 dX3_addChange_1 (zkB hΓ rfl) rfl ?_
  try simp only [zup_ap, zup_row, ne_eq, not_false_eq_true, zres, Int.toNat_natCast, reduceIte, Nat.reduceEqDiff, Nat.reduceAdd, and_self, and_true, true_and, and_false, false_and]
  try rw [hk]
  try simp only [zup_ap, zup_row, ne_eq, not_false_eq_true, zres, Int.toNat_natCast, reduceIte, Nat.reduceEqDiff, Nat.reduceAdd, and_self, and_true, true_and, and_false, false_and]
  refine z_if_lt (t := 16) dX3_addChange_4 (by rfl) (fun ht4 => ?_) (fun hf4 => ?_)
  · refine z_iconst dX3_addChange_16 (by decide) ?_
    refine z_zret dX3_addChange_17 rfl (Nat.le_refl _) (Nat.le_refl _) (zext_rf _) (by first | exact Or.inl rfl | exact Or.inr rfl | omega) ?_
    first | exact hQ0 (by omega) | exact hQ1 (by omega)
  · refine z_al0 dX3_addChange_7 (by first | decide | omega | assumption) ?_
    refine z_getI zfX3_34 dX3_addChange_8 (zkB hΓ rfl) rfl ?_
    try simp only [zup_ap, zup_row, ne_eq, not_false_eq_true, zres, Int.toNat_natCast, reduceIte, Nat.reduceEqDiff, Nat.reduceAdd, and_self, and_true, true_and, and_false, false_and]
    try rw [hk]
    try simp only [zup_ap, zup_row, ne_eq, not_false_eq_true, zres, Int.toNat_natCast, reduceIte, Nat.reduceEqDiff, Nat.reduceAdd, and_self, and_true, true_and, and_false, false_and]
    refine z_bipush (x := 20) dX3_addChange_11 (by rfl) (by decide) ?_
    refine z_icmp_lt (t := 18) dX3_addChange_13 (by rfl) (fun ht13 => ?_) (fun hf13 => ?_)
    · refine z_al0 dX3_addChange_18 (by first | decide | omega | assumption) ?_
      refine z_getR zfX3_9 dX3_addChange_19 (zkB hΓ rfl) rfl (zsB hΓ rfl) (zvB hΓ (by decide)) ?_
      refine z_al0 dX3_addChange_22 (by first | decide | omega | assumption) ?_
      refine z_getI zfX3_34 dX3_addChange_23 (zkB hΓ rfl) rfl ?_
      try simp only [zup_ap, zup_row, ne_eq, not_false_eq_true, zres, Int.toNat_natCast, reduceIte, Nat.reduceEqDiff, Nat.reduceAdd, and_self, and_true, true_and, and_false, false_and]
      try rw [hk]
      try simp only [zup_ap, zup_row, ne_eq, not_false_eq_true, zres, Int.toNat_natCast, reduceIte, Nat.reduceEqDiff, Nat.reduceAdd, and_self, and_true, true_and, and_false, false_and]
      refine z_il1 dX3_addChange_26 ?_
      refine z_iast dX3_addChange_27 (zkB hΓ rfl) (by omega) (by omega) ?_
      refine z_al0 dX3_addChange_28 (by first | decide | omega | assumption) ?_
      refine z_getR zfX3_15 dX3_addChange_29 (zkB hΓ rfl) rfl (zsB hΓ rfl) (zvB hΓ (by decide)) ?_
      refine z_al0 dX3_addChange_32 (by first | decide | omega | assumption) ?_
      refine z_getI zfX3_34 dX3_addChange_33 (zkB hΓ rfl) rfl ?_
      try simp only [zup_ap, zup_row, ne_eq, not_false_eq_true, zres, Int.toNat_natCast, reduceIte, Nat.reduceEqDiff, Nat.reduceAdd, and_self, and_true, true_and, and_false, false_and]
      try rw [hk]
      try simp only [zup_ap, zup_row, ne_eq, not_false_eq_true, zres, Int.toNat_natCast, reduceIte, Nat.reduceEqDiff, Nat.reduceAdd, and_self, and_true, true_and, and_false, false_and]
      refine z_il2 dX3_addChange_36 ?_
      refine z_iast dX3_addChange_37 (zkB hΓ rfl) (by omega) (by omega) ?_
      refine z_al0 dX3_addChange_38 (by first | decide | omega | assumption) ?_
      refine z_getR zfX3_18 dX3_addChange_39 (zkB hΓ rfl) rfl (zsB hΓ rfl) (zvB hΓ (by decide)) ?_
      refine z_al0 dX3_addChange_42 (by first | decide | omega | assumption) ?_
      refine z_getI zfX3_34 dX3_addChange_43 (zkB hΓ rfl) rfl ?_
      try simp only [zup_ap, zup_row, ne_eq, not_false_eq_true, zres, Int.toNat_natCast, reduceIte, Nat.reduceEqDiff, Nat.reduceAdd, and_self, and_true, true_and, and_false, false_and]
      try rw [hk]
      try simp only [zup_ap, zup_row, ne_eq, not_false_eq_true, zres, Int.toNat_natCast, reduceIte, Nat.reduceEqDiff, Nat.reduceAdd, and_self, and_true, true_and, and_false, false_and]
      refine z_il3 dX3_addChange_46 ?_
      refine z_iast dX3_addChange_47 (zkB hΓ rfl) (by omega) (by omega) ?_
      refine z_al0 dX3_addChange_48 (by first | decide | omega | assumption) ?_
      refine z_dup dX3_addChange_49 rfl ?_
      refine z_getI zfX3_34 dX3_addChange_50 (zkB hΓ rfl) rfl ?_
      try simp only [zup_ap, zup_row, ne_eq, not_false_eq_true, zres, Int.toNat_natCast, reduceIte, Nat.reduceEqDiff, Nat.reduceAdd, and_self, and_true, true_and, and_false, false_and]
      try rw [hk]
      try simp only [zup_ap, zup_row, ne_eq, not_false_eq_true, zres, Int.toNat_natCast, reduceIte, Nat.reduceEqDiff, Nat.reduceAdd, and_self, and_true, true_and, and_false, false_and]
      refine z_iconst dX3_addChange_53 (by decide) ?_
      refine z_iadd dX3_addChange_54 (by omega) ?_
      refine z_putI zfX3_34 dX3_addChange_55 (zkB hΓ rfl) rfl rfl ?_
      refine z_iconst dX3_addChange_58 (by decide) ?_
      refine z_zret dX3_addChange_59 rfl (Nat.le_refl _) (Nat.le_refl _) (zext_rf _) (by first | exact Or.inl rfl | exact Or.inr rfl | omega) ?_
      first | exact hQ0 (by omega) | exact hQ1 (by omega)
    · refine z_iconst dX3_addChange_16 (by decide) ?_
      refine z_zret dX3_addChange_17 rfl (Nat.le_refl _) (Nat.le_refl _) (zext_rf _) (by first | exact Or.inl rfl | exact Or.inr rfl | omega) ?_
      first | exact hQ0 (by omega) | exact hQ1 (by omega)
set_option maxRecDepth 4000 in
theorem X9_changesTo_ct {l : Launch} {Γ : zC} {h : zM} {Q : Option zV → zC → zM → Prop} (hΓ : zBase Γ) {i d t k : Int} (hk : h 89 28 = k) (hk0 : 0 ≤ k ∧ k < 20) (hQ : Q none Γ (zup (zup (zup (zup h 99 k.toNat i) 100 k.toNat d) 101 k.toNat t) 89 28 (k + 1))) : zCT l mX9_changesTo 0 0 0 Γ [zR 89, zI i, zI d, zI t] h Q := by
  refine zCT_of (by decide) (Nat.le_of_ble_eq_true rfl) (ls := [some (zR 89), some (zI i), some (zI d), some (zI t)]) rfl ?_
  refine z_al0 dX9_changesTo_0 (by first | decide | omega | assumption) ?_
  refine z_getR zfX9_52 dX9_changesTo_1 (zkB hΓ rfl) rfl (zsB hΓ rfl) (zvB hΓ (by decide)) ?_
  refine z_al0 dX9_changesTo_4 (by first | decide | omega | assumption) ?_
  refine z_getI zfX9_282 dX9_changesTo_5 (zkB hΓ rfl) rfl ?_
  try simp only [zup_ap, zup_row, ne_eq, not_false_eq_true, zres, Int.toNat_natCast, reduceIte, Nat.reduceEqDiff, Nat.reduceAdd, and_self, and_true, true_and, and_false, false_and]
  try rw [hk]
  try simp only [zup_ap, zup_row, ne_eq, not_false_eq_true, zres, Int.toNat_natCast, reduceIte, Nat.reduceEqDiff, Nat.reduceAdd, and_self, and_true, true_and, and_false, false_and]
  refine z_il1 dX9_changesTo_8 ?_
  refine z_iast dX9_changesTo_9 (zkB hΓ rfl) (by omega) (by omega) ?_
  refine z_al0 dX9_changesTo_10 (by first | decide | omega | assumption) ?_
  refine z_getR zfX9_55 dX9_changesTo_11 (zkB hΓ rfl) rfl (zsB hΓ rfl) (zvB hΓ (by decide)) ?_
  refine z_al0 dX9_changesTo_14 (by first | decide | omega | assumption) ?_
  refine z_getI zfX9_282 dX9_changesTo_15 (zkB hΓ rfl) rfl ?_
  try simp only [zup_ap, zup_row, ne_eq, not_false_eq_true, zres, Int.toNat_natCast, reduceIte, Nat.reduceEqDiff, Nat.reduceAdd, and_self, and_true, true_and, and_false, false_and]
  try rw [hk]
  try simp only [zup_ap, zup_row, ne_eq, not_false_eq_true, zres, Int.toNat_natCast, reduceIte, Nat.reduceEqDiff, Nat.reduceAdd, and_self, and_true, true_and, and_false, false_and]
  refine z_il2 dX9_changesTo_18 ?_
  refine z_iast dX9_changesTo_19 (zkB hΓ rfl) (by omega) (by omega) ?_
  refine z_al0 dX9_changesTo_20 (by first | decide | omega | assumption) ?_
  refine z_getR zfX9_58 dX9_changesTo_21 (zkB hΓ rfl) rfl (zsB hΓ rfl) (zvB hΓ (by decide)) ?_
  refine z_al0 dX9_changesTo_24 (by first | decide | omega | assumption) ?_
  refine z_getI zfX9_282 dX9_changesTo_25 (zkB hΓ rfl) rfl ?_
  try simp only [zup_ap, zup_row, ne_eq, not_false_eq_true, zres, Int.toNat_natCast, reduceIte, Nat.reduceEqDiff, Nat.reduceAdd, and_self, and_true, true_and, and_false, false_and]
  try rw [hk]
  try simp only [zup_ap, zup_row, ne_eq, not_false_eq_true, zres, Int.toNat_natCast, reduceIte, Nat.reduceEqDiff, Nat.reduceAdd, and_self, and_true, true_and, and_false, false_and]
  refine z_il3 dX9_changesTo_28 ?_
  refine z_iast dX9_changesTo_29 (zkB hΓ rfl) (by omega) (by omega) ?_
  refine z_al0 dX9_changesTo_30 (by first | decide | omega | assumption) ?_
  refine z_dup dX9_changesTo_31 rfl ?_
  refine z_getI zfX9_282 dX9_changesTo_32 (zkB hΓ rfl) rfl ?_
  try simp only [zup_ap, zup_row, ne_eq, not_false_eq_true, zres, Int.toNat_natCast, reduceIte, Nat.reduceEqDiff, Nat.reduceAdd, and_self, and_true, true_and, and_false, false_and]
  try rw [hk]
  try simp only [zup_ap, zup_row, ne_eq, not_false_eq_true, zres, Int.toNat_natCast, reduceIte, Nat.reduceEqDiff, Nat.reduceAdd, and_self, and_true, true_and, and_false, false_and]
  refine z_iconst dX9_changesTo_35 (by decide) ?_
  refine z_iadd dX9_changesTo_36 (by omega) ?_
  refine z_putI zfX9_282 dX9_changesTo_37 (zkB hΓ rfl) rfl rfl ?_
  refine z_ret dX9_changesTo_40 rfl (Nat.le_refl _) (Nat.le_refl _) (zext_rf _) ?_
  exact hQ
set_option maxRecDepth 4000 in
theorem X8_change_ct {l : Launch} {Γ : zC} {h : zM} {Q : Option zV → zC → zM → Prop} {i d t : Int} (hI : zIv Γ h) (hQ0 : ¬ (((0 ≤ i ∧ i < h 89 22) ∧ (0 ≤ d ∧ d ≤ 99) ∧ (0 ≤ t ∧ t ≤ 99)) ∧ h 89 28 < 20) → Q (some (zI (-1))) Γ h) (hQ1 : (((0 ≤ i ∧ i < h 89 22) ∧ (0 ≤ d ∧ d ≤ 99) ∧ (0 ≤ t ∧ t ≤ 99)) ∧ h 89 28 < 20) → Q (some (zI (h 89 28 + 1))) Γ (zup (zup (zup (zup h 26 (h 89 28).toNat i) 27 (h 89 28).toNat d) 28 (h 89 28).toNat t) 25 1 ((h 89 28) + 1))) : zCT l mX8_change 1 0 0 Γ [zR 1, zI i, zI d, zI t] h Q := by
  have hΓ := hI.base
  have hx2 := hI.isl
  have hx5 := hI.chn
  have hF := zfr_rf zSS h
  refine zCT_of (by decide) (Nat.le_of_ble_eq_true rfl) (ls := [some (zR 1), some (zI i), some (zI d), some (zI t)]) rfl ?_
  refine z_al0 dX8_change_0 (by first | decide | omega | assumption) ?_
  refine z_getR zfX8_35 dX8_change_1 (zkB hΓ rfl) rfl (zsB hΓ rfl) (zvB hΓ (by decide)) ?_
  refine z_il1 dX8_change_4 ?_
  refine zcv1 dX8_change_5 zkX8_114 ziX7_isIsle zsX7_isIsle (zkB hΓ rfl) (by decide) rfl (Nat.le_of_ble_eq_true rfl) (by decide) (by first | decide | omega) ⟨Nat.le_refl _, Nat.le_refl _⟩ (X7_isIsle_ct hI hF (fun hg1 _ => ?_) (fun hg1 _ => ?_))
  · try simp only [zup_ap, zup_row, ne_eq, not_false_eq_true, zres, Int.toNat_natCast, reduceIte, Nat.reduceEqDiff, Nat.reduceAdd, and_self, and_true, true_and, and_false, false_and]
    refine z_if_eq (t := 28) dX8_change_8 (by rfl) (fun _ => ?_) (fun hx => absurd hx (by decide))
    refine z_iconst dX8_change_28 (by decide) ?_
    refine z_iret dX8_change_29 rfl (Nat.le_refl _) (Nat.le_refl _) (zext_rf _) (fun hrr => ?_)
    first | exact hQ0 (by omega) | exact hQ1 (by omega)
  · try simp only [zup_ap, zup_row, ne_eq, not_false_eq_true, zres, Int.toNat_natCast, reduceIte, Nat.reduceEqDiff, Nat.reduceAdd, and_self, and_true, true_and, and_false, false_and]
    refine z_if_eq (t := 28) dX8_change_8 (by rfl) (fun hx => absurd hx (by decide)) (fun _ => ?_)
    refine z_il2 dX8_change_11 ?_
    refine zcs1 dX8_change_12 zkX8_118 ztX8_isDay (Nat.le_of_ble_eq_true rfl) (by decide) (by first | decide | omega) ⟨Nat.le_refl _, Nat.le_refl _⟩ (X8_isDay_ct (fun hg2 _ => ?_) (fun hg2 _ => ?_))
    · try simp only [zup_ap, zup_row, ne_eq, not_false_eq_true, zres, Int.toNat_natCast, reduceIte, Nat.reduceEqDiff, Nat.reduceAdd, and_self, and_true, true_and, and_false, false_and]
      refine z_if_eq (t := 28) dX8_change_15 (by rfl) (fun _ => ?_) (fun hx => absurd hx (by decide))
      refine z_iconst dX8_change_28 (by decide) ?_
      refine z_iret dX8_change_29 rfl (Nat.le_refl _) (Nat.le_refl _) (zext_rf _) (fun hrr => ?_)
      first | exact hQ0 (by omega) | exact hQ1 (by omega)
    · try simp only [zup_ap, zup_row, ne_eq, not_false_eq_true, zres, Int.toNat_natCast, reduceIte, Nat.reduceEqDiff, Nat.reduceAdd, and_self, and_true, true_and, and_false, false_and]
      refine z_if_eq (t := 28) dX8_change_15 (by rfl) (fun hx => absurd hx (by decide)) (fun _ => ?_)
      refine z_il3 dX8_change_18 ?_
      refine z_if_lt (t := 28) dX8_change_19 (by rfl) (fun ht19 => ?_) (fun hf19 => ?_)
      · refine z_iconst dX8_change_28 (by decide) ?_
        refine z_iret dX8_change_29 rfl (Nat.le_refl _) (Nat.le_refl _) (zext_rf _) (fun hrr => ?_)
        first | exact hQ0 (by omega) | exact hQ1 (by omega)
      · refine z_il3 dX8_change_22 ?_
        refine z_bipush (x := 99) dX8_change_23 (by rfl) (by decide) ?_
        refine z_icmp_le (t := 30) dX8_change_25 (by rfl) (fun ht25 => ?_) (fun hf25 => ?_)
        · refine z_al0 dX8_change_30 (by first | decide | omega | assumption) ?_
          refine z_getR zfX8_35 dX8_change_31 (zkB hΓ rfl) rfl (zsB hΓ rfl) (zvB hΓ (by decide)) ?_
          refine z_getR zfX8_190 dX8_change_34 (zkB hΓ rfl) rfl (zsB hΓ rfl) (zvB hΓ (by decide)) ?_
          refine z_il1 dX8_change_37 ?_
          refine z_il2 dX8_change_38 ?_
          refine z_il3 dX8_change_39 ?_
          refine zcv3 dX8_change_40 zkX8_239 ziX3_addChange zsX3_addChange (zkB hΓ rfl) (by decide) rfl (Nat.le_of_ble_eq_true rfl) (by decide) (by first | decide | omega) ⟨Nat.le_refl _, Nat.le_refl _⟩ (X3_addChange_ct hΓ hx5.1 hx5.2.1 (fun hg3 _ => ?_) (fun hg3 _ => ?_))
          · try simp only [zup_ap, zup_row, ne_eq, not_false_eq_true, zres, Int.toNat_natCast, reduceIte, Nat.reduceEqDiff, Nat.reduceAdd, and_self, and_true, true_and, and_false, false_and]
            refine z_if_eq (t := 59) dX8_change_43 (by rfl) (fun _ => ?_) (fun hx => absurd hx (by decide))
            refine z_iconst dX8_change_59 (by decide) ?_
            refine z_iret dX8_change_60 rfl (Nat.le_refl _) (Nat.le_refl _) (zext_rf _) (fun hrr => ?_)
            first | exact hQ0 (by omega) | exact hQ1 (by omega)
          · try simp only [zup_ap, zup_row, ne_eq, not_false_eq_true, zres, Int.toNat_natCast, reduceIte, Nat.reduceEqDiff, Nat.reduceAdd, and_self, and_true, true_and, and_false, false_and]
            refine z_if_eq (t := 59) dX8_change_43 (by rfl) (fun hx => absurd hx (by decide)) (fun _ => ?_)
            refine z_al0 dX8_change_46 (by first | decide | omega | assumption) ?_
            refine z_getR zfX8_35 dX8_change_47 (zkB hΓ rfl) rfl (zsB hΓ rfl) (zvB hΓ (by decide)) ?_
            refine z_getR zfX8_190 dX8_change_50 (zkB hΓ rfl) rfl (zsB hΓ rfl) (zvB hΓ (by decide)) ?_
            refine z_getI zfX8_242 dX8_change_53 (zkB hΓ rfl) rfl ?_
            try simp only [zup_ap, zup_row, ne_eq, not_false_eq_true, zres, Int.toNat_natCast, reduceIte, Nat.reduceEqDiff, Nat.reduceAdd, and_self, and_true, true_and, and_false, false_and]
            refine z_goto (t := 60) dX8_change_56 (by rfl) ?_
            refine z_iret dX8_change_60 rfl (Nat.le_refl _) (Nat.le_refl _) (zext_rf _) (fun hrr => ?_)
            first | exact hQ0 (by omega) | exact hQ1 (by omega)
        · refine z_iconst dX8_change_28 (by decide) ?_
          refine z_iret dX8_change_29 rfl (Nat.le_refl _) (Nat.le_refl _) (zext_rf _) (fun hrr => ?_)
          first | exact hQ0 (by omega) | exact hQ1 (by omega)
set_option maxRecDepth 4000 in
theorem X9_change_ct {l : Launch} {Γ : zC} {h : zM} {Q : Option zV → zC → zM → Prop} {i d t N k : Int} (hΓ : zBase Γ) (hn : h 89 22 = N) (hk : h 89 28 = k) (hk0 : 0 ≤ k ∧ k ≤ 20) (hQ0 : ¬ (((0 ≤ i ∧ i < N) ∧ (0 ≤ d ∧ d ≤ 99) ∧ (0 ≤ t ∧ t ≤ 99)) ∧ k < 20) → Q (some (zI (-1))) Γ (zup h 89 0 0)) (hQ1 : (((0 ≤ i ∧ i < N) ∧ (0 ≤ d ∧ d ≤ 99) ∧ (0 ≤ t ∧ t ≤ 99)) ∧ k < 20) → Q (some (zI (k + 1))) Γ (zup (zup (zup (zup (zup h 89 0 0) 99 k.toNat i) 100 k.toNat d) 101 k.toNat t) 89 28 (k + 1))) : zCT l mX9_change 2 0 0 Γ [zR 89, zI i, zI d, zI t] h Q := by
  refine zCT_of (by decide) (Nat.le_of_ble_eq_true rfl) (ls := [some (zR 89), some (zI i), some (zI d), some (zI t)]) rfl ?_
  refine z_al0 dX9_change_0 (by first | decide | omega | assumption) ?_
  refine z_iconst dX9_change_1 (by decide) ?_
  refine z_putI zfX9_128 dX9_change_2 (zkB hΓ rfl) rfl rfl ?_
  refine z_al0 dX9_change_5 (by first | decide | omega | assumption) ?_
  refine z_getI zfX9_282 dX9_change_6 (zkB hΓ rfl) rfl ?_
  try simp only [zup_ap, zup_row, ne_eq, not_false_eq_true, zres, Int.toNat_natCast, reduceIte, Nat.reduceEqDiff, Nat.reduceAdd, and_self, and_true, true_and, and_false, false_and]
  try rw [hk]
  try simp only [zup_ap, zup_row, ne_eq, not_false_eq_true, zres, Int.toNat_natCast, reduceIte, Nat.reduceEqDiff, Nat.reduceAdd, and_self, and_true, true_and, and_false, false_and]
  refine z_bipush (x := 20) dX9_change_9 (by rfl) (by decide) ?_
  refine z_icmp_eq (t := 41) dX9_change_11 (by rfl) (fun ht11 => ?_) (fun hf11 => ?_)
  · refine z_iconst dX9_change_41 (by decide) ?_
    refine z_iret dX9_change_42 rfl (Nat.le_refl _) (Nat.le_refl _) (zext_rf _) (fun hrr => ?_)
    first | exact hQ0 (by omega) | exact hQ1 (by omega)
  · refine z_al0 dX9_change_14 (by first | decide | omega | assumption) ?_
    refine z_il1 dX9_change_15 ?_
    refine zcv1 dX9_change_16 zkX9_299 ziX9_isIsle zsX9_isIsle (zkB hΓ rfl) (by decide) rfl (Nat.le_of_ble_eq_true rfl) (by decide) (by first | decide | omega) ⟨Nat.le_refl _, Nat.le_refl _⟩ (X9_isIsle_b hΓ (N := N) (by exact hn) (fun hg1 _ => ?_) (fun hg1 _ => ?_))
    · try simp only [zup_ap, zup_row, ne_eq, not_false_eq_true, zres, Int.toNat_natCast, reduceIte, Nat.reduceEqDiff, Nat.reduceAdd, and_self, and_true, true_and, and_false, false_and]
      refine z_if_eq (t := 41) dX9_change_19 (by rfl) (fun _ => ?_) (fun hx => absurd hx (by decide))
      refine z_iconst dX9_change_41 (by decide) ?_
      refine z_iret dX9_change_42 rfl (Nat.le_refl _) (Nat.le_refl _) (zext_rf _) (fun hrr => ?_)
      first | exact hQ0 (by omega) | exact hQ1 (by omega)
    · try simp only [zup_ap, zup_row, ne_eq, not_false_eq_true, zres, Int.toNat_natCast, reduceIte, Nat.reduceEqDiff, Nat.reduceAdd, and_self, and_true, true_and, and_false, false_and]
      refine z_if_eq (t := 41) dX9_change_19 (by rfl) (fun hx => absurd hx (by decide)) (fun _ => ?_)
      refine z_il2 dX9_change_22 ?_
      refine zcs1 dX9_change_23 zkX9_302 ztX9_isDay (Nat.le_of_ble_eq_true rfl) (by decide) (by first | decide | omega) ⟨Nat.le_refl _, Nat.le_refl _⟩ (X9_isDay_ct (fun hg2 _ => ?_) (fun hg2 _ => ?_))
      · try simp only [zup_ap, zup_row, ne_eq, not_false_eq_true, zres, Int.toNat_natCast, reduceIte, Nat.reduceEqDiff, Nat.reduceAdd, and_self, and_true, true_and, and_false, false_and]
        refine z_if_eq (t := 41) dX9_change_26 (by rfl) (fun _ => ?_) (fun hx => absurd hx (by decide))
        refine z_iconst dX9_change_41 (by decide) ?_
        refine z_iret dX9_change_42 rfl (Nat.le_refl _) (Nat.le_refl _) (zext_rf _) (fun hrr => ?_)
        first | exact hQ0 (by omega) | exact hQ1 (by omega)
      · try simp only [zup_ap, zup_row, ne_eq, not_false_eq_true, zres, Int.toNat_natCast, reduceIte, Nat.reduceEqDiff, Nat.reduceAdd, and_self, and_true, true_and, and_false, false_and]
        refine z_if_eq (t := 41) dX9_change_26 (by rfl) (fun hx => absurd hx (by decide)) (fun _ => ?_)
        refine z_il3 dX9_change_29 ?_
        refine z_i2l dX9_change_30 ?_
        refine z_lconst (x := 0) dX9_change_31 (by rfl) (by decide) ?_
        refine z_ldc2 (x := 99) dX9_change_32 zqX9_294 (by decide) ?_
        refine zcs3 dX9_change_35 zkX9_261 ztX9_isIn (Nat.le_of_ble_eq_true rfl) (by decide) (by first | decide | omega) ⟨Nat.le_refl _, Nat.le_refl _⟩ (X9_isIn_ct (fun hg3 _ => ?_) (fun hg3 _ => ?_))
        · try simp only [zup_ap, zup_row, ne_eq, not_false_eq_true, zres, Int.toNat_natCast, reduceIte, Nat.reduceEqDiff, Nat.reduceAdd, and_self, and_true, true_and, and_false, false_and]
          refine z_if_ne (t := 43) dX9_change_38 (by rfl) (fun hx => absurd hx (by decide)) (fun _ => ?_)
          refine z_iconst dX9_change_41 (by decide) ?_
          refine z_iret dX9_change_42 rfl (Nat.le_refl _) (Nat.le_refl _) (zext_rf _) (fun hrr => ?_)
          first | exact hQ0 (by omega) | exact hQ1 (by omega)
        · try simp only [zup_ap, zup_row, ne_eq, not_false_eq_true, zres, Int.toNat_natCast, reduceIte, Nat.reduceEqDiff, Nat.reduceAdd, and_self, and_true, true_and, and_false, false_and]
          refine z_if_ne (t := 43) dX9_change_38 (by rfl) (fun _ => ?_) (fun hx => absurd hx (by decide))
          refine z_al0 dX9_change_43 (by first | decide | omega | assumption) ?_
          refine z_il1 dX9_change_44 ?_
          refine z_il2 dX9_change_45 ?_
          refine z_il3 dX9_change_46 ?_
          refine zcv3 dX9_change_47 zkX9_412 ziX9_changesTo zsX9_changesTo (zkB hΓ rfl) (by decide) rfl (Nat.le_of_ble_eq_true rfl) (by decide) (by first | decide | omega) ⟨Nat.le_refl _, Nat.le_refl _⟩ (X9_changesTo_ct hΓ (k := k) (by exact hk) (by omega) (fun _ => ?_))
          try simp only [zup_ap, zup_row, ne_eq, not_false_eq_true, zres, Int.toNat_natCast, reduceIte, Nat.reduceEqDiff, Nat.reduceAdd, and_self, and_true, true_and, and_false, false_and]
          refine z_al0 dX9_change_50 (by first | decide | omega | assumption) ?_
          refine z_getI zfX9_282 dX9_change_51 (zkB hΓ rfl) rfl ?_
          try simp only [zup_ap, zup_row, ne_eq, not_false_eq_true, zres, Int.toNat_natCast, reduceIte, Nat.reduceEqDiff, Nat.reduceAdd, and_self, and_true, true_and, and_false, false_and]
          try rw [hk]
          try simp only [zup_ap, zup_row, ne_eq, not_false_eq_true, zres, Int.toNat_natCast, reduceIte, Nat.reduceEqDiff, Nat.reduceAdd, and_self, and_true, true_and, and_false, false_and]
          refine z_iret dX9_change_54 rfl (Nat.le_refl _) (Nat.le_refl _) (zext_rf _) (fun hrr => ?_)
          first | exact hQ0 (by omega) | exact hQ1 (by omega)
set_option maxRecDepth 4000 in
theorem X3_addSaid_ct {l : Launch} {Γ : zC} {h : zM} {Q : Option zV → zC → zM → Prop} (hΓ : zBase Γ) {i n d k : Int} (hk : h 25 2 = k) (hd : h 25 0 = d) (hk0 : 0 ≤ k) (hQ0 : ¬ k < 40 → Q (some (zI 0)) Γ h) (hQ1 : k < 40 → Q (some (zI 1)) Γ (zup (zup (zup (zup h 29 k.toNat i) 30 k.toNat n) 31 k.toNat d) 25 2 (k + 1))) : zCT l mX3_addSaid 0 0 0 Γ [zR 25, zI i, zI n] h Q := by
  refine zCT_of (by decide) (Nat.le_of_ble_eq_true rfl) (ls := [some (zR 25), some (zI i), some (zI n)]) rfl ?_
  refine z_al0 dX3_addSaid_0 (by first | decide | omega | assumption) ?_
  refine z_getI zfX3_37 dX3_addSaid_1 (zkB hΓ rfl) rfl ?_
  try simp only [zup_ap, zup_row, ne_eq, not_false_eq_true, zres, Int.toNat_natCast, reduceIte, Nat.reduceEqDiff, Nat.reduceAdd, and_self, and_true, true_and, and_false, false_and]
  try rw [hk]
  try simp only [zup_ap, zup_row, ne_eq, not_false_eq_true, zres, Int.toNat_natCast, reduceIte, Nat.reduceEqDiff, Nat.reduceAdd, and_self, and_true, true_and, and_false, false_and]
  refine z_if_lt (t := 16) dX3_addSaid_4 (by rfl) (fun ht4 => ?_) (fun hf4 => ?_)
  · refine z_iconst dX3_addSaid_16 (by decide) ?_
    refine z_zret dX3_addSaid_17 rfl (Nat.le_refl _) (Nat.le_refl _) (zext_rf _) (by first | exact Or.inl rfl | exact Or.inr rfl | omega) ?_
    first | exact hQ0 (by omega) | exact hQ1 (by omega)
  · refine z_al0 dX3_addSaid_7 (by first | decide | omega | assumption) ?_
    refine z_getI zfX3_37 dX3_addSaid_8 (zkB hΓ rfl) rfl ?_
    try simp only [zup_ap, zup_row, ne_eq, not_false_eq_true, zres, Int.toNat_natCast, reduceIte, Nat.reduceEqDiff, Nat.reduceAdd, and_self, and_true, true_and, and_false, false_and]
    try rw [hk]
    try simp only [zup_ap, zup_row, ne_eq, not_false_eq_true, zres, Int.toNat_natCast, reduceIte, Nat.reduceEqDiff, Nat.reduceAdd, and_self, and_true, true_and, and_false, false_and]
    refine z_bipush (x := 40) dX3_addSaid_11 (by rfl) (by decide) ?_
    refine z_icmp_lt (t := 18) dX3_addSaid_13 (by rfl) (fun ht13 => ?_) (fun hf13 => ?_)
    · refine z_al0 dX3_addSaid_18 (by first | decide | omega | assumption) ?_
      refine z_getR zfX3_21 dX3_addSaid_19 (zkB hΓ rfl) rfl (zsB hΓ rfl) (zvB hΓ (by decide)) ?_
      refine z_al0 dX3_addSaid_22 (by first | decide | omega | assumption) ?_
      refine z_getI zfX3_37 dX3_addSaid_23 (zkB hΓ rfl) rfl ?_
      try simp only [zup_ap, zup_row, ne_eq, not_false_eq_true, zres, Int.toNat_natCast, reduceIte, Nat.reduceEqDiff, Nat.reduceAdd, and_self, and_true, true_and, and_false, false_and]
      try rw [hk]
      try simp only [zup_ap, zup_row, ne_eq, not_false_eq_true, zres, Int.toNat_natCast, reduceIte, Nat.reduceEqDiff, Nat.reduceAdd, and_self, and_true, true_and, and_false, false_and]
      refine z_il1 dX3_addSaid_26 ?_
      refine z_iast dX3_addSaid_27 (zkB hΓ rfl) (by omega) (by omega) ?_
      refine z_al0 dX3_addSaid_28 (by first | decide | omega | assumption) ?_
      refine z_getR zfX3_24 dX3_addSaid_29 (zkB hΓ rfl) rfl (zsB hΓ rfl) (zvB hΓ (by decide)) ?_
      refine z_al0 dX3_addSaid_32 (by first | decide | omega | assumption) ?_
      refine z_getI zfX3_37 dX3_addSaid_33 (zkB hΓ rfl) rfl ?_
      try simp only [zup_ap, zup_row, ne_eq, not_false_eq_true, zres, Int.toNat_natCast, reduceIte, Nat.reduceEqDiff, Nat.reduceAdd, and_self, and_true, true_and, and_false, false_and]
      try rw [hk]
      try simp only [zup_ap, zup_row, ne_eq, not_false_eq_true, zres, Int.toNat_natCast, reduceIte, Nat.reduceEqDiff, Nat.reduceAdd, and_self, and_true, true_and, and_false, false_and]
      refine z_il2 dX3_addSaid_36 ?_
      refine z_iast dX3_addSaid_37 (zkB hΓ rfl) (by omega) (by omega) ?_
      refine z_al0 dX3_addSaid_38 (by first | decide | omega | assumption) ?_
      refine z_getR zfX3_27 dX3_addSaid_39 (zkB hΓ rfl) rfl (zsB hΓ rfl) (zvB hΓ (by decide)) ?_
      refine z_al0 dX3_addSaid_42 (by first | decide | omega | assumption) ?_
      refine z_getI zfX3_37 dX3_addSaid_43 (zkB hΓ rfl) rfl ?_
      try simp only [zup_ap, zup_row, ne_eq, not_false_eq_true, zres, Int.toNat_natCast, reduceIte, Nat.reduceEqDiff, Nat.reduceAdd, and_self, and_true, true_and, and_false, false_and]
      try rw [hk]
      try simp only [zup_ap, zup_row, ne_eq, not_false_eq_true, zres, Int.toNat_natCast, reduceIte, Nat.reduceEqDiff, Nat.reduceAdd, and_self, and_true, true_and, and_false, false_and]
      refine z_al0 dX3_addSaid_46 (by first | decide | omega | assumption) ?_
      refine z_getI zfX3_30 dX3_addSaid_47 (zkB hΓ rfl) rfl ?_
      try simp only [zup_ap, zup_row, ne_eq, not_false_eq_true, zres, Int.toNat_natCast, reduceIte, Nat.reduceEqDiff, Nat.reduceAdd, and_self, and_true, true_and, and_false, false_and]
      rw [hd]
      try simp only [zup_ap, zup_row, ne_eq, not_false_eq_true, zres, Int.toNat_natCast, reduceIte, Nat.reduceEqDiff, Nat.reduceAdd, and_self, and_true, true_and, and_false, false_and]
      refine z_iast dX3_addSaid_50 (zkB hΓ rfl) (by omega) (by omega) ?_
      refine z_al0 dX3_addSaid_51 (by first | decide | omega | assumption) ?_
      refine z_dup dX3_addSaid_52 rfl ?_
      refine z_getI zfX3_37 dX3_addSaid_53 (zkB hΓ rfl) rfl ?_
      try simp only [zup_ap, zup_row, ne_eq, not_false_eq_true, zres, Int.toNat_natCast, reduceIte, Nat.reduceEqDiff, Nat.reduceAdd, and_self, and_true, true_and, and_false, false_and]
      try rw [hk]
      try simp only [zup_ap, zup_row, ne_eq, not_false_eq_true, zres, Int.toNat_natCast, reduceIte, Nat.reduceEqDiff, Nat.reduceAdd, and_self, and_true, true_and, and_false, false_and]
      refine z_iconst dX3_addSaid_56 (by decide) ?_
      refine z_iadd dX3_addSaid_57 (by omega) ?_
      refine z_putI zfX3_37 dX3_addSaid_58 (zkB hΓ rfl) rfl rfl ?_
      refine z_iconst dX3_addSaid_61 (by decide) ?_
      refine z_zret dX3_addSaid_62 rfl (Nat.le_refl _) (Nat.le_refl _) (zext_rf _) (by first | exact Or.inl rfl | exact Or.inr rfl | omega) ?_
      first | exact hQ0 (by omega) | exact hQ1 (by omega)
    · refine z_iconst dX3_addSaid_16 (by decide) ?_
      refine z_zret dX3_addSaid_17 rfl (Nat.le_refl _) (Nat.le_refl _) (zext_rf _) (by first | exact Or.inl rfl | exact Or.inr rfl | omega) ?_
      first | exact hQ0 (by omega) | exact hQ1 (by omega)
set_option maxRecDepth 4000 in
theorem X8_say_ct {l : Launch} {Γ : zC} {h : zM} {Q : Option zV → zC → zM → Prop} {i n : Int} (hI : zIv Γ h) (hQ0 : ¬ (((0 ≤ i ∧ i < h 89 22) ∧ (0 ≤ n ∧ n ≤ 999)) ∧ h 89 51 < 40) → Q (some (zI (-1))) Γ h) (hQ1 : (((0 ≤ i ∧ i < h 89 22) ∧ (0 ≤ n ∧ n ≤ 999)) ∧ h 89 51 < 40) → Q (some (zI (h 89 51 + 1))) Γ (zup (zup (zup (zup h 29 (h 89 51).toNat i) 30 (h 89 51).toNat n) 31 (h 89 51).toNat (h 89 29)) 25 2 ((h 89 51) + 1))) : zCT l mX8_say 1 0 0 Γ [zR 1, zI i, zI n] h Q := by
  have hΓ := hI.base
  have hx2 := hI.isl
  have hx5 := hI.sdn
  have hnw := hI.now
  have hF := zfr_rf zSS h
  refine zCT_of (by decide) (Nat.le_of_ble_eq_true rfl) (ls := [some (zR 1), some (zI i), some (zI n)]) rfl ?_
  refine z_al0 dX8_say_0 (by first | decide | omega | assumption) ?_
  refine z_getR zfX8_35 dX8_say_1 (zkB hΓ rfl) rfl (zsB hΓ rfl) (zvB hΓ (by decide)) ?_
  refine z_il1 dX8_say_4 ?_
  refine zcv1 dX8_say_5 zkX8_114 ziX7_isIsle zsX7_isIsle (zkB hΓ rfl) (by decide) rfl (Nat.le_of_ble_eq_true rfl) (by decide) (by first | decide | omega) ⟨Nat.le_refl _, Nat.le_refl _⟩ (X7_isIsle_ct hI hF (fun hg1 _ => ?_) (fun hg1 _ => ?_))
  · try simp only [zup_ap, zup_row, ne_eq, not_false_eq_true, zres, Int.toNat_natCast, reduceIte, Nat.reduceEqDiff, Nat.reduceAdd, and_self, and_true, true_and, and_false, false_and]
    refine z_if_eq (t := 18) dX8_say_8 (by rfl) (fun _ => ?_) (fun hx => absurd hx (by decide))
    refine z_iconst dX8_say_18 (by decide) ?_
    refine z_iret dX8_say_19 rfl (Nat.le_refl _) (Nat.le_refl _) (zext_rf _) (fun hrr => ?_)
    first | exact hQ0 (by omega) | exact hQ1 (by omega)
  · try simp only [zup_ap, zup_row, ne_eq, not_false_eq_true, zres, Int.toNat_natCast, reduceIte, Nat.reduceEqDiff, Nat.reduceAdd, and_self, and_true, true_and, and_false, false_and]
    refine z_if_eq (t := 18) dX8_say_8 (by rfl) (fun hx => absurd hx (by decide)) (fun _ => ?_)
    refine z_il2 dX8_say_11 ?_
    refine zcs1 dX8_say_12 zkX8_142 ztX8_isNumber (Nat.le_of_ble_eq_true rfl) (by decide) (by first | decide | omega) ⟨Nat.le_refl _, Nat.le_refl _⟩ (X8_isNumber_ct (fun hg2 _ => ?_) (fun hg2 _ => ?_))
    · try simp only [zup_ap, zup_row, ne_eq, not_false_eq_true, zres, Int.toNat_natCast, reduceIte, Nat.reduceEqDiff, Nat.reduceAdd, and_self, and_true, true_and, and_false, false_and]
      refine z_if_ne (t := 20) dX8_say_15 (by rfl) (fun hx => absurd hx (by decide)) (fun _ => ?_)
      refine z_iconst dX8_say_18 (by decide) ?_
      refine z_iret dX8_say_19 rfl (Nat.le_refl _) (Nat.le_refl _) (zext_rf _) (fun hrr => ?_)
      first | exact hQ0 (by omega) | exact hQ1 (by omega)
    · try simp only [zup_ap, zup_row, ne_eq, not_false_eq_true, zres, Int.toNat_natCast, reduceIte, Nat.reduceEqDiff, Nat.reduceAdd, and_self, and_true, true_and, and_false, false_and]
      refine z_if_ne (t := 20) dX8_say_15 (by rfl) (fun _ => ?_) (fun hx => absurd hx (by decide))
      refine z_al0 dX8_say_20 (by first | decide | omega | assumption) ?_
      refine z_getR zfX8_35 dX8_say_21 (zkB hΓ rfl) rfl (zsB hΓ rfl) (zvB hΓ (by decide)) ?_
      refine z_getR zfX8_190 dX8_say_24 (zkB hΓ rfl) rfl (zsB hΓ rfl) (zvB hΓ (by decide)) ?_
      refine z_il1 dX8_say_27 ?_
      refine z_il2 dX8_say_28 ?_
      refine zcv2 dX8_say_29 zkX8_249 ziX3_addSaid zsX3_addSaid (zkB hΓ rfl) (by decide) rfl (Nat.le_of_ble_eq_true rfl) (by decide) (by first | decide | omega) ⟨Nat.le_refl _, Nat.le_refl _⟩ (X3_addSaid_ct hΓ hx5.1 hnw.1 hx5.2.1 (fun hg3 _ => ?_) (fun hg3 _ => ?_))
      · try simp only [zup_ap, zup_row, ne_eq, not_false_eq_true, zres, Int.toNat_natCast, reduceIte, Nat.reduceEqDiff, Nat.reduceAdd, and_self, and_true, true_and, and_false, false_and]
        refine z_if_eq (t := 48) dX8_say_32 (by rfl) (fun _ => ?_) (fun hx => absurd hx (by decide))
        refine z_iconst dX8_say_48 (by decide) ?_
        refine z_iret dX8_say_49 rfl (Nat.le_refl _) (Nat.le_refl _) (zext_rf _) (fun hrr => ?_)
        first | exact hQ0 (by omega) | exact hQ1 (by omega)
      · try simp only [zup_ap, zup_row, ne_eq, not_false_eq_true, zres, Int.toNat_natCast, reduceIte, Nat.reduceEqDiff, Nat.reduceAdd, and_self, and_true, true_and, and_false, false_and]
        refine z_if_eq (t := 48) dX8_say_32 (by rfl) (fun hx => absurd hx (by decide)) (fun _ => ?_)
        refine z_al0 dX8_say_35 (by first | decide | omega | assumption) ?_
        refine z_getR zfX8_35 dX8_say_36 (zkB hΓ rfl) rfl (zsB hΓ rfl) (zvB hΓ (by decide)) ?_
        refine z_getR zfX8_190 dX8_say_39 (zkB hΓ rfl) rfl (zsB hΓ rfl) (zvB hΓ (by decide)) ?_
        refine z_getI zfX8_252 dX8_say_42 (zkB hΓ rfl) rfl ?_
        try simp only [zup_ap, zup_row, ne_eq, not_false_eq_true, zres, Int.toNat_natCast, reduceIte, Nat.reduceEqDiff, Nat.reduceAdd, and_self, and_true, true_and, and_false, false_and]
        refine z_goto (t := 49) dX8_say_45 (by rfl) ?_
        refine z_iret dX8_say_49 rfl (Nat.le_refl _) (Nat.le_refl _) (zext_rf _) (fun hrr => ?_)
        first | exact hQ0 (by omega) | exact hQ1 (by omega)
set_option maxRecDepth 4000 in
theorem X9_say_ct {l : Launch} {Γ : zC} {h : zM} {Q : Option zV → zC → zM → Prop} {i n N k d : Int} (hΓ : zBase Γ) (hn : h 89 22 = N) (hk : h 89 51 = k) (hd : h 89 29 = d) (hk0 : 0 ≤ k ∧ k ≤ 40) (hQ0 : ¬ (((0 ≤ i ∧ i < N) ∧ (0 ≤ n ∧ n ≤ 999)) ∧ k < 40) → Q (some (zI (-1))) Γ (zup h 89 0 0)) (hQ1 : (((0 ≤ i ∧ i < N) ∧ (0 ≤ n ∧ n ≤ 999)) ∧ k < 40) → Q (some (zI (k + 1))) Γ (zup (zup (zup (zup (zup h 89 0 0) 113 k.toNat i) 114 k.toNat n) 115 k.toNat d) 89 51 (k + 1))) : zCT l mX9_say 1 0 0 Γ [zR 89, zI i, zI n] h Q := by
  refine zCT_of (by decide) (Nat.le_of_ble_eq_true rfl) (ls := [some (zR 89), some (zI i), some (zI n)]) rfl ?_
  refine z_al0 dX9_say_0 (by first | decide | omega | assumption) ?_
  refine z_iconst dX9_say_1 (by decide) ?_
  refine z_putI zfX9_128 dX9_say_2 (zkB hΓ rfl) rfl rfl ?_
  refine z_al0 dX9_say_5 (by first | decide | omega | assumption) ?_
  refine z_getI zfX9_285 dX9_say_6 (zkB hΓ rfl) rfl ?_
  try simp only [zup_ap, zup_row, ne_eq, not_false_eq_true, zres, Int.toNat_natCast, reduceIte, Nat.reduceEqDiff, Nat.reduceAdd, and_self, and_true, true_and, and_false, false_and]
  try rw [hk]
  try simp only [zup_ap, zup_row, ne_eq, not_false_eq_true, zres, Int.toNat_natCast, reduceIte, Nat.reduceEqDiff, Nat.reduceAdd, and_self, and_true, true_and, and_false, false_and]
  refine z_bipush (x := 40) dX9_say_9 (by rfl) (by decide) ?_
  refine z_icmp_eq (t := 34) dX9_say_11 (by rfl) (fun ht11 => ?_) (fun hf11 => ?_)
  · refine z_iconst dX9_say_34 (by decide) ?_
    refine z_iret dX9_say_35 rfl (Nat.le_refl _) (Nat.le_refl _) (zext_rf _) (fun hrr => ?_)
    first | exact hQ0 (by omega) | exact hQ1 (by omega)
  · refine z_al0 dX9_say_14 (by first | decide | omega | assumption) ?_
    refine z_il1 dX9_say_15 ?_
    refine zcv1 dX9_say_16 zkX9_299 ziX9_isIsle zsX9_isIsle (zkB hΓ rfl) (by decide) rfl (Nat.le_of_ble_eq_true rfl) (by decide) (by first | decide | omega) ⟨Nat.le_refl _, Nat.le_refl _⟩ (X9_isIsle_b hΓ (N := N) (by exact hn) (fun hg1 _ => ?_) (fun hg1 _ => ?_))
    · try simp only [zup_ap, zup_row, ne_eq, not_false_eq_true, zres, Int.toNat_natCast, reduceIte, Nat.reduceEqDiff, Nat.reduceAdd, and_self, and_true, true_and, and_false, false_and]
      refine z_if_eq (t := 34) dX9_say_19 (by rfl) (fun _ => ?_) (fun hx => absurd hx (by decide))
      refine z_iconst dX9_say_34 (by decide) ?_
      refine z_iret dX9_say_35 rfl (Nat.le_refl _) (Nat.le_refl _) (zext_rf _) (fun hrr => ?_)
      first | exact hQ0 (by omega) | exact hQ1 (by omega)
    · try simp only [zup_ap, zup_row, ne_eq, not_false_eq_true, zres, Int.toNat_natCast, reduceIte, Nat.reduceEqDiff, Nat.reduceAdd, and_self, and_true, true_and, and_false, false_and]
      refine z_if_eq (t := 34) dX9_say_19 (by rfl) (fun hx => absurd hx (by decide)) (fun _ => ?_)
      refine z_il2 dX9_say_22 ?_
      refine z_i2l dX9_say_23 ?_
      refine z_lconst (x := 0) dX9_say_24 (by rfl) (by decide) ?_
      refine z_ldc2 (x := 999) dX9_say_25 zqX9_309 (by decide) ?_
      refine zcs3 dX9_say_28 zkX9_261 ztX9_isIn (Nat.le_of_ble_eq_true rfl) (by decide) (by first | decide | omega) ⟨Nat.le_refl _, Nat.le_refl _⟩ (X9_isIn_ct (fun hg2 _ => ?_) (fun hg2 _ => ?_))
      · try simp only [zup_ap, zup_row, ne_eq, not_false_eq_true, zres, Int.toNat_natCast, reduceIte, Nat.reduceEqDiff, Nat.reduceAdd, and_self, and_true, true_and, and_false, false_and]
        refine z_if_ne (t := 36) dX9_say_31 (by rfl) (fun hx => absurd hx (by decide)) (fun _ => ?_)
        refine z_iconst dX9_say_34 (by decide) ?_
        refine z_iret dX9_say_35 rfl (Nat.le_refl _) (Nat.le_refl _) (zext_rf _) (fun hrr => ?_)
        first | exact hQ0 (by omega) | exact hQ1 (by omega)
      · try simp only [zup_ap, zup_row, ne_eq, not_false_eq_true, zres, Int.toNat_natCast, reduceIte, Nat.reduceEqDiff, Nat.reduceAdd, and_self, and_true, true_and, and_false, false_and]
        refine z_if_ne (t := 36) dX9_say_31 (by rfl) (fun _ => ?_) (fun hx => absurd hx (by decide))
        refine z_al0 dX9_say_36 (by first | decide | omega | assumption) ?_
        refine z_getR zfX9_104 dX9_say_37 (zkB hΓ rfl) rfl (zsB hΓ rfl) (zvB hΓ (by decide)) ?_
        refine z_al0 dX9_say_40 (by first | decide | omega | assumption) ?_
        refine z_getI zfX9_285 dX9_say_41 (zkB hΓ rfl) rfl ?_
        try simp only [zup_ap, zup_row, ne_eq, not_false_eq_true, zres, Int.toNat_natCast, reduceIte, Nat.reduceEqDiff, Nat.reduceAdd, and_self, and_true, true_and, and_false, false_and]
        try rw [hk]
        try simp only [zup_ap, zup_row, ne_eq, not_false_eq_true, zres, Int.toNat_natCast, reduceIte, Nat.reduceEqDiff, Nat.reduceAdd, and_self, and_true, true_and, and_false, false_and]
        refine z_il1 dX9_say_44 ?_
        refine z_iast dX9_say_45 (zkB hΓ rfl) (by omega) (by omega) ?_
        refine z_al0 dX9_say_46 (by first | decide | omega | assumption) ?_
        refine z_getR zfX9_107 dX9_say_47 (zkB hΓ rfl) rfl (zsB hΓ rfl) (zvB hΓ (by decide)) ?_
        refine z_al0 dX9_say_50 (by first | decide | omega | assumption) ?_
        refine z_getI zfX9_285 dX9_say_51 (zkB hΓ rfl) rfl ?_
        try simp only [zup_ap, zup_row, ne_eq, not_false_eq_true, zres, Int.toNat_natCast, reduceIte, Nat.reduceEqDiff, Nat.reduceAdd, and_self, and_true, true_and, and_false, false_and]
        try rw [hk]
        try simp only [zup_ap, zup_row, ne_eq, not_false_eq_true, zres, Int.toNat_natCast, reduceIte, Nat.reduceEqDiff, Nat.reduceAdd, and_self, and_true, true_and, and_false, false_and]
        refine z_il2 dX9_say_54 ?_
        refine z_iast dX9_say_55 (zkB hΓ rfl) (by omega) (by omega) ?_
        refine z_al0 dX9_say_56 (by first | decide | omega | assumption) ?_
        refine z_getR zfX9_110 dX9_say_57 (zkB hΓ rfl) rfl (zsB hΓ rfl) (zvB hΓ (by decide)) ?_
        refine z_al0 dX9_say_60 (by first | decide | omega | assumption) ?_
        refine z_getI zfX9_285 dX9_say_61 (zkB hΓ rfl) rfl ?_
        try simp only [zup_ap, zup_row, ne_eq, not_false_eq_true, zres, Int.toNat_natCast, reduceIte, Nat.reduceEqDiff, Nat.reduceAdd, and_self, and_true, true_and, and_false, false_and]
        try rw [hk]
        try simp only [zup_ap, zup_row, ne_eq, not_false_eq_true, zres, Int.toNat_natCast, reduceIte, Nat.reduceEqDiff, Nat.reduceAdd, and_self, and_true, true_and, and_false, false_and]
        refine z_al0 dX9_say_64 (by first | decide | omega | assumption) ?_
        refine z_getI zfX9_288 dX9_say_65 (zkB hΓ rfl) rfl ?_
        try simp only [zup_ap, zup_row, ne_eq, not_false_eq_true, zres, Int.toNat_natCast, reduceIte, Nat.reduceEqDiff, Nat.reduceAdd, and_self, and_true, true_and, and_false, false_and]
        rw [hd]
        try simp only [zup_ap, zup_row, ne_eq, not_false_eq_true, zres, Int.toNat_natCast, reduceIte, Nat.reduceEqDiff, Nat.reduceAdd, and_self, and_true, true_and, and_false, false_and]
        refine z_iast dX9_say_68 (zkB hΓ rfl) (by omega) (by omega) ?_
        refine z_al0 dX9_say_69 (by first | decide | omega | assumption) ?_
        refine z_dup dX9_say_70 rfl ?_
        refine z_getI zfX9_285 dX9_say_71 (zkB hΓ rfl) rfl ?_
        try simp only [zup_ap, zup_row, ne_eq, not_false_eq_true, zres, Int.toNat_natCast, reduceIte, Nat.reduceEqDiff, Nat.reduceAdd, and_self, and_true, true_and, and_false, false_and]
        try rw [hk]
        try simp only [zup_ap, zup_row, ne_eq, not_false_eq_true, zres, Int.toNat_natCast, reduceIte, Nat.reduceEqDiff, Nat.reduceAdd, and_self, and_true, true_and, and_false, false_and]
        refine z_iconst dX9_say_74 (by decide) ?_
        refine z_iadd dX9_say_75 (by omega) ?_
        refine z_putI zfX9_285 dX9_say_76 (zkB hΓ rfl) rfl rfl ?_
        refine z_al0 dX9_say_79 (by first | decide | omega | assumption) ?_
        refine z_getI zfX9_285 dX9_say_80 (zkB hΓ rfl) rfl ?_
        try simp only [zup_ap, zup_row, ne_eq, not_false_eq_true, zres, Int.toNat_natCast, reduceIte, Nat.reduceEqDiff, Nat.reduceAdd, and_self, and_true, true_and, and_false, false_and]
        try rw [hk]
        try simp only [zup_ap, zup_row, ne_eq, not_false_eq_true, zres, Int.toNat_natCast, reduceIte, Nat.reduceEqDiff, Nat.reduceAdd, and_self, and_true, true_and, and_false, false_and]
        refine z_iret dX9_say_83 rfl (Nat.le_refl _) (Nat.le_refl _) (zext_rf _) (fun hrr => ?_)
        first | exact hQ0 (by omega) | exact hQ1 (by omega)
set_option maxRecDepth 4000 in
theorem X6_addGood_ct {l : Launch} {Γ : zC} {h : zM} {Q : Option zV → zC → zM → Prop} (hΓ : zBase Γ) {g : Nat} (hg : h 77 2 = (g : Int)) (hQ0 : ¬ g < 3 → Q (some (zI (-1))) Γ h) (hQ1 : ∀ h9, g < 3 → (∀ a, a ≠ 79 + g → h9 a = h a) → (∀ j, j < 6 → h9 (79 + g) j = 10) → Q (some (zI (g : Int))) Γ (zup h9 77 2 ((g : Int) + 1))) : zCT l mX6_addGood 1 0 0 Γ [zR 77] h Q := by
  refine zCT_of (by decide) (Nat.le_of_ble_eq_true rfl) (ls := [some (zR 77)]) rfl ?_
  refine z_al0 dX6_addGood_0 (by first | decide | omega | assumption) ?_
  refine z_getI zfX6_37 dX6_addGood_1 (zkB hΓ rfl) rfl ?_
  try simp only [zup_ap, zup_row, ne_eq, not_false_eq_true, zres, Int.toNat_natCast, reduceIte, Nat.reduceEqDiff, Nat.reduceAdd, and_self, and_true, true_and, and_false, false_and]
  first | rw [hg] | (rw [hE2 77 (by omega), hg]) | skip
  try simp only [zup_ap, zup_row, ne_eq, not_false_eq_true, zres, Int.toNat_natCast, reduceIte, Nat.reduceEqDiff, Nat.reduceAdd, and_self, and_true, true_and, and_false, false_and]
  refine z_if_lt (t := 15) dX6_addGood_4 (by rfl) (fun ht4 => ?_) (fun hf4 => ?_)
  · refine z_iconst dX6_addGood_15 (by decide) ?_
    refine z_iret dX6_addGood_16 rfl (Nat.le_refl _) (Nat.le_refl _) (zext_rf _) (fun hrr => ?_)
    first
    | exact hQ0 (by omega)
    | (rw [show (g : Int) + 1 - 1 = (g : Int) by omega]; exact hQ1 h2 (by omega) hE2 hD2)
  · refine z_al0 dX6_addGood_7 (by first | decide | omega | assumption) ?_
    refine z_getI zfX6_37 dX6_addGood_8 (zkB hΓ rfl) rfl ?_
    try simp only [zup_ap, zup_row, ne_eq, not_false_eq_true, zres, Int.toNat_natCast, reduceIte, Nat.reduceEqDiff, Nat.reduceAdd, and_self, and_true, true_and, and_false, false_and]
    first | rw [hg] | (rw [hE2 77 (by omega), hg]) | skip
    try simp only [zup_ap, zup_row, ne_eq, not_false_eq_true, zres, Int.toNat_natCast, reduceIte, Nat.reduceEqDiff, Nat.reduceAdd, and_self, and_true, true_and, and_false, false_and]
    refine z_iconst dX6_addGood_11 (by decide) ?_
    refine z_icmp_lt (t := 17) dX6_addGood_12 (by rfl) (fun ht12 => ?_) (fun hf12 => ?_)
    · refine z_al0 dX6_addGood_17 (by first | decide | omega | assumption) ?_
      refine z_getR zfX6_21 dX6_addGood_18 (zkB hΓ rfl) rfl (zsB hΓ rfl) (zvB hΓ (by decide)) ?_
      refine z_al0 dX6_addGood_21 (by first | decide | omega | assumption) ?_
      refine z_getI zfX6_37 dX6_addGood_22 (zkB hΓ rfl) rfl ?_
      try simp only [zup_ap, zup_row, ne_eq, not_false_eq_true, zres, Int.toNat_natCast, reduceIte, Nat.reduceEqDiff, Nat.reduceAdd, and_self, and_true, true_and, and_false, false_and]
      first | rw [hg] | (rw [hE2 77 (by omega), hg]) | skip
      try simp only [zup_ap, zup_row, ne_eq, not_false_eq_true, zres, Int.toNat_natCast, reduceIte, Nat.reduceEqDiff, Nat.reduceAdd, and_self, and_true, true_and, and_false, false_and]
      refine z_aald dX6_addGood_25 (zkB hΓ rfl) (Or.inl rfl) (by omega) (by omega) (q := 79 + g) (by rw [show (g : Int).toNat = g from Int.toNat_natCast g, zsr78 hΓ (by omega)]; rfl) (fun _ => zvB hΓ (Or.inl (by omega))) ?_
      refine z_bipush (x := 10) dX6_addGood_26 (by rfl) (by decide) ?_
      refine zcs2 dX6_addGood_28 zkX6_41 ztJ7_fill_53178 (Nat.le_of_ble_eq_true rfl) (by decide) (by first | decide | omega) ⟨Nat.le_refl _, Nat.le_refl _⟩ (J7_fill_53178_ct (by omega) (zks79 hΓ (by omega)) (by decide) (fun h2 hE2 hD2 _ => ?_))
      try simp only [zup_ap, zup_row, ne_eq, not_false_eq_true, zres, Int.toNat_natCast, reduceIte, Nat.reduceEqDiff, Nat.reduceAdd, and_self, and_true, true_and, and_false, false_and]
      refine z_al0 dX6_addGood_31 (by first | decide | omega | assumption) ?_
      refine z_dup dX6_addGood_32 rfl ?_
      refine z_getI zfX6_37 dX6_addGood_33 (zkB hΓ rfl) rfl ?_
      try simp only [zup_ap, zup_row, ne_eq, not_false_eq_true, zres, Int.toNat_natCast, reduceIte, Nat.reduceEqDiff, Nat.reduceAdd, and_self, and_true, true_and, and_false, false_and]
      first | rw [hg] | (rw [hE2 77 (by omega), hg]) | skip
      try simp only [zup_ap, zup_row, ne_eq, not_false_eq_true, zres, Int.toNat_natCast, reduceIte, Nat.reduceEqDiff, Nat.reduceAdd, and_self, and_true, true_and, and_false, false_and]
      refine z_iconst dX6_addGood_36 (by decide) ?_
      refine z_iadd dX6_addGood_37 (by omega) ?_
      refine z_putI zfX6_37 dX6_addGood_38 (zkB hΓ rfl) rfl rfl ?_
      refine z_al0 dX6_addGood_41 (by first | decide | omega | assumption) ?_
      refine z_getI zfX6_37 dX6_addGood_42 (zkB hΓ rfl) rfl ?_
      try simp only [zup_ap, zup_row, ne_eq, not_false_eq_true, zres, Int.toNat_natCast, reduceIte, Nat.reduceEqDiff, Nat.reduceAdd, and_self, and_true, true_and, and_false, false_and]
      first | rw [hg] | (rw [hE2 77 (by omega), hg]) | skip
      try simp only [zup_ap, zup_row, ne_eq, not_false_eq_true, zres, Int.toNat_natCast, reduceIte, Nat.reduceEqDiff, Nat.reduceAdd, and_self, and_true, true_and, and_false, false_and]
      refine z_iconst dX6_addGood_45 (by decide) ?_
      refine z_isub dX6_addGood_46 (by omega) ?_
      refine z_iret dX6_addGood_47 rfl (Nat.le_refl _) (Nat.le_refl _) (zext_rf _) (fun hrr => ?_)
      first
      | exact hQ0 (by omega)
      | (rw [show (g : Int) + 1 - 1 = (g : Int) by omega]; exact hQ1 h2 (by omega) hE2 hD2)
    · refine z_iconst dX6_addGood_15 (by decide) ?_
      refine z_iret dX6_addGood_16 rfl (Nat.le_refl _) (Nat.le_refl _) (zext_rf _) (fun hrr => ?_)
      first
      | exact hQ0 (by omega)
      | (rw [show (g : Int) + 1 - 1 = (g : Int) by omega]; exact hQ1 h2 (by omega) hE2 hD2)
set_option maxRecDepth 4000 in
theorem X8_good_ct {l : Launch} {Γ : zC} {h : zM} {Q : Option zV → zC → zM → Prop} (hI : zIv Γ h) (hQ0 : ¬ (h 89 22 ≠ 0 ∧ h 89 39 < 3) → Q (some (zI (-1))) Γ h) (hQ1 : ∀ (g : Nat) h9, h 89 39 = (g : Int) → (h 89 22 ≠ 0 ∧ h 89 39 < 3) → (∀ a, a ≠ 79 + g → h9 a = h a) → (∀ j, j < 6 → h9 (79 + g) j = 10) → Q (some (zI (g : Int))) Γ (zup h9 77 2 ((g : Int) + 1))) : zCT l mX8_good 2 0 0 Γ [zR 1] h Q := by
  have hΓ := hI.base
  have hx2 := hI.isl
  have hx7 := hI.gds
  have hF := zfr_rf zSS h
  obtain ⟨g, hg⟩ := Int.eq_ofNat_of_zero_le (show 0 ≤ h 89 39 by omega)
  refine zCT_of (by decide) (Nat.le_of_ble_eq_true rfl) (ls := [some (zR 1)]) rfl ?_
  refine z_al0 dX8_good_0 (by first | decide | omega | assumption) ?_
  refine z_getR zfX8_35 dX8_good_1 (zkB hΓ rfl) rfl (zsB hΓ rfl) (zvB hΓ (by decide)) ?_
  refine z_getR zfX8_132 dX8_good_4 (zkB hΓ rfl) rfl (zsB hΓ rfl) (zvB hΓ (by decide)) ?_
  refine z_getI zfX8_210 dX8_good_7 (zkB hΓ rfl) rfl ?_
  rw [hF 16 0 rfl, hI.cisl]
  try simp only [zup_ap, zup_row, ne_eq, not_false_eq_true, zres, Int.toNat_natCast, reduceIte, Nat.reduceEqDiff, Nat.reduceAdd, and_self, and_true, true_and, and_false, false_and]
  refine z_if_ne (t := 15) dX8_good_10 (by rfl) (fun ht10 => ?_) (fun hf10 => ?_)
  · refine z_al0 dX8_good_15 (by first | decide | omega | assumption) ?_
    refine z_getR zfX8_58 dX8_good_16 (zkB hΓ rfl) rfl (zsB hΓ rfl) (zvB hΓ (by decide)) ?_
    refine zcv0 dX8_good_19 zkX8_213 ziX6_addGood zsX6_addGood (zkB hΓ rfl) (by decide) rfl (Nat.le_of_ble_eq_true rfl) (by decide) (by first | decide | omega) ⟨Nat.le_refl _, Nat.le_refl _⟩ (X6_addGood_ct (g := g) hΓ (by rw [hx7.1]; exact hg) (fun hg3 _ => ?_) (fun h2 hg3 hE2 hD2 _ => ?_))
    · try simp only [zup_ap, zup_row, ne_eq, not_false_eq_true, zres, Int.toNat_natCast, reduceIte, Nat.reduceEqDiff, Nat.reduceAdd, and_self, and_true, true_and, and_false, false_and]
      refine z_iret dX8_good_22 rfl (Nat.le_refl _) (Nat.le_refl _) (zext_rf _) (fun hrr => ?_)
      first | exact hQ0 (by omega) | exact hQ1 g h2 hg (by omega) hE2 hD2
    · try simp only [zup_ap, zup_row, ne_eq, not_false_eq_true, zres, Int.toNat_natCast, reduceIte, Nat.reduceEqDiff, Nat.reduceAdd, and_self, and_true, true_and, and_false, false_and]
      refine z_iret dX8_good_22 rfl (Nat.le_refl _) (Nat.le_refl _) (zext_rf _) (fun hrr => ?_)
      first | exact hQ0 (by omega) | exact hQ1 g h2 hg (by omega) hE2 hD2
  · refine z_iconst dX8_good_13 (by decide) ?_
    refine z_iret dX8_good_14 rfl (Nat.le_refl _) (Nat.le_refl _) (zext_rf _) (fun hrr => ?_)
    first | exact hQ0 (by omega) | exact hQ1 g h2 hg (by omega) hE2 hD2
set_option maxRecDepth 4000 in
theorem X9_good_l {l : Launch} {Γ : zC} {h1 : zM} {Q : Option zV → zC → zM → Prop} {g : Nat} (hΓ : zBase Γ) (hg : h1 89 39 = (g : Int)) (hg3 : g < 3) (hQ : ∀ h9, (∀ a, a ≠ 107 → h9 a = h1 a) → (∀ j, (j < 6 * g ∨ 6 * g + 6 ≤ j) → h9 107 j = h1 107 j) → (∀ j, j < 6 → h9 107 (6 * g + j) = 10) → Q (some (zI (g : Int))) Γ (zup h9 89 39 ((g : Int) + 1))) : ∀ (m : Nat) (k : Nat) (h : zM), 6 - k < m → k ≤ 6 → (∀ a, a ≠ 107 → h a = h1 a) → (∀ j, (j < 6 * g ∨ 6 * g + k ≤ j) → h 107 j = h1 107 j) → (∀ j, j < k → h 107 (6 * g + j) = 10) → zG (zFn l mX9_good 0 0 0 Γ Q) 0 0 Γ h 24 [some (zR 89), some (zI (k : Int))] [] := by
  intro m
  induction m with
  | zero => intros; omega
  | succ m ih =>
    intro k h hm hk hE hU hD
    refine z_il1 dX9_good_24 ?_
    refine z_bipush (x := 6) dX9_good_25 (by rfl) (by decide) ?_
    refine z_icmp_ge (t := 52) dX9_good_27 (by rfl) (fun ht27 => ?_) (fun hf27 => ?_)
    · refine z_al0 dX9_good_52 (by first | decide | omega | assumption) ?_
      refine z_dup dX9_good_53 rfl ?_
      refine z_getI zfX9_279 dX9_good_54 (zkB hΓ rfl) rfl ?_
      try simp only [zup_ap, zup_row, ne_eq, not_false_eq_true, zres, Int.toNat_natCast, reduceIte, Nat.reduceEqDiff, Nat.reduceAdd, and_self, and_true, true_and, and_false, false_and]
      first | rw [hE 89 (by decide), hg] | skip
      try simp only [zup_ap, zup_row, ne_eq, not_false_eq_true, zres, Int.toNat_natCast, reduceIte, Nat.reduceEqDiff, Nat.reduceAdd, and_self, and_true, true_and, and_false, false_and]
      refine z_iconst dX9_good_57 (by decide) ?_
      refine z_iadd dX9_good_58 (by omega) ?_
      refine z_putI zfX9_279 dX9_good_59 (zkB hΓ rfl) rfl rfl ?_
      refine z_al0 dX9_good_62 (by first | decide | omega | assumption) ?_
      refine z_getI zfX9_279 dX9_good_63 (zkB hΓ rfl) rfl ?_
      try simp only [zup_ap, zup_row, ne_eq, not_false_eq_true, zres, Int.toNat_natCast, reduceIte, Nat.reduceEqDiff, Nat.reduceAdd, and_self, and_true, true_and, and_false, false_and]
      first | rw [hE 89 (by decide), hg] | skip
      try simp only [zup_ap, zup_row, ne_eq, not_false_eq_true, zres, Int.toNat_natCast, reduceIte, Nat.reduceEqDiff, Nat.reduceAdd, and_self, and_true, true_and, and_false, false_and]
      refine z_iconst dX9_good_66 (by decide) ?_
      refine z_isub dX9_good_67 (by omega) ?_
      refine z_iret dX9_good_68 rfl (Nat.le_refl _) (Nat.le_refl _) (zext_rf _) (fun hrr => ?_)
      rw [show (g : Int) + 1 - 1 = (g : Int) by omega]
      exact hQ h hE (fun j hj => hU j (by omega)) (fun j hj => hD j (by omega))
    · refine z_al0 dX9_good_30 (by first | decide | omega | assumption) ?_
      refine z_getR zfX9_85 dX9_good_31 (zkB hΓ rfl) rfl (zsB hΓ rfl) (zvB hΓ (by decide)) ?_
      refine z_bipush (x := 6) dX9_good_34 (by rfl) (by decide) ?_
      refine z_al0 dX9_good_36 (by first | decide | omega | assumption) ?_
      refine z_getI zfX9_279 dX9_good_37 (zkB hΓ rfl) rfl ?_
      try simp only [zup_ap, zup_row, ne_eq, not_false_eq_true, zres, Int.toNat_natCast, reduceIte, Nat.reduceEqDiff, Nat.reduceAdd, and_self, and_true, true_and, and_false, false_and]
      first | rw [hE 89 (by decide), hg] | skip
      try simp only [zup_ap, zup_row, ne_eq, not_false_eq_true, zres, Int.toNat_natCast, reduceIte, Nat.reduceEqDiff, Nat.reduceAdd, and_self, and_true, true_and, and_false, false_and]
      refine z_imul dX9_good_40 (by omega) ?_
      refine z_il1 dX9_good_41 ?_
      refine z_iadd dX9_good_42 (by omega) ?_
      refine z_bipush (x := 10) dX9_good_43 (by rfl) (by decide) ?_
      refine z_iast dX9_good_45 (zkB hΓ rfl) (by omega) (by omega) ?_
      refine z_ii1 dX9_good_46 (by omega) (Nat.le_of_ble_eq_true rfl) rfl ?_
      refine z_goto (t := 24) dX9_good_49 (by rfl) ?_
      refine ih (k + 1) _ (by omega) (by omega) (fun a ha => (zup_row ha).trans (hE a ha)) (fun j hj => ?_) (fun j hj => ?_)
      · rw [zup_ap, if_neg (fun x => (by have := x.2; omega))]; exact hU j (by omega)
      · by_cases ej : j = k
        · subst ej; rw [zup_ap]; exact if_pos ⟨rfl, by omega⟩
        · rw [zup_ap, if_neg (fun x => ej (by have := x.2; omega))]; exact hD j (by omega)
set_option maxRecDepth 4000 in
theorem X9_good_ct {l : Launch} {Γ : zC} {h : zM} {Q : Option zV → zC → zM → Prop} {g : Nat} {N : Int} (hΓ : zBase Γ) (hn : h 89 22 = N) (hg : h 89 39 = (g : Int)) (hg9 : g ≤ 3) (hQ0 : ¬ (N ≠ 0 ∧ (g : Int) < 3) → Q (some (zI (-1))) Γ (zup h 89 0 0)) (hQ1 : ∀ h9, (N ≠ 0 ∧ (g : Int) < 3) → (∀ a, a ≠ 107 → h9 a = (zup h 89 0 0) a) → (∀ j, (j < 6 * g ∨ 6 * g + 6 ≤ j) → h9 107 j = (zup h 89 0 0) 107 j) → (∀ j, j < 6 → h9 107 (6 * g + j) = 10) → Q (some (zI (g : Int))) Γ (zup h9 89 39 ((g : Int) + 1))) : zCT l mX9_good 0 0 0 Γ [zR 89] h Q := by
  refine zCT_of (by decide) (Nat.le_of_ble_eq_true rfl) (ls := [some (zR 89), none]) rfl ?_
  refine z_al0 dX9_good_0 (by first | decide | omega | assumption) ?_
  refine z_iconst dX9_good_1 (by decide) ?_
  refine z_putI zfX9_128 dX9_good_2 (zkB hΓ rfl) rfl rfl ?_
  refine z_al0 dX9_good_5 (by first | decide | omega | assumption) ?_
  refine z_getI zfX9_276 dX9_good_6 (zkB hΓ rfl) rfl ?_
  try simp only [zup_ap, zup_row, ne_eq, not_false_eq_true, zres, Int.toNat_natCast, reduceIte, Nat.reduceEqDiff, Nat.reduceAdd, and_self, and_true, true_and, and_false, false_and]
  rw [hn]
  try simp only [zup_ap, zup_row, ne_eq, not_false_eq_true, zres, Int.toNat_natCast, reduceIte, Nat.reduceEqDiff, Nat.reduceAdd, and_self, and_true, true_and, and_false, false_and]
  refine z_if_eq (t := 20) dX9_good_9 (by rfl) (fun ht9 => ?_) (fun hf9 => ?_)
  · refine z_iconst dX9_good_20 (by decide) ?_
    refine z_iret dX9_good_21 rfl (Nat.le_refl _) (Nat.le_refl _) (zext_rf _) (fun hrr => ?_)
    exact hQ0 (by omega)
  · refine z_al0 dX9_good_12 (by first | decide | omega | assumption) ?_
    refine z_getI zfX9_279 dX9_good_13 (zkB hΓ rfl) rfl ?_
    try simp only [zup_ap, zup_row, ne_eq, not_false_eq_true, zres, Int.toNat_natCast, reduceIte, Nat.reduceEqDiff, Nat.reduceAdd, and_self, and_true, true_and, and_false, false_and]
    rw [hg]
    try simp only [zup_ap, zup_row, ne_eq, not_false_eq_true, zres, Int.toNat_natCast, reduceIte, Nat.reduceEqDiff, Nat.reduceAdd, and_self, and_true, true_and, and_false, false_and]
    refine z_iconst dX9_good_16 (by decide) ?_
    refine z_icmp_ne (t := 22) dX9_good_17 (by rfl) (fun ht17 => ?_) (fun hf17 => ?_)
    · refine z_iconst dX9_good_22 (by decide) ?_
      refine z_is1 dX9_good_23 (Nat.le_of_ble_eq_true rfl) rfl ?_
      exact X9_good_l hΓ (by exact hg) (by omega) (fun h9 hE9 hU9 hD9 => hQ1 h9 (by omega) hE9 hU9 hD9) _ 0 _ (Nat.lt_succ_self _) (by omega) (fun _ _ => rfl) (fun _ _ => rfl) (fun j hj => absurd hj (by omega))
    · refine z_iconst dX9_good_20 (by decide) ?_
      refine z_iret dX9_good_21 rfl (Nat.le_refl _) (Nat.le_refl _) (zext_rf _) (fun hrr => ?_)
      exact hQ0 (by omega)
set_option maxRecDepth 4000 in
theorem X8_price_ct {l : Launch} {Γ : zC} {h : zM} {Q : Option zV → zC → zM → Prop} {g i v : Int} (hI : zIv Γ h) (hQ0 : ¬ (((0 ≤ g ∧ g < h 89 39) ∧ (0 ≤ i ∧ i < h 89 22)) ∧ (1 ≤ v ∧ v ≤ 99)) → Q (some (zI 0)) Γ h) (hQ1 : (((0 ≤ g ∧ g < h 89 39) ∧ (0 ≤ i ∧ i < h 89 22)) ∧ (1 ≤ v ∧ v ≤ 99)) → Q (some (zI 1)) Γ (zup h (79 + g.toNat) i.toNat v)) : zCT l mX8_price 1 0 0 Γ [zR 1, zI g, zI i, zI v] h Q := by
  have hΓ := hI.base
  have hx2 := hI.isl
  have hx7 := hI.gds
  have hF := zfr_rf zSS h
  refine zCT_of (by decide) (Nat.le_of_ble_eq_true rfl) (ls := [some (zR 1), some (zI g), some (zI i), some (zI v)]) rfl ?_
  refine z_al0 dX8_price_0 (by first | decide | omega | assumption) ?_
  refine z_getR zfX8_58 dX8_price_1 (zkB hΓ rfl) rfl (zsB hΓ rfl) (zvB hΓ (by decide)) ?_
  refine z_il1 dX8_price_4 ?_
  refine zcv1 dX8_price_5 zkX8_216 ziX6_isGood zsX6_isGood (zkB hΓ rfl) (by decide) rfl (Nat.le_of_ble_eq_true rfl) (by decide) (by first | decide | omega) ⟨Nat.le_refl _, Nat.le_refl _⟩ (X6_isGood_ct hI hF (fun hg1 _ => ?_) (fun hg1 _ => ?_))
  · try simp only [zup_ap, zup_row, ne_eq, not_false_eq_true, zres, Int.toNat_natCast, reduceIte, Nat.reduceEqDiff, Nat.reduceAdd, and_self, and_true, true_and, and_false, false_and]
    refine z_if_eq (t := 33) dX8_price_8 (by rfl) (fun _ => ?_) (fun hx => absurd hx (by decide))
    refine z_iconst dX8_price_33 (by decide) ?_
    refine z_zret dX8_price_34 rfl (Nat.le_refl _) (Nat.le_refl _) (zext_rf _) (by first | exact Or.inl rfl | exact Or.inr rfl | omega) ?_
    first | exact hQ0 (by omega) | exact hQ1 (by omega)
  · try simp only [zup_ap, zup_row, ne_eq, not_false_eq_true, zres, Int.toNat_natCast, reduceIte, Nat.reduceEqDiff, Nat.reduceAdd, and_self, and_true, true_and, and_false, false_and]
    refine z_if_eq (t := 33) dX8_price_8 (by rfl) (fun hx => absurd hx (by decide)) (fun _ => ?_)
    refine z_al0 dX8_price_11 (by first | decide | omega | assumption) ?_
    refine z_getR zfX8_35 dX8_price_12 (zkB hΓ rfl) rfl (zsB hΓ rfl) (zvB hΓ (by decide)) ?_
    refine z_il2 dX8_price_15 ?_
    refine zcv1 dX8_price_16 zkX8_114 ziX7_isIsle zsX7_isIsle (zkB hΓ rfl) (by decide) rfl (Nat.le_of_ble_eq_true rfl) (by decide) (by first | decide | omega) ⟨Nat.le_refl _, Nat.le_refl _⟩ (X7_isIsle_ct hI hF (fun hg2 _ => ?_) (fun hg2 _ => ?_))
    · try simp only [zup_ap, zup_row, ne_eq, not_false_eq_true, zres, Int.toNat_natCast, reduceIte, Nat.reduceEqDiff, Nat.reduceAdd, and_self, and_true, true_and, and_false, false_and]
      refine z_if_eq (t := 33) dX8_price_19 (by rfl) (fun _ => ?_) (fun hx => absurd hx (by decide))
      refine z_iconst dX8_price_33 (by decide) ?_
      refine z_zret dX8_price_34 rfl (Nat.le_refl _) (Nat.le_refl _) (zext_rf _) (by first | exact Or.inl rfl | exact Or.inr rfl | omega) ?_
      first | exact hQ0 (by omega) | exact hQ1 (by omega)
    · try simp only [zup_ap, zup_row, ne_eq, not_false_eq_true, zres, Int.toNat_natCast, reduceIte, Nat.reduceEqDiff, Nat.reduceAdd, and_self, and_true, true_and, and_false, false_and]
      refine z_if_eq (t := 33) dX8_price_19 (by rfl) (fun hx => absurd hx (by decide)) (fun _ => ?_)
      refine z_il3 dX8_price_22 ?_
      refine z_iconst dX8_price_23 (by decide) ?_
      refine z_icmp_lt (t := 33) dX8_price_24 (by rfl) (fun ht24 => ?_) (fun hf24 => ?_)
      · refine z_iconst dX8_price_33 (by decide) ?_
        refine z_zret dX8_price_34 rfl (Nat.le_refl _) (Nat.le_refl _) (zext_rf _) (by first | exact Or.inl rfl | exact Or.inr rfl | omega) ?_
        first | exact hQ0 (by omega) | exact hQ1 (by omega)
      · refine z_il3 dX8_price_27 ?_
        refine z_bipush (x := 99) dX8_price_28 (by rfl) (by decide) ?_
        refine z_icmp_le (t := 35) dX8_price_30 (by rfl) (fun ht30 => ?_) (fun hf30 => ?_)
        · refine z_al0 dX8_price_35 (by first | decide | omega | assumption) ?_
          refine z_getR zfX8_58 dX8_price_36 (zkB hΓ rfl) rfl (zsB hΓ rfl) (zvB hΓ (by decide)) ?_
          refine z_getR zfX8_219 dX8_price_39 (zkB hΓ rfl) rfl (zsB hΓ rfl) (zvB hΓ (by decide)) ?_
          refine z_il1 dX8_price_42 ?_
          refine z_aald dX8_price_43 (zkB hΓ rfl) (Or.inl rfl) (by omega) (by omega) (q := 79 + g.toNat) (by rw [zsr78 hΓ (by omega)]; rfl) (fun _ => zvB hΓ (Or.inl (by omega))) ?_
          refine z_il2 dX8_price_44 ?_
          refine z_il3 dX8_price_45 ?_
          refine z_iast dX8_price_46 (zks79 hΓ (by omega)) (by omega) (by omega) ?_
          refine z_iconst dX8_price_47 (by decide) ?_
          refine z_zret dX8_price_48 rfl (Nat.le_refl _) (Nat.le_refl _) (zext_rf _) (by first | exact Or.inl rfl | exact Or.inr rfl | omega) ?_
          first | exact hQ0 (by omega) | exact hQ1 (by omega)
        · refine z_iconst dX8_price_33 (by decide) ?_
          refine z_zret dX8_price_34 rfl (Nat.le_refl _) (Nat.le_refl _) (zext_rf _) (by first | exact Or.inl rfl | exact Or.inr rfl | omega) ?_
          first | exact hQ0 (by omega) | exact hQ1 (by omega)
set_option maxRecDepth 4000 in
theorem X9_isGood_b {l : Launch} {Γ : zC} {h : zM} {Q : Option zV → zC → zM → Prop} {i N : Int} (hΓ : zBase Γ) (hn : h 89 39 = N) (hQ0 : ¬ (0 ≤ i ∧ i < N) → Q (some (zI 0)) Γ h) (hQ1 : (0 ≤ i ∧ i < N) → Q (some (zI 1)) Γ h) : zCT l mX9_isGood 0 0 0 Γ [zR 89, zI i] h Q := by
  refine zCT_of (by decide) (Nat.le_of_ble_eq_true rfl) (ls := [some (zR 89), some (zI i)]) rfl ?_
  refine z_il1 dX9_isGood_0 ?_
  refine z_if_lt (t := 16) dX9_isGood_1 (by rfl) (fun ht1 => ?_) (fun hf1 => ?_)
  · refine z_iconst dX9_isGood_16 (by decide) ?_
    refine z_zret dX9_isGood_17 rfl (Nat.le_refl _) (Nat.le_refl _) (zext_rf _) (by first | exact Or.inl rfl | exact Or.inr rfl | omega) ?_
    first | exact hQ0 (by omega) | exact hQ1 (by omega)
  · refine z_il1 dX9_isGood_4 ?_
    refine z_al0 dX9_isGood_5 (by first | decide | omega | assumption) ?_
    refine z_getI zfX9_279 dX9_isGood_6 (zkB hΓ rfl) rfl ?_
    rw [hn]
    try simp only [zup_ap, zup_row, ne_eq, not_false_eq_true, zres, Int.toNat_natCast, reduceIte, Nat.reduceEqDiff, Nat.reduceAdd, and_self, and_true, true_and, and_false, false_and]
    refine z_icmp_ge (t := 16) dX9_isGood_9 (by rfl) (fun ht9 => ?_) (fun hf9 => ?_)
    · refine z_iconst dX9_isGood_16 (by decide) ?_
      refine z_zret dX9_isGood_17 rfl (Nat.le_refl _) (Nat.le_refl _) (zext_rf _) (by first | exact Or.inl rfl | exact Or.inr rfl | omega) ?_
      first | exact hQ0 (by omega) | exact hQ1 (by omega)
    · refine z_iconst dX9_isGood_12 (by decide) ?_
      refine z_goto (t := 17) dX9_isGood_13 (by rfl) ?_
      refine z_zret dX9_isGood_17 rfl (Nat.le_refl _) (Nat.le_refl _) (zext_rf _) (by first | exact Or.inl rfl | exact Or.inr rfl | omega) ?_
      first | exact hQ0 (by omega) | exact hQ1 (by omega)
set_option maxRecDepth 4000 in
theorem X9_price_ct {l : Launch} {Γ : zC} {h : zM} {Q : Option zV → zC → zM → Prop} {g i v N M : Int} (hΓ : zBase Γ) (hn : h 89 22 = N) (hm : h 89 39 = M) (hN : N ≤ 6) (hM : M ≤ 3) (hQ0 : ¬ (((0 ≤ g ∧ g < M) ∧ (0 ≤ i ∧ i < N)) ∧ (1 ≤ v ∧ v ≤ 99)) → Q (some (zI 0)) Γ (zup h 89 0 0)) (hQ1 : (((0 ≤ g ∧ g < M) ∧ (0 ≤ i ∧ i < N)) ∧ (1 ≤ v ∧ v ≤ 99)) → Q (some (zI 1)) Γ (zup (zup h 89 0 0) 107 (6 * g + i).toNat v)) : zCT l mX9_price 1 0 0 Γ [zR 89, zI g, zI i, zI v] h Q := by
  refine zCT_of (by decide) (Nat.le_of_ble_eq_true rfl) (ls := [some (zR 89), some (zI g), some (zI i), some (zI v)]) rfl ?_
  refine z_al0 dX9_price_0 (by first | decide | omega | assumption) ?_
  refine z_iconst dX9_price_1 (by decide) ?_
  refine z_putI zfX9_128 dX9_price_2 (zkB hΓ rfl) rfl rfl ?_
  refine z_al0 dX9_price_5 (by first | decide | omega | assumption) ?_
  refine z_il1 dX9_price_6 ?_
  refine zcv1 dX9_price_7 zkX9_377 ziX9_isGood zsX9_isGood (zkB hΓ rfl) (by decide) rfl (Nat.le_of_ble_eq_true rfl) (by decide) (by first | decide | omega) ⟨Nat.le_refl _, Nat.le_refl _⟩ (X9_isGood_b hΓ (N := M) (by exact hm) (fun hg1 _ => ?_) (fun hg1 _ => ?_))
  · try simp only [zup_ap, zup_row, ne_eq, not_false_eq_true, zres, Int.toNat_natCast, reduceIte, Nat.reduceEqDiff, Nat.reduceAdd, and_self, and_true, true_and, and_false, false_and]
    refine z_if_eq (t := 33) dX9_price_10 (by rfl) (fun _ => ?_) (fun hx => absurd hx (by decide))
    refine z_iconst dX9_price_33 (by decide) ?_
    refine z_zret dX9_price_34 rfl (Nat.le_refl _) (Nat.le_refl _) (zext_rf _) (by first | exact Or.inl rfl | exact Or.inr rfl | omega) ?_
    first | exact hQ0 (by omega) | exact hQ1 (by omega)
  · try simp only [zup_ap, zup_row, ne_eq, not_false_eq_true, zres, Int.toNat_natCast, reduceIte, Nat.reduceEqDiff, Nat.reduceAdd, and_self, and_true, true_and, and_false, false_and]
    refine z_if_eq (t := 33) dX9_price_10 (by rfl) (fun hx => absurd hx (by decide)) (fun _ => ?_)
    refine z_al0 dX9_price_13 (by first | decide | omega | assumption) ?_
    refine z_il2 dX9_price_14 ?_
    refine zcv1 dX9_price_15 zkX9_299 ziX9_isIsle zsX9_isIsle (zkB hΓ rfl) (by decide) rfl (Nat.le_of_ble_eq_true rfl) (by decide) (by first | decide | omega) ⟨Nat.le_refl _, Nat.le_refl _⟩ (X9_isIsle_b hΓ (N := N) (by exact hn) (fun hg2 _ => ?_) (fun hg2 _ => ?_))
    · try simp only [zup_ap, zup_row, ne_eq, not_false_eq_true, zres, Int.toNat_natCast, reduceIte, Nat.reduceEqDiff, Nat.reduceAdd, and_self, and_true, true_and, and_false, false_and]
      refine z_if_eq (t := 33) dX9_price_18 (by rfl) (fun _ => ?_) (fun hx => absurd hx (by decide))
      refine z_iconst dX9_price_33 (by decide) ?_
      refine z_zret dX9_price_34 rfl (Nat.le_refl _) (Nat.le_refl _) (zext_rf _) (by first | exact Or.inl rfl | exact Or.inr rfl | omega) ?_
      first | exact hQ0 (by omega) | exact hQ1 (by omega)
    · try simp only [zup_ap, zup_row, ne_eq, not_false_eq_true, zres, Int.toNat_natCast, reduceIte, Nat.reduceEqDiff, Nat.reduceAdd, and_self, and_true, true_and, and_false, false_and]
      refine z_if_eq (t := 33) dX9_price_18 (by rfl) (fun hx => absurd hx (by decide)) (fun _ => ?_)
      refine z_il3 dX9_price_21 ?_
      refine z_i2l dX9_price_22 ?_
      refine z_lconst (x := 1) dX9_price_23 (by rfl) (by decide) ?_
      refine z_ldc2 (x := 99) dX9_price_24 zqX9_294 (by decide) ?_
      refine zcs3 dX9_price_27 zkX9_261 ztX9_isIn (Nat.le_of_ble_eq_true rfl) (by decide) (by first | decide | omega) ⟨Nat.le_refl _, Nat.le_refl _⟩ (X9_isIn_ct (fun hg3 _ => ?_) (fun hg3 _ => ?_))
      · try simp only [zup_ap, zup_row, ne_eq, not_false_eq_true, zres, Int.toNat_natCast, reduceIte, Nat.reduceEqDiff, Nat.reduceAdd, and_self, and_true, true_and, and_false, false_and]
        refine z_if_ne (t := 35) dX9_price_30 (by rfl) (fun hx => absurd hx (by decide)) (fun _ => ?_)
        refine z_iconst dX9_price_33 (by decide) ?_
        refine z_zret dX9_price_34 rfl (Nat.le_refl _) (Nat.le_refl _) (zext_rf _) (by first | exact Or.inl rfl | exact Or.inr rfl | omega) ?_
        first | exact hQ0 (by omega) | exact hQ1 (by omega)
      · try simp only [zup_ap, zup_row, ne_eq, not_false_eq_true, zres, Int.toNat_natCast, reduceIte, Nat.reduceEqDiff, Nat.reduceAdd, and_self, and_true, true_and, and_false, false_and]
        refine z_if_ne (t := 35) dX9_price_30 (by rfl) (fun _ => ?_) (fun hx => absurd hx (by decide))
        refine z_al0 dX9_price_35 (by first | decide | omega | assumption) ?_
        refine z_getR zfX9_85 dX9_price_36 (zkB hΓ rfl) rfl (zsB hΓ rfl) (zvB hΓ (by decide)) ?_
        refine z_bipush (x := 6) dX9_price_39 (by rfl) (by decide) ?_
        refine z_il1 dX9_price_41 ?_
        refine z_imul dX9_price_42 (by omega) ?_
        refine z_il2 dX9_price_43 ?_
        refine z_iadd dX9_price_44 (by omega) ?_
        refine z_il3 dX9_price_45 ?_
        refine z_iast dX9_price_46 (zkB hΓ rfl) (by omega) (by omega) ?_
        refine z_iconst dX9_price_47 (by decide) ?_
        refine z_zret dX9_price_48 rfl (Nat.le_refl _) (Nat.le_refl _) (zext_rf _) (by first | exact Or.inl rfl | exact Or.inr rfl | omega) ?_
        first | exact hQ0 (by omega) | exact hQ1 (by omega)
set_option maxRecDepth 4000 in
theorem X8_end_ct {l : Launch} {Γ : zC} {h : zM} {Q : Option zV → zC → zM → Prop} {n k : Int} (hΓ : zBase Γ) (hk : h 2 1 = k) (hQ0 : ¬ (0 ≤ n ∧ n ≤ k) → Q (some (zI 0)) Γ h) (hQ1 : (0 ≤ n ∧ n ≤ k) → Q (some (zI 1)) Γ (zup h 2 1 n)) : zCT l mX8_end 0 0 0 Γ [zR 1, zI n] h Q := by
  refine zCT_of (by decide) (Nat.le_of_ble_eq_true rfl) (ls := [some (zR 1), some (zI n)]) rfl ?_
  refine z_il1 dX8_end_0 ?_
  refine z_if_lt (t := 15) dX8_end_1 (by rfl) (fun ht1 => ?_) (fun hf1 => ?_)
  · refine z_iconst dX8_end_15 (by decide) ?_
    refine z_zret dX8_end_16 rfl (Nat.le_refl _) (Nat.le_refl _) (zext_rf _) (by first | exact Or.inl rfl | exact Or.inr rfl | omega) ?_
    first | exact hQ0 (by omega) | exact hQ1 (by omega)
  · refine z_il1 dX8_end_4 ?_
    refine z_al0 dX8_end_5 (by first | decide | omega | assumption) ?_
    refine z_getR zfX8_10 dX8_end_6 (zkB hΓ rfl) rfl (zsB hΓ rfl) (zvB hΓ (by decide)) ?_
    refine z_getI zfX8_87 dX8_end_9 (zkB hΓ rfl) rfl ?_
    rw [hk]
    try simp only [zup_ap, zup_row, ne_eq, not_false_eq_true, zres, Int.toNat_natCast, reduceIte, Nat.reduceEqDiff, Nat.reduceAdd, and_self, and_true, true_and, and_false, false_and]
    refine z_icmp_le (t := 17) dX8_end_12 (by rfl) (fun ht12 => ?_) (fun hf12 => ?_)
    · refine z_al0 dX8_end_17 (by first | decide | omega | assumption) ?_
      refine z_getR zfX8_10 dX8_end_18 (zkB hΓ rfl) rfl (zsB hΓ rfl) (zvB hΓ (by decide)) ?_
      refine z_il1 dX8_end_21 ?_
      refine z_putI zfX8_87 dX8_end_22 (zkB hΓ rfl) rfl rfl ?_
      refine z_iconst dX8_end_25 (by decide) ?_
      refine z_zret dX8_end_26 rfl (Nat.le_refl _) (Nat.le_refl _) (zext_rf _) (by first | exact Or.inl rfl | exact Or.inr rfl | omega) ?_
      first | exact hQ0 (by omega) | exact hQ1 (by omega)
    · refine z_iconst dX8_end_15 (by decide) ?_
      refine z_zret dX8_end_16 rfl (Nat.le_refl _) (Nat.le_refl _) (zext_rf _) (by first | exact Or.inl rfl | exact Or.inr rfl | omega) ?_
      first | exact hQ0 (by omega) | exact hQ1 (by omega)
set_option maxRecDepth 4000 in
theorem X9_end_ct {l : Launch} {Γ : zC} {h : zM} {Q : Option zV → zC → zM → Prop} {n k : Int} (hΓ : zBase Γ) (hk : h 89 6 = k) (hQ0 : ¬ (0 ≤ n ∧ n ≤ k) → Q (some (zI 0)) Γ (zup h 89 0 0)) (hQ1 : (0 ≤ n ∧ n ≤ k) → Q (some (zI 1)) Γ (zup (zup h 89 0 0) 89 6 n)) : zCT l mX9_end 0 0 0 Γ [zR 89, zI n] h Q := by
  refine zCT_of (by decide) (Nat.le_of_ble_eq_true rfl) (ls := [some (zR 89), some (zI n)]) rfl ?_
  refine z_al0 dX9_end_0 (by first | decide | omega | assumption) ?_
  refine z_iconst dX9_end_1 (by decide) ?_
  refine z_putI zfX9_128 dX9_end_2 (zkB hΓ rfl) rfl rfl ?_
  refine z_il1 dX9_end_5 ?_
  refine z_if_lt (t := 17) dX9_end_6 (by rfl) (fun ht6 => ?_) (fun hf6 => ?_)
  · refine z_iconst dX9_end_17 (by decide) ?_
    refine z_zret dX9_end_18 rfl (Nat.le_refl _) (Nat.le_refl _) (zext_rf _) (by first | exact Or.inl rfl | exact Or.inr rfl | omega) ?_
    first | exact hQ0 (by omega) | exact hQ1 (by omega)
  · refine z_il1 dX9_end_9 ?_
    refine z_al0 dX9_end_10 (by first | decide | omega | assumption) ?_
    refine z_getI zfX9_141 dX9_end_11 (zkB hΓ rfl) rfl ?_
    try simp only [zup_ap, zup_row, ne_eq, not_false_eq_true, zres, Int.toNat_natCast, reduceIte, Nat.reduceEqDiff, Nat.reduceAdd, and_self, and_true, true_and, and_false, false_and]
    rw [hk]
    try simp only [zup_ap, zup_row, ne_eq, not_false_eq_true, zres, Int.toNat_natCast, reduceIte, Nat.reduceEqDiff, Nat.reduceAdd, and_self, and_true, true_and, and_false, false_and]
    refine z_icmp_le (t := 19) dX9_end_14 (by rfl) (fun ht14 => ?_) (fun hf14 => ?_)
    · refine z_al0 dX9_end_19 (by first | decide | omega | assumption) ?_
      refine z_il1 dX9_end_20 ?_
      refine z_putI zfX9_141 dX9_end_21 (zkB hΓ rfl) rfl rfl ?_
      refine z_iconst dX9_end_24 (by decide) ?_
      refine z_zret dX9_end_25 rfl (Nat.le_refl _) (Nat.le_refl _) (zext_rf _) (by first | exact Or.inl rfl | exact Or.inr rfl | omega) ?_
      first | exact hQ0 (by omega) | exact hQ1 (by omega)
    · refine z_iconst dX9_end_17 (by decide) ?_
      refine z_zret dX9_end_18 rfl (Nat.le_refl _) (Nat.le_refl _) (zext_rf _) (by first | exact Or.inl rfl | exact Or.inr rfl | omega) ?_
      first | exact hQ0 (by omega) | exact hQ1 (by omega)
