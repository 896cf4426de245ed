/-! what holds between the calls of the law; what a call may write on the way -/
def zs89 (j : Nat) : Bool := Nat.beq j 0 || Nat.beq j 5 || (Nat.ble 8 j && Nat.ble j 14) || Nat.beq j 17 || Nat.beq j 23 || (Nat.ble 45 j && Nat.ble j 47)
def zsRw (r j : Nat) : Bool := (Nat.beq r 2 && Nat.beq j 2) || (Nat.beq r 4 && Nat.beq j 0) || Nat.beq r 5 || (Nat.ble 7 r && Nat.ble r 12) || (Nat.beq r 13 && Nat.beq j 2) || Nat.beq r 14 || (Nat.beq r 25 && Nat.beq j 9) || (Nat.beq r 41 && Nat.ble 4 j) || (Nat.ble 42 r && Nat.ble r 44) || (Nat.ble 46 r && Nat.ble r 76) || (Nat.beq r 77 && Nat.ble 8 j) || (Nat.ble 82 r && Nat.ble r 85) || Nat.beq r 87 || Nat.beq r 88 || Nat.beq r 93 || Nat.beq r 95 || Nat.beq r 97 || (Nat.ble 102 r && Nat.ble r 105) || (Nat.ble 108 r && Nat.ble r 112) || (Nat.ble 116 r && Nat.ble r 119)
def zSS (r j : Nat) : Bool := bif Nat.ble r 121 then (bif Nat.beq r 89 then zs89 j else zsRw r j) else Nat.beq (r % 3) 1
def zfr (S : Nat → Nat → Bool) (h0 h : zM) : Prop := ∀ r j, S r j = false → h r j = h0 r j
theorem zfr_rf (S : Nat → Nat → Bool) (h : zM) : zfr S h h := fun _ _ _ => rfl
theorem zfr_tr {S : Nat → Nat → Bool} {h0 h h' : zM} (H : zfr S h0 h) (H2 : zfr S h h') : zfr S h0 h' := fun r j q => (H2 r j q).trans (H r j q)
theorem zfr_up {S : Nat → Nat → Bool} {h0 h : zM} {r j : Nat} {x : Int} (H : zfr S h0 h) (hs : S r j = true) : zfr S h0 (zup h r j x) := fun a b q => by
  rw [zup_ap, if_neg]
  · exact H a b q
  · rintro ⟨rfl, rfl⟩; rw [hs] at q; cases q
/-- the stacks of the CUSTOMS alone -/
def zfK (h h' : zM) : Prop := ∀ r, r < 122 ∨ r % 3 ≠ 1 → h' r = h r
theorem zfK_rf (h : zM) : zfK h h := fun _ _ => rfl
theorem zfK_tr {h0 h h' : zM} (H : zfK h0 h) (H2 : zfK h h') : zfK h0 h' := fun r q => (H2 r q).trans (H r q)
theorem zSS_hi {r j : Nat} (hr : 121 < r) : zSS r j = Nat.beq (r % 3) 1 := by
  unfold zSS
  have : Nat.ble r 121 = false := by
    cases h : Nat.ble r 121 with
    | false => rfl
    | true => exact absurd (Nat.le_of_ble_eq_true h) (by omega)
  rw [this]; rfl
theorem zfr_K {h0 h h' : zM} (H : zfr zSS h0 h) (H2 : zfK h h') : zfr zSS h0 h' := fun r j q => by
  rw [H2 r ?_]
  · exact H r j q
  · by_cases hr : r < 122
    · exact Or.inl hr
    · rw [zSS_hi (by omega)] at q
      exact Or.inr (fun e => by rw [e] at q; cases q)
/-- the reference's text and letters -/
def zfM (h h' : zM) : Prop := (∀ r, r ≠ 89 → r ≠ 93 → h' r = h r) ∧ ∀ j, zsMT j = false → h' 89 j = h 89 j
theorem zfM_rf (h : zM) : zfM h h := ⟨fun _ _ _ => rfl, fun _ _ => rfl⟩
theorem zfM_tr {h0 h h' : zM} (H : zfM h0 h) (H2 : zfM h h') : zfM h0 h' := ⟨fun r a b => (H2.1 r a b).trans (H.1 r a b), fun j a => (H2.2 j a).trans (H.2 j a)⟩
theorem zsMT_89 {j : Nat} (h : zs89 j = false) : zsMT j = false := by
  unfold zs89 at h
  simp only [Bool.or_eq_false_iff, Bool.and_eq_false_iff] at h
  obtain ⟨⟨⟨⟨⟨h0, h1⟩, h2⟩, h3⟩, h4⟩, h5⟩ := h
  have n1 : j ≠ 5 := fun e => by subst e; cases h1
  have n3 : j ≠ 17 := fun e => by subst e; cases h3
  have n2 : ¬ (8 ≤ j ∧ j ≤ 14) := fun e => by
    rcases h2 with h2 | h2
    · exact absurd (Nat.ble_eq_true_of_le e.1) (by rw [h2]; decide)
    · exact absurd (Nat.ble_eq_true_of_le e.2) (by rw [h2]; decide)
  simp [zsMT]
  omega
theorem zfr_M {h0 h h' : zM} (H : zfr zSS h0 h) (H2 : zfM h h') : zfr zSS h0 h' := fun r j q => by
  by_cases hr : r = 89
  · subst hr
    rw [H2.2 j (zsMT_89 q)]
    exact H _ j q
  · by_cases h3 : r = 93
    · subst h3; cases q
    · rw [H2.1 r hr h3]; exact H r j q
def zPX (t : Nat → Int) (n : Nat) : Option zRs := zP t n 830 13 (zskip t n 0) 0
theorem zPX_tot (t : Nat → Int) (n : Nat) (hn : n ≤ 160) : ∃ r, zPX t n = some r := zP_tot t n 830 13 _ 0 (by
  have := zskip_b t n 0
  show 5 * (n - zskip t n 0) + 1 < 830
  omega)
def zTxt (h : zM) (c : Nat) : Nat → Int := fun j => h 91 (160 * c + j) % 256
def zcd (h : zM) (c : Nat) : List Int := match zPX (zTxt h c) (h 92 c).toNat with
  | some (true, _, code) => code
  | _ => []
def zCu (Γ : zC) (h : zM) (c : Nat) : Prop := (0 ≤ h 92 c ∧ h 92 c ≤ 160) ∧ (∃ p, zPX (zTxt h c) (h 92 c).toNat = some (true, p, zcd h c)) ∧ h 33 c = ((122 + 3 * c : Nat) : Int) ∧ zkd Γ (122 + 3 * c) = some (.inl 1) ∧ zkd Γ (123 + 3 * c) = some (.inr (0, (zcd h c).length)) ∧ zkd Γ (124 + 3 * c) = some (.inr (0, (zcd h c).length + 1)) ∧ ∀ j, j < (zcd h c).length → h (123 + 3 * c) j = (zcd h c).getD j 0
def zIv (Γ : zC) (h : zM) : Prop := (zBase Γ) ∧ (((zks Γ).length : Int) = 121 + 3 * h 89 7) ∧ (0 ≤ h 89 6 ∧ h 89 6 ≤ 160) ∧ (h 2 1 = h 89 6) ∧ (∀ j : Nat, (j : Int) < h 89 6 → h 3 j = h 90 j % 256) ∧ (0 ≤ h 89 22 ∧ h 89 22 ≤ 6) ∧ (h 16 0 = h 89 22) ∧ (∀ i : Nat, i < 6 → (i : Int) < h 89 22 → h 17 i = h 94 i) ∧ (∀ a b, a < 6 → b < 6 → h (19 + a) b = h 96 (6 * a + b) ∧ 0 ≤ h 96 (6 * a + b) ∧ h 96 (6 * a + b) ≤ 9) ∧ (h 25 0 = h 89 29 ∧ 0 ≤ h 89 29 ∧ h 89 29 ≤ 99) ∧ (h 25 1 = h 89 28 ∧ 0 ≤ h 89 28 ∧ h 89 28 ≤ 20) ∧ (∀ j, j < 20 → h 26 j = h 99 j ∧ h 27 j = h 100 j ∧ h 28 j = h 101 j) ∧ (h 25 2 = h 89 51 ∧ 0 ≤ h 89 51 ∧ h 89 51 ≤ 40) ∧ (∀ j, j < 40 → h 29 j = h 113 j ∧ h 30 j = h 114 j ∧ h 31 j = h 115 j) ∧ (∀ j : Nat, (j : Int) < h 89 51 → (0 ≤ h 113 j ∧ h 113 j < h 89 22) ∧ 0 ≤ h 114 j ∧ h 114 j ≤ 999) ∧ (h 1 10 = h 89 60 ∧ (h 89 60 = 0 ∨ h 89 60 = 1)) ∧ (h 89 60 = 1 → (h 34 0 = h 89 59 ∧ 0 ≤ h 89 59 ∧ h 89 59 ≤ 99) ∧ (h 34 1 = h 89 57 ∧ 0 ≤ h 89 57 ∧ h 89 57 ≤ 20) ∧ (h 34 2 = h 89 58 ∧ 0 ≤ h 89 58 ∧ h 89 58 ≤ 40) ∧ (∀ j, j < 20 → h 35 j = h 120 (3 * j) ∧ h 36 j = h 120 (3 * j + 1) ∧ h 37 j = h 120 (3 * j + 2)) ∧ (∀ j, j < 40 → h 38 j = h 120 (60 + 3 * j) ∧ h 39 j = h 120 (60 + 3 * j + 1) ∧ h 40 j = h 120 (60 + 3 * j + 2)) ∧ ∀ j : Nat, (j : Int) < h 89 58 → (0 ≤ h 120 (60 + 3 * j) ∧ h 120 (60 + 3 * j) < h 89 22) ∧ 0 ≤ h 120 (60 + 3 * j + 1) ∧ h 120 (60 + 3 * j + 1) ≤ 999) ∧ (h 15 3 = h 89 7 ∧ 0 ≤ h 89 7 ∧ h 89 7 ≤ 4) ∧ (∀ i : Nat, i < 6 → (i : Int) < h 89 22 → h 32 i = h 98 i ∧ -1 ≤ h 98 i ∧ h 98 i < h 89 7) ∧ (∀ c : Nat, (c : Int) < h 89 7 → zCu Γ h c) ∧ (h 1 11 = h 89 32 ∧ 1 ≤ h 89 32 ∧ h 89 32 ≤ 20) ∧ (∀ n, 1 ≤ n → n < 100 → (0 ≤ h 106 n ∧ h 106 n ≤ 100) ∧ h 86 n = if h 106 n = 0 then 1 else h 106 n - 1) ∧ (h 77 2 = h 89 39 ∧ 0 ≤ h 89 39 ∧ h 89 39 ≤ 3) ∧ (∀ g i : Nat, (g : Int) < h 89 39 → i < 6 → h (79 + g) i = h 107 (6 * g + i) ∧ 1 ≤ h 107 (6 * g + i) ∧ h 107 (6 * g + i) ≤ 99)
theorem zIv.base {Γ : zC} {h : zM} (H : zIv Γ h) : zBase Γ := H.1
theorem zIv.num {Γ : zC} {h : zM} (H : zIv Γ h) : ((zks Γ).length : Int) = 121 + 3 * h 89 7 := H.2.1
theorem zIv.len {Γ : zC} {h : zM} (H : zIv Γ h) : 0 ≤ h 89 6 ∧ h 89 6 ≤ 160 := H.2.2.1
theorem zIv.tln {Γ : zC} {h : zM} (H : zIv Γ h) : h 2 1 = h 89 6 := H.2.2.2.1
theorem zIv.tap {Γ : zC} {h : zM} (H : zIv Γ h) : ∀ j : Nat, (j : Int) < h 89 6 → h 3 j = h 90 j % 256 := H.2.2.2.2.1
theorem zIv.isl {Γ : zC} {h : zM} (H : zIv Γ h) : 0 ≤ h 89 22 ∧ h 89 22 ≤ 6 := H.2.2.2.2.2.1
theorem zIv.cisl {Γ : zC} {h : zM} (H : zIv Γ h) : h 16 0 = h 89 22 := H.2.2.2.2.2.2.1
theorem zIv.tab {Γ : zC} {h : zM} (H : zIv Γ h) : ∀ i : Nat, i < 6 → (i : Int) < h 89 22 → h 17 i = h 94 i := H.2.2.2.2.2.2.2.1
theorem zIv.day {Γ : zC} {h : zM} (H : zIv Γ h) : ∀ a b, a < 6 → b < 6 → h (19 + a) b = h 96 (6 * a + b) ∧ 0 ≤ h 96 (6 * a + b) ∧ h 96 (6 * a + b) ≤ 9 := H.2.2.2.2.2.2.2.2.1
theorem zIv.now {Γ : zC} {h : zM} (H : zIv Γ h) : h 25 0 = h 89 29 ∧ 0 ≤ h 89 29 ∧ h 89 29 ≤ 99 := H.2.2.2.2.2.2.2.2.2.1
theorem zIv.chn {Γ : zC} {h : zM} (H : zIv Γ h) : h 25 1 = h 89 28 ∧ 0 ≤ h 89 28 ∧ h 89 28 ≤ 20 := H.2.2.2.2.2.2.2.2.2.2.1
theorem zIv.chr {Γ : zC} {h : zM} (H : zIv Γ h) : ∀ j, j < 20 → h 26 j = h 99 j ∧ h 27 j = h 100 j ∧ h 28 j = h 101 j := H.2.2.2.2.2.2.2.2.2.2.2.1
theorem zIv.sdn {Γ : zC} {h : zM} (H : zIv Γ h) : h 25 2 = h 89 51 ∧ 0 ≤ h 89 51 ∧ h 89 51 ≤ 40 := H.2.2.2.2.2.2.2.2.2.2.2.2.1
theorem zIv.sdr {Γ : zC} {h : zM} (H : zIv Γ h) : ∀ j, j < 40 → h 29 j = h 113 j ∧ h 30 j = h 114 j ∧ h 31 j = h 115 j := H.2.2.2.2.2.2.2.2.2.2.2.2.2.1
theorem zIv.sdv {Γ : zC} {h : zM} (H : zIv Γ h) : ∀ j : Nat, (j : Int) < h 89 51 → (0 ≤ h 113 j ∧ h 113 j < h 89 22) ∧ 0 ≤ h 114 j ∧ h 114 j ≤ 999 := H.2.2.2.2.2.2.2.2.2.2.2.2.2.2.1
theorem zIv.img {Γ : zC} {h : zM} (H : zIv Γ h) : h 1 10 = h 89 60 ∧ (h 89 60 = 0 ∨ h 89 60 = 1) := H.2.2.2.2.2.2.2.2.2.2.2.2.2.2.2.1
theorem zIv.imr {Γ : zC} {h : zM} (H : zIv Γ h) : h 89 60 = 1 → (h 34 0 = h 89 59 ∧ 0 ≤ h 89 59 ∧ h 89 59 ≤ 99) ∧ (h 34 1 = h 89 57 ∧ 0 ≤ h 89 57 ∧ h 89 57 ≤ 20) ∧ (h 34 2 = h 89 58 ∧ 0 ≤ h 89 58 ∧ h 89 58 ≤ 40) ∧ (∀ j, j < 20 → h 35 j = h 120 (3 * j) ∧ h 36 j = h 120 (3 * j + 1) ∧ h 37 j = h 120 (3 * j + 2)) ∧ (∀ j, j < 40 → h 38 j = h 120 (60 + 3 * j) ∧ h 39 j = h 120 (60 + 3 * j + 1) ∧ h 40 j = h 120 (60 + 3 * j + 2)) ∧ ∀ j : Nat, (j : Int) < h 89 58 → (0 ≤ h 120 (60 + 3 * j) ∧ h 120 (60 + 3 * j) < h 89 22) ∧ 0 ≤ h 120 (60 + 3 * j + 1) ∧ h 120 (60 + 3 * j + 1) ≤ 999 := H.2.2.2.2.2.2.2.2.2.2.2.2.2.2.2.2.1
theorem zIv.cus {Γ : zC} {h : zM} (H : zIv Γ h) : h 15 3 = h 89 7 ∧ 0 ≤ h 89 7 ∧ h 89 7 ≤ 4 := H.2.2.2.2.2.2.2.2.2.2.2.2.2.2.2.2.2.1
theorem zIv.cof {Γ : zC} {h : zM} (H : zIv Γ h) : ∀ i : Nat, i < 6 → (i : Int) < h 89 22 → h 32 i = h 98 i ∧ -1 ≤ h 98 i ∧ h 98 i < h 89 7 := H.2.2.2.2.2.2.2.2.2.2.2.2.2.2.2.2.2.2.1
theorem zIv.txt {Γ : zC} {h : zM} (H : zIv Γ h) : ∀ c : Nat, (c : Int) < h 89 7 → zCu Γ h c := H.2.2.2.2.2.2.2.2.2.2.2.2.2.2.2.2.2.2.2.1
theorem zIv.hnd {Γ : zC} {h : zM} (H : zIv Γ h) : h 1 11 = h 89 32 ∧ 1 ≤ h 89 32 ∧ h 89 32 ≤ 20 := H.2.2.2.2.2.2.2.2.2.2.2.2.2.2.2.2.2.2.2.2.1
theorem zIv.wts {Γ : zC} {h : zM} (H : zIv Γ h) : ∀ n, 1 ≤ n → n < 100 → (0 ≤ h 106 n ∧ h 106 n ≤ 100) ∧ h 86 n = if h 106 n = 0 then 1 else h 106 n - 1 := H.2.2.2.2.2.2.2.2.2.2.2.2.2.2.2.2.2.2.2.2.2.1
theorem zIv.gds {Γ : zC} {h : zM} (H : zIv Γ h) : h 77 2 = h 89 39 ∧ 0 ≤ h 89 39 ∧ h 89 39 ≤ 3 := H.2.2.2.2.2.2.2.2.2.2.2.2.2.2.2.2.2.2.2.2.2.2.1
theorem zIv.prc {Γ : zC} {h : zM} (H : zIv Γ h) : ∀ g i : Nat, (g : Int) < h 89 39 → i < 6 → h (79 + g) i = h 107 (6 * g + i) ∧ 1 ≤ h 107 (6 * g + i) ∧ h 107 (6 * g + i) ≤ 99 := H.2.2.2.2.2.2.2.2.2.2.2.2.2.2.2.2.2.2.2.2.2.2.2
theorem zIv.mk {Γ : zC} {h : zM} (base : zBase Γ) (num : ((zks Γ).length : Int) = 121 + 3 * h 89 7) (len : 0 ≤ h 89 6 ∧ h 89 6 ≤ 160) (tln : h 2 1 = h 89 6) (tap : ∀ j : Nat, (j : Int) < h 89 6 → h 3 j = h 90 j % 256) (isl : 0 ≤ h 89 22 ∧ h 89 22 ≤ 6) (cisl : h 16 0 = h 89 22) (tab : ∀ i : Nat, i < 6 → (i : Int) < h 89 22 → h 17 i = h 94 i) (day : ∀ a b, a < 6 → b < 6 → h (19 + a) b = h 96 (6 * a + b) ∧ 0 ≤ h 96 (6 * a + b) ∧ h 96 (6 * a + b) ≤ 9) (now : h 25 0 = h 89 29 ∧ 0 ≤ h 89 29 ∧ h 89 29 ≤ 99) (chn : h 25 1 = h 89 28 ∧ 0 ≤ h 89 28 ∧ h 89 28 ≤ 20) (chr : ∀ j, j < 20 → h 26 j = h 99 j ∧ h 27 j = h 100 j ∧ h 28 j = h 101 j) (sdn : h 25 2 = h 89 51 ∧ 0 ≤ h 89 51 ∧ h 89 51 ≤ 40) (sdr : ∀ j, j < 40 → h 29 j = h 113 j ∧ h 30 j = h 114 j ∧ h 31 j = h 115 j) (sdv : ∀ j : Nat, (j : Int) < h 89 51 → (0 ≤ h 113 j ∧ h 113 j < h 89 22) ∧ 0 ≤ h 114 j ∧ h 114 j ≤ 999) (img : h 1 10 = h 89 60 ∧ (h 89 60 = 0 ∨ h 89 60 = 1)) (imr : h 89 60 = 1 → (h 34 0 = h 89 59 ∧ 0 ≤ h 89 59 ∧ h 89 59 ≤ 99) ∧ (h 34 1 = h 89 57 ∧ 0 ≤ h 89 57 ∧ h 89 57 ≤ 20) ∧ (h 34 2 = h 89 58 ∧ 0 ≤ h 89 58 ∧ h 89 58 ≤ 40) ∧ (∀ j, j < 20 → h 35 j = h 120 (3 * j) ∧ h 36 j = h 120 (3 * j + 1) ∧ h 37 j = h 120 (3 * j + 2)) ∧ (∀ j, j < 40 → h 38 j = h 120 (60 + 3 * j) ∧ h 39 j = h 120 (60 + 3 * j + 1) ∧ h 40 j = h 120 (60 + 3 * j + 2)) ∧ ∀ j : Nat, (j : Int) < h 89 58 → (0 ≤ h 120 (60 + 3 * j) ∧ h 120 (60 + 3 * j) < h 89 22) ∧ 0 ≤ h 120 (60 + 3 * j + 1) ∧ h 120 (60 + 3 * j + 1) ≤ 999) (cus : h 15 3 = h 89 7 ∧ 0 ≤ h 89 7 ∧ h 89 7 ≤ 4) (cof : ∀ i : Nat, i < 6 → (i : Int) < h 89 22 → h 32 i = h 98 i ∧ -1 ≤ h 98 i ∧ h 98 i < h 89 7) (txt : ∀ c : Nat, (c : Int) < h 89 7 → zCu Γ h c) (hnd : h 1 11 = h 89 32 ∧ 1 ≤ h 89 32 ∧ h 89 32 ≤ 20) (wts : ∀ n, 1 ≤ n → n < 100 → (0 ≤ h 106 n ∧ h 106 n ≤ 100) ∧ h 86 n = if h 106 n = 0 then 1 else h 106 n - 1) (gds : h 77 2 = h 89 39 ∧ 0 ≤ h 89 39 ∧ h 89 39 ≤ 3) (prc : ∀ g i : Nat, (g : Int) < h 89 39 → i < 6 → h (79 + g) i = h 107 (6 * g + i) ∧ 1 ≤ h 107 (6 * g + i) ∧ h 107 (6 * g + i) ≤ 99) : zIv Γ h := ⟨base, num, len, tln, tap, isl, cisl, tab, day, now, chn, chr, sdn, sdr, sdv, img, imr, cus, cof, txt, hnd, wts, gds, prc⟩
/-- the taboo of an ISLE on a DAY, by the CHANGES -/
def zTbF (h : zM) (isle day : Int) : Nat → Int × Int
  | 0 => (-1, h 94 isle.toNat)
  | k + 1 => if h 99 k = isle ∧ h 100 k ≤ day ∧ (zTbF h isle day k).1 ≤ h 100 k then (h 100 k, h 101 k) else zTbF h isle day k
def zTb (h : zM) (isle day : Int) : Int := (zTbF h isle day (h 89 28).toNat).2
def zTbR (h : zM) (isle day : Int) : Int := if isle = h 89 30 then h 89 31 else zTb h isle day
def zFb (h : zM) (isle n day t : Int) : Int := if n ≤ 0 then 0 else if n = t then 1 else if h 98 isle.toNat = -1 then 0 else if 0 < zwor (zlt n t isle day) (zcd h (h 98 isle.toNat).toNat) [] false then 1 else 0
def zFo (h : zM) (isle n day : Int) : Int := zFb h isle n day (zTbR h isle day)
theorem zFb_01 (h : zM) (isle n day t : Int) : zFb h isle n day t = 0 ∨ zFb h isle n day t = 1 := by
  unfold zFb
  (repeat' split) <;> first | exact Or.inl rfl | exact Or.inr rfl
theorem zFo_01 (h : zM) (isle n day : Int) : zFo h isle n day = 0 ∨ zFo h isle n day = 1 := zFb_01 _ _ _ _ _
theorem zFo_0 {h : zM} {isle n day : Int} (hn : n ≤ 0) : zFo h isle n day = 0 := by unfold zFo zFb; rw [if_pos hn]
theorem zTbF_e {h : zM} {isle day : Int} {k : Nat} (c : h 99 k = isle ∧ h 100 k ≤ day ∧ (zTbF h isle day k).1 ≤ h 100 k) : zTbF h isle day (k + 1) = (h 100 k, h 101 k) := if_pos c
theorem zTbF_n {h : zM} {isle day : Int} {k : Nat} (c : ¬ (h 99 k = isle ∧ h 100 k ≤ day ∧ (zTbF h isle day k).1 ≤ h 100 k)) : zTbF h isle day (k + 1) = zTbF h isle day k := if_neg c
theorem zcd_of {Γ : zC} {h : zM} {c : Nat} (H : zCu Γ h c) : (zcd h c).length ≤ 160 ∧ ∀ x, x ∈ zcd h c → zwf x := by
  obtain ⟨⟨a, b⟩, ⟨p, hp⟩, -⟩ := H
  have h1 := zP_b _ _ _ _ _ _ _ _ hp
  have h2 := zskip_b (zTxt h c) (h 92 c).toNat 0
  refine ⟨?_, fun x hx => ?_⟩
  · simp only [show ¬ (13 : Nat) = 11 by decide, if_false] at h1; omega
  · rcases zP_wf _ _ _ _ _ _ _ _ hp x hx with h3 | ⟨-, h3⟩
    · rcases h3 with h3 | h3 | h3 | h3
      · exact Or.inl h3.1
      · exact Or.inr (Or.inl h3)
      · exact Or.inr (Or.inr (Or.inl h3))
      · omega
    · omega
set_option maxRecDepth 4000 in
theorem X7_isIsle_ct {l : Launch} {Γ : zC} {h0 h : zM} {Q : Option zV → zC → zM → Prop} {i : Int} (hI : zIv Γ h0) (hF : zfr zSS h0 h) (hQ0 : ¬ (0 ≤ i ∧ i < h0 89 22) → Q (some (zI 0)) Γ h) (hQ1 : (0 ≤ i ∧ i < h0 89 22) → Q (some (zI 1)) Γ h) : zCT l mX7_isIsle 0 0 0 Γ [zR 15, zI i] h Q := by
  have hΓ := hI.base
  have hx2 := hI.isl
  refine zCT_of (by decide) (Nat.le_of_ble_eq_true rfl) (ls := [some (zR 15), some (zI i)]) rfl ?_
  refine z_il1 dX7_isIsle_0 ?_
  refine z_if_lt (t := 25) dX7_isIsle_1 (by rfl) (fun ht1 => ?_) (fun hf1 => ?_)
  · refine z_iconst dX7_isIsle_25 (by decide) ?_
    refine z_zret dX7_isIsle_26 rfl (Nat.le_refl _) (Nat.le_refl _) (zext_rf _) (by first | exact Or.inl rfl | exact Or.inr rfl | omega) ?_
    first | exact hQ0 (by omega) | exact hQ1 (by omega)
  · refine z_il1 dX7_isIsle_4 ?_
    refine z_al0 dX7_isIsle_5 (by first | decide | omega | assumption) ?_
    refine z_getR zfX7_12 dX7_isIsle_6 (zkB hΓ rfl) rfl (zsB hΓ rfl) (zvB hΓ (by decide)) ?_
    refine z_getI zfX7_52 dX7_isIsle_9 (zkB hΓ rfl) rfl ?_
    rw [hF 16 0 rfl, hI.cisl]
    try simp only [zup_ap, zup_row, ne_eq, not_false_eq_true, zres, Int.toNat_natCast, reduceIte, Nat.reduceEqDiff, Nat.reduceAdd, and_self, and_true, true_and, and_false, false_and]
    refine z_icmp_ge (t := 25) dX7_isIsle_12 (by rfl) (fun ht12 => ?_) (fun hf12 => ?_)
    · refine z_iconst dX7_isIsle_25 (by decide) ?_
      refine z_zret dX7_isIsle_26 rfl (Nat.le_refl _) (Nat.le_refl _) (zext_rf _) (by first | exact Or.inl rfl | exact Or.inr rfl | omega) ?_
      first | exact hQ0 (by omega) | exact hQ1 (by omega)
    · refine z_il1 dX7_isIsle_15 ?_
      refine z_bipush (x := 6) dX7_isIsle_16 (by rfl) (by decide) ?_
      refine z_icmp_ge (t := 25) dX7_isIsle_18 (by rfl) (fun ht18 => ?_) (fun hf18 => ?_)
      · refine z_iconst dX7_isIsle_25 (by decide) ?_
        refine z_zret dX7_isIsle_26 rfl (Nat.le_refl _) (Nat.le_refl _) (zext_rf _) (by first | exact Or.inl rfl | exact Or.inr rfl | omega) ?_
        first | exact hQ0 (by omega) | exact hQ1 (by omega)
      · refine z_iconst dX7_isIsle_21 (by decide) ?_
        refine z_goto (t := 26) dX7_isIsle_22 (by rfl) ?_
        refine z_zret dX7_isIsle_26 rfl (Nat.le_refl _) (Nat.le_refl _) (zext_rf _) (by first | exact Or.inl rfl | exact Or.inr rfl | omega) ?_
        first | exact hQ0 (by omega) | exact hQ1 (by omega)
set_option maxRecDepth 4000 in
theorem X9_isIsle_ct {l : Launch} {Γ : zC} {h0 h : zM} {Q : Option zV → zC → zM → Prop} {i : Int} (hI : zIv Γ h0) (hF : zfr zSS h0 h) (hQ0 : ¬ (0 ≤ i ∧ i < h0 89 22) → Q (some (zI 0)) Γ h) (hQ1 : (0 ≤ i ∧ i < h0 89 22) → Q (some (zI 1)) Γ h) : zCT l mX9_isIsle 0 0 0 Γ [zR 89, zI i] h Q := by
  have hΓ := hI.base
  have hx2 := hI.isl
  refine zCT_of (by decide) (Nat.le_of_ble_eq_true rfl) (ls := [some (zR 89), some (zI i)]) rfl ?_
  refine z_il1 dX9_isIsle_0 ?_
  refine z_if_lt (t := 16) dX9_isIsle_1 (by rfl) (fun ht1 => ?_) (fun hf1 => ?_)
  · refine z_iconst dX9_isIsle_16 (by decide) ?_
    refine z_zret dX9_isIsle_17 rfl (Nat.le_refl _) (Nat.le_refl _) (zext_rf _) (by first | exact Or.inl rfl | exact Or.inr rfl | omega) ?_
    first | exact hQ0 (by omega) | exact hQ1 (by omega)
  · refine z_il1 dX9_isIsle_4 ?_
    refine z_al0 dX9_isIsle_5 (by first | decide | omega | assumption) ?_
    refine z_getI zfX9_276 dX9_isIsle_6 (zkB hΓ rfl) rfl ?_
    rw [hF 89 22 rfl]
    try simp only [zup_ap, zup_row, ne_eq, not_false_eq_true, zres, Int.toNat_natCast, reduceIte, Nat.reduceEqDiff, Nat.reduceAdd, and_self, and_true, true_and, and_false, false_and]
    refine z_icmp_ge (t := 16) dX9_isIsle_9 (by rfl) (fun ht9 => ?_) (fun hf9 => ?_)
    · refine z_iconst dX9_isIsle_16 (by decide) ?_
      refine z_zret dX9_isIsle_17 rfl (Nat.le_refl _) (Nat.le_refl _) (zext_rf _) (by first | exact Or.inl rfl | exact Or.inr rfl | omega) ?_
      first | exact hQ0 (by omega) | exact hQ1 (by omega)
    · refine z_iconst dX9_isIsle_12 (by decide) ?_
      refine z_goto (t := 17) dX9_isIsle_13 (by rfl) ?_
      refine z_zret dX9_isIsle_17 rfl (Nat.le_refl _) (Nat.le_refl _) (zext_rf _) (by first | exact Or.inl rfl | exact Or.inr rfl | omega) ?_
      first | exact hQ0 (by omega) | exact hQ1 (by omega)
set_option maxRecDepth 4000 in
theorem X3_tabooOn_l {l : Launch} {Γ : zC} {h0 h : zM} {Q : Option zV → zC → zM → Prop} {i d f : Int} (hI : zIv Γ h0) (hF : zfr zSS h0 h) (hQ : Q (some (zI (zTb h0 i d))) Γ h) : ∀ (m k : Nat), (h0 89 28).toNat - k < m → k ≤ (h0 89 28).toNat → zG (zFn l mX3_tabooOn 0 0 0 Γ Q) 0 0 Γ h 9 [some (zR 25), some (zI i), some (zI d), some (zI f), some (zI (zTbF h0 i d k).1), some (zI (zTbF h0 i d k).2), some (zI (k : Nat))] [] := by
  have hΓ := hI.base
  have hx2 := hI.isl
  have hx3 := hI.chn
  intro m
  induction m with
  | zero => intros; omega
  | succ m ih =>
    intro k hm hk
    refine z_il6 dX3_tabooOn_9 ?_
    refine z_al0 dX3_tabooOn_11 (by first | decide | omega | assumption) ?_
    refine z_getI zfX3_34 dX3_tabooOn_12 (zkB hΓ rfl) rfl ?_
    rw [hF 25 1 rfl, hI.chn.1]
    try simp only [zup_ap, zup_row, ne_eq, not_false_eq_true, zres, Int.toNat_natCast, reduceIte, Nat.reduceEqDiff, Nat.reduceAdd, and_self, and_true, true_and, and_false, false_and]
    refine z_icmp_ge (t := 83) dX3_tabooOn_15 (by rfl) (fun ht15 => ?_) (fun hf15 => ?_)
    · refine z_il5 dX3_tabooOn_83 ?_
      refine z_iret dX3_tabooOn_85 rfl (Nat.le_refl _) (Nat.le_refl _) (zext_rf _) (fun hrr => ?_)
      have e9 : k = (h0 89 28).toNat := by omega
      subst e9
      exact hQ
    · refine z_il6 dX3_tabooOn_18 ?_
      refine z_bipush (x := 20) dX3_tabooOn_20 (by rfl) (by decide) ?_
      refine z_icmp_ge (t := 83) dX3_tabooOn_22 (by rfl) (fun ht22 => ?_) (fun hf22 => ?_)
      · refine z_il5 dX3_tabooOn_83 ?_
        refine z_iret dX3_tabooOn_85 rfl (Nat.le_refl _) (Nat.le_refl _) (zext_rf _) (fun hrr => ?_)
        have e9 : k = (h0 89 28).toNat := by omega
        subst e9
        exact hQ
      · refine z_al0 dX3_tabooOn_25 (by first | decide | omega | assumption) ?_
        refine z_getR zfX3_9 dX3_tabooOn_26 (zkB hΓ rfl) rfl (zsB hΓ rfl) (zvB hΓ (by decide)) ?_
        refine z_il6 dX3_tabooOn_29 ?_
        refine z_iald dX3_tabooOn_31 (zkB hΓ rfl) (by omega) (by omega) ?_
        rw [hF 26 _ rfl, (hI.chr _ (by omega)).1]
        try simp only [zup_ap, zup_row, ne_eq, not_false_eq_true, zres, Int.toNat_natCast, reduceIte, Nat.reduceEqDiff, Nat.reduceAdd, and_self, and_true, true_and, and_false, false_and]
        refine z_il1 dX3_tabooOn_32 ?_
        refine z_icmp_ne (t := 77) dX3_tabooOn_33 (by rfl) (fun ht33 => ?_) (fun hf33 => ?_)
        · refine z_ii6 dX3_tabooOn_77 (by omega) (Nat.le_of_ble_eq_true rfl) rfl ?_
          refine z_goto (t := 9) dX3_tabooOn_80 (by rfl) ?_
          first
          | (have e9 := zTbF_n (h := h0) (isle := i) (day := d) (k := k) (by omega)
             have ih9 := ih (k + 1) (by omega) (by omega)
             rw [e9] at ih9
             exact ih9)
          | (have e9 := zTbF_e (h := h0) (isle := i) (day := d) (k := k) (by omega)
             have ih9 := ih (k + 1) (by omega) (by omega)
             rw [e9] at ih9
             exact ih9)
        · refine z_al0 dX3_tabooOn_36 (by first | decide | omega | assumption) ?_
          refine z_getR zfX3_15 dX3_tabooOn_37 (zkB hΓ rfl) rfl (zsB hΓ rfl) (zvB hΓ (by decide)) ?_
          refine z_il6 dX3_tabooOn_40 ?_
          refine z_iald dX3_tabooOn_42 (zkB hΓ rfl) (by omega) (by omega) ?_
          rw [hF 27 _ rfl, (hI.chr _ (by omega)).2.1]
          try simp only [zup_ap, zup_row, ne_eq, not_false_eq_true, zres, Int.toNat_natCast, reduceIte, Nat.reduceEqDiff, Nat.reduceAdd, and_self, and_true, true_and, and_false, false_and]
          refine z_il2 dX3_tabooOn_43 ?_
          refine z_icmp_gt (t := 77) dX3_tabooOn_44 (by rfl) (fun ht44 => ?_) (fun hf44 => ?_)
          · refine z_ii6 dX3_tabooOn_77 (by omega) (Nat.le_of_ble_eq_true rfl) rfl ?_
            refine z_goto (t := 9) dX3_tabooOn_80 (by rfl) ?_
            first
            | (have e9 := zTbF_n (h := h0) (isle := i) (day := d) (k := k) (by omega)
               have ih9 := ih (k + 1) (by omega) (by omega)
               rw [e9] at ih9
               exact ih9)
            | (have e9 := zTbF_e (h := h0) (isle := i) (day := d) (k := k) (by omega)
               have ih9 := ih (k + 1) (by omega) (by omega)
               rw [e9] at ih9
               exact ih9)
          · refine z_al0 dX3_tabooOn_47 (by first | decide | omega | assumption) ?_
            refine z_getR zfX3_15 dX3_tabooOn_48 (zkB hΓ rfl) rfl (zsB hΓ rfl) (zvB hΓ (by decide)) ?_
            refine z_il6 dX3_tabooOn_51 ?_
            refine z_iald dX3_tabooOn_53 (zkB hΓ rfl) (by omega) (by omega) ?_
            rw [hF 27 _ rfl, (hI.chr _ (by omega)).2.1]
            try simp only [zup_ap, zup_row, ne_eq, not_false_eq_true, zres, Int.toNat_natCast, reduceIte, Nat.reduceEqDiff, Nat.reduceAdd, and_self, and_true, true_and, and_false, false_and]
            refine z_il4 dX3_tabooOn_54 ?_
            refine z_icmp_lt (t := 77) dX3_tabooOn_56 (by rfl) (fun ht56 => ?_) (fun hf56 => ?_)
            · refine z_ii6 dX3_tabooOn_77 (by omega) (Nat.le_of_ble_eq_true rfl) rfl ?_
              refine z_goto (t := 9) dX3_tabooOn_80 (by rfl) ?_
              first
              | (have e9 := zTbF_n (h := h0) (isle := i) (day := d) (k := k) (by omega)
                 have ih9 := ih (k + 1) (by omega) (by omega)
                 rw [e9] at ih9
                 exact ih9)
              | (have e9 := zTbF_e (h := h0) (isle := i) (day := d) (k := k) (by omega)
                 have ih9 := ih (k + 1) (by omega) (by omega)
                 rw [e9] at ih9
                 exact ih9)
            · refine z_al0 dX3_tabooOn_59 (by first | decide | omega | assumption) ?_
              refine z_getR zfX3_15 dX3_tabooOn_60 (zkB hΓ rfl) rfl (zsB hΓ rfl) (zvB hΓ (by decide)) ?_
              refine z_il6 dX3_tabooOn_63 ?_
              refine z_iald dX3_tabooOn_65 (zkB hΓ rfl) (by omega) (by omega) ?_
              rw [hF 27 _ rfl, (hI.chr _ (by omega)).2.1]
              try simp only [zup_ap, zup_row, ne_eq, not_false_eq_true, zres, Int.toNat_natCast, reduceIte, Nat.reduceEqDiff, Nat.reduceAdd, and_self, and_true, true_and, and_false, false_and]
              refine z_is4 dX3_tabooOn_66 (Nat.le_of_ble_eq_true rfl) rfl ?_
              refine z_al0 dX3_tabooOn_68 (by first | decide | omega | assumption) ?_
              refine z_getR zfX3_18 dX3_tabooOn_69 (zkB hΓ rfl) rfl (zsB hΓ rfl) (zvB hΓ (by decide)) ?_
              refine z_il6 dX3_tabooOn_72 ?_
              refine z_iald dX3_tabooOn_74 (zkB hΓ rfl) (by omega) (by omega) ?_
              rw [hF 28 _ rfl, (hI.chr _ (by omega)).2.2]
              try simp only [zup_ap, zup_row, ne_eq, not_false_eq_true, zres, Int.toNat_natCast, reduceIte, Nat.reduceEqDiff, Nat.reduceAdd, and_self, and_true, true_and, and_false, false_and]
              refine z_is5 dX3_tabooOn_75 (Nat.le_of_ble_eq_true rfl) rfl ?_
              refine z_ii6 dX3_tabooOn_77 (by omega) (Nat.le_of_ble_eq_true rfl) rfl ?_
              refine z_goto (t := 9) dX3_tabooOn_80 (by rfl) ?_
              first
              | (have e9 := zTbF_n (h := h0) (isle := i) (day := d) (k := k) (by omega)
                 have ih9 := ih (k + 1) (by omega) (by omega)
                 rw [e9] at ih9
                 exact ih9)
              | (have e9 := zTbF_e (h := h0) (isle := i) (day := d) (k := k) (by omega)
                 have ih9 := ih (k + 1) (by omega) (by omega)
                 rw [e9] at ih9
                 exact ih9)
set_option maxRecDepth 4000 in
theorem X3_tabooOn_ct {l : Launch} {Γ : zC} {h0 h : zM} {Q : Option zV → zC → zM → Prop} {i d : Int} (hI : zIv Γ h0) (hF : zfr zSS h0 h) (hQ : Q (some (zI (zTb h0 i d))) Γ h) : zCT l mX3_tabooOn 0 0 0 Γ [zR 25, zI i, zI d, zI (h0 94 i.toNat)] h Q := by
  have hΓ := hI.base
  have hx2 := hI.isl
  refine zCT_of (by decide) (Nat.le_of_ble_eq_true rfl) (ls := [some (zR 25), some (zI i), some (zI d), some (zI (h0 94 i.toNat)), none, none, none]) rfl ?_
  refine z_iconst dX3_tabooOn_0 (by decide) ?_
  refine z_is4 dX3_tabooOn_1 (Nat.le_of_ble_eq_true rfl) rfl ?_
  refine z_il3 dX3_tabooOn_3 ?_
  refine z_is5 dX3_tabooOn_4 (Nat.le_of_ble_eq_true rfl) rfl ?_
  refine z_iconst dX3_tabooOn_6 (by decide) ?_
  refine z_is6 dX3_tabooOn_7 (Nat.le_of_ble_eq_true rfl) rfl ?_
  exact X3_tabooOn_l hI hF hQ _ 0 (Nat.lt_succ_self _) (Nat.zero_le _)
set_option maxRecDepth 4000 in
theorem X7_tabooOn_ct {l : Launch} {Γ : zC} {h0 h : zM} {Q : Option zV → zC → zM → Prop} {i d : Int} (hI : zIv Γ h0) (hF : zfr zSS h0 h) (hv : 0 ≤ i ∧ i < h0 89 22) (hQ : Q (some (zI (zTb h0 i d))) Γ h) : zCT l mX7_tabooOn 1 0 0 Γ [zR 15, zI i, zI d] h Q := by
  have hΓ := hI.base
  have hx2 := hI.isl
  refine zCT_of (by decide) (Nat.le_of_ble_eq_true rfl) (ls := [some (zR 15), some (zI i), some (zI d)]) rfl ?_
  refine z_al0 dX7_tabooOn_0 (by first | decide | omega | assumption) ?_
  refine z_il1 dX7_tabooOn_1 ?_
  refine zcv1 dX7_tabooOn_2 zkX7_55 ziX7_isIsle zsX7_isIsle (zkB hΓ rfl) (by decide) rfl (Nat.le_of_ble_eq_true rfl) (by decide) (by first | decide | omega) ⟨Nat.le_refl _, Nat.le_refl _⟩ (X7_isIsle_ct hI hF (fun hc _ => absurd hv hc) (fun _ _ => ?_))
  · try simp only [zup_ap, zup_row, ne_eq, not_false_eq_true, zres, Int.toNat_natCast, reduceIte, Nat.reduceEqDiff, Nat.reduceAdd, and_self, and_true, true_and, and_false, false_and]
    refine z_if_eq (t := 29) dX7_tabooOn_5 (by rfl) (fun hx => absurd hx (by decide)) (fun _ => ?_)
    refine z_al0 dX7_tabooOn_8 (by first | decide | omega | assumption) ?_
    refine z_getR zfX7_21 dX7_tabooOn_9 (zkB hΓ rfl) rfl (zsB hΓ rfl) (zvB hΓ (by decide)) ?_
    refine z_il1 dX7_tabooOn_12 ?_
    refine z_il2 dX7_tabooOn_13 ?_
    refine z_al0 dX7_tabooOn_14 (by first | decide | omega | assumption) ?_
    refine z_getR zfX7_12 dX7_tabooOn_15 (zkB hΓ rfl) rfl (zsB hΓ rfl) (zvB hΓ (by decide)) ?_
    refine z_getR zfX7_59 dX7_tabooOn_18 (zkB hΓ rfl) rfl (zsB hΓ rfl) (zvB hΓ (by decide)) ?_
    refine z_il1 dX7_tabooOn_21 ?_
    refine z_iald dX7_tabooOn_22 (zkB hΓ rfl) (by omega) (by omega) ?_
    rw [hF 17 _ rfl, hI.tab _ (by omega) (by omega)]
    try simp only [zup_ap, zup_row, ne_eq, not_false_eq_true, zres, Int.toNat_natCast, reduceIte, Nat.reduceEqDiff, Nat.reduceAdd, and_self, and_true, true_and, and_false, false_and]
    refine zcv3 dX7_tabooOn_23 zkX7_62 ziX3_tabooOn zsX3_tabooOn (zkB hΓ rfl) (by decide) rfl (Nat.le_of_ble_eq_true rfl) (by decide) (by first | decide | omega) ⟨Nat.le_refl _, Nat.le_refl _⟩ (X3_tabooOn_ct hI hF (fun _ => ?_))
    try simp only [zup_ap, zup_row, ne_eq, not_false_eq_true, zres, Int.toNat_natCast, reduceIte, Nat.reduceEqDiff, Nat.reduceAdd, and_self, and_true, true_and, and_false, false_and]
    refine z_goto (t := 30) dX7_tabooOn_26 (by rfl) ?_
    refine z_iret dX7_tabooOn_30 rfl (Nat.le_refl _) (Nat.le_refl _) (zext_rf _) (fun hrr => ?_)
    exact hQ
set_option maxRecDepth 4000 in
theorem X9_tabooOn_l {l : Launch} {Γ : zC} {h0 h : zM} {Q : Option zV → zC → zM → Prop} {i d : Int} (hI : zIv Γ h0) (hF : zfr zSS h0 h) (hQ : Q (some (zI (zTb h0 i d))) Γ h) : ∀ (m k : Nat), (h0 89 28).toNat - k < m → k ≤ (h0 89 28).toNat → zG (zFn l mX9_tabooOn 0 0 0 Γ Q) 0 0 Γ h 26 [some (zR 89), some (zI i), some (zI d), some (zI (zTbF h0 i d k).2), some (zI (zTbF h0 i d k).1), some (zI (k : Nat))] [] := by
  have hΓ := hI.base
  have hx2 := hI.isl
  have hx3 := hI.chn
  intro m
  induction m with
  | zero => intros; omega
  | succ m ih =>
    intro k hm hk
    refine z_il5 dX9_tabooOn_26 ?_
    refine z_al0 dX9_tabooOn_28 (by first | decide | omega | assumption) ?_
    refine z_getI zfX9_282 dX9_tabooOn_29 (zkB hΓ rfl) rfl ?_
    rw [hF 89 28 rfl]
    try simp only [zup_ap, zup_row, ne_eq, not_false_eq_true, zres, Int.toNat_natCast, reduceIte, Nat.reduceEqDiff, Nat.reduceAdd, and_self, and_true, true_and, and_false, false_and]
    refine z_icmp_ge (t := 95) dX9_tabooOn_32 (by rfl) (fun ht32 => ?_) (fun hf32 => ?_)
    · refine z_il3 dX9_tabooOn_95 ?_
      refine z_iret dX9_tabooOn_96 rfl (Nat.le_refl _) (Nat.le_refl _) (zext_rf _) (fun hrr => ?_)
      have e9 : k = (h0 89 28).toNat := by omega
      subst e9
      exact hQ
    · refine z_al0 dX9_tabooOn_35 (by first | decide | omega | assumption) ?_
      refine z_getR zfX9_52 dX9_tabooOn_36 (zkB hΓ rfl) rfl (zsB hΓ rfl) (zvB hΓ (by decide)) ?_
      refine z_il5 dX9_tabooOn_39 ?_
      refine z_iald dX9_tabooOn_41 (zkB hΓ rfl) (by omega) (by omega) ?_
      rw [hF 99 _ rfl]
      try simp only [zup_ap, zup_row, ne_eq, not_false_eq_true, zres, Int.toNat_natCast, reduceIte, Nat.reduceEqDiff, Nat.reduceAdd, and_self, and_true, true_and, and_false, false_and]
      refine z_il1 dX9_tabooOn_42 ?_
      refine z_icmp_ne (t := 89) dX9_tabooOn_43 (by rfl) (fun ht43 => ?_) (fun hf43 => ?_)
      · refine z_ii5 dX9_tabooOn_89 (by omega) (Nat.le_of_ble_eq_true rfl) rfl ?_
        refine z_goto (t := 26) dX9_tabooOn_92 (by rfl) ?_
        first
        | (have e9 := zTbF_n (h := h0) (isle := i) (day := d) (k := k) (by omega)
           have ih9 := ih (k + 1) (by omega) (by omega)
           rw [e9] at ih9
           exact ih9)
        | (have e9 := zTbF_e (h := h0) (isle := i) (day := d) (k := k) (by omega)
           have ih9 := ih (k + 1) (by omega) (by omega)
           rw [e9] at ih9
           exact ih9)
      · refine z_al0 dX9_tabooOn_46 (by first | decide | omega | assumption) ?_
        refine z_getR zfX9_55 dX9_tabooOn_47 (zkB hΓ rfl) rfl (zsB hΓ rfl) (zvB hΓ (by decide)) ?_
        refine z_il5 dX9_tabooOn_50 ?_
        refine z_iald dX9_tabooOn_52 (zkB hΓ rfl) (by omega) (by omega) ?_
        rw [hF 100 _ rfl]
        try simp only [zup_ap, zup_row, ne_eq, not_false_eq_true, zres, Int.toNat_natCast, reduceIte, Nat.reduceEqDiff, Nat.reduceAdd, and_self, and_true, true_and, and_false, false_and]
        refine z_il2 dX9_tabooOn_53 ?_
        refine z_icmp_gt (t := 89) dX9_tabooOn_54 (by rfl) (fun ht54 => ?_) (fun hf54 => ?_)
        · refine z_ii5 dX9_tabooOn_89 (by omega) (Nat.le_of_ble_eq_true rfl) rfl ?_
          refine z_goto (t := 26) dX9_tabooOn_92 (by rfl) ?_
          first
          | (have e9 := zTbF_n (h := h0) (isle := i) (day := d) (k := k) (by omega)
             have ih9 := ih (k + 1) (by omega) (by omega)
             rw [e9] at ih9
             exact ih9)
          | (have e9 := zTbF_e (h := h0) (isle := i) (day := d) (k := k) (by omega)
             have ih9 := ih (k + 1) (by omega) (by omega)
             rw [e9] at ih9
             exact ih9)
        · refine z_al0 dX9_tabooOn_57 (by first | decide | omega | assumption) ?_
          refine z_getR zfX9_55 dX9_tabooOn_58 (zkB hΓ rfl) rfl (zsB hΓ rfl) (zvB hΓ (by decide)) ?_
          refine z_il5 dX9_tabooOn_61 ?_
          refine z_iald dX9_tabooOn_63 (zkB hΓ rfl) (by omega) (by omega) ?_
          rw [hF 100 _ rfl]
          try simp only [zup_ap, zup_row, ne_eq, not_false_eq_true, zres, Int.toNat_natCast, reduceIte, Nat.reduceEqDiff, Nat.reduceAdd, and_self, and_true, true_and, and_false, false_and]
          refine z_il4 dX9_tabooOn_64 ?_
          refine z_icmp_ge (t := 72) dX9_tabooOn_66 (by rfl) (fun ht66 => ?_) (fun hf66 => ?_)
          · refine z_al0 dX9_tabooOn_72 (by first | decide | omega | assumption) ?_
            refine z_getR zfX9_55 dX9_tabooOn_73 (zkB hΓ rfl) rfl (zsB hΓ rfl) (zvB hΓ (by decide)) ?_
            refine z_il5 dX9_tabooOn_76 ?_
            refine z_iald dX9_tabooOn_78 (zkB hΓ rfl) (by omega) (by omega) ?_
            rw [hF 100 _ rfl]
            try simp only [zup_ap, zup_row, ne_eq, not_false_eq_true, zres, Int.toNat_natCast, reduceIte, Nat.reduceEqDiff, Nat.reduceAdd, and_self, and_true, true_and, and_false, false_and]
            refine z_is4 dX9_tabooOn_79 (Nat.le_of_ble_eq_true rfl) rfl ?_
            refine z_al0 dX9_tabooOn_81 (by first | decide | omega | assumption) ?_
            refine z_getR zfX9_58 dX9_tabooOn_82 (zkB hΓ rfl) rfl (zsB hΓ rfl) (zvB hΓ (by decide)) ?_
            refine z_il5 dX9_tabooOn_85 ?_
            refine z_iald dX9_tabooOn_87 (zkB hΓ rfl) (by omega) (by omega) ?_
            rw [hF 101 _ rfl]
            try simp only [zup_ap, zup_row, ne_eq, not_false_eq_true, zres, Int.toNat_natCast, reduceIte, Nat.reduceEqDiff, Nat.reduceAdd, and_self, and_true, true_and, and_false, false_and]
            refine z_is3 dX9_tabooOn_88 (Nat.le_of_ble_eq_true rfl) rfl ?_
            refine z_ii5 dX9_tabooOn_89 (by omega) (Nat.le_of_ble_eq_true rfl) rfl ?_
            refine z_goto (t := 26) dX9_tabooOn_92 (by rfl) ?_
            first
            | (have e9 := zTbF_n (h := h0) (isle := i) (day := d) (k := k) (by omega)
               have ih9 := ih (k + 1) (by omega) (by omega)
               rw [e9] at ih9
               exact ih9)
            | (have e9 := zTbF_e (h := h0) (isle := i) (day := d) (k := k) (by omega)
               have ih9 := ih (k + 1) (by omega) (by omega)
               rw [e9] at ih9
               exact ih9)
          · refine z_goto (t := 89) dX9_tabooOn_69 (by rfl) ?_
            refine z_ii5 dX9_tabooOn_89 (by omega) (Nat.le_of_ble_eq_true rfl) rfl ?_
            refine z_goto (t := 26) dX9_tabooOn_92 (by rfl) ?_
            first
            | (have e9 := zTbF_n (h := h0) (isle := i) (day := d) (k := k) (by omega)
               have ih9 := ih (k + 1) (by omega) (by omega)
               rw [e9] at ih9
               exact ih9)
            | (have e9 := zTbF_e (h := h0) (isle := i) (day := d) (k := k) (by omega)
               have ih9 := ih (k + 1) (by omega) (by omega)
               rw [e9] at ih9
               exact ih9)
set_option maxRecDepth 4000 in
theorem X9_tabooOn_ct {l : Launch} {Γ : zC} {h0 h : zM} {Q : Option zV → zC → zM → Prop} {i d : Int} (hI : zIv Γ h0) (hF : zfr zSS h0 h) (hv : 0 ≤ i ∧ i < h0 89 22) (hQ : Q (some (zI (zTbR h0 i d))) Γ h) : zCT l mX9_tabooOn 0 0 0 Γ [zR 89, zI i, zI d] h Q := by
  have hΓ := hI.base
  have hx2 := hI.isl
  refine zCT_of (by decide) (Nat.le_of_ble_eq_true rfl) (ls := [some (zR 89), some (zI i), some (zI d), none, none, none]) rfl ?_
  refine z_il1 dX9_tabooOn_0 ?_
  refine z_al0 dX9_tabooOn_1 (by first | decide | omega | assumption) ?_
  refine z_getI zfX9_61 dX9_tabooOn_2 (zkB hΓ rfl) rfl ?_
  rw [hF 89 30 rfl]
  try simp only [zup_ap, zup_row, ne_eq, not_false_eq_true, zres, Int.toNat_natCast, reduceIte, Nat.reduceEqDiff, Nat.reduceAdd, and_self, and_true, true_and, and_false, false_and]
  refine z_icmp_ne (t := 13) dX9_tabooOn_5 (by rfl) (fun ht5 => ?_) (fun hf5 => ?_)
  · have hx : ¬ i = h0 89 30 := by omega
    refine z_al0 dX9_tabooOn_13 (by first | decide | omega | assumption) ?_
    refine z_getR zfX9_37 dX9_tabooOn_14 (zkB hΓ rfl) rfl (zsB hΓ rfl) (zvB hΓ (by decide)) ?_
    refine z_il1 dX9_tabooOn_17 ?_
    refine z_iald dX9_tabooOn_18 (zkB hΓ rfl) (by omega) (by omega) ?_
    rw [hF 94 _ rfl]
    try simp only [zup_ap, zup_row, ne_eq, not_false_eq_true, zres, Int.toNat_natCast, reduceIte, Nat.reduceEqDiff, Nat.reduceAdd, and_self, and_true, true_and, and_false, false_and]
    refine z_is3 dX9_tabooOn_19 (Nat.le_of_ble_eq_true rfl) rfl ?_
    refine z_iconst dX9_tabooOn_20 (by decide) ?_
    refine z_is4 dX9_tabooOn_21 (Nat.le_of_ble_eq_true rfl) rfl ?_
    refine z_iconst dX9_tabooOn_23 (by decide) ?_
    refine z_is5 dX9_tabooOn_24 (Nat.le_of_ble_eq_true rfl) rfl ?_
    exact X9_tabooOn_l hI hF (by unfold zTbR at hQ; rw [if_neg hx] at hQ; exact hQ) _ 0 (Nat.lt_succ_self _) (Nat.zero_le _)
  · refine z_al0 dX9_tabooOn_8 (by first | decide | omega | assumption) ?_
    refine z_getI zfX9_296 dX9_tabooOn_9 (zkB hΓ rfl) rfl ?_
    rw [hF 89 31 rfl]
    try simp only [zup_ap, zup_row, ne_eq, not_false_eq_true, zres, Int.toNat_natCast, reduceIte, Nat.reduceEqDiff, Nat.reduceAdd, and_self, and_true, true_and, and_false, false_and]
    refine z_iret dX9_tabooOn_12 rfl (Nat.le_refl _) (Nat.le_refl _) (zext_rf _) (fun hrr => ?_)
    unfold zTbR at hQ; rw [if_pos (by omega)] at hQ; exact hQ
theorem zcs1k {Γ : zC} (hΓ : zBase Γ) {c : Nat} : zsr Γ (122 + 3 * c) 0 = some (123 + 3 * c) := by
  rw [hΓ.1]; unfold zsrG
  rw [if_neg (by omega), if_neg (by omega), if_neg (by omega), if_neg (by omega), if_pos (by omega), if_pos (by omega), if_pos (by omega)]
  congr 1; omega
theorem zcs2k {Γ : zC} (hΓ : zBase Γ) {c : Nat} : zsr Γ (122 + 3 * c) 1 = some (124 + 3 * c) := by
  rw [hΓ.1]; unfold zsrG
  rw [if_neg (by omega), if_neg (by omega), if_neg (by omega), if_neg (by omega), if_pos (by omega), if_pos (by omega), if_pos (by omega)]
  congr 1; omega
set_option maxRecDepth 4000 in
theorem X7_forbidsBy_ct {l : Launch} {Γ : zC} {h0 h : zM} {Q : Option zV → zC → zM → Prop} {i nn d t : Int} (hI : zIv Γ h0) (hF : zfr zSS h0 h) (hv : 0 ≤ i ∧ i < h0 89 22) (hn9 : nn ≤ 999) (hQ : ∀ h9, zfK h h9 → Q (some (zI (zFb h0 i nn d t))) Γ h9) : zCT l mX7_forbidsBy 2 0 0 Γ [zR 15, zI i, zI nn, zI d, zI t] h Q := by
  have hΓ := hI.base
  have hx2 := hI.isl
  refine zCT_of (by decide) (Nat.le_of_ble_eq_true rfl) (ls := [some (zR 15), some (zI i), some (zI nn), some (zI d), some (zI t), none]) rfl ?_
  refine z_il2 dX7_forbidsBy_0 ?_
  refine z_if_le (t := 12) dX7_forbidsBy_1 (by rfl) (fun ht1 => ?_) (fun hf1 => ?_)
  · refine z_iconst dX7_forbidsBy_12 (by decide) ?_
    refine z_zret dX7_forbidsBy_13 rfl (Nat.le_refl _) (Nat.le_refl _) (zext_rf _) (by first | exact Or.inl rfl | exact Or.inr rfl | omega) ?_
    refine zQi (hQ _ (zfK_rf _)) ?_ rfl
    unfold zFb
    rw [if_pos (by omega)]
  · refine z_al0 dX7_forbidsBy_4 (by first | decide | omega | assumption) ?_
    refine z_il1 dX7_forbidsBy_5 ?_
    refine zcv1 dX7_forbidsBy_6 zkX7_55 ziX7_isIsle zsX7_isIsle (zkB hΓ rfl) (by decide) rfl (Nat.le_of_ble_eq_true rfl) (by decide) (by first | decide | omega) ⟨Nat.le_refl _, Nat.le_refl _⟩ (X7_isIsle_ct hI hF (fun hc _ => absurd hv hc) (fun _ _ => ?_))
    · try simp only [zup_ap, zup_row, ne_eq, not_false_eq_true, zres, Int.toNat_natCast, reduceIte, Nat.reduceEqDiff, Nat.reduceAdd, and_self, and_true, true_and, and_false, false_and]
      refine z_if_ne (t := 14) dX7_forbidsBy_9 (by rfl) (fun _ => ?_) (fun hx => absurd hx (by decide))
      refine z_il2 dX7_forbidsBy_14 ?_
      refine z_il4 dX7_forbidsBy_15 ?_
      refine z_icmp_ne (t := 22) dX7_forbidsBy_17 (by rfl) (fun ht17 => ?_) (fun hf17 => ?_)
      · refine z_al0 dX7_forbidsBy_22 (by first | decide | omega | assumption) ?_
        refine z_getR zfX7_25 dX7_forbidsBy_23 (zkB hΓ rfl) rfl (zsB hΓ rfl) (zvB hΓ (by decide)) ?_
        refine z_il1 dX7_forbidsBy_26 ?_
        refine z_iald dX7_forbidsBy_27 (zkB hΓ rfl) (by omega) (by omega) ?_
        rw [hF 32 _ rfl, (hI.cof _ (by omega) (by omega)).1]
        try simp only [zup_ap, zup_row, ne_eq, not_false_eq_true, zres, Int.toNat_natCast, reduceIte, Nat.reduceEqDiff, Nat.reduceAdd, and_self, and_true, true_and, and_false, false_and]
        refine z_is5 dX7_forbidsBy_28 (Nat.le_of_ble_eq_true rfl) rfl ?_
        rw [show i.toNat = i.toNat from rfl]
        have hcf := hI.cof i.toNat (by omega) (by omega)
        have hcu := hI.cus
        rw [hF 89 7 rfl |>.symm] at hcu hcf
        rw [hF 89 7 rfl] at hcu hcf
        refine z_il5 dX7_forbidsBy_30 ?_
        refine z_if_lt (t := 51) dX7_forbidsBy_32 (by rfl) (fun ht32 => ?_) (fun hf32 => ?_)
        · refine z_iconst dX7_forbidsBy_51 (by decide) ?_
          refine z_zret dX7_forbidsBy_52 rfl (Nat.le_refl _) (Nat.le_refl _) (zext_rf _) (by first | exact Or.inl rfl | exact Or.inr rfl | omega) ?_
          first
          | (exfalso; omega)
          | (refine zQi (hQ _ (zfK_rf _)) ?_ rfl
             unfold zFb
             rw [if_neg (by omega), if_neg (by omega), if_pos (by omega)])
        · have htx := hI.txt (h0 98 i.toNat).toNat (by omega)
          obtain ⟨hc1, hc2, hc3, hc4, hc5, hc6, hc7⟩ := htx
          have hcz := zcd_of ⟨hc1, hc2, hc3, hc4, hc5, hc6, hc7⟩
          have hnm := hI.num
          have h33 : (h 33 (h0 98 i.toNat).toNat).toNat = 122 + 3 * (h0 98 i.toNat).toNat := by rw [hF 33 _ rfl, hc3]; rfl
          generalize hcc : (h0 98 i.toNat).toNat = c at hc1 hc2 hc3 hc4 hc5 hc6 hc7 hcz h33
          have hc9 : (c : Int) = h0 98 i.toNat := by omega
          refine z_il5 dX7_forbidsBy_35 ?_
          refine z_iconst dX7_forbidsBy_37 (by decide) ?_
          refine z_icmp_ge (t := 51) dX7_forbidsBy_38 (by rfl) (fun ht38 => ?_) (fun hf38 => ?_)
          · refine z_iconst dX7_forbidsBy_51 (by decide) ?_
            refine z_zret dX7_forbidsBy_52 rfl (Nat.le_refl _) (Nat.le_refl _) (zext_rf _) (by first | exact Or.inl rfl | exact Or.inr rfl | omega) ?_
            first
            | (exfalso; omega)
            | (refine zQi (hQ _ (zfK_rf _)) ?_ rfl
               unfold zFb
               rw [if_neg (by omega), if_neg (by omega), if_pos (by omega)])
          · refine z_al0 dX7_forbidsBy_41 (by first | decide | omega | assumption) ?_
            refine z_getR zfX7_31 dX7_forbidsBy_42 (zkB hΓ rfl) rfl (zsB hΓ rfl) (zvB hΓ (by decide)) ?_
            refine z_il5 dX7_forbidsBy_45 ?_
            refine z_aald dX7_forbidsBy_47 (zkB hΓ rfl) (Or.inr rfl) (by omega) (by omega) (q := 122 + 3 * c) (by rw [zsN hΓ (by rfl)]; rw [hcc]; exact h33) (fun _ => Or.inl (by omega)) ?_
            refine z_ifnonnull (t := 53) dX7_forbidsBy_48 (by rfl) (fun ht48 => ?_) (fun hf48 => ?_)
            · refine z_al0 dX7_forbidsBy_53 (by first | decide | omega | assumption) ?_
              refine z_getR zfX7_31 dX7_forbidsBy_54 (zkB hΓ rfl) rfl (zsB hΓ rfl) (zvB hΓ (by decide)) ?_
              refine z_il5 dX7_forbidsBy_57 ?_
              refine z_aald dX7_forbidsBy_59 (zkB hΓ rfl) (Or.inr rfl) (by omega) (by omega) (q := 122 + 3 * c) (by rw [zsN hΓ (by rfl)]; rw [hcc]; exact h33) (fun _ => Or.inl (by omega)) ?_
              refine z_il2 dX7_forbidsBy_60 ?_
              refine z_il4 dX7_forbidsBy_61 ?_
              refine z_il1 dX7_forbidsBy_63 ?_
              refine z_il3 dX7_forbidsBy_64 ?_
              refine zcv4 dX7_forbidsBy_65 zkX7_80 ziX1_worth zsX1_worth hc4 (by decide) rfl (Nat.le_of_ble_eq_true rfl) (by decide) (by first | decide | omega) ⟨Nat.le_refl _, Nat.le_refl _⟩ (X1_worth_ct hc4 hc5 hc6 (zcs1k hΓ) (zcs2k hΓ) (Or.inl (by omega)) (Or.inl (by omega)) (by omega) (by omega) (by omega) (by omega) rfl (fun j hj => ?_) hcz.2 (fun h9 hw9 _ => ?_))
              · rw [hF _ _ ?_]
                · exact hc7 j hj
                · rw [zSS_hi (by omega), show (123 + 3 * c) % 3 = 0 by omega]; rfl
              have hK9 : zfK h h9 := fun r hr => hw9 r (by omega)
              refine z_if_le (t := 75) dX7_forbidsBy_68 (by rfl) (fun ht68 => ?_) (fun hf68 => ?_)
              · refine z_iconst dX7_forbidsBy_75 (by decide) ?_
                refine z_zret dX7_forbidsBy_76 rfl (Nat.le_refl _) (Nat.le_refl _) (zext_rf _) (by first | exact Or.inl rfl | exact Or.inr rfl | omega) ?_
                refine zQi (hQ _ hK9) ?_ rfl
                unfold zFb
                rw [if_neg (by omega), if_neg (by omega), if_neg (by omega), hcc]
                first | rw [if_pos (by omega)] | rw [if_neg (by omega)]
              · refine z_iconst dX7_forbidsBy_71 (by decide) ?_
                refine z_goto (t := 76) dX7_forbidsBy_72 (by rfl) ?_
                refine z_zret dX7_forbidsBy_76 rfl (Nat.le_refl _) (Nat.le_refl _) (zext_rf _) (by first | exact Or.inl rfl | exact Or.inr rfl | omega) ?_
                refine zQi (hQ _ hK9) ?_ rfl
                unfold zFb
                rw [if_neg (by omega), if_neg (by omega), if_neg (by omega), hcc]
                first | rw [if_pos (by omega)] | rw [if_neg (by omega)]
            · refine z_iconst dX7_forbidsBy_51 (by decide) ?_
              refine z_zret dX7_forbidsBy_52 rfl (Nat.le_refl _) (Nat.le_refl _) (zext_rf _) (by first | exact Or.inl rfl | exact Or.inr rfl | omega) ?_
              first
              | (exfalso; omega)
              | (refine zQi (hQ _ (zfK_rf _)) ?_ rfl
                 unfold zFb
                 rw [if_neg (by omega), if_neg (by omega), if_pos (by omega)])
      · refine z_iconst dX7_forbidsBy_20 (by decide) ?_
        refine z_zret dX7_forbidsBy_21 rfl (Nat.le_refl _) (Nat.le_refl _) (zext_rf _) (by first | exact Or.inl rfl | exact Or.inr rfl | omega) ?_
        refine zQi (hQ _ (zfK_rf _)) ?_ rfl
        unfold zFb
        rw [if_neg (by omega), if_pos (by omega)]
set_option maxRecDepth 4000 in
theorem X7_forbids_ct {l : Launch} {Γ : zC} {h0 h : zM} {Q : Option zV → zC → zM → Prop} {i nn d : Int} (hI : zIv Γ h0) (hF : zfr zSS h0 h) (hO : h0 89 30 = -1) (hv : 0 ≤ i ∧ i < h0 89 22) (hn9 : nn ≤ 999) (hQ : ∀ h9, zfK h h9 → Q (some (zI (zFo h0 i nn d))) Γ h9) : zCT l mX7_forbids 3 0 0 Γ [zR 15, zI i, zI nn, zI d] h Q := by
  have hΓ := hI.base
  have hx2 := hI.isl
  refine zCT_of (by decide) (Nat.le_of_ble_eq_true rfl) (ls := [some (zR 15), some (zI i), some (zI nn), some (zI d)]) rfl ?_
  refine z_al0 dX7_forbids_0 (by first | decide | omega | assumption) ?_
  refine z_il1 dX7_forbids_1 ?_
  refine z_il2 dX7_forbids_2 ?_
  refine z_il3 dX7_forbids_3 ?_
  refine z_al0 dX7_forbids_4 (by first | decide | omega | assumption) ?_
  refine z_il1 dX7_forbids_5 ?_
  refine z_il3 dX7_forbids_6 ?_
  refine zcv2 dX7_forbids_7 zkX7_66 ziX7_tabooOn zsX7_tabooOn (zkB hΓ rfl) (by decide) rfl (Nat.le_of_ble_eq_true rfl) (by decide) (by first | decide | omega) ⟨Nat.le_refl _, Nat.le_refl _⟩ (X7_tabooOn_ct hI hF hv (fun _ => ?_))
  try simp only [zup_ap, zup_row, ne_eq, not_false_eq_true, zres, Int.toNat_natCast, reduceIte, Nat.reduceEqDiff, Nat.reduceAdd, and_self, and_true, true_and, and_false, false_and]
  refine zcv4 dX7_forbids_10 zkX7_69 ziX7_forbidsBy zsX7_forbidsBy (zkB hΓ rfl) (by decide) rfl (Nat.le_of_ble_eq_true rfl) (by decide) (by first | decide | omega) ⟨Nat.le_refl _, Nat.le_refl _⟩ (X7_forbidsBy_ct hI hF hv hn9 (fun h9 hK9 _ => ?_))
  try simp only [zup_ap, zup_row, ne_eq, not_false_eq_true, zres, Int.toNat_natCast, reduceIte, Nat.reduceEqDiff, Nat.reduceAdd, and_self, and_true, true_and, and_false, false_and]
  refine z_zret dX7_forbids_13 rfl (Nat.le_refl _) (Nat.le_refl _) (zext_rf _) (by exact zFb_01 _ _ _ _ _) ?_
  refine zQi (hQ _ hK9) ?_ rfl
  unfold zFo zTbR
  rw [if_neg (by omega)]
set_option maxRecDepth 4000 in
theorem X7_forbidsNow_ct {l : Launch} {Γ : zC} {h0 h : zM} {Q : Option zV → zC → zM → Prop} {i nn : Int} (hI : zIv Γ h0) (hF : zfr zSS h0 h) (hO : h0 89 30 = -1) (hv : 0 ≤ i ∧ i < h0 89 22) (hn9 : nn ≤ 999) (hQ : ∀ h9, zfK h h9 → Q (some (zI (zFo h0 i nn (h0 89 29)))) Γ h9) : zCT l mX7_forbidsNow 4 0 0 Γ [zR 15, zI i, zI nn] h Q := by
  have hΓ := hI.base
  have hx2 := hI.isl
  refine zCT_of (by decide) (Nat.le_of_ble_eq_true rfl) (ls := [some (zR 15), some (zI i), some (zI nn)]) rfl ?_
  refine z_al0 dX7_forbidsNow_0 (by first | decide | omega | assumption) ?_
  refine z_il1 dX7_forbidsNow_1 ?_
  refine z_il2 dX7_forbidsNow_2 ?_
  refine z_al0 dX7_forbidsNow_3 (by first | decide | omega | assumption) ?_
  refine z_getR zfX7_21 dX7_forbidsNow_4 (zkB hΓ rfl) rfl (zsB hΓ rfl) (zvB hΓ (by decide)) ?_
  refine z_getI zfX7_73 dX7_forbidsNow_7 (zkB hΓ rfl) rfl ?_
  rw [hF 25 0 rfl, hI.now.1]
  try simp only [zup_ap, zup_row, ne_eq, not_false_eq_true, zres, Int.toNat_natCast, reduceIte, Nat.reduceEqDiff, Nat.reduceAdd, and_self, and_true, true_and, and_false, false_and]
  refine zcv3 dX7_forbidsNow_10 zkX7_76 ziX7_forbids zsX7_forbids (zkB hΓ rfl) (by decide) rfl (Nat.le_of_ble_eq_true rfl) (by decide) (by first | decide | omega) ⟨Nat.le_refl _, Nat.le_refl _⟩ (X7_forbids_ct hI hF hO hv hn9 (fun h9 hK9 _ => ?_))
  try simp only [zup_ap, zup_row, ne_eq, not_false_eq_true, zres, Int.toNat_natCast, reduceIte, Nat.reduceEqDiff, Nat.reduceAdd, and_self, and_true, true_and, and_false, false_and]
  refine z_zret dX7_forbidsNow_13 rfl (Nat.le_refl _) (Nat.le_refl _) (zext_rf _) (by exact zFo_01 _ _ _ _) ?_
  exact hQ _ hK9
