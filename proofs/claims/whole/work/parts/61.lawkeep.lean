/-! what holds, kept by the calls that change something: both sides' changes together -/
theorem zK_end {Γ : zC} {h : zM} {v : Int} (hI : zIv Γ h) (hc : 0 ≤ v ∧ v ≤ h 89 6) : zIv Γ (zup (zup (zup h 2 1 v) 89 0 0) 89 6 v) := by
  have hl := hI.len
  refine zIv_tape (zfr_up (zfr_up (zfr_up (zfr_rf _ _) rfl) rfl) rfl) hI (show 0 ≤ v ∧ v ≤ 160 by omega) (show v = v from rfl) (fun j hj => ?_)
  have hj2 : (j : Int) < v := hj
  exact hI.tap j (by omega)
theorem zK_hand {Γ : zC} {h : zM} {v : Int} (hI : zIv Γ h) (hc : 1 ≤ v ∧ v ≤ 20) : zIv Γ (zup (zup (zup h 1 11 v) 89 0 0) 89 32 v) :=
  zIv_hand (zfr_up (zfr_up (zfr_up (zfr_rf _ _) rfl) rfl) rfl) hI (show v = v ∧ 1 ≤ v ∧ v ≤ 20 from ⟨rfl, hc.1, hc.2⟩)
theorem zK_today {Γ : zC} {h : zM} {v : Int} (hI : zIv Γ h) (hc : 0 ≤ v ∧ v ≤ 99) : zIv Γ (zup (zup (zup h 25 0 v) 89 0 0) 89 29 v) :=
  zIv_today (zfr_up (zfr_up (zfr_up (zfr_rf _ _) rfl) rfl) rfl) hI (show v = v ∧ 0 ≤ v ∧ v ≤ 99 from ⟨rfl, hc.1, hc.2⟩)
theorem zup_at (h : zM) (r N j : Nat) (x : Int) : zup h r N x r j = if j = N then x else h r j := by
  rw [zup_ap]
  by_cases e : j = N
  · rw [if_pos ⟨rfl, e⟩, if_pos e]
  · rw [if_neg (fun y => e y.2), if_neg e]
theorem zK_weight {Γ : zC} {h : zM} {m v : Int} (hI : zIv Γ h) (hc : (1 ≤ m ∧ m ≤ 99) ∧ 0 ≤ v ∧ v ≤ 99) : zIv Γ (zup (zup (zup h 86 m.toNat v) 89 0 0) 106 m.toNat (v + 1)) := by
  refine zIv_weight (zfr_up (zfr_up (zfr_up (zfr_rf _ _) rfl) rfl) rfl) hI (fun n h1 h2 => ?_)
  have hw := hI.wts n h1 h2
  have e1 : (zup (zup (zup h 86 m.toNat v) 89 0 0) 106 m.toNat (v + 1)) 106 n = if n = m.toNat then v + 1 else h 106 n := by rw [zup_at]; rfl
  have e2 : (zup (zup (zup h 86 m.toNat v) 89 0 0) 106 m.toNat (v + 1)) 86 n = if n = m.toNat then v else h 86 n := by
    show zup h 86 m.toNat v 86 n = _
    rw [zup_at]
  rw [e1, e2]
  by_cases e : n = m.toNat
  · rw [if_pos e, if_pos e, if_neg (by omega)]
    omega
  · rw [if_neg e, if_neg e]
    exact hw
theorem zK_custom {Γ : zC} {h : zM} {i c : Int} (hI : zIv Γ h) (hc : (0 ≤ i ∧ i < h 89 22) ∧ -1 ≤ c ∧ c < h 89 7) : zIv Γ (zup (zup (zup h 32 i.toNat c) 89 0 0) 98 i.toNat c) := by
  refine zIv_custom (zfr_up (zfr_up (zfr_up (zfr_rf _ _) rfl) rfl) rfl) hI (fun n h1 h2 => ?_)
  have hw := hI.cof n h1 h2
  have e1 : (zup (zup (zup h 32 i.toNat c) 89 0 0) 98 i.toNat c) 98 n = if n = i.toNat then c else h 98 n := by rw [zup_at]; rfl
  have e2 : (zup (zup (zup h 32 i.toNat c) 89 0 0) 98 i.toNat c) 32 n = if n = i.toNat then c else h 32 n := by
    show zup h 32 i.toNat c 32 n = _
    rw [zup_at]
  rw [e1, e2]
  show _ ∧ _ ∧ _ < h 89 7
  by_cases e : n = i.toNat
  · rw [if_pos e, if_pos e]
    exact ⟨rfl, hc.2.1, hc.2.2⟩
  · rw [if_neg e, if_neg e]
    exact hw
theorem zK_change {Γ : zC} {h : zM} {i d t : Int} (hI : zIv Γ h) (hc : ((0 ≤ i ∧ i < h 89 22) ∧ (0 ≤ d ∧ d ≤ 99) ∧ (0 ≤ t ∧ t ≤ 99)) ∧ h 89 28 < 20) : zIv Γ (zup (zup (zup (zup (zup (zup (zup (zup (zup h 26 (h 89 28).toNat i) 27 (h 89 28).toNat d) 28 (h 89 28).toNat t) 25 1 (h 89 28 + 1)) 89 0 0) 99 (h 89 28).toNat i) 100 (h 89 28).toNat d) 101 (h 89 28).toNat t) 89 28 (h 89 28 + 1)) := by
  have hk := hI.chn
  refine zIv_change (zfr_up (zfr_up (zfr_up (zfr_up (zfr_up (zfr_up (zfr_up (zfr_up (zfr_up (zfr_rf _ _) rfl) rfl) rfl) rfl) rfl) rfl) rfl) rfl) rfl) hI hI.now (show h 89 28 + 1 = h 89 28 + 1 ∧ 0 ≤ h 89 28 + 1 ∧ h 89 28 + 1 ≤ 20 from ⟨rfl, by omega, by omega⟩) (fun j hj => ?_)
  have hw := hI.chr j hj
  refine ⟨?_, ?_, ?_⟩
  · show zup h 26 (h 89 28).toNat i 26 j = zup _ 99 (h 89 28).toNat i 99 j
    rw [zup_at, zup_at]
    by_cases e : j = (h 89 28).toNat
    · rw [if_pos e, if_pos e]
    · rw [if_neg e, if_neg e]; exact hw.1
  · show zup _ 27 (h 89 28).toNat d 27 j = zup _ 100 (h 89 28).toNat d 100 j
    rw [zup_at, zup_at]
    by_cases e : j = (h 89 28).toNat
    · rw [if_pos e, if_pos e]
    · rw [if_neg e, if_neg e]; exact hw.2.1
  · show zup _ 28 (h 89 28).toNat t 28 j = zup _ 101 (h 89 28).toNat t 101 j
    rw [zup_at, zup_at]
    by_cases e : j = (h 89 28).toNat
    · rw [if_pos e, if_pos e]
    · rw [if_neg e, if_neg e]; exact hw.2.2
theorem zK_say {Γ : zC} {h : zM} {i n : Int} (hI : zIv Γ h) (hc : ((0 ≤ i ∧ i < h 89 22) ∧ (0 ≤ n ∧ n ≤ 999)) ∧ h 89 51 < 40) : zIv Γ (zup (zup (zup (zup (zup (zup (zup (zup (zup h 29 (h 89 51).toNat i) 30 (h 89 51).toNat n) 31 (h 89 51).toNat (h 89 29)) 25 2 (h 89 51 + 1)) 89 0 0) 113 (h 89 51).toNat i) 114 (h 89 51).toNat n) 115 (h 89 51).toNat (h 89 29)) 89 51 (h 89 51 + 1)) := by
  have hk := hI.sdn
  refine zIv_say (zfr_up (zfr_up (zfr_up (zfr_up (zfr_up (zfr_up (zfr_up (zfr_up (zfr_up (zfr_rf _ _) rfl) rfl) rfl) rfl) rfl) rfl) rfl) rfl) rfl) hI (show h 89 51 + 1 = h 89 51 + 1 ∧ 0 ≤ h 89 51 + 1 ∧ h 89 51 + 1 ≤ 40 from ⟨rfl, by omega, by omega⟩) (fun j hj => ?_) (fun j hj => ?_)
  · have hw := hI.sdr j hj
    refine ⟨?_, ?_, ?_⟩
    · show zup h 29 (h 89 51).toNat i 29 j = zup _ 113 (h 89 51).toNat i 113 j
      rw [zup_at, zup_at]
      by_cases e : j = (h 89 51).toNat
      · rw [if_pos e, if_pos e]
      · rw [if_neg e, if_neg e]; exact hw.1
    · show zup _ 30 (h 89 51).toNat n 30 j = zup _ 114 (h 89 51).toNat n 114 j
      rw [zup_at, zup_at]
      by_cases e : j = (h 89 51).toNat
      · rw [if_pos e, if_pos e]
      · rw [if_neg e, if_neg e]; exact hw.2.1
    · show zup _ 31 (h 89 51).toNat (h 89 29) 31 j = zup _ 115 (h 89 51).toNat (h 89 29) 115 j
      rw [zup_at, zup_at]
      by_cases e : j = (h 89 51).toNat
      · rw [if_pos e, if_pos e]
      · rw [if_neg e, if_neg e]; exact hw.2.2
  · have hj2 : (j : Int) < h 89 51 + 1 := hj
    show (0 ≤ zup _ 113 (h 89 51).toNat i 113 j ∧ zup _ 113 (h 89 51).toNat i 113 j < h 89 22) ∧ 0 ≤ zup _ 114 (h 89 51).toNat n 114 j ∧ zup _ 114 (h 89 51).toNat n 114 j ≤ 999
    rw [zup_at, zup_at]
    by_cases e : j = (h 89 51).toNat
    · rw [if_pos e, if_pos e]; exact hc.1
    · rw [if_neg e, if_neg e]; exact hI.sdv j (by omega)
theorem zK_price0 {Γ : zC} {h : zM} {G I : Nat} {v : Int} (hI : zIv Γ h) (hG : G < 3) (hGg : (G : Int) < h 89 39) (hi6 : I < 6) (hv : 1 ≤ v ∧ v ≤ 99) : zIv Γ (zup (zup (zup h (79 + G) I v) 89 0 0) 107 (6 * G + I) v) := by
  have e7 : zSx zc_good (79 + G) I = true := by
    rcases (show G = 0 ∨ G = 1 ∨ G = 2 by omega) with rfl | rfl | rfl <;> rfl
  have e0 : ∀ r j, r ≠ 79 + G → r ≠ 107 → r ≠ 89 → (zup (zup (zup h (79 + G) I v) 89 0 0) 107 (6 * G + I) v) r j = h r j := fun r j a b c => by
    rw [zup_row b, zup_row c, zup_row a]
  have e39 : (zup (zup (zup h (79 + G) I v) 89 0 0) 107 (6 * G + I) v) 89 39 = h 89 39 := by
    rw [zup_row (by decide), zup_ap, if_neg (fun x => absurd x.2 (by decide)), zup_row (by omega)]
  refine zIv_good (zfr_up (zfr_up (zfr_up (zfr_rf _ _) e7) rfl) rfl) hI ?_ (fun g i hg hi => ?_)
  · rw [e39, e0 77 2 (by omega) (by decide) (by decide)]; exact hI.gds
  · rw [e39] at hg
    have hw := hI.prc g i hg hi
    have h3 := hI.gds
    have e1 : (zup (zup (zup h (79 + G) I v) 89 0 0) 107 (6 * G + I) v) 107 (6 * g + i) = if 6 * g + i = 6 * G + I then v else h 107 (6 * g + i) := by
      rw [zup_at, zup_row (by decide), zup_row (by omega)]
    have e2 : (zup (zup (zup h (79 + G) I v) 89 0 0) 107 (6 * G + I) v) (79 + g) i = if 6 * g + i = 6 * G + I then v else h (79 + g) i := by
      rw [zup_row (by omega), zup_row (by omega), zup_ap]
      by_cases e : 6 * g + i = 6 * G + I
      · rw [if_pos e, if_pos (by omega)]
      · rw [if_neg e, if_neg (by omega)]
    rw [e1, e2]
    by_cases e : 6 * g + i = 6 * G + I
    · rw [if_pos e, if_pos e]; exact ⟨rfl, hv.1, hv.2⟩
    · rw [if_neg e, if_neg e]; exact hw
theorem zK_price {Γ : zC} {h : zM} {g i v : Int} (hI : zIv Γ h) (hc : ((0 ≤ g ∧ g < h 89 39) ∧ (0 ≤ i ∧ i < h 89 22)) ∧ (1 ≤ v ∧ v ≤ 99)) : zIv Γ (zup (zup (zup h (79 + g.toNat) i.toNat v) 89 0 0) 107 (6 * g + i).toNat v) := by
  have h1 := hI.gds
  have h2 := hI.isl
  rw [show (6 * g + i).toNat = 6 * g.toNat + i.toNat by omega]
  exact zK_price0 hI (by omega) (by omega) (by omega) hc.2
