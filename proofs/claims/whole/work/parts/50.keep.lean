/-! what holds, kept by texts taken -/
theorem zsg_cg {t t' : Nat → Int} {n : Nat} (H : ∀ j, j < n → t j = t' j) : zsg t n = zsg t' n := by
  funext p
  unfold zsg
  by_cases e : p < n
  · rw [if_pos e, if_pos e, H p e]
  · rw [if_neg e, if_neg e]
theorem zskF_cg {t t' : Nat → Int} {n : Nat} (H : ∀ j, j < n → t j = t' j) : ∀ m k, zskipF t n m k = zskipF t' n m k
  | 0, k => rfl
  | m + 1, k => by
    unfold zskipF
    by_cases e : k < n
    · rw [H k e, zskF_cg H m (k + 1)]
    · rw [if_neg (fun x => e x.1), if_neg (fun x => e x.1)]
theorem zsk_cg {t t' : Nat → Int} {n : Nat} (H : ∀ j, j < n → t j = t' j) : zskip t n = zskip t' n := by
  funext k
  exact zskF_cg H _ _
theorem znu_cg {t t' : Nat → Int} {n : Nat} (H : ∀ j, j < n → t j = t' j) : znum t n = znum t' n := by
  funext d
  induction d with
  | zero => rfl
  | succ d ih =>
    funext p v
    unfold znum
    rw [zsg_cg H, ih]
theorem zP_cg {t t' : Nat → Int} {n : Nat} (H : ∀ j, j < n → t j = t' j) : ∀ f, zP t n f = zP t' n f := by
  have hsg := zsg_cg H
  have hsk := zsk_cg H
  have hnu := znu_cg H
  intro f
  induction f with
  | zero => rfl
  | succ f ih =>
    funext tag q dep
    match tag with
    | 0 => simp only [zP, hsg, hsk, hnu, ih]
    | 1 => simp only [zP, hsg, hsk, hnu, ih]
    | 2 => simp only [zP, hsg, hsk, hnu, ih]
    | 3 => simp only [zP, hsg, hsk, hnu, ih]
    | 4 => simp only [zP, hsg, hsk, hnu, ih]
    | 5 => simp only [zP, hsg, hsk, hnu, ih]
    | 6 => simp only [zP, hsg, hsk, hnu, ih]
    | 7 => simp only [zP, hsg, hsk, hnu, ih]
    | 8 => simp only [zP, hsg, hsk, hnu, ih]
    | 9 => simp only [zP, hsg, hsk, hnu, ih]
    | 10 => simp only [zP, hsg, hsk, hnu, ih]
    | 11 => simp only [zP, hsg, hsk, hnu, ih]
    | 12 => simp only [zP, hsg, hsk, hnu, ih]
    | k + 13 => simp only [zP, hsg, hsk, hnu, ih]
theorem zPX_cg {t t' : Nat → Int} {n : Nat} (H : ∀ j, j < n → t j = t' j) : zPX t n = zPX t' n := by
  unfold zPX
  rw [zP_cg H, zsk_cg H]
def zc_txt (r j : Nat) : Bool := (Nat.beq r 2 && Nat.beq j 1) || Nat.beq r 33 || (Nat.beq r 15 && Nat.beq j 3) || (Nat.beq r 89 && Nat.beq j 6) || (Nat.beq r 89 && Nat.beq j 7) || Nat.beq r 91 || Nat.beq r 92
set_option maxRecDepth 4000 in
theorem zIv_texts {Γ Γ' : zC} {h h' : zM} (e : ∀ r j, r ≤ 121 → zSx zc_txt r j = false → h' r j = h r j) (H : zIv Γ h) (base : zBase Γ') (num : ((zks Γ').length : Int) = 121 + 3 * h' 89 7) (len : 0 ≤ h' 89 6 ∧ h' 89 6 ≤ 160) (tln : h' 2 1 = h' 89 6) (tap : ∀ j : Nat, (j : Int) < h' 89 6 → h' 3 j = h' 90 j % 256) (cus : h' 15 3 = h' 89 7 ∧ 0 ≤ h' 89 7 ∧ h' 89 7 ≤ 4) (cof : ∀ i : Nat, i < 6 → (i : Int) < h' 89 22 → h' 32 i = h' 98 i ∧ -1 ≤ h' 98 i ∧ h' 98 i < h' 89 7) (txt : ∀ c : Nat, (c : Int) < h' 89 7 → zCu Γ' h' c) : zIv Γ' h' := by
  have R : ∀ r, r ≤ 121 → (∀ j, zSx zc_txt r j = false) → h' r = h r := fun r hr q => funext (fun j => e r j hr (q j))
  refine zIv.mk base num len tln tap ?_ ?_ ?_ ?_ ?_ ?_ ?_ ?_ ?_ ?_ ?_ ?_ cus cof txt ?_ ?_ ?_ ?_
  · rw [e 89 22 (by decide) rfl]; exact H.isl
  · rw [e 89 22 (by decide) rfl, e 16 0 (by decide) rfl]; exact H.cisl
  · rw [R 17 (by decide) (fun _ => rfl), R 94 (by decide) (fun _ => rfl), e 89 22 (by decide) rfl]; exact H.tab
  · intro a b ha hb
    have ea : h' (19 + a) = h (19 + a) := R _ (by omega) (fun j => by
      rcases (show a = 0 ∨ a = 1 ∨ a = 2 ∨ a = 3 ∨ a = 4 ∨ a = 5 by omega) with rfl | rfl | rfl | rfl | rfl | rfl <;> rfl)
    rw [ea, R 96 (by decide) (fun _ => rfl)]; exact H.day a b ha hb
  · rw [e 89 29 (by decide) rfl, e 25 0 (by decide) rfl]; exact H.now
  · rw [e 89 28 (by decide) rfl, e 25 1 (by decide) rfl]; exact H.chn
  · rw [R 26 (by decide) (fun _ => rfl), R 27 (by decide) (fun _ => rfl), R 28 (by decide) (fun _ => rfl), R 99 (by decide) (fun _ => rfl), R 100 (by decide) (fun _ => rfl), R 101 (by decide) (fun _ => rfl)]; exact H.chr
  · rw [e 89 51 (by decide) rfl, e 25 2 (by decide) rfl]; exact H.sdn
  · rw [R 29 (by decide) (fun _ => rfl), R 30 (by decide) (fun _ => rfl), R 31 (by decide) (fun _ => rfl), R 113 (by decide) (fun _ => rfl), R 114 (by decide) (fun _ => rfl), R 115 (by decide) (fun _ => rfl)]; exact H.sdr
  · rw [e 89 51 (by decide) rfl, e 89 22 (by decide) rfl, R 113 (by decide) (fun _ => rfl), R 114 (by decide) (fun _ => rfl)]; exact H.sdv
  · rw [e 89 60 (by decide) rfl, e 1 10 (by decide) rfl]; exact H.img
  · rw [e 89 60 (by decide) rfl, e 34 0 (by decide) rfl, e 34 1 (by decide) rfl, e 34 2 (by decide) rfl, e 89 59 (by decide) rfl, e 89 57 (by decide) rfl, e 89 58 (by decide) rfl, e 89 22 (by decide) rfl, R 120 (by decide) (fun _ => rfl), R 35 (by decide) (fun _ => rfl), R 36 (by decide) (fun _ => rfl), R 37 (by decide) (fun _ => rfl), R 38 (by decide) (fun _ => rfl), R 39 (by decide) (fun _ => rfl), R 40 (by decide) (fun _ => rfl)]; exact H.imr
  · rw [e 89 32 (by decide) rfl, e 1 11 (by decide) rfl]; exact H.hnd
  · rw [R 106 (by decide) (fun _ => rfl), R 86 (by decide) (fun _ => rfl)]; exact H.wts
  · rw [e 89 39 (by decide) rfl, e 77 2 (by decide) rfl]; exact H.gds
  · intro g i hg hi
    rw [e 89 39 (by decide) rfl] at hg
    have hg3 := H.gds
    have ea : h' (79 + g) = h (79 + g) := R _ (by omega) (fun j => by
      rcases (show g = 0 ∨ g = 1 ∨ g = 2 by omega) with rfl | rfl | rfl <;> rfl)
    rw [ea, R 107 (by decide) (fun _ => rfl)]; exact H.prc g i hg hi
theorem zisM_d {a b : Nat} (ha : a < 6) : zSx zc_isM (19 + a) b = false := by
  rcases (show a = 0 ∨ a = 1 ∨ a = 2 ∨ a = 3 ∨ a = 4 ∨ a = 5 by omega) with rfl | rfl | rfl | rfl | rfl | rfl <;> rfl
theorem zIv_tx0 {Γ : zC} {h0 h1 h2 : zM} {L : List Int} {D : zDM} (hI : zIv Γ h0) (hC : zIc h0 h1 L D) (hL : 2 ≤ L.length ∧ L.length ≤ 6) (hDr : ∀ a b, 0 ≤ D a b ∧ D a b ≤ 9) (hM : zfr (zSx zc_isM) h1 h2) (m6 : h2 89 6 = 0) (m22 : h2 89 22 = (L.length : Int)) (m94 : ∀ i, i < L.length → h2 94 i = L.getD i 0) (m96 : ∀ a b, a < 6 → b < 6 → h2 96 (6 * a + b) = D a b) (m0 : h2 89 28 = 0 ∧ h2 89 29 = 0 ∧ h2 89 39 = 0 ∧ h2 89 51 = 0 ∧ h2 89 60 = 0) (m98 : ∀ i, i < 6 → h2 98 i = -1) : zIv Γ h2 := by
  obtain ⟨hf, c1, c2, c3, c4, ⟨c5, c6, c7⟩, c8, c9, c10⟩ := hC
  obtain ⟨m28, m29, m39, m51, m60⟩ := m0
  have h7 := hI.cus
  refine zIv_isles (zfr_tr (zIs_C hf) (zIs_M hM)) hI ?_ ?_ ?_ ?_ ?_ ?_ ?_ ?_ ?_ ?_ ?_ ?_ ?_ ?_ ?_ ?_
  · rw [m6]; omega
  · rw [m6, hM 2 1 rfl]; exact c1
  · intro j hj; rw [m6] at hj; omega
  · rw [m22]; omega
  · rw [m22, hM 16 0 rfl]; exact c2
  · intro i hi hi2
    rw [m22] at hi2
    rw [hM 17 i rfl, c3 i hi, m94 i (by omega)]
  · intro a b ha hb
    rw [hM _ _ (zisM_d ha), c4 a b ha hb, m96 a b ha hb]
    exact ⟨rfl, hDr a b⟩
  · rw [hM 25 0 rfl, c5, m29]; omega
  · rw [hM 25 1 rfl, c6, m28]; omega
  · rw [hM 25 2 rfl, c7, m51]; omega
  · intro j hj; rw [m51] at hj; omega
  · rw [hM 1 10 rfl, c10, m60]; omega
  · intro hj; rw [m60] at hj; omega
  · intro i hi _
    rw [hM 32 i rfl, c8 i hi, m98 i hi, hM 89 7 rfl, hf 89 7 rfl]
    omega
  · rw [hM 77 2 rfl, c9, m39]; omega
  · intro g i hg; rw [m39] at hg; omega
theorem zIv_tx1 {Γ Γ' : zC} {h0 h1 h2 h4 : zM} {n c : Nat} (hI : zIv Γ h0) (hn : h0 89 6 = (n : Int)) (hc : h0 89 7 = (c : Int)) (hc4 : c < 4) (hok : (zPv (h0 3) n).1 = true) (h1F : zfr zSS h0 h1) (h14 : ∀ i, i < (zPv (h0 3) n).2.2.length → h1 14 i = (zPv (h0 3) n).2.2.getD i 0) (hΓ' : zBase Γ') (hks : zks Γ' = zks Γ ++ [.inl 1, .inr (0, (zPv (h0 3) n).2.2.length), .inr (0, (zPv (h0 3) n).2.2.length + 1)]) (hE : ∀ r, r ≤ (zks Γ).length → h2 r = zup h1 2 1 0 r) (hV : ∀ j, j < (zPv (h0 3) n).2.2.length → h2 ((zks Γ).length + 2) j = zup h1 2 1 0 14 j)
    (hM : zfr (zSx zc_cuM) (zup (zup h2 33 c (((zks Γ).length + 1 : Nat) : Int)) 15 3 ((c : Int) + 1)) h4) (m6 : h4 89 6 = 0) (m7 : h4 89 7 = (c : Int) + 1) (m91 : ∀ j, h4 91 j = if 160 * c ≤ j ∧ j < 160 * c + n then h0 90 (j - 160 * c) else h0 91 j) (m92 : ∀ i, h4 92 i = if i = c then (n : Int) else h0 92 i) : zIv Γ' h4 := by
  have hN : (zks Γ).length = 121 + 3 * c := by have := hI.num; rw [hc] at this; omega
  have hn2 : n ≤ 160 := by have := hI.len; omega
  have hP := zPv_e (t := h0 3) hn2
  have e : ∀ r j, r ≤ 121 → zSx zc_txt r j = false → h4 r j = h0 r j := fun r j hr q => by
    have q2 : zSx zc_cuM r j = false := by
      unfold zSx zc_txt at q
      unfold zSx zc_cuM
      simp only [Bool.or_eq_false_iff, Bool.and_eq_false_iff] at q ⊢
      refine ⟨q.1, q.2.imp id (fun z => ⟨⟨⟨z.1.1.1.2, z.1.1.2⟩, z.1.2⟩, z.2⟩)⟩
    have q3 : zSS r j = false := by
      unfold zSx at q
      simp only [Bool.or_eq_false_iff] at q
      exact q.1
    have n1 : ¬ (r = 33 ∧ j = c) := fun x => by rw [x.1] at q; cases q
    have n2 : ¬ (r = 15 ∧ j = 3) := fun x => by rw [x.1, x.2] at q; cases q
    have n3 : ¬ (r = 2 ∧ j = 1) := fun x => by rw [x.1, x.2] at q; cases q
    rw [hM r j q2, zup_ap, if_neg n2, zup_ap, if_neg n1, hE r (by omega), zup_ap, if_neg n3]
    exact h1F r j q3
  have kd0 : ∀ r x, r ≤ 121 + 3 * c → zkd Γ r = some x → zkd Γ' r = some x := fun r x hr hx => by
    cases r with
    | zero => cases hx
    | succ k =>
      have h' : (zks Γ)[k]? = some x := hx
      show (zks Γ')[k]? = some x
      rw [hks, List.getElem?_append_left (List.getElem?_eq_some_iff.mp h').1]
      exact h'
  have kd1 : ∀ i, zkd Γ' (122 + 3 * c + i) = [(.inl 1 : zK), .inr (0, (zPv (h0 3) n).2.2.length), .inr (0, (zPv (h0 3) n).2.2.length + 1)][i]? := fun i => by
    rw [show 122 + 3 * c + i = (121 + 3 * c + i) + 1 by omega]
    show (zks Γ')[121 + 3 * c + i]? = _
    rw [hks, List.getElem?_append_right (by omega), hN, show 121 + 3 * c + i - (121 + 3 * c) = i by omega]
  refine zIv_texts e hI hΓ' ?_ ?_ ?_ ?_ ?_ ?_ ?_
  · rw [hks, List.length_append, hN, m7]; simp; omega
  · rw [m6]; omega
  · rw [m6, hM 2 1 rfl, zup_row (by decide), zup_row (by decide), hE 2 (by omega), zup_rj]
  · intro j hj; rw [m6] at hj; omega
  · rw [m7, hM 15 3 rfl, zup_rj]; omega
  · intro i hi hi2
    rw [e 89 22 (by decide) rfl] at hi2
    rw [e 32 i (by decide) rfl, e 98 i (by decide) rfl, m7]
    have := hI.cof i hi hi2
    omega
  · intro c' hc'
    rw [m7] at hc'
    by_cases ec : c' = c
    · subst ec
      have et : ∀ j, j < n → zTxt h4 c' j = h0 3 j := fun j hj => by
        unfold zTxt
        rw [m91, if_pos ⟨by omega, by omega⟩, show 160 * c' + j - 160 * c' = j by omega]
        exact (hI.tap j (by omega)).symm
      have e92 : h4 92 c' = (n : Int) := by rw [m92, if_pos rfl]
      have epx : zPX (zTxt h4 c') (h4 92 c').toNat = some (zPv (h0 3) n) := by
        rw [e92, Int.toNat_natCast, zPX_cg et]; exact hP
      have ecd : zcd h4 c' = (zPv (h0 3) n).2.2 := by
        unfold zcd
        rw [epx]
        obtain ⟨b, p, x, hr⟩ : ∃ b p x, zPv (h0 3) n = (b, p, x) := ⟨_, _, _, rfl⟩
        rw [hr] at hok ⊢
        cases hok
        rfl
      refine ⟨by rw [e92]; omega, ⟨(zPv (h0 3) n).2.1, ?_⟩, ?_, ?_, ?_, ?_, fun j hj => ?_⟩
      · rw [epx, ecd, ← hok]
      · rw [hM 33 c' rfl, zup_row (by decide), zup_rj, hN]; show ((121 + 3 * c' + 1 : Nat) : Int) = _; congr 1; omega
      · exact kd1 0
      · rw [ecd, show 123 + 3 * c' = 122 + 3 * c' + 1 by omega]; exact kd1 1
      · rw [ecd, show 124 + 3 * c' = 122 + 3 * c' + 2 by omega]; exact kd1 2
      · rw [ecd] at hj ⊢
        rw [hM _ _ (by rw [zSx_hi (by omega), show (123 + 3 * c') % 3 = 0 by omega]; rfl), zup_row (by omega), zup_row (by omega), show 123 + 3 * c' = (zks Γ).length + 2 by omega, hV j hj, zup_row (by decide)]
        exact h14 j hj
    · have hlt : c' < c := by omega
      obtain ⟨a1, a2, a3, a4, a5, a6, a7⟩ := hI.txt c' (by rw [hc]; omega)
      have e92 : h4 92 c' = h0 92 c' := by rw [m92, if_neg ec]
      have et : ∀ j, j < (h0 92 c').toNat → zTxt h4 c' j = zTxt h0 c' j := fun j hj => by
        unfold zTxt
        rw [m91, if_neg (by omega)]
      have epx : zPX (zTxt h4 c') (h4 92 c').toNat = zPX (zTxt h0 c') (h0 92 c').toNat := by rw [e92, zPX_cg et]
      have ecd : zcd h4 c' = zcd h0 c' := by unfold zcd; rw [epx]
      refine ⟨by rw [e92]; exact a1, by rw [epx, ecd]; exact a2, ?_, kd0 _ _ (by omega) a4, by rw [ecd]; exact kd0 _ _ (by omega) a5, by rw [ecd]; exact kd0 _ _ (by omega) a6, fun j hj => ?_⟩
      · rw [hM 33 c' rfl, zup_row (by decide), zup_ap, if_neg (fun x => ec x.2), hE 33 (by omega), zup_row (by decide), h1F 33 c' rfl]; exact a3
      · rw [ecd] at hj ⊢
        rw [hM _ _ (by rw [zSx_hi (by omega), show (123 + 3 * c') % 3 = 0 by omega]; rfl), zup_row (by omega), zup_row (by omega), hE _ (by omega), zup_row (by omega), h1F _ _ (by rw [zSS_hi (by omega), show (123 + 3 * c') % 3 = 0 by omega]; rfl)]
        exact a7 j hj
