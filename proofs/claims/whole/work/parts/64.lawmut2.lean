/-! the law's cases, one by one: good, image, back, feed, drown, text, taboo -/
theorem zG_f56 {F : zF} {k n : Nat} {Γ : zC} {h : zM} {pc : Nat} {st : List zV} {a0 a1 a2 a3 a4 y5 y6 : Option zV} (kk : zG F k n Γ h pc [a0, a1, a2, a3, a4, none, none] st) : zG F k n Γ h pc [a0, a1, a2, a3, a4, y5, y6] st := by
  refine zG_ls (ls' := [a0, a1, a2, a3, a4, none, none]) (fun i v hi => ?_) kk
  rcases (show i = 0 ∨ i = 1 ∨ i = 2 ∨ i = 3 ∨ i = 4 ∨ i = 5 ∨ i = 6 ∨ 7 ≤ i by omega) with rfl | rfl | rfl | rfl | rfl | rfl | rfl | h7
  · exact hi
  · exact hi
  · exact hi
  · exact hi
  · exact hi
  · cases hi
  · cases hi
  · rw [List.getElem?_eq_none (by simpa using h7)] at hi; cases hi
theorem zcoL_133 : Cond.constantLong RL 133 (Int64.ofInt 4294967295) ∈ zTB := by decide +kernel
set_option maxRecDepth 4000 in
set_option maxHeartbeats 1000000 in
theorem zLc_19 {l : Launch} {b L : Nat} {xs : Nat → Int32} {Γ : zC} {h : zM} {k n c9 : Nat} (hI : zIv Γ h) (hO : h 89 30 = -1) (hb4 : zad Γ 4000000 = b) (hL : L ≤ 3072) (hc : 6 * c9 + 6 ≤ L) (hkn : k + 3 ≤ 601024 ∧ n + 400 ≤ 7293034) (IH : ∀ Γ' h', zext Γ Γ' → zIv Γ' h' → h' 89 30 = -1 → zG (zFL l b L xs) (k + 3) (n + 400) Γ' h' 2010 [some (zR 4000000), some (zR 1), some (zR 89), some (zR 121), some (zI ((6 * c9 : Nat) : Int)), none, none] []) : zG (zFL l b L xs) k n Γ h 1067 [some (zR 4000000), some (zR 1), some (zR 89), some (zR 121), some (zI ((6 * c9 : Nat) : Int)), none, none] [] := by
  refine z_al1 dL_law_1067 (by decide) ?_
  refine z_lcv0 (mc9 := 0) (ms9 := 0) dL_law_1068 zkL_108 ziX8_good zsX8_good (zkB hI.base rfl) (by decide) rfl (Nat.le_of_ble_eq_true rfl) (Nat.le_of_ble_eq_true rfl) (Nat.le_of_ble_eq_true rfl) ⟨by omega, by omega⟩ (X8_good_ct hI (fun c8 _ => ?_) (fun g h1 e1 c8 E1 V1 _ => ?_))
  · simp only [zres]
    have hg9 := hI.gds
    refine z_al2 dL_law_1071 (by decide) ?_
    refine z_lcv0 (mc9 := 0) (ms9 := 0) dL_law_1072 zkL_111 ziX9_good zsX9_good (zkB hI.base rfl) (by decide) rfl (Nat.le_of_ble_eq_true rfl) (Nat.le_of_ble_eq_true rfl) (Nat.le_of_ble_eq_true rfl) ⟨by omega, by omega⟩ (X9_good_ct (g := (h 89 39).toNat) (N := h 89 22) hI.base rfl (by omega) (by omega) (fun c9 _ => ?_) (fun h2 c9 E2 E3 V2 _ => ?_))
    · simp only [zres]
      refine z_icmp_eq (t := 2010) dL_law_1075 (by rfl) (fun _ => ?_) (fun hne => absurd rfl hne)
      exact z_wid (by omega) (by omega) (IH _ _ (zext_rf _) (zIv_cg (zfr_S3 (zfr_up (zfr_rf _ _) rfl)) hI) hO)
    · exact absurd ⟨c9.1, by omega⟩ c8
  · simp only [zres]
    have hg9 := hI.gds
    refine z_al2 dL_law_1071 (by decide) ?_
    refine z_lcv0 (mc9 := 0) (ms9 := 0) dL_law_1072 zkL_111 ziX9_good zsX9_good (zkB hI.base rfl) (by decide) rfl (Nat.le_of_ble_eq_true rfl) (Nat.le_of_ble_eq_true rfl) (Nat.le_of_ble_eq_true rfl) ⟨by omega, by omega⟩ (X9_good_ct (g := g) (N := h 89 22) hI.base (by rw [zup_row (by decide), E1 89 (by omega)]) (by rw [zup_row (by decide), E1 89 (by omega)]; exact e1) (by omega) (fun c9 _ => ?_) (fun h2 c9 E2 E3 V2 _ => ?_))
    · exact absurd ⟨c8.1, by omega⟩ c9
    · simp only [zres]
      refine z_icmp_eq (t := 2010) dL_law_1075 (by rfl) (fun _ => ?_) (fun hne => absurd rfl hne)
      have hK := zK_good hI e1 c8 E1 V1 E2 E3 V2
      exact z_wid (by omega) (by omega) (IH _ _ (zext_rf _) hK.1 (hK.2.trans hO))
set_option maxRecDepth 4000 in
set_option maxHeartbeats 1000000 in
theorem zLc_39 {l : Launch} {b L : Nat} {xs : Nat → Int32} {Γ : zC} {h : zM} {k n c9 : Nat} (hI : zIv Γ h) (hO : h 89 30 = -1) (hb4 : zad Γ 4000000 = b) (hL : L ≤ 3072) (hc : 6 * c9 + 6 ≤ L) (hkn : k + 3 ≤ 601024 ∧ n + 400 ≤ 7293034) (IH : ∀ Γ' h', zext Γ Γ' → zIv Γ' h' → h' 89 30 = -1 → zG (zFL l b L xs) (k + 3) (n + 400) Γ' h' 2010 [some (zR 4000000), some (zR 1), some (zR 89), some (zR 121), some (zI ((6 * c9 : Nat) : Int)), none, none] []) : zG (zFL l b L xs) k n Γ h 1959 [some (zR 4000000), some (zR 1), some (zR 89), some (zR 121), some (zI ((6 * c9 : Nat) : Int)), none, none] [] := by
  refine z_al1 dL_law_1959 (by decide) ?_
  refine z_lcv0 (mc9 := 0) (ms9 := 0) dL_law_1960 zkL_192 ziX8_image zsX8_image (zkB hI.base rfl) (by decide) rfl (Nat.le_of_ble_eq_true rfl) (Nat.le_of_ble_eq_true rfl) (Nat.le_of_ble_eq_true rfl) ⟨by omega, by omega⟩ (X8_image_ct hI.base hI.cisl (fun c8 _ => ?_) (fun h1 a1 a2 a3 a4 a5 c8 _ => ?_))
  · simp only [zres]
    refine z_al2 dL_law_1963 (by decide) ?_
    refine z_lcv0 (mc9 := 0) (ms9 := 0) dL_law_1964 zkL_195 ziX9_image zsX9_image (zkB hI.base rfl) (by decide) rfl (Nat.le_of_ble_eq_true rfl) (Nat.le_of_ble_eq_true rfl) (Nat.le_of_ble_eq_true rfl) ⟨by omega, by omega⟩ (X9_image_ct (N := h 89 22) hI.base rfl (fun c9 _ => ?_) (fun h2 c9 b1 b2 b3 b4 b5 _ => ?_))
    · simp only [zres]
      refine z_icmp_eq (t := 2010) dL_law_1967 (by rfl) (fun _ => ?_) (fun hne => absurd rfl hne)
      exact z_wid (by omega) (by omega) (IH _ _ (zext_rf _) (zIv_cg (zfr_S3 (zfr_up (zfr_rf _ _) rfl)) hI) hO)
    · exact absurd c9 c8
  · simp only [zres]
    refine z_al2 dL_law_1963 (by decide) ?_
    refine z_lcv0 (mc9 := 0) (ms9 := 0) dL_law_1964 zkL_195 ziX9_image zsX9_image (zkB hI.base rfl) (by decide) rfl (Nat.le_of_ble_eq_true rfl) (Nat.le_of_ble_eq_true rfl) (Nat.le_of_ble_eq_true rfl) ⟨by omega, by omega⟩ (X9_image_ct (N := h 89 22) hI.base (by rw [zup_row (by decide), a4 89 (by decide) (by omega)]) (fun c9 _ => ?_) (fun h2 c9 b1 b2 b3 b4 b5 _ => ?_))
    · exact absurd c8 c9
    · simp only [zres]
      refine z_icmp_eq (t := 2010) dL_law_1967 (by rfl) (fun _ => ?_) (fun hne => absurd (by rw [zup_row (by decide), a4 89 (by decide) (by omega)]; exact hI.now.1) hne)
      have hK := zK_image hI a1 a2 a3 a4 a5 b1 b2 b3 b4 b5
      exact z_wid (by omega) (by omega) (IH _ _ (zext_rf _) hK.1 (hK.2.trans hO))
set_option maxRecDepth 4000 in
set_option maxHeartbeats 1000000 in
theorem zLc_40 {l : Launch} {b L : Nat} {xs : Nat → Int32} {Γ : zC} {h : zM} {k n c9 : Nat} (hI : zIv Γ h) (hO : h 89 30 = -1) (hb4 : zad Γ 4000000 = b) (hL : L ≤ 3072) (hc : 6 * c9 + 6 ≤ L) (hkn : k + 3 ≤ 601024 ∧ n + 400 ≤ 7293034) (IH : ∀ Γ' h', zext Γ Γ' → zIv Γ' h' → h' 89 30 = -1 → zG (zFL l b L xs) (k + 3) (n + 400) Γ' h' 2010 [some (zR 4000000), some (zR 1), some (zR 89), some (zR 121), some (zI ((6 * c9 : Nat) : Int)), none, none] []) : zG (zFL l b L xs) k n Γ h 1972 [some (zR 4000000), some (zR 1), some (zR 89), some (zR 121), some (zI ((6 * c9 : Nat) : Int)), none, none] [] := by
  refine z_al1 dL_law_1972 (by decide) ?_
  refine z_lcv0 (mc9 := 0) (ms9 := 0) dL_law_1973 zkL_196 ziX8_back zsX8_back (zkB hI.base rfl) (by decide) rfl (Nat.le_of_ble_eq_true rfl) (Nat.le_of_ble_eq_true rfl) (Nat.le_of_ble_eq_true rfl) ⟨by omega, by omega⟩ (X8_back_ct hI.base hI.img.1 (fun c8 _ => ?_) (fun h1 a1 a2 a3 a4 a5 c8 _ => ?_))
  · simp only [zres]
    refine z_al2 dL_law_1976 (by decide) ?_
    refine z_lcv0 (mc9 := 0) (ms9 := 0) dL_law_1977 zkL_199 ziX9_back zsX9_back (zkB hI.base rfl) (by decide) rfl (Nat.le_of_ble_eq_true rfl) (Nat.le_of_ble_eq_true rfl) (Nat.le_of_ble_eq_true rfl) ⟨by omega, by omega⟩ (X9_back_ct (N := h 89 60) hI.base rfl (fun c9 _ => ?_) (fun h2 c9 b1 b2 b3 b4 b5 _ => ?_))
    · simp only [zres]
      refine z_icmp_eq (t := 2010) dL_law_1980 (by rfl) (fun _ => ?_) (fun hne => absurd rfl hne)
      exact z_wid (by omega) (by omega) (IH _ _ (zext_rf _) (zIv_cg (zfr_S3 (zfr_up (zfr_rf _ _) rfl)) hI) hO)
    · exact absurd c9 c8
  · simp only [zres]
    have h60 : h 89 60 = 1 := by have := hI.img.2; omega
    refine z_al2 dL_law_1976 (by decide) ?_
    refine z_lcv0 (mc9 := 0) (ms9 := 0) dL_law_1977 zkL_199 ziX9_back zsX9_back (zkB hI.base rfl) (by decide) rfl (Nat.le_of_ble_eq_true rfl) (Nat.le_of_ble_eq_true rfl) (Nat.le_of_ble_eq_true rfl) ⟨by omega, by omega⟩ (X9_back_ct (N := h 89 60) hI.base (by rw [a4 89 (by decide) (by omega)]) (fun c9 _ => ?_) (fun h2 c9 b1 b2 b3 b4 b5 _ => ?_))
    · exact absurd c8 c9
    · simp only [zres]
      refine z_icmp_eq (t := 2010) dL_law_1980 (by rfl) (fun _ => ?_) (fun hne => absurd (by rw [a4 89 (by decide) (by omega)]; exact (hI.imr h60).1.1) hne)
      have hK := zK_back hI h60 a1 a2 a3 a4 a5 b1 b2 b3 b4 b5
      exact z_wid (by omega) (by omega) (IH _ _ (zext_rf _) hK.1 (hK.2.trans hO))
set_option maxRecDepth 4000 in
set_option maxHeartbeats 1000000 in
theorem zLc_0 {l : Launch} {b L : Nat} {xs : Nat → Int32} {Γ : zC} {h : zM} {k n c9 : Nat} (hI : zIv Γ h) (hO : h 89 30 = -1) (hb4 : zad Γ 4000000 = b) (hL : L ≤ 3072) (hc : 6 * c9 + 6 ≤ L) (hkn : k + 3 ≤ 601024 ∧ n + 400 ≤ 7293034) (IH : ∀ Γ' h', zext Γ Γ' → zIv Γ' h' → h' 89 30 = -1 → zG (zFL l b L xs) (k + 3) (n + 400) Γ' h' 2010 [some (zR 4000000), some (zR 1), some (zR 89), some (zR 121), some (zI ((6 * c9 : Nat) : Int)), none, none] []) : zG (zFL l b L xs) k n Γ h 224 [some (zR 4000000), some (zR 1), some (zR 89), some (zR 121), some (zI ((6 * c9 : Nat) : Int)), none, none] [] := by
  obtain ⟨t1, t2, t3, t4, t5⟩ := zIv_tp hI
  refine z_al1 dL_law_224 (by decide) ?_
  refine z_arg (c := 1) (j := 6 * c9 + 1) (by omega) (by omega) hL hb4 (by decide) dL_law_225 dL_law_226 dL_law_228 dL_law_229 dL_law_230 ?_
  refine z_arg (c := 2) (j := 6 * c9 + 2) (by omega) (by omega) hL hb4 (by decide) dL_law_231 dL_law_232 dL_law_234 dL_law_235 dL_law_236 ?_
  refine z_arg (c := 3) (j := 6 * c9 + 3) (by omega) (by omega) hL hb4 (by decide) dL_law_237 dL_law_238 dL_law_240 dL_law_241 dL_law_242 ?_
  refine z_arg (c := 4) (j := 6 * c9 + 4) (by omega) (by omega) hL hb4 (by decide) dL_law_243 dL_law_244 dL_law_246 dL_law_247 dL_law_248 ?_
  refine z_arg (c := 5) (j := 6 * c9 + 5) (by omega) (by omega) hL hb4 (by decide) dL_law_249 dL_law_250 dL_law_252 dL_law_253 dL_law_254 ?_
  refine z_lcv5 (mc9 := 0) (ms9 := 0) dL_law_255 zkL_19 ziX8_feed zsX8_feed (zkB hI.base rfl) (by decide) rfl (Nat.le_of_ble_eq_true rfl) (Nat.le_of_ble_eq_true rfl) (Nat.le_of_ble_eq_true rfl) ⟨by omega, by omega⟩ (X8_feed_ct (S := ((h 89 6).toNat, fun j => h 3 j)) hI.base t2 t1 (fun _ _ => rfl) (fun c8 _ => ?_) (fun c8 h1 a1 a2 a3 a4 _ => ?_))
  · simp only [zres]
    refine z_al2 dL_law_258 (by decide) ?_
    refine z_arg (c := 1) (j := 6 * c9 + 1) (by omega) (by omega) hL hb4 (by decide) dL_law_259 dL_law_260 dL_law_262 dL_law_263 dL_law_264 ?_
    refine z_arg (c := 2) (j := 6 * c9 + 2) (by omega) (by omega) hL hb4 (by decide) dL_law_265 dL_law_266 dL_law_268 dL_law_269 dL_law_270 ?_
    refine z_arg (c := 3) (j := 6 * c9 + 3) (by omega) (by omega) hL hb4 (by decide) dL_law_271 dL_law_272 dL_law_274 dL_law_275 dL_law_276 ?_
    refine z_arg (c := 4) (j := 6 * c9 + 4) (by omega) (by omega) hL hb4 (by decide) dL_law_277 dL_law_278 dL_law_280 dL_law_281 dL_law_282 ?_
    refine z_arg (c := 5) (j := 6 * c9 + 5) (by omega) (by omega) hL hb4 (by decide) dL_law_283 dL_law_284 dL_law_286 dL_law_287 dL_law_288 ?_
    refine z_lcv5 (mc9 := 0) (ms9 := 0) dL_law_289 zkL_23 ziX9_feed zsX9_feed (zkB hI.base rfl) (by decide) rfl (Nat.le_of_ble_eq_true rfl) (Nat.le_of_ble_eq_true rfl) (Nat.le_of_ble_eq_true rfl) ⟨by omega, by omega⟩ (X9_feed_ct (S := ((h 89 6).toNat, fun j => h 3 j)) hI.base t2 t5 (fun j hj => (t4 j hj).symm) (fun c9 _ => ?_) (fun c9 h2 b1 b2 b3 b4 _ => ?_))
    · simp only [zres]
      refine z_icmp_eq (t := 2010) dL_law_292 (by rfl) (fun _ => ?_) (fun hne => absurd rfl hne)
      exact z_wid (by omega) (by omega) (IH _ _ (zext_rf _) (zIv_cg (zfr_S3 (zfr_up (zfr_rf _ _) rfl)) hI) hO)
    · exact absurd c9 c8
  · simp only [zres]
    refine z_al2 dL_law_258 (by decide) ?_
    refine z_arg (c := 1) (j := 6 * c9 + 1) (by omega) (by omega) hL hb4 (by decide) dL_law_259 dL_law_260 dL_law_262 dL_law_263 dL_law_264 ?_
    refine z_arg (c := 2) (j := 6 * c9 + 2) (by omega) (by omega) hL hb4 (by decide) dL_law_265 dL_law_266 dL_law_268 dL_law_269 dL_law_270 ?_
    refine z_arg (c := 3) (j := 6 * c9 + 3) (by omega) (by omega) hL hb4 (by decide) dL_law_271 dL_law_272 dL_law_274 dL_law_275 dL_law_276 ?_
    refine z_arg (c := 4) (j := 6 * c9 + 4) (by omega) (by omega) hL hb4 (by decide) dL_law_277 dL_law_278 dL_law_280 dL_law_281 dL_law_282 ?_
    refine z_arg (c := 5) (j := 6 * c9 + 5) (by omega) (by omega) hL hb4 (by decide) dL_law_283 dL_law_284 dL_law_286 dL_law_287 dL_law_288 ?_
    refine z_lcv5 (mc9 := 0) (ms9 := 0) dL_law_289 zkL_23 ziX9_feed zsX9_feed (zkB hI.base rfl) (by decide) rfl (Nat.le_of_ble_eq_true rfl) (Nat.le_of_ble_eq_true rfl) (Nat.le_of_ble_eq_true rfl) ⟨by omega, by omega⟩ (X9_feed_ct (S := ((h 89 6).toNat, fun j => h 3 j)) hI.base t2 (by rw [a1 89 (by decide) (by decide)]; exact t5) (fun j hj => by rw [a1 90 (by decide) (by decide)]; exact (t4 j hj).symm) (fun c9 _ => ?_) (fun c9 h2 b1 b2 b3 b4 _ => ?_))
    · exact absurd c8 c9
    · simp only [zres]
      refine z_icmp_eq (t := 2010) dL_law_292 (by rfl) (fun _ => ?_) (fun hne => absurd rfl hne)
      have hS9 : ((h 89 6).toNat, fun j => h 3 j).1 = (h 89 6).toNat := rfl
      have hK := zK_feed hI (by rw [zaS_1, zaS_1, zaS_1, zaS_1, zaS_1]; omega) a1 a2 a3 a4 b1 b2 b3 b4
      exact z_wid (by omega) (by omega) (IH _ _ (zext_rf _) hK.1 (hK.2.trans hO))
set_option maxRecDepth 4000 in
set_option maxHeartbeats 1000000 in
theorem zLc_25 {l : Launch} {b L : Nat} {xs : Nat → Int32} {Γ : zC} {h : zM} {k n c9 : Nat} (hI : zIv Γ h) (hO : h 89 30 = -1) (hb4 : zad Γ 4000000 = b) (hL : L ≤ 3072) (hc : 6 * c9 + 6 ≤ L) (hkn : k + 3 ≤ 601024 ∧ n + 400 ≤ 7293034) (IH : ∀ Γ' h', zext Γ Γ' → zIv Γ' h' → h' 89 30 = -1 → zG (zFL l b L xs) (k + 3) (n + 400) Γ' h' 2010 [some (zR 4000000), some (zR 1), some (zR 89), some (zR 121), some (zI ((6 * c9 : Nat) : Int)), none, none] []) : zG (zFL l b L xs) k n Γ h 1337 [some (zR 4000000), some (zR 1), some (zR 89), some (zR 121), some (zI ((6 * c9 : Nat) : Int)), none, none] [] := by
  have i22 := hI.isl
  have i28 := hI.chn
  have e28 : (((h 89 28).toNat : Nat) : Int) = h 89 28 := by omega
  have k20 : 0 ≤ (((zdS0 h).2.1 : Nat) : Int) ∧ (((zdS0 h).2.1 : Nat) : Int) ≤ 20 := by
    show 0 ≤ (((h 89 28).toNat : Nat) : Int) ∧ (((h 89 28).toNat : Nat) : Int) ≤ 20
    omega
  refine z_al1 dL_law_1337 (by decide) ?_
  refine z_arg (c := 1) (j := 6 * c9 + 1) (by omega) (by omega) hL hb4 (by decide) dL_law_1338 dL_law_1339 dL_law_1341 dL_law_1342 dL_law_1343 ?_
  refine z_arg (c := 2) (j := 6 * c9 + 2) (by omega) (by omega) hL hb4 (by decide) dL_law_1344 dL_law_1345 dL_law_1347 dL_law_1348 dL_law_1349 ?_
  refine z_arg (c := 3) (j := 6 * c9 + 3) (by omega) (by omega) hL hb4 (by decide) dL_law_1350 dL_law_1351 dL_law_1353 dL_law_1354 dL_law_1355 ?_
  refine z_i2l dL_law_1356 ?_
  refine z_bipush (x := 32) dL_law_1357 (by rfl) (by decide) ?_
  refine z_lshl dL_law_1359 ?_
  refine z_arg (c := 4) (j := 6 * c9 + 4) (by omega) (by omega) hL hb4 (by decide) dL_law_1360 dL_law_1361 dL_law_1363 dL_law_1364 dL_law_1365 ?_
  refine z_i2l dL_law_1366 ?_
  refine z_ldc2 (x := 4294967295) dL_law_1367 zcoL_133 (by decide) ?_
  refine z_land dL_law_1370 ?_
  refine z_lor dL_law_1371 ?_
  refine z_lcv3 (mc9 := 0) (ms9 := 0) dL_law_1372 zkL_135 ziX8_drown zsX8_drown (zkB hI.base rfl) (by decide) rfl (Nat.le_of_ble_eq_true rfl) (Nat.le_of_ble_eq_true rfl) (Nat.le_of_ble_eq_true rfl) ⟨by omega, by omega⟩ (X8_drown_ct (φ := zdr) (ν := zdv) (fun x m hm => zdv_b x hm) (fun hx hm hQ => X3_draw_ct hI.base hx hm hQ) hI (fun c8 _ => ?_) (fun h1 c8 D1 F1 _ => ?_))
  · simp only [zres]
    refine z_al2 dL_law_1375 (by decide) ?_
    refine z_arg (c := 1) (j := 6 * c9 + 1) (by omega) (by omega) hL hb4 (by decide) dL_law_1376 dL_law_1377 dL_law_1379 dL_law_1380 dL_law_1381 ?_
    refine z_arg (c := 2) (j := 6 * c9 + 2) (by omega) (by omega) hL hb4 (by decide) dL_law_1382 dL_law_1383 dL_law_1385 dL_law_1386 dL_law_1387 ?_
    refine z_arg (c := 3) (j := 6 * c9 + 3) (by omega) (by omega) hL hb4 (by decide) dL_law_1388 dL_law_1389 dL_law_1391 dL_law_1392 dL_law_1393 ?_
    refine z_i2l dL_law_1394 ?_
    refine z_bipush (x := 32) dL_law_1395 (by rfl) (by decide) ?_
    refine z_lshl dL_law_1397 ?_
    refine z_arg (c := 4) (j := 6 * c9 + 4) (by omega) (by omega) hL hb4 (by decide) dL_law_1398 dL_law_1399 dL_law_1401 dL_law_1402 dL_law_1403 ?_
    refine z_i2l dL_law_1404 ?_
    refine z_ldc2 (x := 4294967295) dL_law_1405 zcoL_133 (by decide) ?_
    refine z_land dL_law_1408 ?_
    refine z_lor dL_law_1409 ?_
    refine z_lcv3 (mc9 := 0) (ms9 := 0) dL_law_1410 zkL_139 ziX9_drown zsX9_drown (zkB hI.base rfl) (by decide) rfl (Nat.le_of_ble_eq_true rfl) (Nat.le_of_ble_eq_true rfl) (Nat.le_of_ble_eq_true rfl) ⟨by omega, by omega⟩ (X9_drown_ct (φ := zdr) (ν := zdv) (N := (h 89 22).toNat) (S0 := zdS0 h) hI.base (fun x m hm => zdv_b x hm) (fun hx hm hQ => X9_draw_ct hI.base hx hm hQ) (by omega) (by omega) k20 (zK_drS hI (fun _ _ => rfl)) (fun c9 _ => ?_) (fun h2 c9 D2 F2 _ => ?_))
    · simp only [zres]
      refine z_icmp_eq (t := 2010) dL_law_1413 (by rfl) (fun _ => ?_) (fun hne => absurd rfl hne)
      exact z_wid (by omega) (by omega) (IH _ _ (zext_rf _) (zIv_cg (zfr_S3 (zfr_up (zfr_rf _ _) rfl)) hI) hO)
    · exact absurd ⟨by omega, c9.2⟩ c8
  · simp only [zres]
    refine z_al2 dL_law_1375 (by decide) ?_
    refine z_arg (c := 1) (j := 6 * c9 + 1) (by omega) (by omega) hL hb4 (by decide) dL_law_1376 dL_law_1377 dL_law_1379 dL_law_1380 dL_law_1381 ?_
    refine z_arg (c := 2) (j := 6 * c9 + 2) (by omega) (by omega) hL hb4 (by decide) dL_law_1382 dL_law_1383 dL_law_1385 dL_law_1386 dL_law_1387 ?_
    refine z_arg (c := 3) (j := 6 * c9 + 3) (by omega) (by omega) hL hb4 (by decide) dL_law_1388 dL_law_1389 dL_law_1391 dL_law_1392 dL_law_1393 ?_
    refine z_i2l dL_law_1394 ?_
    refine z_bipush (x := 32) dL_law_1395 (by rfl) (by decide) ?_
    refine z_lshl dL_law_1397 ?_
    refine z_arg (c := 4) (j := 6 * c9 + 4) (by omega) (by omega) hL hb4 (by decide) dL_law_1398 dL_law_1399 dL_law_1401 dL_law_1402 dL_law_1403 ?_
    refine z_i2l dL_law_1404 ?_
    refine z_ldc2 (x := 4294967295) dL_law_1405 zcoL_133 (by decide) ?_
    refine z_land dL_law_1408 ?_
    refine z_lor dL_law_1409 ?_
    refine z_lcv3 (mc9 := 0) (ms9 := 0) dL_law_1410 zkL_139 ziX9_drown zsX9_drown (zkB hI.base rfl) (by decide) rfl (Nat.le_of_ble_eq_true rfl) (Nat.le_of_ble_eq_true rfl) (Nat.le_of_ble_eq_true rfl) ⟨by omega, by omega⟩ (X9_drown_ct (φ := zdr) (ν := zdv) (N := (h 89 22).toNat) (S0 := zdS0 h) hI.base (fun x m hm => zdv_b x hm) (fun hx hm hQ => X9_draw_ct hI.base hx hm hQ) (by omega) (by rw [F1.1 89 (by omega)]; omega) k20 (zK_drS hI (fun q hq => F1.1 q (by omega))) (fun c9 _ => ?_) (fun h2 c9 D2 F2 _ => ?_))
    · exact absurd ⟨by omega, c8.2⟩ c9
    · simp only [zres]
      refine z_icmp_eq (t := 2010) dL_law_1413 (by rfl) (fun _ => ?_) (fun hne => absurd (by
        show _ - h 89 28 = _ - (((h 89 28).toNat : Nat) : Int)
        rw [e28]
        rfl) hne)
      have hK := zK_drown hI D1 F1 D2 F2
      exact z_wid (by omega) (by omega) (IH _ _ (zext_rf _) hK.1 (hK.2.trans hO))
set_option maxRecDepth 4000 in
set_option maxHeartbeats 1000000 in
theorem zLc_3 {l : Launch} {b L : Nat} {xs : Nat → Int32} {Γ : zC} {h : zM} {k n c9 : Nat} (hI : zIv Γ h) (hO : h 89 30 = -1) (hb4 : zad Γ 4000000 = b) (hL : L ≤ 3072) (hc : 6 * c9 + 6 ≤ L) (hkn : k + 3 ≤ 601024 ∧ n + 400 ≤ 7293034) (IH : ∀ Γ' h', zext Γ Γ' → zIv Γ' h' → h' 89 30 = -1 → zG (zFL l b L xs) (k + 3) (n + 400) Γ' h' 2010 [some (zR 4000000), some (zR 1), some (zR 89), some (zR 121), some (zI ((6 * c9 : Nat) : Int)), none, none] []) : zG (zFL l b L xs) k n Γ h 347 [some (zR 4000000), some (zR 1), some (zR 89), some (zR 121), some (zI ((6 * c9 : Nat) : Int)), none, none] [] := by
  obtain ⟨t1, t2, t3, t4, t5⟩ := zIv_tp hI
  have ic := hI.cus
  have e7 : h 89 7 = (((h 89 7).toNat : Nat) : Int) := by omega
  have hnk : (zks Γ).length = 121 + 3 * (h 89 7).toNat := by have := hI.num; omega
  have hc4 : (h 89 7).toNat ≤ 4 := by omega
  have h15 : h 15 3 = (((h 89 7).toNat : Nat) : Int) := by rw [ic.1]; exact e7
  refine z_al1 dL_law_347 (by decide) ?_
  refine z_arg (c := 1) (j := 6 * c9 + 1) (by omega) (by omega) hL hb4 (by decide) dL_law_348 dL_law_349 dL_law_351 dL_law_352 dL_law_353 ?_
  refine z_lcv1 (mc9 := 3) (ms9 := 400) dL_law_354 zkL_34 ziX8_text zsX8_text (zkB hI.base rfl) (by decide) rfl (Nat.le_of_ble_eq_true rfl) (Nat.le_of_ble_eq_true rfl) (Nat.le_of_ble_eq_true rfl) ⟨by omega, by omega⟩ (X8_text_ct hI.base hnk hc4 t1 t2 t3 h15 (zfr_rf _ _) (fun s0 ok h1 C1 _ => ?_) (fun s1 hc9 ok h1 F1 V1 Γ2 h2 X2 B2 K2 E2 V2 _ => ?_) (fun n0 n1 h1 F1 _ => ?_))
  · simp only [zres]
    have e3 : h1 3 = h 3 := funext (fun j => C1.1 3 j rfl)
    have e90 : h1 90 = h 90 := funext (fun j => C1.1 90 j rfl)
    refine z_al2 dL_law_357 (by decide) ?_
    refine z_arg (c := 1) (j := 6 * c9 + 1) (by omega) (by omega) hL hb4 (by decide) dL_law_358 dL_law_359 dL_law_361 dL_law_362 dL_law_363 ?_
    refine z_lcv1 (mc9 := 0) (ms9 := 0) dL_law_364 zkL_37 ziX9_text zsX9_text (zkB hI.base rfl) (by decide) rfl (Nat.le_of_ble_eq_true rfl) (Nat.le_of_ble_eq_true rfl) (Nat.le_of_ble_eq_true rfl) ⟨by omega, by omega⟩ (X9_text_ct (n := (h 89 6).toNat) (c := (h 89 7).toNat) hI.base ((C1.1 89 6 rfl).trans t5) t2 (by rw [e3]; exact t3) (by rw [e3, e90]; exact t4) ((C1.1 89 7 rfl).trans e7) hc4 (fun _ ok2 h2 M2 m6 m22 m94 m96 m0 m98 _ => ?_) (fun s1 _ _ h2 _ _ _ _ _ _ => ?_) (fun n0 n1 h2 _ _ => ?_))
    · simp only [zres]
      refine z_icmp_eq (t := 2010) dL_law_367 (by rfl) (fun _ => ?_) (fun hne => absurd (by rw [e3]) hne)
      rw [e3] at m22 m94 m96
      exact z_wid (by omega) (by omega) (IH _ _ (zext_rf _) (zIv_tx0 hI C1 (zIs_ok t2 ok).1 (zIs_ok t2 ok).2 M2 m6 m22 m94 m96 m0 m98) ((M2 89 30 rfl).trans ((C1.1 89 30 rfl).trans hO)))
    · omega
    · exact absurd ⟨s0, by rw [e3]; exact ok⟩ n0
  · simp only [zres]
    have em : ∀ r, r ≤ 121 → r ≠ 33 → r ≠ 15 → r ≠ 2 → (zup (zup h2 33 (h 89 7).toNat (((zks Γ).length + 1 : Nat) : Int)) 15 3 ((((h 89 7).toNat : Nat) : Int) + 1)) r = h1 r := fun r q1 q2 q3 q4 => by rw [zup_row q3, zup_row q2, E2 r (by omega), zup_row q4]
    generalize hm : zup (zup h2 33 (h 89 7).toNat (((zks Γ).length + 1 : Nat) : Int)) 15 3 ((((h 89 7).toNat : Nat) : Int) + 1) = hB at em ⊢
    have e3 : hB 3 = h 3 := (em 3 (by decide) (by decide) (by decide) (by decide)).trans (funext (fun j => F1 3 j rfl))
    have e90 : hB 90 = h 90 := (em 90 (by decide) (by decide) (by decide) (by decide)).trans (funext (fun j => F1 90 j rfl))
    have e91 : hB 91 = h 91 := (em 91 (by decide) (by decide) (by decide) (by decide)).trans (funext (fun j => F1 91 j rfl))
    have e92 : hB 92 = h 92 := (em 92 (by decide) (by decide) (by decide) (by decide)).trans (funext (fun j => F1 92 j rfl))
    have e89 : hB 89 = h1 89 := em 89 (by decide) (by decide) (by decide) (by decide)
    have hb4 : zad Γ2 4000000 = b := (X2.2.2 4000000 (Or.inr (by decide))).1.trans hb4
    refine z_al2 dL_law_357 (by decide) ?_
    refine z_arg (c := 1) (j := 6 * c9 + 1) (by omega) (by omega) hL hb4 (by decide) dL_law_358 dL_law_359 dL_law_361 dL_law_362 dL_law_363 ?_
    refine z_lcv1 (mc9 := 0) (ms9 := 0) dL_law_364 zkL_37 ziX9_text zsX9_text (zkB B2 rfl) (by decide) rfl (Nat.le_of_ble_eq_true rfl) (Nat.le_of_ble_eq_true rfl) (Nat.le_of_ble_eq_true rfl) ⟨by omega, by omega⟩ (X9_text_ct (n := (h 89 6).toNat) (c := (h 89 7).toNat) B2 (by rw [e89]; exact (F1 89 6 rfl).trans t5) t2 (by rw [e3]; exact t3) (by rw [e3, e90]; exact t4) (by rw [e89]; exact (F1 89 7 rfl).trans e7) hc4 (fun s0 _ h2 _ _ _ _ _ _ _ _ => ?_) (fun _ _ ok2 h4 M4 m6 m7 m91 m92 _ => ?_) (fun n0 n1 h2 _ _ => ?_))
    · omega
    · simp only [zres]
      refine z_icmp_eq (t := 2010) dL_law_367 (by rfl) (fun _ => ?_) (fun hne => absurd rfl hne)
      rw [e90, e91] at m91
      rw [e92] at m92
      rw [← hm] at M4
      have h30 : h4 89 30 = -1 := by
        rw [M4 89 30 rfl, hm, e89]
        exact (F1 89 30 rfl).trans hO
      exact z_wid (by omega) (by omega) (IH _ _ X2 (zIv_tx1 hI t5 e7 hc9 ok F1 V1 B2 K2 E2 V2 M4 m6 m7 m91 m92) h30)
    · exact absurd ⟨s1, hc9, by rw [e3]; exact ok⟩ n1
  · simp only [zres]
    have e3 : h1 3 = h 3 := funext (fun j => F1 3 j rfl)
    have e90 : h1 90 = h 90 := funext (fun j => F1 90 j rfl)
    refine z_al2 dL_law_357 (by decide) ?_
    refine z_arg (c := 1) (j := 6 * c9 + 1) (by omega) (by omega) hL hb4 (by decide) dL_law_358 dL_law_359 dL_law_361 dL_law_362 dL_law_363 ?_
    refine z_lcv1 (mc9 := 0) (ms9 := 0) dL_law_364 zkL_37 ziX9_text zsX9_text (zkB hI.base rfl) (by decide) rfl (Nat.le_of_ble_eq_true rfl) (Nat.le_of_ble_eq_true rfl) (Nat.le_of_ble_eq_true rfl) ⟨by omega, by omega⟩ (X9_text_ct (n := (h 89 6).toNat) (c := (h 89 7).toNat) hI.base ((F1 89 6 rfl).trans t5) t2 (by rw [e3]; exact t3) (by rw [e3, e90]; exact t4) ((F1 89 7 rfl).trans e7) hc4 (fun s0 ok2 h2 _ _ _ _ _ _ _ _ => ?_) (fun s1 hc9 ok2 h2 _ _ _ _ _ _ => ?_) (fun _ _ h2 F2 _ => ?_))
    · exact absurd ⟨s0, by rw [← e3]; exact ok2⟩ n0
    · exact absurd ⟨s1, hc9, by rw [← e3]; exact ok2⟩ n1
    · simp only [zres]
      refine z_icmp_eq (t := 2010) dL_law_367 (by rfl) (fun _ => ?_) (fun hne => absurd rfl hne)
      exact z_wid (by omega) (by omega) (IH _ _ (zext_rf _) (zIv_cg (zfr_S3 (zfr_tr F1 F2)) hI) ((F2 89 30 rfl).trans ((F1 89 30 rfl).trans hO)))
theorem zcwL : Cond.codeWith yL_taboo cL_taboo 5 (some .int) [(0, 10, 13, 13)] ∈ zTB := by decide +kernel
theorem zlkLt : Cond.methodLink RL 38 yL_taboo ∈ zTB := by decide +kernel
theorem zstLt : Cond.static yL_taboo ∈ zTB := by decide +kernel
theorem zniLt : Cond.initialized yL_taboo.cls ∈ zTB := by decide +kernel
theorem zpaLt : (parseMethodDescriptor yL_taboo.desc).map (fun d => d.parameters.length) = some 4 := by decide +kernel
set_option maxHeartbeats 1000000 in
theorem z_lct {l : Launch} {b L : Nat} {xs : Nat → Int32} {k n : Nat} {Γ : zC} {h : zM} {ls : List (Option zV)} {a a2 : Int} (hkn : k + 1 ≤ 601024 ∧ n + 6 ≤ 7293034)
    (hC : zLT l 11 1 6 Γ [zR 1, zI a, zI a2, zR 121] h (fun r' Γ' h' => zext Γ Γ' → zG (zFL l b L xs) (k + 1) (n + 6) Γ' h' 389 ls (zres r' []))) : zG (zFL l b L xs) k n Γ h 386 ls [zR 121, zI a2, zI a, zR 1] := by
  intro p e s m args below meth c H locs lsr hB hl hlv hst hW hS hA T hT X
  have hts := hB.2.2.2.2.2.1
  have hov : ∀ v, v ∈ [zR 1, zI a, zI a2, zR 121] → zov Γ v := fun v hv => hst v (by simp at hv ⊢; rcases hv with h | h | h | h <;> simp [h])
  obtain ⟨sL, aL, b1, b2, b3, b4, b5, b6⟩ := hA.2
  have hsub : ∀ q, zAO Γ H.size q → s.heap.size ≤ q := by
    intro q hq1
    rcases hq1 with ⟨k9, hk9, rfl⟩ | hq1
    · have h9 := zws_at (Γ := Γ) h (r := k9 + 1) (q := (zks Γ)[k9]) (by show (zks Γ)[k9]? = _; rw [List.getElem?_eq_getElem hk9])
      exact hW.2.2.2.2 _ _ h9
    · exact Nat.le_trans hS.1 hq1
  have hU9 : ∀ U : State, U.heap = H → s.WarmedH U.vm → zSt Γ (zAO Γ H.size) U := fun U hU hw =>
    ⟨sL, aL, b1, b2, State.WarmedH.trans b3 hw, by rw [hU]; exact Nat.le_trans b4 hS.1, fun q hq => ⟨fun z => (b5 q hq).1 (hsub q z), by rw [hU, hS.2.1 q (Nat.lt_of_lt_of_le hq b4) (b5 q hq).1]; exact (b5 q hq).2⟩, b6⟩
  have hG : GoodIn zTB (Cond.codeWith yL_taboo cL_taboo 5 (some .int) [(0, 10, 13, 13)] :: zTB) := fun w hw => by
    rcases List.mem_cons.mp hw with rfl | hw
    · exact ⟨zcwL, good_of_word (zgood zcwL)⟩
    · exact ⟨hw, good_of_word (zgood hw)⟩
  have hcw : vx_CSW room_1 s args RL 38 yL_taboo cL_taboo 5 (some .int) [(0, 10, 13, 13)] (Cond.codeWith yL_taboo cL_taboo 5 (some .int) [(0, 10, 13, 13)] :: zTB) (zrm 11 1 6) 1 6 4 :=
    ⟨⟨rfl, rfl, Nat.le_of_ble_eq_true rfl, Nat.le_of_ble_eq_true rfl, pay_in hts hG, List.mem_cons_self⟩, hts _ zcwL, hts _ zniLt, ⟨by decide, by decide⟩, fun sig h9 => by
      have h2 := zpaLt
      rw [h9] at h2
      exact (Option.some.inj h2).symm, hts _ zlkLt, hts _ zstLt⟩
  have hrun := vx_runSX (p := p) (l := l) (e := e) (R := room_1) (s := s) (m := m) (args := args) (below := below) (meth := meth) (c := c) (H := H) (locs := locs) (cells := k) (slots := n) (As := [zR 1, zI a, zI a2, zR 121].map (zval Γ)) (rest := [])
    ⟨hB.1, hB.2.1, hB.2.2.2.1, hB.2.2.2.2.1, hts⟩ (hC hov H.size) hcw ⟨zPc_blind _ _ _ _, zPc_at hW hU9⟩ (g := F0 m 386 lsr ([zR 121, zI a2, zI a, zR 1].map (zval Γ))) rfl rfl hl.1 rfl (Nat.le_of_ble_eq_true rfl) dL_law_386 hkn
  rcases hrun T hT X with ⟨v, st₀, t, T', L9, h0, X', hL, e1, e2, ⟨⟨r, Γ', h', hret, hrv, hQr, hx, hWt⟩, hz, hkp⟩, hgo⟩ | ⟨q, st₀, t, T', L9, E, ce, h0, X', hL, e1, e2, hF, -⟩
  · rw [h0] at hz hkp
    have hA' : (∀ q, s.heap.size ≤ q → s.heap.size ≤ q) ∧ zSt Γ' (fun q => s.heap.size ≤ q) s := ⟨fun _ h => h, ⟨sL, aL, b1, b2, b3, b4, b5, zSs_ad (fun i hi => (hx.2.2 i (Or.inr hi)).1) b6⟩⟩
    have hvm : t.vm.Alike s.vm := by rw [← e2]; exact X'.warmed.alike.symm
    have hWs : zWd Γ' h' (fun q => s.heap.size ≤ q) T'.heap s := ⟨hWt.1, by rw [e1]; exact hWt.2.1, hWt.2.2.1.moved hvm, hWt.2.2.2.weaken (fun _ q _ h9 => hsub _ h9)⟩
    have hS' : va_S (fun q => s.heap.size ≤ q) s.heap T'.heap (locs ++ L9) := ⟨Nat.le_trans hS.1 (by rw [e1]; exact hz), fun q h1 h2 => by
        rw [e1, hkp q (Nat.lt_of_lt_of_le h1 hS.1) (fun z => h2 (hsub q z))]; exact hS.2.1 q h1 h2, fun q hq1 => by
        rcases List.mem_append.mp hq1 with h9 | h9
        · exact hS.2.2 q h9
        · exact hsub _ (hL q h9)⟩
    have hl' : zloc Γ' lsr 7 ls := zmv_loc hx hl hlv
    have hst' : ∀ v, v ∈ zres r [] → zov Γ' v := by
      cases r with
      | none => exact fun v hv => by cases hv
      | some v => exact zv2 (hrv v rfl) (fun v hv => by cases hv)
    have es : v.toList ++ [] = (zres r []).map (zval Γ') := by
      cases hret
      cases r with
      | none => rfl
      | some v => rfl
    obtain ⟨t2, g1, g2⟩ := hQr hx p e s m args below meth c T'.heap (locs ++ L9) lsr hB hl' (fun v hv => (zext_v hx (hlv v hv)).2) hst' hWs hS' hA' T' rfl X'
    refine ⟨t2, hgo t2 ?_, g2⟩
    rw [es]
    exact g1
  · exact hF.elim
set_option maxRecDepth 4000 in
set_option maxHeartbeats 1000000 in
theorem zLc_4 {l : Launch} (hfl : l.stackTraces = false) {b L : Nat} {xs : Nat → Int32} {Γ : zC} {h : zM} {k n c9 : Nat} (hI : zIv Γ h) (hO : h 89 30 = -1) (hb4 : zad Γ 4000000 = b) (hL : L ≤ 3072) (hc : 6 * c9 + 6 ≤ L) (hkn : k + 3 ≤ 601024 ∧ n + 400 ≤ 7293034) (IH : ∀ Γ' h', zext Γ Γ' → zIv Γ' h' → h' 89 30 = -1 → zG (zFL l b L xs) (k + 3) (n + 400) Γ' h' 2010 [some (zR 4000000), some (zR 1), some (zR 89), some (zR 121), some (zI ((6 * c9 : Nat) : Int)), none, none] []) : zG (zFL l b L xs) k n Γ h 372 [some (zR 4000000), some (zR 1), some (zR 89), some (zR 121), some (zI ((6 * c9 : Nat) : Int)), none, none] [] := by
  refine z_al1 dL_law_372 (by decide) ?_
  refine z_arg (c := 1) (j := 6 * c9 + 1) (by omega) (by omega) hL hb4 (by decide) dL_law_373 dL_law_374 dL_law_376 dL_law_377 dL_law_378 ?_
  refine z_arg (c := 2) (j := 6 * c9 + 2) (by omega) (by omega) hL hb4 (by decide) dL_law_379 dL_law_380 dL_law_382 dL_law_383 dL_law_384 ?_
  refine z_al3 dL_law_385 (by decide) ?_
  refine z_lct ⟨by omega, by omega⟩ (L_taboo_ct hfl hI (zfr_rf _ _) (fun c8 _ => ?_) (fun c8 _ => ?_))
  · simp only [zres]
    have hIT : zIv Γ (zup h 121 0 (zTb h (xs (6 * c9 + 1)).toInt (xs (6 * c9 + 2)).toInt)) := zIv_out zfr_121 hI
    refine z_is5 dL_law_389 (Nat.le_of_ble_eq_true rfl) rfl ?_
    refine z_al2 dL_law_391 (by decide) ?_
    refine z_arg (c := 1) (j := 6 * c9 + 1) (by omega) (by omega) hL hb4 (by decide) dL_law_392 dL_law_393 dL_law_395 dL_law_396 dL_law_397 ?_
    refine z_arg (c := 2) (j := 6 * c9 + 2) (by omega) (by omega) hL hb4 (by decide) dL_law_398 dL_law_399 dL_law_401 dL_law_402 dL_law_403 ?_
    refine z_lcv2 (mc9 := 0) (ms9 := 0) dL_law_404 zkL_43 ziX9_taboo zsX9_taboo (zkB hI.base rfl) (by decide) rfl (Nat.le_of_ble_eq_true rfl) (Nat.le_of_ble_eq_true rfl) (Nat.le_of_ble_eq_true rfl) ⟨by omega, by omega⟩ (X9_taboo_ct hIT (zfr_rf _ _) hO (fun d9 h9 F9 z9 _ => ?_) (fun d9 h9 F9 z9 _ => ?_))
    · simp only [zres]
      refine z_is6 dL_law_407 (Nat.le_of_ble_eq_true rfl) rfl ?_
      refine z_al2 dL_law_409 (by decide) ?_
      refine z_lcv0 (mc9 := 0) (ms9 := 0) dL_law_410 zkL_44 ziX9_thrown zsX9_thrown (zkB hI.base rfl) (by decide) rfl (Nat.le_of_ble_eq_true rfl) (Nat.le_of_ble_eq_true rfl) (Nat.le_of_ble_eq_true rfl) ⟨by omega, by omega⟩ (X9_thrown_ct hI.base (fun _ => ?_))
      simp only [zres]
      rw [z9]
      refine z_il5 dL_law_413 ?_
      refine z_icmp_eq (t := 420) dL_law_415 (by rfl) (fun _ => ?_) (fun hne => absurd rfl hne)
      refine z_il5 dL_law_420 ?_
      refine z_if_ne (t := 437) dL_law_422 (by rfl) (fun hne => absurd rfl hne) (fun _ => ?_)
      refine z_al3 dL_law_425 (by decide) ?_
      refine z_iconst dL_law_426 (by decide) ?_
      refine z_lald dL_law_427 (zkB hI.base rfl) (by decide) (by decide) ?_
      refine z_il6 dL_law_428 ?_
      refine z_i2l dL_law_430 ?_
      refine z_lcmp dL_law_431 ?_
      rw [zTb_out, show h9 121 (0 : Int).toNat = zTb h (xs (6 * c9 + 1)).toInt (xs (6 * c9 + 2)).toInt from (F9 121 0 rfl).trans (zup_rj _ _ _ _)]
      refine z_if_eq (t := 437) dL_law_432 (by rfl) (fun _ => ?_) (fun hne => absurd (zcmp_se _) hne)
      refine z_goto (t := 2010) dL_law_437 (by rfl) ?_
      refine zG_f56 ?_
      exact z_wid (by omega) (by omega) (IH _ _ (zext_rf _) (zIv_cg (zfr_S3 F9) hIT) ((F9 89 30 rfl).trans hO))
    · exact absurd c8 d9
  · simp only [zres]
    refine z_is5 dL_law_389 (Nat.le_of_ble_eq_true rfl) rfl ?_
    refine z_al2 dL_law_391 (by decide) ?_
    refine z_arg (c := 1) (j := 6 * c9 + 1) (by omega) (by omega) hL hb4 (by decide) dL_law_392 dL_law_393 dL_law_395 dL_law_396 dL_law_397 ?_
    refine z_arg (c := 2) (j := 6 * c9 + 2) (by omega) (by omega) hL hb4 (by decide) dL_law_398 dL_law_399 dL_law_401 dL_law_402 dL_law_403 ?_
    refine z_lcv2 (mc9 := 0) (ms9 := 0) dL_law_404 zkL_43 ziX9_taboo zsX9_taboo (zkB hI.base rfl) (by decide) rfl (Nat.le_of_ble_eq_true rfl) (Nat.le_of_ble_eq_true rfl) (Nat.le_of_ble_eq_true rfl) ⟨by omega, by omega⟩ (X9_taboo_ct hI (zfr_rf _ _) hO (fun d9 h9 F9 z9 _ => ?_) (fun d9 h9 F9 z9 _ => ?_))
    · exact absurd d9 c8
    · simp only [zres]
      refine z_is6 dL_law_407 (Nat.le_of_ble_eq_true rfl) rfl ?_
      refine z_al2 dL_law_409 (by decide) ?_
      refine z_lcv0 (mc9 := 0) (ms9 := 0) dL_law_410 zkL_44 ziX9_thrown zsX9_thrown (zkB hI.base rfl) (by decide) rfl (Nat.le_of_ble_eq_true rfl) (Nat.le_of_ble_eq_true rfl) (Nat.le_of_ble_eq_true rfl) ⟨by omega, by omega⟩ (X9_thrown_ct hI.base (fun _ => ?_))
      simp only [zres]
      rw [z9]
      refine z_il5 dL_law_413 ?_
      refine z_icmp_eq (t := 420) dL_law_415 (by rfl) (fun _ => ?_) (fun hne => absurd rfl hne)
      refine z_il5 dL_law_420 ?_
      refine z_if_ne (t := 437) dL_law_422 (by rfl) (fun _ => ?_) (fun hne => absurd hne (by decide))
      refine z_goto (t := 2010) dL_law_437 (by rfl) ?_
      refine zG_f56 ?_
      exact z_wid (by omega) (by omega) (IH _ _ (zext_rf _) (zIv_cg (zfr_S3 F9) hI) ((F9 89 30 rfl).trans hO))
