/-! the law's cases, one by one: calls that change something -/
set_option maxRecDepth 4000 in
theorem zLc_1 {l : Launch} {b L : Nat} {xs : Nat → Int32} {Γ : zC} {h : zM} {k n c9 : Nat} (hI : zIv Γ h) (hO : h 89 30 = -1) (hb4 : zad Γ 4000000 = b) (hL : L ≤ 3072) (hc : 6 * c9 + 6 ≤ L) (hkn : k + 3 ≤ 601024 ∧ n + 400 ≤ 7293034) (IH : ∀ Γ' h', zext Γ Γ' → zIv Γ' h' → h' 89 30 = -1 → zG (zFL l b L xs) (k + 3) (n + 400) Γ' h' 2010 [some (zR 4000000), some (zR 1), some (zR 89), some (zR 121), some (zI ((6 * c9 : Nat) : Int)), none, none] []) : zG (zFL l b L xs) k n Γ h 297 [some (zR 4000000), some (zR 1), some (zR 89), some (zR 121), some (zI ((6 * c9 : Nat) : Int)), none, none] [] := by
  refine z_al1 dL_law_297 (by decide) ?_
  refine z_arg (c := 1) (j := 6 * c9 + 1) (by omega) (by omega) hL hb4 (by decide) dL_law_298 dL_law_299 dL_law_301 dL_law_302 dL_law_303 ?_
  refine z_lcv1 (mc9 := 0) (ms9 := 0) dL_law_304 zkL_24 ziX8_end zsX8_end (zkB hI.base rfl) (by decide) rfl (Nat.le_of_ble_eq_true rfl) (Nat.le_of_ble_eq_true rfl) (Nat.le_of_ble_eq_true rfl) ⟨by omega, by omega⟩ (X8_end_ct hI.base hI.tln (fun c8 _ => ?_) (fun c8 _ => ?_))
  · simp only [zres]
    refine z_al2 dL_law_307 (by decide) ?_
    refine z_arg (c := 1) (j := 6 * c9 + 1) (by omega) (by omega) hL hb4 (by decide) dL_law_308 dL_law_309 dL_law_311 dL_law_312 dL_law_313 ?_
    refine z_lcv1 (mc9 := 0) (ms9 := 0) dL_law_314 zkL_28 ziX9_end zsX9_end (zkB hI.base rfl) (by decide) rfl (Nat.le_of_ble_eq_true rfl) (Nat.le_of_ble_eq_true rfl) (Nat.le_of_ble_eq_true rfl) ⟨by omega, by omega⟩ (X9_end_ct (k := h 89 6) hI.base rfl (fun c9 _ => ?_) (fun c9 _ => ?_))
    · simp only [zres]
      refine z_icmp_eq (t := 2010) dL_law_317 (by rfl) (fun _ => ?_) (fun hne => absurd rfl hne)
      exact z_wid (by omega) (by omega) (IH _ _ (zext_rf _) (zIv_cg (zfr_S3 (zfr_up (zfr_rf _ _) rfl)) hI) hO)
    · exact absurd c9 c8
  · simp only [zres]
    refine z_al2 dL_law_307 (by decide) ?_
    refine z_arg (c := 1) (j := 6 * c9 + 1) (by omega) (by omega) hL hb4 (by decide) dL_law_308 dL_law_309 dL_law_311 dL_law_312 dL_law_313 ?_
    refine z_lcv1 (mc9 := 0) (ms9 := 0) dL_law_314 zkL_28 ziX9_end zsX9_end (zkB hI.base rfl) (by decide) rfl (Nat.le_of_ble_eq_true rfl) (Nat.le_of_ble_eq_true rfl) (Nat.le_of_ble_eq_true rfl) ⟨by omega, by omega⟩ (X9_end_ct (k := h 89 6) hI.base rfl (fun c9 _ => ?_) (fun c9 _ => ?_))
    · exact absurd c8 c9
    · simp only [zres]
      refine z_icmp_eq (t := 2010) dL_law_317 (by rfl) (fun _ => ?_) (fun hne => absurd rfl hne)
      exact z_wid (by omega) (by omega) (IH _ _ (zext_rf _) (zK_end hI c8) hO)
set_option maxRecDepth 4000 in
theorem zLc_8 {l : Launch} {b L : Nat} {xs : Nat → Int32} {Γ : zC} {h : zM} {k n c9 : Nat} (hI : zIv Γ h) (hO : h 89 30 = -1) (hb4 : zad Γ 4000000 = b) (hL : L ≤ 3072) (hc : 6 * c9 + 6 ≤ L) (hkn : k + 3 ≤ 601024 ∧ n + 400 ≤ 7293034) (IH : ∀ Γ' h', zext Γ Γ' → zIv Γ' h' → h' 89 30 = -1 → zG (zFL l b L xs) (k + 3) (n + 400) Γ' h' 2010 [some (zR 4000000), some (zR 1), some (zR 89), some (zR 121), some (zI ((6 * c9 : Nat) : Int)), none, none] []) : zG (zFL l b L xs) k n Γ h 563 [some (zR 4000000), some (zR 1), some (zR 89), some (zR 121), some (zI ((6 * c9 : Nat) : Int)), none, none] [] := by
  refine z_al1 dL_law_563 (by decide) ?_
  refine z_arg (c := 1) (j := 6 * c9 + 1) (by omega) (by omega) hL hb4 (by decide) dL_law_564 dL_law_565 dL_law_567 dL_law_568 dL_law_569 ?_
  refine z_lcv1 (mc9 := 0) (ms9 := 0) dL_law_570 zkL_62 ziX8_hand zsX8_hand (zkB hI.base rfl) (by decide) rfl (Nat.le_of_ble_eq_true rfl) (Nat.le_of_ble_eq_true rfl) (Nat.le_of_ble_eq_true rfl) ⟨by omega, by omega⟩ (X8_hand_ct hI.base (fun c8 _ => ?_) (fun c8 _ => ?_))
  · simp only [zres]
    refine z_al2 dL_law_573 (by decide) ?_
    refine z_arg (c := 1) (j := 6 * c9 + 1) (by omega) (by omega) hL hb4 (by decide) dL_law_574 dL_law_575 dL_law_577 dL_law_578 dL_law_579 ?_
    refine z_lcv1 (mc9 := 0) (ms9 := 0) dL_law_580 zkL_65 ziX9_hand zsX9_hand (zkB hI.base rfl) (by decide) rfl (Nat.le_of_ble_eq_true rfl) (Nat.le_of_ble_eq_true rfl) (Nat.le_of_ble_eq_true rfl) ⟨by omega, by omega⟩ (X9_hand_ct hI.base (fun c9 _ => ?_) (fun c9 _ => ?_))
    · simp only [zres]
      refine z_icmp_eq (t := 2010) dL_law_583 (by rfl) (fun _ => ?_) (fun hne => absurd rfl hne)
      exact z_wid (by omega) (by omega) (IH _ _ (zext_rf _) (zIv_cg (zfr_S3 (zfr_up (zfr_rf _ _) rfl)) hI) hO)
    · exact absurd c9 c8
  · simp only [zres]
    refine z_al2 dL_law_573 (by decide) ?_
    refine z_arg (c := 1) (j := 6 * c9 + 1) (by omega) (by omega) hL hb4 (by decide) dL_law_574 dL_law_575 dL_law_577 dL_law_578 dL_law_579 ?_
    refine z_lcv1 (mc9 := 0) (ms9 := 0) dL_law_580 zkL_65 ziX9_hand zsX9_hand (zkB hI.base rfl) (by decide) rfl (Nat.le_of_ble_eq_true rfl) (Nat.le_of_ble_eq_true rfl) (Nat.le_of_ble_eq_true rfl) ⟨by omega, by omega⟩ (X9_hand_ct hI.base (fun c9 _ => ?_) (fun c9 _ => ?_))
    · exact absurd c8 c9
    · simp only [zres]
      refine z_icmp_eq (t := 2010) dL_law_583 (by rfl) (fun _ => ?_) (fun hne => absurd rfl hne)
      exact z_wid (by omega) (by omega) (IH _ _ (zext_rf _) (zK_hand hI c8) hO)
set_option maxRecDepth 4000 in
theorem zLc_23 {l : Launch} {b L : Nat} {xs : Nat → Int32} {Γ : zC} {h : zM} {k n c9 : Nat} (hI : zIv Γ h) (hO : h 89 30 = -1) (hb4 : zad Γ 4000000 = b) (hL : L ≤ 3072) (hc : 6 * c9 + 6 ≤ L) (hkn : k + 3 ≤ 601024 ∧ n + 400 ≤ 7293034) (IH : ∀ Γ' h', zext Γ Γ' → zIv Γ' h' → h' 89 30 = -1 → zG (zFL l b L xs) (k + 3) (n + 400) Γ' h' 2010 [some (zR 4000000), some (zR 1), some (zR 89), some (zR 121), some (zI ((6 * c9 : Nat) : Int)), none, none] []) : zG (zFL l b L xs) k n Γ h 1263 [some (zR 4000000), some (zR 1), some (zR 89), some (zR 121), some (zI ((6 * c9 : Nat) : Int)), none, none] [] := by
  refine z_al1 dL_law_1263 (by decide) ?_
  refine z_arg (c := 1) (j := 6 * c9 + 1) (by omega) (by omega) hL hb4 (by decide) dL_law_1264 dL_law_1265 dL_law_1267 dL_law_1268 dL_law_1269 ?_
  refine z_lcv1 (mc9 := 0) (ms9 := 0) dL_law_1270 zkL_125 ziX8_today zsX8_today (zkB hI.base rfl) (by decide) rfl (Nat.le_of_ble_eq_true rfl) (Nat.le_of_ble_eq_true rfl) (Nat.le_of_ble_eq_true rfl) ⟨by omega, by omega⟩ (X8_today_ct hI.base (fun c8 _ => ?_) (fun c8 _ => ?_))
  · simp only [zres]
    refine z_al2 dL_law_1273 (by decide) ?_
    refine z_arg (c := 1) (j := 6 * c9 + 1) (by omega) (by omega) hL hb4 (by decide) dL_law_1274 dL_law_1275 dL_law_1277 dL_law_1278 dL_law_1279 ?_
    refine z_lcv1 (mc9 := 0) (ms9 := 0) dL_law_1280 zkL_128 ziX9_today zsX9_today (zkB hI.base rfl) (by decide) rfl (Nat.le_of_ble_eq_true rfl) (Nat.le_of_ble_eq_true rfl) (Nat.le_of_ble_eq_true rfl) ⟨by omega, by omega⟩ (X9_today_ct hI.base (fun c9 _ => ?_) (fun c9 _ => ?_))
    · simp only [zres]
      refine z_icmp_eq (t := 2010) dL_law_1283 (by rfl) (fun _ => ?_) (fun hne => absurd rfl hne)
      exact z_wid (by omega) (by omega) (IH _ _ (zext_rf _) (zIv_cg (zfr_S3 (zfr_up (zfr_rf _ _) rfl)) hI) hO)
    · exact absurd c9 c8
  · simp only [zres]
    refine z_al2 dL_law_1273 (by decide) ?_
    refine z_arg (c := 1) (j := 6 * c9 + 1) (by omega) (by omega) hL hb4 (by decide) dL_law_1274 dL_law_1275 dL_law_1277 dL_law_1278 dL_law_1279 ?_
    refine z_lcv1 (mc9 := 0) (ms9 := 0) dL_law_1280 zkL_128 ziX9_today zsX9_today (zkB hI.base rfl) (by decide) rfl (Nat.le_of_ble_eq_true rfl) (Nat.le_of_ble_eq_true rfl) (Nat.le_of_ble_eq_true rfl) ⟨by omega, by omega⟩ (X9_today_ct hI.base (fun c9 _ => ?_) (fun c9 _ => ?_))
    · exact absurd c8 c9
    · simp only [zres]
      refine z_icmp_eq (t := 2010) dL_law_1283 (by rfl) (fun _ => ?_) (fun hne => absurd rfl hne)
      exact z_wid (by omega) (by omega) (IH _ _ (zext_rf _) (zK_today hI c8) hO)
set_option maxRecDepth 4000 in
theorem zLc_17 {l : Launch} {b L : Nat} {xs : Nat → Int32} {Γ : zC} {h : zM} {k n c9 : Nat} (hI : zIv Γ h) (hO : h 89 30 = -1) (hb4 : zad Γ 4000000 = b) (hL : L ≤ 3072) (hc : 6 * c9 + 6 ≤ L) (hkn : k + 3 ≤ 601024 ∧ n + 400 ≤ 7293034) (IH : ∀ Γ' h', zext Γ Γ' → zIv Γ' h' → h' 89 30 = -1 → zG (zFL l b L xs) (k + 3) (n + 400) Γ' h' 2010 [some (zR 4000000), some (zR 1), some (zR 89), some (zR 121), some (zI ((6 * c9 : Nat) : Int)), none, none] []) : zG (zFL l b L xs) k n Γ h 981 [some (zR 4000000), some (zR 1), some (zR 89), some (zR 121), some (zI ((6 * c9 : Nat) : Int)), none, none] [] := by
  refine z_al1 dL_law_981 (by decide) ?_
  refine z_arg (c := 1) (j := 6 * c9 + 1) (by omega) (by omega) hL hb4 (by decide) dL_law_982 dL_law_983 dL_law_985 dL_law_986 dL_law_987 ?_
  refine z_arg (c := 2) (j := 6 * c9 + 2) (by omega) (by omega) hL hb4 (by decide) dL_law_988 dL_law_989 dL_law_991 dL_law_992 dL_law_993 ?_
  refine z_lcv2 (mc9 := 0) (ms9 := 0) dL_law_994 zkL_100 ziX8_weight zsX8_weight (zkB hI.base rfl) (by decide) rfl (Nat.le_of_ble_eq_true rfl) (Nat.le_of_ble_eq_true rfl) (Nat.le_of_ble_eq_true rfl) ⟨by omega, by omega⟩ (X8_weight_ct hI.base (fun c8 _ => ?_) (fun c8 _ => ?_))
  · simp only [zres]
    refine z_al2 dL_law_997 (by decide) ?_
    refine z_arg (c := 1) (j := 6 * c9 + 1) (by omega) (by omega) hL hb4 (by decide) dL_law_998 dL_law_999 dL_law_1001 dL_law_1002 dL_law_1003 ?_
    refine z_arg (c := 2) (j := 6 * c9 + 2) (by omega) (by omega) hL hb4 (by decide) dL_law_1004 dL_law_1005 dL_law_1007 dL_law_1008 dL_law_1009 ?_
    refine z_lcv2 (mc9 := 0) (ms9 := 0) dL_law_1010 zkL_103 ziX9_weight zsX9_weight (zkB hI.base rfl) (by decide) rfl (Nat.le_of_ble_eq_true rfl) (Nat.le_of_ble_eq_true rfl) (Nat.le_of_ble_eq_true rfl) ⟨by omega, by omega⟩ (X9_weight_ct hI.base (fun c9 _ => ?_) (fun c9 _ => ?_))
    · simp only [zres]
      refine z_icmp_eq (t := 2010) dL_law_1013 (by rfl) (fun _ => ?_) (fun hne => absurd rfl hne)
      exact z_wid (by omega) (by omega) (IH _ _ (zext_rf _) (zIv_cg (zfr_S3 (zfr_up (zfr_rf _ _) rfl)) hI) hO)
    · exact absurd c9 c8
  · simp only [zres]
    refine z_al2 dL_law_997 (by decide) ?_
    refine z_arg (c := 1) (j := 6 * c9 + 1) (by omega) (by omega) hL hb4 (by decide) dL_law_998 dL_law_999 dL_law_1001 dL_law_1002 dL_law_1003 ?_
    refine z_arg (c := 2) (j := 6 * c9 + 2) (by omega) (by omega) hL hb4 (by decide) dL_law_1004 dL_law_1005 dL_law_1007 dL_law_1008 dL_law_1009 ?_
    refine z_lcv2 (mc9 := 0) (ms9 := 0) dL_law_1010 zkL_103 ziX9_weight zsX9_weight (zkB hI.base rfl) (by decide) rfl (Nat.le_of_ble_eq_true rfl) (Nat.le_of_ble_eq_true rfl) (Nat.le_of_ble_eq_true rfl) ⟨by omega, by omega⟩ (X9_weight_ct hI.base (fun c9 _ => ?_) (fun c9 _ => ?_))
    · exact absurd c8 c9
    · simp only [zres]
      refine z_icmp_eq (t := 2010) dL_law_1013 (by rfl) (fun _ => ?_) (fun hne => absurd rfl hne)
      exact z_wid (by omega) (by omega) (IH _ _ (zext_rf _) (zK_weight hI c8) hO)
set_option maxRecDepth 4000 in
theorem zLc_6 {l : Launch} {b L : Nat} {xs : Nat → Int32} {Γ : zC} {h : zM} {k n c9 : Nat} (hI : zIv Γ h) (hO : h 89 30 = -1) (hb4 : zad Γ 4000000 = b) (hL : L ≤ 3072) (hc : 6 * c9 + 6 ≤ L) (hkn : k + 3 ≤ 601024 ∧ n + 400 ≤ 7293034) (IH : ∀ Γ' h', zext Γ Γ' → zIv Γ' h' → h' 89 30 = -1 → zG (zFL l b L xs) (k + 3) (n + 400) Γ' h' 2010 [some (zR 4000000), some (zR 1), some (zR 89), some (zR 121), some (zI ((6 * c9 : Nat) : Int)), none, none] []) : zG (zFL l b L xs) k n Γ h 477 [some (zR 4000000), some (zR 1), some (zR 89), some (zR 121), some (zI ((6 * c9 : Nat) : Int)), none, none] [] := by
  refine z_al1 dL_law_477 (by decide) ?_
  refine z_arg (c := 1) (j := 6 * c9 + 1) (by omega) (by omega) hL hb4 (by decide) dL_law_478 dL_law_479 dL_law_481 dL_law_482 dL_law_483 ?_
  refine z_arg (c := 2) (j := 6 * c9 + 2) (by omega) (by omega) hL hb4 (by decide) dL_law_484 dL_law_485 dL_law_487 dL_law_488 dL_law_489 ?_
  refine z_lcv2 (mc9 := 0) (ms9 := 0) dL_law_490 zkL_52 ziX8_custom zsX8_custom (zkB hI.base rfl) (by decide) rfl (Nat.le_of_ble_eq_true rfl) (Nat.le_of_ble_eq_true rfl) (Nat.le_of_ble_eq_true rfl) ⟨by omega, by omega⟩ (X8_custom_ct hI (zfr_rf _ _) (fun c8 _ => ?_) (fun c8 _ => ?_))
  · simp only [zres]
    refine z_al2 dL_law_493 (by decide) ?_
    refine z_arg (c := 1) (j := 6 * c9 + 1) (by omega) (by omega) hL hb4 (by decide) dL_law_494 dL_law_495 dL_law_497 dL_law_498 dL_law_499 ?_
    refine z_arg (c := 2) (j := 6 * c9 + 2) (by omega) (by omega) hL hb4 (by decide) dL_law_500 dL_law_501 dL_law_503 dL_law_504 dL_law_505 ?_
    refine z_lcv2 (mc9 := 0) (ms9 := 0) dL_law_506 zkL_56 ziX9_custom zsX9_custom (zkB hI.base rfl) (by decide) rfl (Nat.le_of_ble_eq_true rfl) (Nat.le_of_ble_eq_true rfl) (Nat.le_of_ble_eq_true rfl) ⟨by omega, by omega⟩ (X9_custom_ct (N := h 89 22) (M := h 89 7) hI.base rfl rfl hI.isl.2 hI.cus.2 (fun c9 _ => ?_) (fun c9 _ => ?_))
    · simp only [zres]
      refine z_icmp_eq (t := 2010) dL_law_509 (by rfl) (fun _ => ?_) (fun hne => absurd rfl hne)
      exact z_wid (by omega) (by omega) (IH _ _ (zext_rf _) (zIv_cg (zfr_S3 (zfr_up (zfr_rf _ _) rfl)) hI) hO)
    · exact absurd c9 c8
  · simp only [zres]
    refine z_al2 dL_law_493 (by decide) ?_
    refine z_arg (c := 1) (j := 6 * c9 + 1) (by omega) (by omega) hL hb4 (by decide) dL_law_494 dL_law_495 dL_law_497 dL_law_498 dL_law_499 ?_
    refine z_arg (c := 2) (j := 6 * c9 + 2) (by omega) (by omega) hL hb4 (by decide) dL_law_500 dL_law_501 dL_law_503 dL_law_504 dL_law_505 ?_
    refine z_lcv2 (mc9 := 0) (ms9 := 0) dL_law_506 zkL_56 ziX9_custom zsX9_custom (zkB hI.base rfl) (by decide) rfl (Nat.le_of_ble_eq_true rfl) (Nat.le_of_ble_eq_true rfl) (Nat.le_of_ble_eq_true rfl) ⟨by omega, by omega⟩ (X9_custom_ct (N := h 89 22) (M := h 89 7) hI.base rfl rfl hI.isl.2 hI.cus.2 (fun c9 _ => ?_) (fun c9 _ => ?_))
    · exact absurd c8 c9
    · simp only [zres]
      refine z_icmp_eq (t := 2010) dL_law_509 (by rfl) (fun _ => ?_) (fun hne => absurd rfl hne)
      exact z_wid (by omega) (by omega) (IH _ _ (zext_rf _) (zK_custom hI c8) hO)
set_option maxRecDepth 4000 in
theorem zLc_24 {l : Launch} {b L : Nat} {xs : Nat → Int32} {Γ : zC} {h : zM} {k n c9 : Nat} (hI : zIv Γ h) (hO : h 89 30 = -1) (hb4 : zad Γ 4000000 = b) (hL : L ≤ 3072) (hc : 6 * c9 + 6 ≤ L) (hkn : k + 3 ≤ 601024 ∧ n + 400 ≤ 7293034) (IH : ∀ Γ' h', zext Γ Γ' → zIv Γ' h' → h' 89 30 = -1 → zG (zFL l b L xs) (k + 3) (n + 400) Γ' h' 2010 [some (zR 4000000), some (zR 1), some (zR 89), some (zR 121), some (zI ((6 * c9 : Nat) : Int)), none, none] []) : zG (zFL l b L xs) k n Γ h 1288 [some (zR 4000000), some (zR 1), some (zR 89), some (zR 121), some (zI ((6 * c9 : Nat) : Int)), none, none] [] := by
  refine z_al1 dL_law_1288 (by decide) ?_
  refine z_arg (c := 1) (j := 6 * c9 + 1) (by omega) (by omega) hL hb4 (by decide) dL_law_1289 dL_law_1290 dL_law_1292 dL_law_1293 dL_law_1294 ?_
  refine z_arg (c := 2) (j := 6 * c9 + 2) (by omega) (by omega) hL hb4 (by decide) dL_law_1295 dL_law_1296 dL_law_1298 dL_law_1299 dL_law_1300 ?_
  refine z_arg (c := 3) (j := 6 * c9 + 3) (by omega) (by omega) hL hb4 (by decide) dL_law_1301 dL_law_1302 dL_law_1304 dL_law_1305 dL_law_1306 ?_
  refine z_lcv3 (mc9 := 0) (ms9 := 0) dL_law_1307 zkL_129 ziX8_change zsX8_change (zkB hI.base rfl) (by decide) rfl (Nat.le_of_ble_eq_true rfl) (Nat.le_of_ble_eq_true rfl) (Nat.le_of_ble_eq_true rfl) ⟨by omega, by omega⟩ (X8_change_ct hI (fun c8 _ => ?_) (fun c8 _ => ?_))
  · simp only [zres]
    refine z_al2 dL_law_1310 (by decide) ?_
    refine z_arg (c := 1) (j := 6 * c9 + 1) (by omega) (by omega) hL hb4 (by decide) dL_law_1311 dL_law_1312 dL_law_1314 dL_law_1315 dL_law_1316 ?_
    refine z_arg (c := 2) (j := 6 * c9 + 2) (by omega) (by omega) hL hb4 (by decide) dL_law_1317 dL_law_1318 dL_law_1320 dL_law_1321 dL_law_1322 ?_
    refine z_arg (c := 3) (j := 6 * c9 + 3) (by omega) (by omega) hL hb4 (by decide) dL_law_1323 dL_law_1324 dL_law_1326 dL_law_1327 dL_law_1328 ?_
    refine z_lcv3 (mc9 := 0) (ms9 := 0) dL_law_1329 zkL_132 ziX9_change zsX9_change (zkB hI.base rfl) (by decide) rfl (Nat.le_of_ble_eq_true rfl) (Nat.le_of_ble_eq_true rfl) (Nat.le_of_ble_eq_true rfl) ⟨by omega, by omega⟩ (X9_change_ct (N := h 89 22) (k := h 89 28) hI.base rfl rfl hI.chn.2 (fun c9 _ => ?_) (fun c9 _ => ?_))
    · simp only [zres]
      refine z_icmp_eq (t := 2010) dL_law_1332 (by rfl) (fun _ => ?_) (fun hne => absurd rfl hne)
      exact z_wid (by omega) (by omega) (IH _ _ (zext_rf _) (zIv_cg (zfr_S3 (zfr_up (zfr_rf _ _) rfl)) hI) hO)
    · exact absurd c9 c8
  · simp only [zres]
    refine z_al2 dL_law_1310 (by decide) ?_
    refine z_arg (c := 1) (j := 6 * c9 + 1) (by omega) (by omega) hL hb4 (by decide) dL_law_1311 dL_law_1312 dL_law_1314 dL_law_1315 dL_law_1316 ?_
    refine z_arg (c := 2) (j := 6 * c9 + 2) (by omega) (by omega) hL hb4 (by decide) dL_law_1317 dL_law_1318 dL_law_1320 dL_law_1321 dL_law_1322 ?_
    refine z_arg (c := 3) (j := 6 * c9 + 3) (by omega) (by omega) hL hb4 (by decide) dL_law_1323 dL_law_1324 dL_law_1326 dL_law_1327 dL_law_1328 ?_
    refine z_lcv3 (mc9 := 0) (ms9 := 0) dL_law_1329 zkL_132 ziX9_change zsX9_change (zkB hI.base rfl) (by decide) rfl (Nat.le_of_ble_eq_true rfl) (Nat.le_of_ble_eq_true rfl) (Nat.le_of_ble_eq_true rfl) ⟨by omega, by omega⟩ (X9_change_ct (N := h 89 22) (k := h 89 28) hI.base rfl rfl hI.chn.2 (fun c9 _ => ?_) (fun c9 _ => ?_))
    · exact absurd c8 c9
    · simp only [zres]
      refine z_icmp_eq (t := 2010) dL_law_1332 (by rfl) (fun _ => ?_) (fun hne => absurd rfl hne)
      exact z_wid (by omega) (by omega) (IH _ _ (zext_rf _) (zK_change hI c8) hO)
set_option maxRecDepth 4000 in
theorem zLc_26 {l : Launch} {b L : Nat} {xs : Nat → Int32} {Γ : zC} {h : zM} {k n c9 : Nat} (hI : zIv Γ h) (hO : h 89 30 = -1) (hb4 : zad Γ 4000000 = b) (hL : L ≤ 3072) (hc : 6 * c9 + 6 ≤ L) (hkn : k + 3 ≤ 601024 ∧ n + 400 ≤ 7293034) (IH : ∀ Γ' h', zext Γ Γ' → zIv Γ' h' → h' 89 30 = -1 → zG (zFL l b L xs) (k + 3) (n + 400) Γ' h' 2010 [some (zR 4000000), some (zR 1), some (zR 89), some (zR 121), some (zI ((6 * c9 : Nat) : Int)), none, none] []) : zG (zFL l b L xs) k n Γ h 1418 [some (zR 4000000), some (zR 1), some (zR 89), some (zR 121), some (zI ((6 * c9 : Nat) : Int)), none, none] [] := by
  refine z_al1 dL_law_1418 (by decide) ?_
  refine z_arg (c := 1) (j := 6 * c9 + 1) (by omega) (by omega) hL hb4 (by decide) dL_law_1419 dL_law_1420 dL_law_1422 dL_law_1423 dL_law_1424 ?_
  refine z_arg (c := 2) (j := 6 * c9 + 2) (by omega) (by omega) hL hb4 (by decide) dL_law_1425 dL_law_1426 dL_law_1428 dL_law_1429 dL_law_1430 ?_
  refine z_lcv2 (mc9 := 0) (ms9 := 0) dL_law_1431 zkL_140 ziX8_say zsX8_say (zkB hI.base rfl) (by decide) rfl (Nat.le_of_ble_eq_true rfl) (Nat.le_of_ble_eq_true rfl) (Nat.le_of_ble_eq_true rfl) ⟨by omega, by omega⟩ (X8_say_ct hI (fun c8 _ => ?_) (fun c8 _ => ?_))
  · simp only [zres]
    refine z_al2 dL_law_1434 (by decide) ?_
    refine z_arg (c := 1) (j := 6 * c9 + 1) (by omega) (by omega) hL hb4 (by decide) dL_law_1435 dL_law_1436 dL_law_1438 dL_law_1439 dL_law_1440 ?_
    refine z_arg (c := 2) (j := 6 * c9 + 2) (by omega) (by omega) hL hb4 (by decide) dL_law_1441 dL_law_1442 dL_law_1444 dL_law_1445 dL_law_1446 ?_
    refine z_lcv2 (mc9 := 0) (ms9 := 0) dL_law_1447 zkL_143 ziX9_say zsX9_say (zkB hI.base rfl) (by decide) rfl (Nat.le_of_ble_eq_true rfl) (Nat.le_of_ble_eq_true rfl) (Nat.le_of_ble_eq_true rfl) ⟨by omega, by omega⟩ (X9_say_ct (N := h 89 22) (k := h 89 51) (d := h 89 29) hI.base rfl rfl rfl hI.sdn.2 (fun c9 _ => ?_) (fun c9 _ => ?_))
    · simp only [zres]
      refine z_icmp_eq (t := 2010) dL_law_1450 (by rfl) (fun _ => ?_) (fun hne => absurd rfl hne)
      exact z_wid (by omega) (by omega) (IH _ _ (zext_rf _) (zIv_cg (zfr_S3 (zfr_up (zfr_rf _ _) rfl)) hI) hO)
    · exact absurd c9 c8
  · simp only [zres]
    refine z_al2 dL_law_1434 (by decide) ?_
    refine z_arg (c := 1) (j := 6 * c9 + 1) (by omega) (by omega) hL hb4 (by decide) dL_law_1435 dL_law_1436 dL_law_1438 dL_law_1439 dL_law_1440 ?_
    refine z_arg (c := 2) (j := 6 * c9 + 2) (by omega) (by omega) hL hb4 (by decide) dL_law_1441 dL_law_1442 dL_law_1444 dL_law_1445 dL_law_1446 ?_
    refine z_lcv2 (mc9 := 0) (ms9 := 0) dL_law_1447 zkL_143 ziX9_say zsX9_say (zkB hI.base rfl) (by decide) rfl (Nat.le_of_ble_eq_true rfl) (Nat.le_of_ble_eq_true rfl) (Nat.le_of_ble_eq_true rfl) ⟨by omega, by omega⟩ (X9_say_ct (N := h 89 22) (k := h 89 51) (d := h 89 29) hI.base rfl rfl rfl hI.sdn.2 (fun c9 _ => ?_) (fun c9 _ => ?_))
    · exact absurd c8 c9
    · simp only [zres]
      refine z_icmp_eq (t := 2010) dL_law_1450 (by rfl) (fun _ => ?_) (fun hne => absurd rfl hne)
      exact z_wid (by omega) (by omega) (IH _ _ (zext_rf _) (zK_say hI c8) hO)
set_option maxRecDepth 4000 in
theorem zLc_20 {l : Launch} {b L : Nat} {xs : Nat → Int32} {Γ : zC} {h : zM} {k n c9 : Nat} (hI : zIv Γ h) (hO : h 89 30 = -1) (hb4 : zad Γ 4000000 = b) (hL : L ≤ 3072) (hc : 6 * c9 + 6 ≤ L) (hkn : k + 3 ≤ 601024 ∧ n + 400 ≤ 7293034) (IH : ∀ Γ' h', zext Γ Γ' → zIv Γ' h' → h' 89 30 = -1 → zG (zFL l b L xs) (k + 3) (n + 400) Γ' h' 2010 [some (zR 4000000), some (zR 1), some (zR 89), some (zR 121), some (zI ((6 * c9 : Nat) : Int)), none, none] []) : zG (zFL l b L xs) k n Γ h 1080 [some (zR 4000000), some (zR 1), some (zR 89), some (zR 121), some (zI ((6 * c9 : Nat) : Int)), none, none] [] := by
  refine z_al1 dL_law_1080 (by decide) ?_
  refine z_arg (c := 1) (j := 6 * c9 + 1) (by omega) (by omega) hL hb4 (by decide) dL_law_1081 dL_law_1082 dL_law_1084 dL_law_1085 dL_law_1086 ?_
  refine z_arg (c := 2) (j := 6 * c9 + 2) (by omega) (by omega) hL hb4 (by decide) dL_law_1087 dL_law_1088 dL_law_1090 dL_law_1091 dL_law_1092 ?_
  refine z_arg (c := 3) (j := 6 * c9 + 3) (by omega) (by omega) hL hb4 (by decide) dL_law_1093 dL_law_1094 dL_law_1096 dL_law_1097 dL_law_1098 ?_
  refine z_lcv3 (mc9 := 0) (ms9 := 0) dL_law_1099 zkL_112 ziX8_price zsX8_price (zkB hI.base rfl) (by decide) rfl (Nat.le_of_ble_eq_true rfl) (Nat.le_of_ble_eq_true rfl) (Nat.le_of_ble_eq_true rfl) ⟨by omega, by omega⟩ (X8_price_ct hI (fun c8 _ => ?_) (fun c8 _ => ?_))
  · simp only [zres]
    refine z_al2 dL_law_1102 (by decide) ?_
    refine z_arg (c := 1) (j := 6 * c9 + 1) (by omega) (by omega) hL hb4 (by decide) dL_law_1103 dL_law_1104 dL_law_1106 dL_law_1107 dL_law_1108 ?_
    refine z_arg (c := 2) (j := 6 * c9 + 2) (by omega) (by omega) hL hb4 (by decide) dL_law_1109 dL_law_1110 dL_law_1112 dL_law_1113 dL_law_1114 ?_
    refine z_arg (c := 3) (j := 6 * c9 + 3) (by omega) (by omega) hL hb4 (by decide) dL_law_1115 dL_law_1116 dL_law_1118 dL_law_1119 dL_law_1120 ?_
    refine z_lcv3 (mc9 := 0) (ms9 := 0) dL_law_1121 zkL_116 ziX9_price zsX9_price (zkB hI.base rfl) (by decide) rfl (Nat.le_of_ble_eq_true rfl) (Nat.le_of_ble_eq_true rfl) (Nat.le_of_ble_eq_true rfl) ⟨by omega, by omega⟩ (X9_price_ct (N := h 89 22) (M := h 89 39) hI.base (by first | rfl | (rw [zup_row (by have := hI.gds; omega)])) (by first | rfl | (rw [zup_row (by have := hI.gds; omega)])) hI.isl.2 hI.gds.2.2 (fun c9 _ => ?_) (fun c9 _ => ?_))
    · simp only [zres]
      refine z_icmp_eq (t := 2010) dL_law_1124 (by rfl) (fun _ => ?_) (fun hne => absurd rfl hne)
      exact z_wid (by omega) (by omega) (IH _ _ (zext_rf _) (zIv_cg (zfr_S3 (zfr_up (zfr_rf _ _) rfl)) hI) hO)
    · exact absurd c9 c8
  · simp only [zres]
    refine z_al2 dL_law_1102 (by decide) ?_
    refine z_arg (c := 1) (j := 6 * c9 + 1) (by omega) (by omega) hL hb4 (by decide) dL_law_1103 dL_law_1104 dL_law_1106 dL_law_1107 dL_law_1108 ?_
    refine z_arg (c := 2) (j := 6 * c9 + 2) (by omega) (by omega) hL hb4 (by decide) dL_law_1109 dL_law_1110 dL_law_1112 dL_law_1113 dL_law_1114 ?_
    refine z_arg (c := 3) (j := 6 * c9 + 3) (by omega) (by omega) hL hb4 (by decide) dL_law_1115 dL_law_1116 dL_law_1118 dL_law_1119 dL_law_1120 ?_
    refine z_lcv3 (mc9 := 0) (ms9 := 0) dL_law_1121 zkL_116 ziX9_price zsX9_price (zkB hI.base rfl) (by decide) rfl (Nat.le_of_ble_eq_true rfl) (Nat.le_of_ble_eq_true rfl) (Nat.le_of_ble_eq_true rfl) ⟨by omega, by omega⟩ (X9_price_ct (N := h 89 22) (M := h 89 39) hI.base (by first | rfl | (rw [zup_row (by have := hI.gds; omega)])) (by first | rfl | (rw [zup_row (by have := hI.gds; omega)])) hI.isl.2 hI.gds.2.2 (fun c9 _ => ?_) (fun c9 _ => ?_))
    · exact absurd c8 c9
    · simp only [zres]
      refine z_icmp_eq (t := 2010) dL_law_1124 (by rfl) (fun _ => ?_) (fun hne => absurd rfl hne)
      exact z_wid (by omega) (by omega) (IH _ _ (zext_rf _) (zK_price hI c8) (by rw [zup_row (by decide), zup_ap, if_neg (fun x => absurd x.2 (by decide)), zup_row (by have := hI.gds; omega)]; exact hO))
