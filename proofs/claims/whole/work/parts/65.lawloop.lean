/-! the law's loop -/
section ZLOOP
variable {l : Launch} {b L : Nat} {xs : Nat → Int32} {Γ : zC} {h : zM} {k n c9 : Nat}
theorem zL_head (hL : L ≤ 3072) (hb4 : zad Γ 4000000 = b) (hc : 6 * c9 ≤ L) (kend : zG (zFL l b L xs) k n Γ h 2016 [some (zR 4000000), some (zR 1), some (zR 89), some (zR 121), some (zI ((6 * c9 : Nat) : Int)), none, none] []) (kbody : 6 * c9 + 6 ≤ L → zG (zFL l b L xs) k n Γ h 33 [some (zR 4000000), some (zR 1), some (zR 89), some (zR 121), some (zI ((6 * c9 : Nat) : Int)), none, none] []) : zG (zFL l b L xs) k n Γ h 23 [some (zR 4000000), some (zR 1), some (zR 89), some (zR 121), some (zI ((6 * c9 : Nat) : Int)), none, none] [] := by
  refine z_il4 dL_law_23 ?_
  refine z_al0 dL_law_25 (by decide) ?_
  refine z_slenL hL hb4 dL_law_26 ?_
  refine z_bipush (x := 6) dL_law_27 (by rfl) (by decide) ?_
  refine z_isub dL_law_29 (by constructor <;> omega) ?_
  refine z_icmp_gt (t := 2016) dL_law_30 (by rfl) (fun _ => kend) (fun hle => kbody (by omega))
theorem zL_end (hk : k ≤ 601024) (hn : n ≤ 7293034) {ls : List (Option zV)} : zG (zFL l b L xs) k n Γ h 2016 ls [] := by
  refine z_iconst dL_law_2016 (by decide) ?_
  exact z_lend dL_law_2017 hk hn
theorem zL_next (hc : 6 * c9 + 6 ≤ L) (hL : L ≤ 3072) (kk : zG (zFL l b L xs) k n Γ h 23 [some (zR 4000000), some (zR 1), some (zR 89), some (zR 121), some (zI ((6 * (c9 + 1) : Nat) : Int)), none, none] []) : zG (zFL l b L xs) k n Γ h 2010 [some (zR 4000000), some (zR 1), some (zR 89), some (zR 121), some (zI ((6 * c9 : Nat) : Int)), none, none] [] := by
  refine z_ii4 dL_law_2010 (by constructor <;> omega) (Nat.le_of_ble_eq_true rfl) rfl ?_
  refine z_goto (t := 23) dL_law_2013 (by rfl) ?_
  rw [show ((6 * c9 : Nat) : Int) + 6 = ((6 * (c9 + 1) : Nat) : Int) by omega]
  exact kk

theorem zL_body (hfl : l.stackTraces = false) (hI : zIv Γ h) (hO : h 89 30 = -1) (hb4 : zad Γ 4000000 = b) (hL : L ≤ 3072) (hc : 6 * c9 + 6 ≤ L) (hkn : k + 3 ≤ 601024 ∧ n + 400 ≤ 7293034) (IH : ∀ Γ' h', zext Γ Γ' → zIv Γ' h' → h' 89 30 = -1 → zG (zFL l b L xs) (k + 3) (n + 400) Γ' h' 2010 [some (zR 4000000), some (zR 1), some (zR 89), some (zR 121), some (zI ((6 * c9 : Nat) : Int)), none, none] []) : zG (zFL l b L xs) k n Γ h 33 [some (zR 4000000), some (zR 1), some (zR 89), some (zR 121), some (zI ((6 * c9 : Nat) : Int)), none, none] [] := by
  refine z_al0 dL_law_33 (by decide) ?_
  refine z_il4 dL_law_34 ?_
  refine z_sld (j := 6 * c9) rfl (by omega) hL hb4 dL_law_36 ?_
  refine z_bipush (x := 63) dL_law_37 (by rfl) (by decide) ?_
  refine z_iand dL_law_39 ?_
  generalize zf_iand (xs (6 * c9)).toInt 63 = w
  by_cases hw : w < 0 ∨ 41 < w
  · refine z_tabOut (t := 2010) dL_law_40 hw (by rfl) ?_
    exact z_wid (by omega) (by omega) (IH _ _ (zext_rf _) hI hO)
  · rcases (show w = 0 ∨ w = 1 ∨ w = 2 ∨ w = 3 ∨ w = 4 ∨ w = 5 ∨ w = 6 ∨ w = 7 ∨ w = 8 ∨ w = 9 ∨ w = 10 ∨ w = 11 ∨ w = 12 ∨ w = 13 ∨ w = 14 ∨ w = 15 ∨ w = 16 ∨ w = 17 ∨ w = 18 ∨ w = 19 ∨ w = 20 ∨ w = 21 ∨ w = 22 ∨ w = 23 ∨ w = 24 ∨ w = 25 ∨ w = 26 ∨ w = 27 ∨ w = 28 ∨ w = 29 ∨ w = 30 ∨ w = 31 ∨ w = 32 ∨ w = 33 ∨ w = 34 ∨ w = 35 ∨ w = 36 ∨ w = 37 ∨ w = 38 ∨ w = 39 ∨ w = 40 ∨ w = 41 by omega) with rfl | rfl | rfl | rfl | rfl | rfl | rfl | rfl | rfl | rfl | rfl | rfl | rfl | rfl | rfl | rfl | rfl | rfl | rfl | rfl | rfl | rfl | rfl | rfl | rfl | rfl | rfl | rfl | rfl | rfl | rfl | rfl | rfl | rfl | rfl | rfl | rfl | rfl | rfl | rfl | rfl | rfl
    · refine z_tabIn (t := 224) dL_law_40 (by decide) (by decide) (by rfl) (by rfl) ?_
      exact zLc_0 hI hO hb4 hL hc hkn IH
    · refine z_tabIn (t := 297) dL_law_40 (by decide) (by decide) (by rfl) (by rfl) ?_
      exact zLc_1 hI hO hb4 hL hc hkn IH
    · refine z_tabIn (t := 322) dL_law_40 (by decide) (by decide) (by rfl) (by rfl) ?_
      exact zLc_2 hI hO hb4 hL hc hkn IH
    · refine z_tabIn (t := 347) dL_law_40 (by decide) (by decide) (by rfl) (by rfl) ?_
      exact zLc_3 hI hO hb4 hL hc hkn IH
    · refine z_tabIn (t := 372) dL_law_40 (by decide) (by decide) (by rfl) (by rfl) ?_
      exact zLc_4 hfl hI hO hb4 hL hc hkn IH
    · refine z_tabIn (t := 440) dL_law_40 (by decide) (by decide) (by rfl) (by rfl) ?_
      exact zLc_5 hI hO hb4 hL hc hkn IH
    · refine z_tabIn (t := 477) dL_law_40 (by decide) (by decide) (by rfl) (by rfl) ?_
      exact zLc_6 hI hO hb4 hL hc hkn IH
    · refine z_tabIn (t := 514) dL_law_40 (by decide) (by decide) (by rfl) (by rfl) ?_
      exact zLc_7 hI hO hb4 hL hc hkn IH
    · refine z_tabIn (t := 563) dL_law_40 (by decide) (by decide) (by rfl) (by rfl) ?_
      exact zLc_8 hI hO hb4 hL hc hkn IH
    · refine z_tabIn (t := 588) dL_law_40 (by decide) (by decide) (by rfl) (by rfl) ?_
      exact zLc_9 hI hO hb4 hL hc hkn IH
    · refine z_tabIn (t := 649) dL_law_40 (by decide) (by decide) (by rfl) (by rfl) ?_
      exact zLc_10 hI hO hb4 hL hc hkn IH
    · refine z_tabIn (t := 711) dL_law_40 (by decide) (by decide) (by rfl) (by rfl) ?_
      exact zLc_11 hI hO hb4 hL hc hkn IH
    · refine z_tabIn (t := 760) dL_law_40 (by decide) (by decide) (by rfl) (by rfl) ?_
      exact zLc_12 hI hO hb4 hL hc hkn IH
    · refine z_tabIn (t := 809) dL_law_40 (by decide) (by decide) (by rfl) (by rfl) ?_
      exact zLc_13 hI hO hb4 hL hc hkn IH
    · refine z_tabIn (t := 846) dL_law_40 (by decide) (by decide) (by rfl) (by rfl) ?_
      exact zLc_14 hI hO hb4 hL hc hkn IH
    · refine z_tabIn (t := 883) dL_law_40 (by decide) (by decide) (by rfl) (by rfl) ?_
      exact zLc_15 hI hO hb4 hL hc hkn IH
    · refine z_tabIn (t := 932) dL_law_40 (by decide) (by decide) (by rfl) (by rfl) ?_
      exact zLc_16 hI hO hb4 hL hc hkn IH
    · refine z_tabIn (t := 981) dL_law_40 (by decide) (by decide) (by rfl) (by rfl) ?_
      exact zLc_17 hI hO hb4 hL hc hkn IH
    · refine z_tabIn (t := 1018) dL_law_40 (by decide) (by decide) (by rfl) (by rfl) ?_
      exact zLc_18 hI hO hb4 hL hc hkn IH
    · refine z_tabIn (t := 1067) dL_law_40 (by decide) (by decide) (by rfl) (by rfl) ?_
      exact zLc_19 hI hO hb4 hL hc hkn IH
    · refine z_tabIn (t := 1080) dL_law_40 (by decide) (by decide) (by rfl) (by rfl) ?_
      exact zLc_20 hI hO hb4 hL hc hkn IH
    · refine z_tabIn (t := 1129) dL_law_40 (by decide) (by decide) (by rfl) (by rfl) ?_
      exact zLc_21 hI hO hb4 hL hc hkn IH
    · refine z_tabIn (t := 1190) dL_law_40 (by decide) (by decide) (by rfl) (by rfl) ?_
      exact zLc_22 hI hO hb4 hL hc hkn IH
    · refine z_tabIn (t := 1263) dL_law_40 (by decide) (by decide) (by rfl) (by rfl) ?_
      exact zLc_23 hI hO hb4 hL hc hkn IH
    · refine z_tabIn (t := 1288) dL_law_40 (by decide) (by decide) (by rfl) (by rfl) ?_
      exact zLc_24 hI hO hb4 hL hc hkn IH
    · refine z_tabIn (t := 1337) dL_law_40 (by decide) (by decide) (by rfl) (by rfl) ?_
      exact zLc_25 hI hO hb4 hL hc hkn IH
    · refine z_tabIn (t := 1418) dL_law_40 (by decide) (by decide) (by rfl) (by rfl) ?_
      exact zLc_26 hI hO hb4 hL hc hkn IH
    · refine z_tabIn (t := 1455) dL_law_40 (by decide) (by decide) (by rfl) (by rfl) ?_
      exact zLc_27 hI hO hb4 hL hc hkn IH
    · refine z_tabIn (t := 1480) dL_law_40 (by decide) (by decide) (by rfl) (by rfl) ?_
      exact zLc_28 hI hO hb4 hL hc hkn IH
    · refine z_tabIn (t := 1505) dL_law_40 (by decide) (by decide) (by rfl) (by rfl) ?_
      exact zLc_29 hI hO hb4 hL hc hkn IH
    · refine z_tabIn (t := 1542) dL_law_40 (by decide) (by decide) (by rfl) (by rfl) ?_
      exact zLc_30 hI hO hb4 hL hc hkn IH
    · refine z_tabIn (t := 1615) dL_law_40 (by decide) (by decide) (by rfl) (by rfl) ?_
      exact zLc_31 hI hO hb4 hL hc hkn IH
    · refine z_tabIn (t := 1652) dL_law_40 (by decide) (by decide) (by rfl) (by rfl) ?_
      exact zLc_32 hI hO hb4 hL hc hkn IH
    · refine z_tabIn (t := 1701) dL_law_40 (by decide) (by decide) (by rfl) (by rfl) ?_
      exact zLc_33 hI hO hb4 hL hc hkn IH
    · refine z_tabIn (t := 1750) dL_law_40 (by decide) (by decide) (by rfl) (by rfl) ?_
      exact zLc_34 hI hO hb4 hL hc hkn IH
    · refine z_tabIn (t := 1811) dL_law_40 (by decide) (by decide) (by rfl) (by rfl) ?_
      exact zLc_35 hI hO hb4 hL hc hkn IH
    · refine z_tabIn (t := 1860) dL_law_40 (by decide) (by decide) (by rfl) (by rfl) ?_
      exact zLc_36 hI hO hb4 hL hc hkn IH
    · refine z_tabIn (t := 1873) dL_law_40 (by decide) (by decide) (by rfl) (by rfl) ?_
      exact zLc_37 hI hO hb4 hL hc hkn IH
    · refine z_tabIn (t := 1910) dL_law_40 (by decide) (by decide) (by rfl) (by rfl) ?_
      exact zLc_38 hI hO hb4 hL hc hkn IH
    · refine z_tabIn (t := 1959) dL_law_40 (by decide) (by decide) (by rfl) (by rfl) ?_
      exact zLc_39 hI hO hb4 hL hc hkn IH
    · refine z_tabIn (t := 1972) dL_law_40 (by decide) (by decide) (by rfl) (by rfl) ?_
      exact zLc_40 hI hO hb4 hL hc hkn IH
    · refine z_tabIn (t := 1985) dL_law_40 (by decide) (by decide) (by rfl) (by rfl) ?_
      exact zLc_41 hI hO hb4 hL hc hkn IH
theorem zL_loop (hfl : l.stackTraces = false) (hL : L ≤ 3072) : ∀ (f c9 : Nat) (Γ : zC) (h : zM), zIv Γ h → h 89 30 = -1 → zad Γ 4000000 = b → 6 * c9 ≤ L → L < 6 * c9 + 6 + 6 * f → zG (zFL l b L xs) (121 + 3 * c9) (151901 + 400 * c9) Γ h 23 [some (zR 4000000), some (zR 1), some (zR 89), some (zR 121), some (zI ((6 * c9 : Nat) : Int)), none, none] [] := by
  intro f
  induction f with
  | zero =>
    intro c9 Γ h hI hO hb4 hc hf
    exact zL_head hL hb4 hc (zL_end (by omega) (by omega)) (fun h9 => by omega)
  | succ f ih =>
    intro c9 Γ h hI hO hb4 hc hf
    refine zL_head hL hb4 hc (zL_end (by omega) (by omega)) (fun h9 => ?_)
    refine zL_body hfl hI hO hb4 hL h9 ⟨by omega, by omega⟩ (fun Γ' h' X hI' hO' => ?_)
    refine zL_next h9 hL (z_wid (by omega) (by omega) (ih (c9 + 1) Γ' h' hI' hO' ((X.2.2 4000000 (Or.inr (by decide))).1.trans hb4) (by omega) (by omega)))
end ZLOOP
