/-! a CUSTOM taken: the class -/
theorem zci0 {l : Launch} {M0 M : zMI} {d dd mc ms mc9 ms9 k n : Nat} {Γ0 Γ : zC} {Q0 : Option zV → zC → zM → Prop} {h : zM} {pc idx : Nat} {ls : List (Option zV)} {rest : List zV} {r ci : Nat} (hd : decode M0.2.1 pc = .ok (.invokespecial idx, 3)) (hL : zLnk M0.1.cls idx M 0) (hI : Cond.instanceMethod M.1 ∈ zTB) (hnm : M.1.name = "<init>") (hret : M.2.2.2 = none) (hk : zkd Γ r = some (.inl ci)) (hcat : (rest.map zct).sum ≤ 8) (hm : M.2.2.1 ≤ 21) (hdd : d < dd) (hkn : k + mc9 ≤ mc ∧ n + ms9 ≤ ms) (hC : zCT l M d mc9 ms9 Γ [zR r] h (fun r' Γ' h' => zext Γ Γ' → zG (zFn l M0 dd mc ms Γ0 Q0) (k + mc9) (n + ms9) Γ' h' (pc + 3) ls (zres r' rest))) : zG (zFn l M0 dd mc ms Γ0 Q0) k n Γ h pc ls (zR r :: rest) := z_callI (args := []) hd hL hI hnm hret hk rfl hcat ⟨by show d + 1 ≤ dd; omega, by show 8 + (M.2.2.1 + 11) + 40 * d ≤ 40 * dd; omega⟩ hkn hC (fun _ _ _ hx hq => hq hx)
theorem zcvC0 {l : Launch} {M0 M : zMI} {d dd mc ms mc9 ms9 k n : Nat} {Γ0 Γ : zC} {Q0 : Option zV → zC → zM → Prop} {h : zM} {pc idx : Nat} {ls : List (Option zV)} {rest : List zV} {r ci : Nat} (hd : decode M0.2.1 pc = .ok (.invokevirtual idx, 3)) (hL : zLnk M0.1.cls idx M 0) (hI : Cond.instanceMethod M.1 ∈ zTB) (hsl : Cond.selects M.1.cls M.1 M.1 ∈ zTB) (hk : zkd Γ r = some (.inl ci)) (hci : ci < 10) (hcn : zCn ci = M.1.cls) (hcat : (rest.map zct).sum ≤ 8) (hm : M.2.2.1 ≤ 21) (hdd : d < dd) (hkn : k + mc9 ≤ mc ∧ n + ms9 ≤ ms) (hC : zCT l M d mc9 ms9 Γ [zR r] h (fun r' Γ' h' => zext Γ Γ' → zG (zFn l M0 dd mc ms Γ0 Q0) (k + mc9) (n + ms9) Γ' h' (pc + 3) ls (zres r' rest))) : zG (zFn l M0 dd mc ms Γ0 Q0) k n Γ h pc ls (zR r :: rest) := z_callV (args := []) hd hL hI hsl hk hci hcn rfl hcat ⟨by show d + 1 ≤ dd; omega, by show 8 + (M.2.2.1 + 11) + 40 * d ≤ 40 * dd; omega⟩ hkn hC (fun _ _ _ hx hq => hq hx)
theorem zci1 {l : Launch} {M0 M : zMI} {d dd mc ms mc9 ms9 k n : Nat} {Γ0 Γ : zC} {Q0 : Option zV → zC → zM → Prop} {h : zM} {pc idx : Nat} {ls : List (Option zV)} {rest : List zV} {r ci : Nat} {a0 : zV} (hd : decode M0.2.1 pc = .ok (.invokespecial idx, 3)) (hL : zLnk M0.1.cls idx M 1) (hI : Cond.instanceMethod M.1 ∈ zTB) (hnm : M.1.name = "<init>") (hret : M.2.2.2 = none) (hk : zkd Γ r = some (.inl ci)) (hcat : (rest.map zct).sum ≤ 8) (hm : M.2.2.1 ≤ 21) (hdd : d < dd) (hkn : k + mc9 ≤ mc ∧ n + ms9 ≤ ms) (hC : zCT l M d mc9 ms9 Γ [zR r, a0] h (fun r' Γ' h' => zext Γ Γ' → zG (zFn l M0 dd mc ms Γ0 Q0) (k + mc9) (n + ms9) Γ' h' (pc + 3) ls (zres r' rest))) : zG (zFn l M0 dd mc ms Γ0 Q0) k n Γ h pc ls (a0 :: zR r :: rest) := z_callI (args := [a0]) hd hL hI hnm hret hk rfl hcat ⟨by show d + 1 ≤ dd; omega, by show 8 + (M.2.2.1 + 11) + 40 * d ≤ 40 * dd; omega⟩ hkn hC (fun _ _ _ hx hq => hq hx)
theorem zcvC1 {l : Launch} {M0 M : zMI} {d dd mc ms mc9 ms9 k n : Nat} {Γ0 Γ : zC} {Q0 : Option zV → zC → zM → Prop} {h : zM} {pc idx : Nat} {ls : List (Option zV)} {rest : List zV} {r ci : Nat} {a0 : zV} (hd : decode M0.2.1 pc = .ok (.invokevirtual idx, 3)) (hL : zLnk M0.1.cls idx M 1) (hI : Cond.instanceMethod M.1 ∈ zTB) (hsl : Cond.selects M.1.cls M.1 M.1 ∈ zTB) (hk : zkd Γ r = some (.inl ci)) (hci : ci < 10) (hcn : zCn ci = M.1.cls) (hcat : (rest.map zct).sum ≤ 8) (hm : M.2.2.1 ≤ 21) (hdd : d < dd) (hkn : k + mc9 ≤ mc ∧ n + ms9 ≤ ms) (hC : zCT l M d mc9 ms9 Γ [zR r, a0] h (fun r' Γ' h' => zext Γ Γ' → zG (zFn l M0 dd mc ms Γ0 Q0) (k + mc9) (n + ms9) Γ' h' (pc + 3) ls (zres r' rest))) : zG (zFn l M0 dd mc ms Γ0 Q0) k n Γ h pc ls (a0 :: zR r :: rest) := z_callV (args := [a0]) hd hL hI hsl hk hci hcn rfl hcat ⟨by show d + 1 ≤ dd; omega, by show 8 + (M.2.2.1 + 11) + 40 * d ≤ 40 * dd; omega⟩ hkn hC (fun _ _ _ hx hq => hq hx)
theorem zci2 {l : Launch} {M0 M : zMI} {d dd mc ms mc9 ms9 k n : Nat} {Γ0 Γ : zC} {Q0 : Option zV → zC → zM → Prop} {h : zM} {pc idx : Nat} {ls : List (Option zV)} {rest : List zV} {r ci : Nat} {a0 a1 : zV} (hd : decode M0.2.1 pc = .ok (.invokespecial idx, 3)) (hL : zLnk M0.1.cls idx M 2) (hI : Cond.instanceMethod M.1 ∈ zTB) (hnm : M.1.name = "<init>") (hret : M.2.2.2 = none) (hk : zkd Γ r = some (.inl ci)) (hcat : (rest.map zct).sum ≤ 8) (hm : M.2.2.1 ≤ 21) (hdd : d < dd) (hkn : k + mc9 ≤ mc ∧ n + ms9 ≤ ms) (hC : zCT l M d mc9 ms9 Γ [zR r, a0, a1] h (fun r' Γ' h' => zext Γ Γ' → zG (zFn l M0 dd mc ms Γ0 Q0) (k + mc9) (n + ms9) Γ' h' (pc + 3) ls (zres r' rest))) : zG (zFn l M0 dd mc ms Γ0 Q0) k n Γ h pc ls (a1 :: a0 :: zR r :: rest) := z_callI (args := [a0, a1]) hd hL hI hnm hret hk rfl hcat ⟨by show d + 1 ≤ dd; omega, by show 8 + (M.2.2.1 + 11) + 40 * d ≤ 40 * dd; omega⟩ hkn hC (fun _ _ _ hx hq => hq hx)
theorem zcsC2 {l : Launch} {M0 M : zMI} {d dd mc ms mc9 ms9 k n : Nat} {Γ0 Γ : zC} {Q0 : Option zV → zC → zM → Prop} {h : zM} {pc idx : Nat} {ls : List (Option zV)} {rest : List zV} {a0 a1 : zV} (hd : decode M0.2.1 pc = .ok (.invokestatic idx, 3)) (hL : zLnk M0.1.cls idx M 2) (hI : Cond.static M.1 ∈ zTB) (hcat : (rest.map zct).sum ≤ 8) (hm : M.2.2.1 ≤ 21) (hdd : d < dd) (hkn : k + mc9 ≤ mc ∧ n + ms9 ≤ ms) (hC : zCT l M d mc9 ms9 Γ [a0, a1] h (fun r' Γ' h' => zext Γ Γ' → zG (zFn l M0 dd mc ms Γ0 Q0) (k + mc9) (n + ms9) Γ' h' (pc + 3) ls (zres r' rest))) : zG (zFn l M0 dd mc ms Γ0 Q0) k n Γ h pc ls (a1 :: a0 :: rest) := z_callS (args := [a0, a1]) hd hL hI rfl hcat ⟨by show d + 1 ≤ dd; omega, by show 8 + (M.2.2.1 + 11) + 40 * d ≤ 40 * dd; omega⟩ hkn hC (fun _ _ _ hx hq => hq hx)
theorem zclX2_39 : Cond.classLink RX2 39 (zCn 1) ∈ zTB := by decide +kernel
theorem zinX1 : Cond.instantiable (zCn 1) (zN 1) ∈ zTB := by decide +kernel
theorem znlX1 : Cond.initialized (zCn 1) ∈ zTB := by decide +kernel
theorem zimX1 : Cond.instanceMethod mX1_init.1 ∈ zTB := by decide +kernel
theorem zoiX1_3 : Cond.methodLink RX1 3 Lib.objectInit ∈ zTB := by decide +kernel
set_option maxRecDepth 4000 in
theorem J7_copyOf_ct {l : Launch} {Γ : zC} {h : zM} {Q : Option zV → zC → zM → Prop} {S : Nat} (hl9 : (zks Γ).length < 1000) (hsv : zsv Γ) (hk14 : zkd Γ 14 = some (.inr (0, 161))) (hS : S ≤ 160) (hv14 : 14 ≤ (zks Γ).length) (hQ : ∀ a h2, (∀ r, r ≤ (zks Γ).length → h2 r = h r) → (∀ j, j < S → h2 ((zks Γ).length + 1) j = h 14 j) → Q (some (zR ((zks Γ).length + 1))) (zpu Γ (.inr (0, S)) a) h2) : zCT l mJ7_copyOf_59c91 1 1 161 Γ [zR 14, zI (S : Nat)] h Q := by
  refine zCT_of (by decide) (Nat.le_of_ble_eq_true rfl) (ls := [some (zR 14), some (zI (S : Nat)), none]) rfl ?_
  refine z_il1 dJ7_copyOf_59c91_0 ?_
  refine z_al0 dJ7_copyOf_59c91_1 (by first | decide | omega | assumption) ?_
  refine z_alen dJ7_copyOf_59c91_2 hk14 (by decide) ?_
  refine z_icmp_ne (t := 14) dJ7_copyOf_59c91_3 (by rfl) (fun ht3 => ?_) (fun hf3 => ?_)
  · refine z_il1 dJ7_copyOf_59c91_14 ?_
    refine z_newI dJ7_copyOf_59c91_15 (by omega) (by show 0 + 1 ≤ 1; omega) (by show 0 + ((S : Nat) : Int).toNat ≤ 161; omega) (by omega) hsv (fun a => ?_)
    rw [show ((S : Nat) : Int).toNat = S from Int.toNat_natCast S]
    refine z_as2 dJ7_copyOf_59c91_17 (Nat.le_of_ble_eq_true rfl) rfl (by first | decide | omega | assumption) ?_
    refine z_al0 dJ7_copyOf_59c91_18 (by first | decide | omega | assumption) ?_
    refine z_iconst dJ7_copyOf_59c91_19 (by decide) ?_
    refine z_al2 dJ7_copyOf_59c91_20 (by first | decide | omega | assumption) ?_
    refine z_iconst dJ7_copyOf_59c91_21 (by decide) ?_
    refine z_al0 dJ7_copyOf_59c91_22 (by first | decide | omega | assumption) ?_
    refine z_alen dJ7_copyOf_59c91_23 (zpu_kd hk14) (by decide) ?_
    refine z_il1 dJ7_copyOf_59c91_24 ?_
    refine z_mmin dJ7_copyOf_59c91_25 zkJ7_304 ztJ9_min_7cf53 (Nat.le_of_ble_eq_true rfl) (by first | decide | omega) ⟨by omega, by omega⟩ ?_
    rw [show (if ((S : Nat) : Int) < ((161 : Nat) : Int) then ((S : Nat) : Int) else ((161 : Nat) : Int)) = ((S : Nat) : Int) by rw [if_pos (by omega)]]
    refine z_copy dJ7_copyOf_59c91_28 zcpyJ7_150 (zpu_kd hk14) (zpu_kn _ _ _) (by omega) (by omega) (by omega) (Nat.le_of_ble_eq_true rfl) (Nat.le_of_ble_eq_true rfl) (by decide) ?_
    try rw [show ((S : Nat) : Int).toNat = S from Int.toNat_natCast S]
    refine z_al2 dJ7_copyOf_59c91_31 (by first | decide | omega | assumption) ?_
    refine z_aret dJ7_copyOf_59c91_32 rfl (Or.inr ⟨_, rfl⟩) (by omega) (by omega) (zpu_ext (by omega)) ?_
    exact hQ a _ (fun r hr => by rw [zcpy_row (by omega), zrw_row (by omega)]) (fun j hj => by rw [zcpy_at _ _ _ _ (by omega), zrw_row (by omega)])
  · exfalso; omega
set_option maxRecDepth 4000 in
theorem X1_init_ct {l : Launch} {Γ : zC} {h : zM} {Q : Option zV → zC → zM → Prop} {S r : Nat} (hl9 : (zks Γ).length < 1000) (hsv : zsv Γ) (hk14 : zkd Γ 14 = some (.inr (0, 161))) (hS : S ≤ 160) (hv14 : 14 ≤ (zks Γ).length) (hr0 : r ≠ 0) (hrl : r ≤ (zks Γ).length) (h14 : r ≠ 14) (hkr : zkd Γ r = some (.inl 1)) (hs0 : zsr Γ r 0 = none) (hs1 : zsr Γ r 1 = none) (hQ : ∀ a1 a2 h2, (∀ q, q ≤ (zks Γ).length → q ≠ r → h2 q = h q) → h2 r 0 = (((zks Γ).length + 1 : Nat) : Int) → h2 r 1 = (((zks Γ).length + 2 : Nat) : Int) → (∀ j, j < S → h2 ((zks Γ).length + 1) j = h 14 j) → Q none (zpu (zpu Γ (.inr (0, S)) a1) (.inr (0, S + 1)) a2) h2) : zCT l mX1_init 2 2 398 Γ [zR r, zR 14, zI (S : Nat)] h Q := by
  refine zCT_of (by decide) (Nat.le_of_ble_eq_true rfl) (ls := [some (zR r), some (zR 14), some (zI (S : Nat)), none]) rfl ?_
  refine z_al0 dX1_init_0 (by first | decide | omega | assumption) ?_
  refine z_objI dX1_init_1 zoiX1_3 hkr (Nat.le_of_ble_eq_true rfl) (Nat.le_of_ble_eq_true rfl) (by decide) ?_
  refine z_il2 dX1_init_4 ?_
  refine z_if_ge (t := 12) dX1_init_5 (by rfl) (fun ht5 => ?_) (fun hf5 => ?_)
  · refine z_il2 dX1_init_12 ?_
    refine z_al1 dX1_init_13 (by first | decide | omega | assumption) ?_
    refine z_alen dX1_init_14 hk14 (by decide) ?_
    refine z_icmp_le (t := 23) dX1_init_15 (by rfl) (fun ht15 => ?_) (fun hf15 => ?_)
    · refine z_il2 dX1_init_23 ?_
      refine z_is3 dX1_init_24 (Nat.le_of_ble_eq_true rfl) rfl ?_
      refine z_al0 dX1_init_25 (by first | decide | omega | assumption) ?_
      refine z_al1 dX1_init_26 (by first | decide | omega | assumption) ?_
      refine z_il3 dX1_init_27 ?_
      refine zcsC2 (mc9 := 1) (ms9 := 161) dX1_init_28 zkX1_9 ztJ7_copyOf_59c91 (Nat.le_of_ble_eq_true rfl) (Nat.le_of_ble_eq_true rfl) (by omega) ⟨by omega, by omega⟩ (J7_copyOf_ct hl9 hsv hk14 hS hv14 (fun a1 h2 hE1 hV1 hx1 => ?_))
      try simp only [zres]
      refine z_putRF zfX1_15 dX1_init_31 (zpu_kd hkr) (Or.inr ⟨_, rfl⟩) rfl rfl rfl rfl ((zpu_sr (Γ := Γ) (by omega)).trans hs0) ?_
      refine z_al0 dX1_init_34 (by first | decide | omega | assumption) ?_
      refine z_il3 dX1_init_35 ?_
      refine z_iconst dX1_init_36 (by decide) ?_
      refine z_iadd dX1_init_37 (by omega) ?_
      refine z_newI dX1_init_38 (by omega) (by show 0 + 1 + 1 ≤ 2; omega) (by show 0 + 161 + (((S : Nat) : Int) + 1).toNat ≤ 398; omega) (by rw [zpu_len]; omega) (zpu_sv hsv) (fun a2 => ?_)
      rw [show (((S : Nat) : Int) + 1).toNat = S + 1 by omega, zpu_len]
      refine z_putRF zfX1_21 dX1_init_40 (zpu_kd (zpu_kd hkr)) (Or.inr ⟨_, rfl⟩) rfl rfl rfl rfl ((zpu_sr (Γ := zpu Γ (.inr (0, S)) a1) (by rw [zpu_len]; omega)).trans ((zpu_sr (Γ := Γ) (by omega)).trans hs1)) ?_
      refine z_ret dX1_init_43 rfl (by omega) (by omega) (zext_tr hx1 (zpu_ext (by rw [zpu_len]; omega))) ?_
      refine hQ a1 a2 _ (fun q h1 h9 => ?_) ?_ (zup_rj _ _ _ _) (fun j hj => ?_)
      · rw [zup_row h9, zrw_row (by omega), zup_row h9]; exact hE1 q h1
      · rw [zup_ap, if_neg (fun x => absurd x.2 (by decide)), zrw_row (by omega), zup_rj]
      · rw [zup_row (by omega), zrw_row (by omega), zup_row (by omega)]; exact hV1 j hj
    · exfalso; omega
  · exfalso; omega
theorem zsrG_0 {r : Nat} (h : 121 < r) (h2 : r % 3 = 2) : zsrG r 0 = some (r + 1) := by
  unfold zsrG
  rw [if_neg (by omega), if_neg (by omega), if_neg (by omega), if_neg (by omega), if_pos h, if_pos h2, if_pos (by decide)]
theorem zsrG_1 {r : Nat} (h : 121 < r) (h2 : r % 3 = 2) : zsrG r 1 = some (r + 2) := by
  unfold zsrG
  rw [if_neg (by omega), if_neg (by omega), if_neg (by omega), if_neg (by omega), if_pos h, if_pos h2, if_pos (by decide)]
theorem zsrG_n {r j : Nat} (h : 121 < r) (h2 : r % 3 ≠ 2 ∨ 2 ≤ j) : zsrG r j = none := by
  unfold zsrG
  rw [if_neg (by omega), if_neg (by omega), if_neg (by omega), if_neg (by omega), if_pos h]
  split
  · rw [if_neg (by omega)]
  · rfl
set_option maxRecDepth 4000 in
theorem X2_compiled_ct {l : Launch} {Γ : zC} {h : zM} {Q : Option zV → zC → zM → Prop} {S c : Nat} (hΓ : zBase Γ) (hn : (zks Γ).length = 121 + 3 * c) (hc : c < 4) (hsv : zsv Γ) (hS : S ≤ 160) (h13 : h 13 2 = ((S : Nat) : Int)) (hQ : ∀ Γ' h2, zext Γ Γ' → zBase Γ' → zks Γ' = zks Γ ++ [.inl 1, .inr (0, S), .inr (0, S + 1)] → (∀ r, r ≤ (zks Γ).length → h2 r = h r) → (∀ j, j < S → h2 ((zks Γ).length + 2) j = h 14 j) → Q (some (zR ((zks Γ).length + 1))) Γ' h2) : zCT l mX2_compiled 3 3 400 Γ [zR 13] h Q := by
  have hl9 : (zks Γ).length < 900000 := by omega
  refine zCT_of (by decide) (Nat.le_of_ble_eq_true rfl) (ls := [some (zR 13)]) rfl ?_
  refine z_new (ci := 1) dX2_compiled_0 (by decide) zclX2_39 zinX1 znlX1 (by show 0 + 1 ≤ 3; omega) (Nat.le_of_ble_eq_true rfl) (by omega) hsv (fun a => ?_)
  refine z_dup dX2_compiled_3 rfl ?_
  refine z_al0 dX2_compiled_4 (by first | decide | omega | assumption) ?_
  refine z_getR zfX2_15 dX2_compiled_5 (zpu_kd (zkB hΓ rfl)) rfl (by rw [zpu_sr (by omega)]; exact zsB hΓ rfl) (zpu_vr (zvB hΓ (by decide))) ?_
  refine z_al0 dX2_compiled_8 (by first | decide | omega | assumption) ?_
  refine z_getI zfX2_19 dX2_compiled_9 (zpu_kd (zkB hΓ rfl)) rfl ?_
  rw [zrw_row (by omega), h13]
  try simp only [zup_ap, zup_row, ne_eq, not_false_eq_true, zres, Int.toNat_natCast, reduceIte, Nat.reduceEqDiff, Nat.reduceAdd, and_self, and_true, true_and, and_false, false_and]
  refine zci2 (mc9 := 2) (ms9 := 398) dX2_compiled_12 zkX2_41 zimX1 rfl rfl (zpu_kn _ _ _) (Nat.le_of_ble_eq_true rfl) (Nat.le_of_ble_eq_true rfl) (by omega) ⟨by omega, by show 0 + 2 + 398 ≤ 400; omega⟩ (X1_init_ct (by rw [zpu_len]; omega) (zpu_sv hsv) (zpu_kd (zkB hΓ rfl)) hS (by rw [zpu_len]; omega) (by omega) (by rw [zpu_len]; omega) (by omega) (zpu_kn _ _ _) (zpu_sn _ _ _ _) (zpu_sn _ _ _ _) (fun a1 a2 h2 hE h20 h21 hV hx1 => ?_))
  try simp only [zres]
  rw [zpu_len] at hE h20 h21 hV
  refine z_sr (S := zsrG) (fun r hr1 hr2 j => ?_) ?_
  · rw [zpu_len, zpu_len, zpu_len] at hr2
    by_cases e1 : r ≤ (zks Γ).length
    · rw [zpu_sr (by rw [zpu_len, zpu_len]; omega), zpu_sr (by rw [zpu_len]; omega), zpu_sr (by omega), hΓ.1]
    · have hn3 : zsr (zpu (zpu (zpu Γ (.inl 1) a) (.inr (0, S)) a1) (.inr (0, S + 1)) a2) r j = none := by
        by_cases e3 : r = (zks Γ).length + 3
        · rw [e3]
          have h9 := zpu_sn (zpu (zpu Γ (.inl 1) a) (.inr (0, S)) a1) (.inr (0, S + 1)) a2 j
          rw [zpu_len, zpu_len] at h9
          exact h9
        · rw [zpu_sr (by rw [zpu_len, zpu_len]; omega)]
          by_cases e2 : r = (zks Γ).length + 2
          · rw [e2]
            have h9 := zpu_sn (zpu Γ (.inl 1) a) (.inr (0, S)) a1 j
            rw [zpu_len] at h9
            exact h9
          · rw [zpu_sr (by rw [zpu_len]; omega), show r = (zks Γ).length + 1 by omega]
            exact zpu_sn _ _ _ _
      rw [hn3]
      by_cases e2 : r = (zks Γ).length + 1
      · subst e2
        rcases (show j = 0 ∨ j = 1 ∨ 2 ≤ j by omega) with rfl | rfl | hj
        · rw [zsrG_0 (by omega) (by omega), h20]; rfl
        · rw [zsrG_1 (by omega) (by omega), h21]; rfl
        · rw [zsrG_n (by omega) (Or.inr hj)]
      · rw [zsrG_n (by omega) (Or.inl (by omega))]
  refine z_aret dX2_compiled_15 rfl (Or.inl ⟨_, rfl⟩) (by show 0 + 1 + 2 ≤ 3; omega) (by show 0 + 2 + 398 ≤ 400; omega) (zext_tr (zext_tr (zpu_ext (by omega)) hx1) (zsw_ext _ _)) ?_
  refine hQ _ _ (zext_tr (zext_tr (zpu_ext (by omega)) hx1) (zsw_ext _ _)) ⟨rfl, ?_⟩ (by show ((zks Γ ++ [_]) ++ [_]) ++ [_] = _; simp) (fun r hr => ?_) (fun j hj => ?_)
  · obtain ⟨-, ext, he⟩ := hΓ
    exact ⟨ext ++ [.inl 1, .inr (0, S), .inr (0, S + 1)], by show ((zks Γ ++ [_]) ++ [_]) ++ [_] = _; rw [he]; simp⟩
  · rw [hE r (by omega) (by omega), zrw_row (by omega)]
  · rw [hV j hj, zrw_row (by omega)]
def zsrB : Bool := zsrT.all (fun l => l.all (fun x => match x with | some p => Nat.ble p 121 || Nat.ble 1000000 p | none => true))
theorem zsrB_ok : zsrB = true := by decide +kernel
theorem zsrL_b {r j p : Nat} (h : zsrL r j = some p) : p ≤ 121 ∨ 1000000 ≤ p := by
  have h0 := zsrB_ok
  unfold zsrB at h0
  unfold zsrL at h
  cases e1 : zsrT[r]? with
  | none =>
    rw [e1] at h
    have h2 : ([] : List (Option Nat))[j]?.getD none = some p := h
    cases h2
  | some l =>
    rw [e1] at h
    have h2 : l[j]?.getD none = some p := h
    cases e2 : l[j]? with
    | none => rw [e2] at h2; cases h2
    | some x =>
      rw [e2] at h2
      have h3 : x = some p := h2
      subst h3
      have h4 := List.all_eq_true.mp (List.all_eq_true.mp h0 l (List.mem_of_getElem? e1)) _ (List.mem_of_getElem? e2)
      rcases Bool.or_eq_true_iff.mp h4 with h5 | h5
      · exact Or.inl (Nat.le_of_ble_eq_true h5)
      · exact Or.inr (Nat.le_of_ble_eq_true h5)
theorem zsv_base {Γ : zC} {c : Nat} (hΓ : zBase Γ) (hn : (zks Γ).length = 121 + 3 * c) : zsv Γ := fun r j p hr hs => by
  rw [hΓ.1] at hs
  show p ≤ (zks Γ).length ∨ 1000000 ≤ p
  unfold zsrG at hs
  split at hs
  · split at hs
    · cases hs; omega
    · cases hs
  · split at hs
    · split at hs
      · cases hs; omega
      · cases hs
    · split at hs
      · split at hs
        · cases hs; omega
        · cases hs
      · split at hs
        · split at hs
          · cases hs; omega
          · cases hs
        · split at hs
          · split at hs
            · split at hs
              · cases hs; omega
              · cases hs
            · cases hs
          · have := zsrL_b hs; omega
set_option maxRecDepth 4000 in
theorem X7_addCustom_ct {l : Launch} {Γ : zC} {h : zM} {Q : Option zV → zC → zM → Prop} {c x : Nat} (hΓ : zBase Γ) (hc9 : h 15 3 = (c : Int)) (hc : c < 4) (hx0 : x ≠ 0) (hkx : zkd Γ x = some (.inl 1)) (hQ : Q (some (zI (c : Int))) Γ (zup (zup h 33 c (x : Nat)) 15 3 ((c : Int) + 1))) : zCT l mX7_addCustom 0 0 0 Γ [zR 15, zR x] h Q := by
  refine zCT_of (by decide) (Nat.le_of_ble_eq_true rfl) (ls := [some (zR 15), some (zR x)]) rfl ?_
  refine z_al0 dX7_addCustom_0 (by first | decide | omega | assumption) ?_
  refine z_getI zfX7_48 dX7_addCustom_1 (zkB hΓ rfl) rfl ?_
  try rw [zup_row (show (15 : Nat) ≠ 33 by decide)]
  try rw [hc9]
  try simp only [zup_ap, zup_row, ne_eq, not_false_eq_true, zres, Int.toNat_natCast, reduceIte, Nat.reduceEqDiff, Nat.reduceAdd, and_self, and_true, true_and, and_false, false_and]
  refine z_if_lt (t := 15) dX7_addCustom_4 (by rfl) (fun ht4 => ?_) (fun hf4 => ?_)
  · exfalso; omega
  · refine z_al0 dX7_addCustom_7 (by first | decide | omega | assumption) ?_
    refine z_getI zfX7_48 dX7_addCustom_8 (zkB hΓ rfl) rfl ?_
    try rw [zup_row (show (15 : Nat) ≠ 33 by decide)]
    try rw [hc9]
    try simp only [zup_ap, zup_row, ne_eq, not_false_eq_true, zres, Int.toNat_natCast, reduceIte, Nat.reduceEqDiff, Nat.reduceAdd, and_self, and_true, true_and, and_false, false_and]
    refine z_iconst dX7_addCustom_11 (by decide) ?_
    refine z_icmp_lt (t := 17) dX7_addCustom_12 (by rfl) (fun ht12 => ?_) (fun hf12 => ?_)
    · refine z_al0 dX7_addCustom_17 (by first | decide | omega | assumption) ?_
      refine z_getR zfX7_31 dX7_addCustom_18 (zkB hΓ rfl) rfl (zsB hΓ rfl) (zvB hΓ (by decide)) ?_
      refine z_al0 dX7_addCustom_21 (by first | decide | omega | assumption) ?_
      refine z_getI zfX7_48 dX7_addCustom_22 (zkB hΓ rfl) rfl ?_
      try rw [zup_row (show (15 : Nat) ≠ 33 by decide)]
      try rw [hc9]
      try simp only [zup_ap, zup_row, ne_eq, not_false_eq_true, zres, Int.toNat_natCast, reduceIte, Nat.reduceEqDiff, Nat.reduceAdd, and_self, and_true, true_and, and_false, false_and]
      refine z_al1 dX7_addCustom_25 (by first | decide | omega | assumption) ?_
      refine z_aast dX7_addCustom_26 (zkB hΓ rfl) hkx (by omega) (by omega) (zsN hΓ rfl) ?_
      refine z_al0 dX7_addCustom_27 (by first | decide | omega | assumption) ?_
      refine z_dup dX7_addCustom_28 rfl ?_
      refine z_getI zfX7_48 dX7_addCustom_29 (zkB hΓ rfl) rfl ?_
      try rw [zup_row (show (15 : Nat) ≠ 33 by decide)]
      try rw [hc9]
      try simp only [zup_ap, zup_row, ne_eq, not_false_eq_true, zres, Int.toNat_natCast, reduceIte, Nat.reduceEqDiff, Nat.reduceAdd, and_self, and_true, true_and, and_false, false_and]
      refine z_iconst dX7_addCustom_32 (by decide) ?_
      refine z_iadd dX7_addCustom_33 (by omega) ?_
      refine z_putI zfX7_48 dX7_addCustom_34 (zkB hΓ rfl) rfl rfl ?_
      refine z_al0 dX7_addCustom_37 (by first | decide | omega | assumption) ?_
      refine z_getI zfX7_48 dX7_addCustom_38 (zkB hΓ rfl) rfl ?_
      try rw [zup_row (show (15 : Nat) ≠ 33 by decide)]
      try rw [hc9]
      try simp only [zup_ap, zup_row, ne_eq, not_false_eq_true, zres, Int.toNat_natCast, reduceIte, Nat.reduceEqDiff, Nat.reduceAdd, and_self, and_true, true_and, and_false, false_and]
      refine z_iconst dX7_addCustom_41 (by decide) ?_
      refine z_isub dX7_addCustom_42 (by omega) ?_
      refine z_iret dX7_addCustom_43 rfl (Nat.le_refl _) (Nat.le_refl _) (zext_rf _) (fun hrr => ?_)
      rw [show (c : Int) + 1 - 1 = (c : Int) by omega]
      try simp only [Int.toNat_natCast]
      exact hQ
    · exfalso; omega
set_option maxRecDepth 4000 in
theorem X8_takeCustom_ct {l : Launch} {Γ : zC} {h : zM} {Q : Option zV → zC → zM → Prop} {S c : Nat} (hΓ : zBase Γ) (hn : (zks Γ).length = 121 + 3 * c) (hc : c < 4) (hS : S ≤ 160) (h13 : h 13 2 = ((S : Nat) : Int)) (h15 : h 15 3 = (c : Int)) (hQ : ∀ Γ' h2, zext Γ Γ' → zBase Γ' → zks Γ' = zks Γ ++ [.inl 1, .inr (0, S), .inr (0, S + 1)] → (∀ r, r ≤ (zks Γ).length → h2 r = zup h 2 1 0 r) → (∀ j, j < S → h2 ((zks Γ).length + 2) j = zup h 2 1 0 14 j) → Q (some (zI (c : Int))) Γ' (zup (zup h2 33 c (((zks Γ).length + 1 : Nat) : Int)) 15 3 ((c : Int) + 1))) : zCT l mX8_takeCustom 4 3 400 Γ [zR 1] h Q := by
  refine zCT_of (by decide) (Nat.le_of_ble_eq_true rfl) (ls := [some (zR 1)]) rfl ?_
  refine z_al0 dX8_takeCustom_0 (by first | decide | omega | assumption) ?_
  refine z_getR zfX8_10 dX8_takeCustom_1 (zkB hΓ rfl) rfl (zsB hΓ rfl) (zvB hΓ (by decide)) ?_
  refine z_iconst dX8_takeCustom_4 (by decide) ?_
  refine z_putI zfX8_87 dX8_takeCustom_5 (zkB hΓ rfl) rfl rfl ?_
  refine z_al0 dX8_takeCustom_8 (by first | decide | omega | assumption) ?_
  refine z_getR zfX8_35 dX8_takeCustom_9 (zkB hΓ rfl) rfl (zsB hΓ rfl) (zvB hΓ (by decide)) ?_
  refine z_al0 dX8_takeCustom_12 (by first | decide | omega | assumption) ?_
  refine z_getR zfX8_28 dX8_takeCustom_13 (zkB hΓ rfl) rfl (zsB hΓ rfl) (zvB hΓ (by decide)) ?_
  refine zcvC0 (mc9 := 3) (ms9 := 400) dX8_takeCustom_16 zkX8_314 ziX2_compiled zsX2_compiled (zkB hΓ rfl) (by decide) rfl (by decide) (Nat.le_of_ble_eq_true rfl) (by omega) ⟨by omega, by omega⟩ (X2_compiled_ct (S := S) (c := c) hΓ hn hc (zsv_base hΓ hn) hS (by rw [zup_row (by decide)]; exact h13) (fun Γ' h2 hx hΓ' hks hE hV hx2 => ?_))
  try simp only [zres]
  have hkx : zkd Γ' ((zks Γ).length + 1) = some (.inl 1) := by
    show (zks Γ')[(zks Γ).length]? = _
    rw [hks, List.getElem?_append_right (Nat.le_refl _), Nat.sub_self]; rfl
  refine zcv1 dX8_takeCustom_19 zkX8_318 ziX7_addCustom zsX7_addCustom (zkB hΓ' rfl) (by decide) rfl (Nat.le_of_ble_eq_true rfl) (by decide) (by first | decide | omega) ⟨by omega, by omega⟩ (X7_addCustom_ct (c := c) hΓ' (by rw [hE 15 (by omega), zup_row (by decide)]; exact h15) hc (by omega) hkx (fun _ => ?_))
  try simp only [zup_ap, zup_row, ne_eq, not_false_eq_true, zres, Int.toNat_natCast, reduceIte, Nat.reduceEqDiff, Nat.reduceAdd, and_self, and_true, true_and, and_false, false_and]
  refine z_iret dX8_takeCustom_22 rfl (by omega) (by omega) hx (fun hrr => ?_)
  exact hQ Γ' h2 hx hΓ' hks hE hV
theorem zPv_len {t : Nat → Int} {n : Nat} (hn : n ≤ 160) (h : (zPv t n).1 = true) : (zPv t n).2.2.length ≤ 160 := by
  have h1 := zPv_e (t := t) hn
  obtain ⟨b, p, c, hr⟩ : ∃ b p c, zPv t n = (b, p, c) := ⟨_, _, _, rfl⟩
  rw [hr] at h h1 ⊢
  cases h
  have h2 := zP_b _ _ _ _ _ _ _ _ h1
  have h3 := zskip_b t n 0
  simp only [show ¬ (13 : Nat) = 11 by decide, if_false] at h2
  show c.length ≤ 160
  omega
set_option maxRecDepth 4000 in
theorem X8_text_ct {l : Launch} {Γ : zC} {h0 h : zM} {Q : Option zV → zC → zM → Prop} {n c : Nat} {s : Int} (hΓ : zBase Γ) (hnk : (zks Γ).length = 121 + 3 * c) (hc4 : c ≤ 4) (hn1 : h0 2 1 = (n : Int)) (hn2 : n ≤ 160) (ht : ∀ j, j < n → 0 ≤ h0 3 j ∧ h0 3 j ≤ 255) (h15 : h0 15 3 = (c : Int)) (hF : zfr zSS h0 h) (hA : s = 0 → (zIs (h0 3) n).1 = true → ∀ h9, zIc h0 h9 (zIs (h0 3) n).2.2.1 (zIs (h0 3) n).2.2.2 → Q (some (zI ((zIs (h0 3) n).2.2.1.length : Int))) Γ h9) (hB : s = 1 → c < 4 → (zPv (h0 3) n).1 = true → ∀ h1, zfr zSS h0 h1 → (∀ i, i < (zPv (h0 3) n).2.2.length → h1 14 i = (zPv (h0 3) n).2.2.getD i 0) → ∀ Γ' h2, zext Γ Γ' → zBase Γ' → zks Γ' = zks Γ ++ [.inl 1, .inr (0, (zPv (h0 3) n).2.2.length), .inr (0, (zPv (h0 3) n).2.2.length + 1)] → (∀ r, r ≤ (zks Γ).length → h2 r = zup h1 2 1 0 r) → (∀ j, j < (zPv (h0 3) n).2.2.length → h2 ((zks Γ).length + 2) j = zup h1 2 1 0 14 j) → Q (some (zI (c : Int))) Γ' (zup (zup h2 33 c (((zks Γ).length + 1 : Nat) : Int)) 15 3 ((c : Int) + 1))) (hC : ¬ (s = 0 ∧ (zIs (h0 3) n).1 = true) → ¬ (s = 1 ∧ c < 4 ∧ (zPv (h0 3) n).1 = true) → ∀ h9, zfr zSS h0 h9 → Q (some (zI (-1))) Γ h9) : zCT l mX8_text 835 3 400 Γ [zR 1, zI s] h Q := by
  refine zCT_of (by decide) (Nat.le_of_ble_eq_true rfl) (ls := [some (zR 1), some (zI s)]) rfl ?_
  refine z_il1 dX8_text_0 ?_
  refine z_if_ne (t := 23) dX8_text_1 (by rfl) (fun ht1 => ?_) (fun hf1 => ?_)
  · skip
    refine z_il1 dX8_text_23 ?_
    refine z_iconst dX8_text_24 (by decide) ?_
    refine z_icmp_ne (t := 54) dX8_text_25 (by rfl) (fun ht25 => ?_) (fun hf25 => ?_)
    · first
      | (exfalso; omega)
      | (refine z_iconst dX8_text_54 (by decide) ?_
         refine z_iret dX8_text_55 rfl (by omega) (by omega) (zext_rf _) (fun hrr => ?_)
         first
         | exact hC (fun x => by omega) (fun x => by omega) _ hF
         | exact hC (fun x => by rw [hb] at x; exact absurd x.2 (by decide)) (fun x => by omega) _ hF9
         | exact hC (fun x => by omega) (fun x => by rw [hb] at x; exact absurd x.2.2 (by decide)) _ hF9)
    · first
      | (exfalso; omega)
      | (refine z_al0 dX8_text_28 (by first | decide | omega | assumption) ?_
         refine z_getR zfX8_35 dX8_text_29 (zkB hΓ rfl) rfl (zsB hΓ rfl) (zvB hΓ (by decide)) ?_
         refine z_getI zfX8_108 dX8_text_32 (zkB hΓ rfl) rfl ?_
         rw [hF 15 3 rfl, h15]
         try simp only [zup_ap, zup_row, ne_eq, not_false_eq_true, zres, Int.toNat_natCast, reduceIte, Nat.reduceEqDiff, Nat.reduceAdd, and_self, and_true, true_and, and_false, false_and]
         refine z_iconst dX8_text_35 (by decide) ?_
         refine z_icmp_ge (t := 54) dX8_text_36 (by rfl) (fun ht36 => ?_) (fun hf36 => ?_)
         · refine z_iconst dX8_text_54 (by decide) ?_
           refine z_iret dX8_text_55 rfl (by omega) (by omega) (zext_rf _) (fun hrr => ?_)
           first
           | exact hC (fun x => by omega) (fun x => by omega) _ hF
           | exact hC (fun x => by rw [hb] at x; exact absurd x.2 (by decide)) (fun x => by omega) _ hF9
           | exact hC (fun x => by omega) (fun x => by rw [hb] at x; exact absurd x.2.2 (by decide)) _ hF9
         · refine z_al0 dX8_text_39 (by first | decide | omega | assumption) ?_
           refine z_getR zfX8_28 dX8_text_40 (zkB hΓ rfl) rfl (zsB hΓ rfl) (zvB hΓ (by decide)) ?_
           refine zcv0 dX8_text_43 zkX8_101 ziX2_read zsX2_read (zkB hΓ rfl) (by decide) rfl (Nat.le_of_ble_eq_true rfl) (by decide) (by first | decide | omega) ⟨by omega, by omega⟩ (X2_read2 hΓ hn1 hn2 hF (fun hb h hF9 hp9 _ => ?_) (fun hb h hF9 hs9 hc9 _ => ?_))
           · try simp only [zup_ap, zup_row, ne_eq, not_false_eq_true, zres, Int.toNat_natCast, reduceIte, Nat.reduceEqDiff, Nat.reduceAdd, and_self, and_true, true_and, and_false, false_and]
             refine z_if_eq (t := 54) dX8_text_46 (by rfl) (fun _ => ?_) (fun hx => absurd hx (by decide))
             refine z_iconst dX8_text_54 (by decide) ?_
             refine z_iret dX8_text_55 rfl (by omega) (by omega) (zext_rf _) (fun hrr => ?_)
             first
             | exact hC (fun x => by omega) (fun x => by omega) _ hF
             | exact hC (fun x => by rw [hb] at x; exact absurd x.2 (by decide)) (fun x => by omega) _ hF9
             | exact hC (fun x => by omega) (fun x => by rw [hb] at x; exact absurd x.2.2 (by decide)) _ hF9
           · try simp only [zup_ap, zup_row, ne_eq, not_false_eq_true, zres, Int.toNat_natCast, reduceIte, Nat.reduceEqDiff, Nat.reduceAdd, and_self, and_true, true_and, and_false, false_and]
             refine z_if_eq (t := 54) dX8_text_46 (by rfl) (fun hx => absurd hx (by decide)) (fun _ => ?_)
             refine z_al0 dX8_text_49 (by first | decide | omega | assumption) ?_
             refine zcvC0 (mc9 := 3) (ms9 := 400) dX8_text_50 zkX8_111 ziX8_takeCustom zsX8_takeCustom (zkB hΓ rfl) (by decide) rfl (by decide) (Nat.le_of_ble_eq_true rfl) (by omega) ⟨by omega, by omega⟩ (X8_takeCustom_ct (S := (zPv (h0 3) n).2.2.length) (c := c) hΓ hnk (by omega) (zPv_len hn2 hb) hs9 (by rw [hF9 15 3 rfl]; exact h15) (fun Γ' h2 hx hΓ' hks hE hV hx2 => ?_))
             try simp only [zres]
             refine z_iret dX8_text_53 rfl (by omega) (by omega) hx (fun hrr => ?_)
             exact hB (by omega) (by omega) hb h hF9 hc9 Γ' h2 hx hΓ' hks hE hV)
  · refine z_al0 dX8_text_4 (by first | decide | omega | assumption) ?_
    refine z_getR zfX8_19 dX8_text_5 (zkB hΓ rfl) rfl (zsB hΓ rfl) (zvB hΓ (by decide)) ?_
    refine z_al0 dX8_text_8 (by first | decide | omega | assumption) ?_
    refine z_getR zfX8_10 dX8_text_9 (zkB hΓ rfl) rfl (zsB hΓ rfl) (zvB hΓ (by decide)) ?_
    refine zcv1 dX8_text_12 zkX8_94 ziX0_read zsX0_read (zkB hΓ rfl) (by decide) rfl (Nat.le_of_ble_eq_true rfl) (by decide) (by first | decide | omega) ⟨by omega, by omega⟩ (X0_read2 hΓ hn1 hn2 ht hF (fun hb h hF9 hp9 _ => ?_) (fun hb h hD _ => ?_))
    · try simp only [zup_ap, zup_row, ne_eq, not_false_eq_true, zres, Int.toNat_natCast, reduceIte, Nat.reduceEqDiff, Nat.reduceAdd, and_self, and_true, true_and, and_false, false_and]
      refine z_if_eq (t := 23) dX8_text_15 (by rfl) (fun _ => ?_) (fun hx => absurd hx (by decide))
      refine z_il1 dX8_text_23 ?_
      refine z_iconst dX8_text_24 (by decide) ?_
      refine z_icmp_ne (t := 54) dX8_text_25 (by rfl) (fun ht25 => ?_) (fun hf25 => ?_)
      · first
        | (exfalso; omega)
        | (refine z_iconst dX8_text_54 (by decide) ?_
           refine z_iret dX8_text_55 rfl (by omega) (by omega) (zext_rf _) (fun hrr => ?_)
           first
           | exact hC (fun x => by omega) (fun x => by omega) _ hF
           | exact hC (fun x => by rw [hb] at x; exact absurd x.2 (by decide)) (fun x => by omega) _ hF9
           | exact hC (fun x => by omega) (fun x => by rw [hb] at x; exact absurd x.2.2 (by decide)) _ hF9)
      · first
        | (exfalso; omega)
        | (refine z_al0 dX8_text_28 (by first | decide | omega | assumption) ?_
           refine z_getR zfX8_35 dX8_text_29 (zkB hΓ rfl) rfl (zsB hΓ rfl) (zvB hΓ (by decide)) ?_
           refine z_getI zfX8_108 dX8_text_32 (zkB hΓ rfl) rfl ?_
           rw [hF 15 3 rfl, h15]
           try simp only [zup_ap, zup_row, ne_eq, not_false_eq_true, zres, Int.toNat_natCast, reduceIte, Nat.reduceEqDiff, Nat.reduceAdd, and_self, and_true, true_and, and_false, false_and]
           refine z_iconst dX8_text_35 (by decide) ?_
           refine z_icmp_ge (t := 54) dX8_text_36 (by rfl) (fun ht36 => ?_) (fun hf36 => ?_)
           · refine z_iconst dX8_text_54 (by decide) ?_
             refine z_iret dX8_text_55 rfl (by omega) (by omega) (zext_rf _) (fun hrr => ?_)
             first
             | exact hC (fun x => by omega) (fun x => by omega) _ hF
             | exact hC (fun x => by rw [hb] at x; exact absurd x.2 (by decide)) (fun x => by omega) _ hF9
             | exact hC (fun x => by omega) (fun x => by rw [hb] at x; exact absurd x.2.2 (by decide)) _ hF9
           · refine z_al0 dX8_text_39 (by first | decide | omega | assumption) ?_
             refine z_getR zfX8_28 dX8_text_40 (zkB hΓ rfl) rfl (zsB hΓ rfl) (zvB hΓ (by decide)) ?_
             refine zcv0 dX8_text_43 zkX8_101 ziX2_read zsX2_read (zkB hΓ rfl) (by decide) rfl (Nat.le_of_ble_eq_true rfl) (by decide) (by first | decide | omega) ⟨by omega, by omega⟩ (X2_read2 hΓ hn1 hn2 hF (fun hb h hF9 hp9 _ => ?_) (fun hb h hF9 hs9 hc9 _ => ?_))
             · try simp only [zup_ap, zup_row, ne_eq, not_false_eq_true, zres, Int.toNat_natCast, reduceIte, Nat.reduceEqDiff, Nat.reduceAdd, and_self, and_true, true_and, and_false, false_and]
               refine z_if_eq (t := 54) dX8_text_46 (by rfl) (fun _ => ?_) (fun hx => absurd hx (by decide))
               refine z_iconst dX8_text_54 (by decide) ?_
               refine z_iret dX8_text_55 rfl (by omega) (by omega) (zext_rf _) (fun hrr => ?_)
               first
               | exact hC (fun x => by omega) (fun x => by omega) _ hF
               | exact hC (fun x => by rw [hb] at x; exact absurd x.2 (by decide)) (fun x => by omega) _ hF9
               | exact hC (fun x => by omega) (fun x => by rw [hb] at x; exact absurd x.2.2 (by decide)) _ hF9
             · try simp only [zup_ap, zup_row, ne_eq, not_false_eq_true, zres, Int.toNat_natCast, reduceIte, Nat.reduceEqDiff, Nat.reduceAdd, and_self, and_true, true_and, and_false, false_and]
               refine z_if_eq (t := 54) dX8_text_46 (by rfl) (fun hx => absurd hx (by decide)) (fun _ => ?_)
               refine z_al0 dX8_text_49 (by first | decide | omega | assumption) ?_
               refine zcvC0 (mc9 := 3) (ms9 := 400) dX8_text_50 zkX8_111 ziX8_takeCustom zsX8_takeCustom (zkB hΓ rfl) (by decide) rfl (by decide) (Nat.le_of_ble_eq_true rfl) (by omega) ⟨by omega, by omega⟩ (X8_takeCustom_ct (S := (zPv (h0 3) n).2.2.length) (c := c) hΓ hnk (by omega) (zPv_len hn2 hb) hs9 (by rw [hF9 15 3 rfl]; exact h15) (fun Γ' h2 hx hΓ' hks hE hV hx2 => ?_))
               try simp only [zres]
               refine z_iret dX8_text_53 rfl (by omega) (by omega) hx (fun hrr => ?_)
               exact hB (by omega) (by omega) hb h hF9 hc9 Γ' h2 hx hΓ' hks hE hV)
    · try simp only [zup_ap, zup_row, ne_eq, not_false_eq_true, zres, Int.toNat_natCast, reduceIte, Nat.reduceEqDiff, Nat.reduceAdd, and_self, and_true, true_and, and_false, false_and]
      refine z_if_eq (t := 23) dX8_text_15 (by rfl) (fun hx => absurd hx (by decide)) (fun _ => ?_)
      refine z_al0 dX8_text_18 (by first | decide | omega | assumption) ?_
      refine zcv0 dX8_text_19 zkX8_104 ziX8_takeIsles zsX8_takeIsles (zkB hΓ rfl) (by decide) rfl (Nat.le_of_ble_eq_true rfl) (by decide) (by first | decide | omega) ⟨by omega, by omega⟩ (X8_takeIsles_ct hΓ hD (fun h9 hI9 _ => ?_))
      try simp only [zup_ap, zup_row, ne_eq, not_false_eq_true, zres, Int.toNat_natCast, reduceIte, Nat.reduceEqDiff, Nat.reduceAdd, and_self, and_true, true_and, and_false, false_and]
      refine z_iret dX8_text_22 rfl (by omega) (by omega) (zext_rf _) (fun hrr => ?_)
      exact hA (by omega) hb _ hI9
