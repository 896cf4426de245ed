/-! the law's start: what the constructors leave -/
theorem zclL_8 : Cond.classLink RL 8 (zCn 8) ∈ zTB := by decide +kernel
theorem zclL_16 : Cond.classLink RL 16 (zCn 9) ∈ zTB := by decide +kernel
theorem zins_8 : Cond.instantiable (zCn 8) (zN 8) ∈ zTB := by decide +kernel
theorem zini_8 : Cond.initialized (zCn 8) ∈ zTB := by decide +kernel
theorem zins_9 : Cond.instantiable (zCn 9) (zN 9) ∈ zTB := by decide +kernel
theorem zini_9 : Cond.initialized (zCn 9) ∈ zTB := by decide +kernel
theorem zim_8 : Cond.instanceMethod mX8_init.1 ∈ zTB := by decide +kernel
theorem zim_9 : Cond.instanceMethod mX9_init.1 ∈ zTB := by decide +kernel
theorem zsrT_ln : ∀ r, r < 122 → ((zsrT[r]?).getD []).length ≤ zln r := by decide +kernel
theorem zsrG_ln {r j q : Nat} (hr : r ≤ 121) (h : zsrG r j = some q) : j < zln r := by
  unfold zsrG at h
  by_cases e1 : r = 6
  · subst e1
    rw [if_pos rfl] at h
    by_cases e : j < 6
    · exact e
    · rw [if_neg e] at h; cases h
  rw [if_neg e1] at h
  by_cases e2 : r = 18
  · subst e2
    rw [if_pos rfl] at h
    by_cases e : j < 6
    · exact e
    · rw [if_neg e] at h; cases h
  rw [if_neg e2] at h
  by_cases e3 : r = 45
  · subst e3
    rw [if_pos rfl] at h
    by_cases e : j < 31
    · exact e
    · rw [if_neg e] at h; cases h
  rw [if_neg e3] at h
  by_cases e4 : r = 78
  · subst e4
    rw [if_pos rfl] at h
    by_cases e : j < 3
    · exact e
    · rw [if_neg e] at h; cases h
  rw [if_neg e4, if_neg (by omega)] at h
  have h2 := zsrT_ln r (by omega)
  unfold zsrL at h
  by_cases e : j < ((zsrT[r]?).getD []).length
  · omega
  · rw [List.getElem?_eq_none (by omega)] at h; cases h
theorem zIv_start {Γ : zC} {h : zM} (G : zG0 121 Γ) (M : ∀ q, 0 < q → q ≤ 121 → zRk q (h q)) : zIv (zsw Γ zsrG) h ∧ h 89 30 = -1 := by
  have V : ∀ r j, 0 < r → r ≤ 121 → j < zln r → h r j = zv0 r j := fun r j a b c => M r a b j c
  have hks : zks Γ = zkb := by
    rw [G.2]
    exact List.take_of_length_le (by rw [zkb_len]; exact Nat.le_refl _)
  have z7 : h 89 7 = 0 := V 89 7 (by decide) (by decide) (by decide)
  have z6 : h 89 6 = 0 := V 89 6 (by decide) (by decide) (by decide)
  have z22 : h 89 22 = 0 := V 89 22 (by decide) (by decide) (by decide)
  have z28 : h 89 28 = 0 := V 89 28 (by decide) (by decide) (by decide)
  have z29 : h 89 29 = 0 := V 89 29 (by decide) (by decide) (by decide)
  have z39 : h 89 39 = 0 := V 89 39 (by decide) (by decide) (by decide)
  have z51 : h 89 51 = 0 := V 89 51 (by decide) (by decide) (by decide)
  have z60 : h 89 60 = 0 := V 89 60 (by decide) (by decide) (by decide)
  have z32 : h 89 32 = 9 := V 89 32 (by decide) (by decide) (by decide)
  have z30 : h 89 30 = -1 := V 89 30 (by decide) (by decide) (by decide)
  have y11 : h 1 11 = 9 := V 1 11 (by decide) (by decide) (by decide)
  have y10 : h 1 10 = 0 := V 1 10 (by decide) (by decide) (by decide)
  have y21 : h 2 1 = 0 := V 2 1 (by decide) (by decide) (by decide)
  have y16 : h 16 0 = 0 := V 16 0 (by decide) (by decide) (by decide)
  have y250 : h 25 0 = 0 := V 25 0 (by decide) (by decide) (by decide)
  have y251 : h 25 1 = 0 := V 25 1 (by decide) (by decide) (by decide)
  have y252 : h 25 2 = 0 := V 25 2 (by decide) (by decide) (by decide)
  have y153 : h 15 3 = 0 := V 15 3 (by decide) (by decide) (by decide)
  have y772 : h 77 2 = 0 := V 77 2 (by decide) (by decide) (by decide)
  refine ⟨zIv.mk ⟨rfl, [], by rw [List.append_nil]; exact hks⟩ ?_ ?_ ?_ ?_ ?_ ?_ ?_ ?_ ?_ ?_ ?_ ?_ ?_ ?_ ?_ ?_ ?_ ?_ ?_ ?_ ?_ ?_ ?_, z30⟩
  · show (((zks Γ).length : Nat) : Int) = _
    rw [hks, z7, zkb_len]; rfl
  · rw [z6]; omega
  · rw [z6, y21]
  · intro j hj; rw [z6] at hj; omega
  · rw [z22]; omega
  · rw [z22, y16]
  · intro i _ hi; rw [z22] at hi; omega
  · intro a b ha hb
    have e96 : h 96 (6 * a + b) = 0 := V 96 (6 * a + b) (by decide) (by decide) (show 6 * a + b < 36 by omega)
    have e19 : h (19 + a) b = 0 := by
      rcases (show a = 0 ∨ a = 1 ∨ a = 2 ∨ a = 3 ∨ a = 4 ∨ a = 5 by omega) with rfl | rfl | rfl | rfl | rfl | rfl
      · exact V 19 b (by decide) (by decide) hb
      · exact V 20 b (by decide) (by decide) hb
      · exact V 21 b (by decide) (by decide) hb
      · exact V 22 b (by decide) (by decide) hb
      · exact V 23 b (by decide) (by decide) hb
      · exact V 24 b (by decide) (by decide) hb
    rw [e96, e19]; omega
  · rw [z29, y250]; omega
  · rw [z28, y251]; omega
  · intro j hj
    exact ⟨(V 26 j (by decide) (by decide) hj).trans (V 99 j (by decide) (by decide) hj).symm, (V 27 j (by decide) (by decide) hj).trans (V 100 j (by decide) (by decide) hj).symm, (V 28 j (by decide) (by decide) hj).trans (V 101 j (by decide) (by decide) hj).symm⟩
  · rw [z51, y252]; omega
  · intro j hj
    exact ⟨(V 29 j (by decide) (by decide) hj).trans (V 113 j (by decide) (by decide) hj).symm, (V 30 j (by decide) (by decide) hj).trans (V 114 j (by decide) (by decide) hj).symm, (V 31 j (by decide) (by decide) hj).trans (V 115 j (by decide) (by decide) hj).symm⟩
  · intro j hj; rw [z51] at hj; omega
  · rw [z60, y10]; omega
  · intro hj; rw [z60] at hj; omega
  · rw [z7, y153]; omega
  · intro i _ hi; rw [z22] at hi; omega
  · intro c hc; rw [z7] at hc; omega
  · rw [z32, y11]; omega
  · intro n h1 h2
    have e1 : h 106 n = 0 := V 106 n (by decide) (by decide) h2
    have e2 : h 86 n = 1 := V 86 n (by decide) (by decide) h2
    rw [e1, e2]; decide
  · rw [z39, y772]; omega
  · intro g i hg; rw [z39] at hg; omega
section ZST
variable {l : Launch} {b L : Nat} {xs : Nat → Int32} {k n : Nat} {Γ : zC} {h : zM} {pc : Nat} {ls : List (Option zV)} {rest : List zV}
theorem z_lci0 {M : zMI} {d mc9 ms9 idx r ci : Nat} (hd : decode cL_law pc = .ok (.invokespecial idx, 3)) (hL : zLnk RL idx M 0) (hI : Cond.instanceMethod M.1 ∈ zTB) (hnm : M.1.name = "<init>") (hret : M.2.2.2 = none) (hk : zkd Γ r = some (.inl ci)) (hcat : (rest.map zct).sum ≤ 8) (hm : M.2.2.1 ≤ 61) (hdd : d ≤ 2000) (hkn : k + mc9 ≤ 601024 ∧ n + ms9 ≤ 7293034)
    (hC : zCT l M d mc9 ms9 Γ [zR r] h (fun r' Γ' h' => zext Γ Γ' → zG (zFL l b L xs) (k + mc9) (n + ms9) Γ' h' (pc + 3) ls (zres r' rest))) : zG (zFL l b L xs) k n Γ h pc ls (zR r :: rest) :=
  z_callI (F := zFL l b L xs) (args := []) hd hL hI hnm hret hk rfl hcat ⟨by show d + 1 ≤ 2048; omega, by show 8 + (M.2.2.1 + 11) + 40 * d ≤ 84000; omega⟩ hkn hC (fun _ _ _ hx hq => hq hx)
set_option maxRecDepth 4000 in
theorem zL_start (hfl : l.stackTraces = false) (hL : L ≤ 3072) (G0 : zG0 0 Γ) (hb4 : zad Γ 4000000 = b) : zG (zFL l b L xs) 0 0 Γ (fun _ _ => 0) 0 [some (zR 4000000), none, none, none, none, none, none] [] := by
  have M0 : zOm 0 0 (fun _ _ => 0) (fun _ _ => 0) (fun _ => 0) := zOm_start rfl
  refine z_cN (ci := 8) G0 M0 (Nat.le_of_ble_eq_true rfl) (Nat.le_of_ble_eq_true rfl) rfl dL_law_0 (Nat.le_of_ble_eq_true rfl) zclL_8 zins_8 zini_8 (Nat.le_of_ble_eq_true rfl) (Nat.le_of_ble_eq_true rfl) (fun Γ1 h1 X1 G1 L1 Z1 => ?_)
  refine z_dup dL_law_3 rfl ?_
  refine z_lci0 (d := 3) (mc9 := 87) (ms9 := 3121) dL_law_4 zkL_15 zim_8 rfl rfl (G1.kd (r := 1) rfl (Nat.le_of_ble_eq_true rfl)) (Nat.le_of_ble_eq_true rfl) (Nat.le_of_ble_eq_true rfl) (Nat.le_of_ble_eq_true rfl) ⟨Nat.le_of_ble_eq_true rfl, Nat.le_of_ble_eq_true rfl⟩ (X8_init_1 G1 Z1 (fun Γ2 h2 X2 G2 E2 R2 _ => ?_))
  simp only [zres]
  have M2 := zOm_sub L1 (Nat.le_of_ble_eq_true rfl) E2 R2
  refine z_as1 dL_law_7 (Nat.le_of_ble_eq_true rfl) rfl (by decide) ?_
  refine z_cN (ci := 9) G2 M2 (Nat.le_of_ble_eq_true rfl) (Nat.le_of_ble_eq_true rfl) rfl dL_law_8 (Nat.le_of_ble_eq_true rfl) zclL_16 zins_9 zini_9 (Nat.le_of_ble_eq_true rfl) (Nat.le_of_ble_eq_true rfl) (fun Γ3 h3 X3 G3 L3 Z3 => ?_)
  refine z_dup dL_law_11 rfl ?_
  refine z_lci0 (d := 1) (mc9 := 31) (ms9 := 148706) dL_law_12 zkL_18 zim_9 rfl rfl (G3.kd (r := 89) rfl (Nat.le_of_ble_eq_true rfl)) (Nat.le_of_ble_eq_true rfl) (Nat.le_of_ble_eq_true rfl) (Nat.le_of_ble_eq_true rfl) ⟨Nat.le_of_ble_eq_true rfl, Nat.le_of_ble_eq_true rfl⟩ (X9_init_89 G3 Z3 (fun Γ4 h4 X4 G4 E4 R4 _ => ?_))
  simp only [zres]
  have M4 := zOm_sub L3 (Nat.le_of_ble_eq_true rfl) E4 R4
  refine z_as2 dL_law_15 (Nat.le_of_ble_eq_true rfl) rfl (by decide) ?_
  refine z_iconst dL_law_16 (by decide) ?_
  refine z_cAJ (N := 1) dL_law_17 G4 M4 (Nat.le_of_ble_eq_true rfl) (Nat.le_of_ble_eq_true rfl) rfl (Nat.le_of_ble_eq_true rfl) (Nat.le_of_ble_eq_true rfl) (Nat.le_of_ble_eq_true rfl) (fun Γ5 h5 X5 G5 L5 Z5 => ?_)
  have M5 := zOm_add L5 (by rw [Z5]; exact (fun _ _ => rfl))
  refine z_as3 dL_law_19 (Nat.le_of_ble_eq_true rfl) rfl (by decide) ?_
  refine z_iconst dL_law_20 (by decide) ?_
  refine z_is4 dL_law_21 (Nat.le_of_ble_eq_true rfl) rfl ?_
  have hV : ∀ q, 0 < q → q ≤ 121 → zRk q (h5 q) := M5.2.2
  refine z_sr (S := zsrG) (fun r h1 h2 j => ?_) ?_
  · rw [G5.1 r j]
    have hr : r ≤ 121 := by rw [G5.len (by decide)] at h2; exact h2
    cases e : zsrG r j with
    | none => rfl
    | some q =>
      have h9 := hV r h1 hr j (zsrG_ln hr e)
      rw [h9]
      unfold zv0
      rw [e]
      rfl
  · obtain ⟨hI, hO⟩ := zIv_start G5 hV
    have Y := zext_tr (zext_tr (zext_tr (zext_tr (zext_tr X1 X2) X3) X4) X5) (zsw_ext Γ5 zsrG)
    exact z_wid (by decide) (by decide) (zL_loop hfl hL 512 0 (zsw Γ5 zsrG) h5 hI hO ((Y.2.2 4000000 (Or.inr (by decide))).1.trans hb4) (by omega) (by omega))
end ZST
