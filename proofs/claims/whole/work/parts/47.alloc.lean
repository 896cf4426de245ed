/-! new objects -/
def zpu (Γ : zC) (q : zK) (a : Nat) : zC := (zD Γ, zcA Γ, (fun r => if r = (zks Γ).length + 1 then a else zad Γ r), zks Γ ++ [q], fun r j => if r = (zks Γ).length + 1 then none else zsr Γ r j)
def zrw (h : zM) (r : Nat) (f : Nat → Int) : zM := fun a b => if a = r then f b else h a b
theorem zrw_row {h : zM} {r a : Nat} {f : Nat → Int} (ha : a ≠ r) : zrw h r f a = h a := by
  funext b; exact if_neg ha
theorem zrw_self {h : zM} {r : Nat} {f : Nat → Int} : zrw h r f r = f := by
  funext b; exact if_pos rfl
def zsv (Γ : zC) : Prop := ∀ r j p, r ≤ (zks Γ).length → zsr Γ r j = some p → zvr Γ p
theorem zpu_len (Γ : zC) (q : zK) (a : Nat) : (zks (zpu Γ q a)).length = (zks Γ).length + 1 := by
  show (zks Γ ++ [q]).length = _
  rw [List.length_append]; rfl
theorem zpu_vr {Γ : zC} {q : zK} {a r : Nat} (h : zvr Γ r) : zvr (zpu Γ q a) r := by
  rcases h with h | h
  · left; rw [zpu_len]; omega
  · exact Or.inr h
theorem zpu_ad {Γ : zC} {q : zK} {a r : Nat} (hl : (zks Γ).length < 900000) (h : zvr Γ r) : zad (zpu Γ q a) r = zad Γ r := by
  show (if r = (zks Γ).length + 1 then a else zad Γ r) = _
  rw [if_neg]
  rcases h with h | h <;> omega
theorem zpu_ext {Γ : zC} {q : zK} {a : Nat} (hl : (zks Γ).length < 900000) : zext Γ (zpu Γ q a) := ⟨rfl, rfl, fun r h => ⟨zpu_ad hl h, zpu_vr h⟩⟩
theorem zpu_kd {Γ : zC} {q x : zK} {a r : Nat} (h : zkd Γ r = some x) : zkd (zpu Γ q a) r = some x := by
  cases r with
  | zero => cases h
  | succ k =>
    have h' : (zks Γ)[k]? = some x := h
    show (zks Γ ++ [q])[k]? = some x
    rw [List.getElem?_append_left (List.getElem?_eq_some_iff.mp h').1]
    exact h'
theorem zpu_kn (Γ : zC) (q : zK) (a : Nat) : zkd (zpu Γ q a) ((zks Γ).length + 1) = some q := by
  show (zks Γ ++ [q])[(zks Γ).length]? = some q
  rw [List.getElem?_append_right (Nat.le_refl _), Nat.sub_self]; rfl
theorem zpu_sr {Γ : zC} {q : zK} {a r j : Nat} (h : r ≠ (zks Γ).length + 1) : zsr (zpu Γ q a) r j = zsr Γ r j := if_neg h
theorem zpu_sn (Γ : zC) (q : zK) (a j : Nat) : zsr (zpu Γ q a) ((zks Γ).length + 1) j = none := if_pos rfl
theorem zpu_sv {Γ : zC} {q : zK} {a : Nat} (H : zsv Γ) : zsv (zpu Γ q a) := fun r j p hr hs => by
  by_cases e : r = (zks Γ).length + 1
  · rw [e, zpu_sn] at hs; cases hs
  · rw [zpu_sr e] at hs
    rw [zpu_len] at hr
    exact zpu_vr (H r j p (by omega) hs)
theorem zarrV_cg {cA : ClassId} {n : Nat} {f g : Nat → Value} (h : ∀ j, j < n → f j = g j) : arrV cA n f = arrV cA n g := by
  unfold arrV
  congr 1
  apply Array.ext
  · simp
  · intro i h1 h2
    simp only [Array.getElem_ofFn]
    exact h i (by simpa using h1)
theorem zpu_rf {Γ : zC} {q : zK} {a r : Nat} (hl : (zks Γ).length < 900000) (h : zvr Γ r) : zrf (zpu Γ q a) r = zrf Γ r := by
  unfold zrf; rw [zpu_ad hl h]
theorem zpu_cell {Γ : zC} {q K : zK} {a r : Nat} {f : Nat → Int} {b : Nat} {cl : List vw_C} {H : Heap} {D : va_G} (hl : (zks Γ).length < 900000) (hr : r ≤ (zks Γ).length) (hsv : zsv Γ) (hoc : zoc Γ f K) (hv : va_at D cl (b, zcell Γ r f K) H) : va_at D cl (b, zcell (zpu Γ q a) r f K) H := by
  have hsr : ∀ j, zsr (zpu Γ q a) r j = zsr Γ r j := fun j => zpu_sr (by omega)
  have hrf : ∀ (j : Nat) (x : Int), 0 ≤ x ∧ zvr Γ x.toNat → zvr Γ ((zsr Γ r j).getD x.toNat) := fun j x hx => by
    cases e : zsr Γ r j with
    | none => exact hx.2
    | some p => exact hsv r j p hr e
  cases K with
  | inl ci =>
    have e : zcell (zpu Γ q a) r f (.inl ci) = zcell Γ r f (.inl ci) := by
      show Sum.inr (ci, (List.range (zN ci)).map fun j => zFV (zpu Γ q a) (zTc (zTy ci j)) (f j) (zsr (zpu Γ q a) r j)) = Sum.inr (ci, (List.range (zN ci)).map fun j => zFV Γ (zTc (zTy ci j)) (f j) (zsr Γ r j))
      congr 2
      refine List.map_congr_left (fun j hj => ?_)
      have hj2 := List.mem_range.mp hj
      have h9 := hoc j hj2
      rw [hsr j]
      unfold zFV
      by_cases e3 : zTc (zTy ci j) = 3
      · rw [if_pos e3, if_pos e3]
      · rw [if_neg e3, if_neg e3]
        by_cases e9 : zTc (zTy ci j) = 9
        · rw [if_pos e9, if_pos e9]
          rw [e9] at h9
          exact zpu_rf hl (hrf j _ h9)
        · rw [if_neg e9, if_neg e9]
    rw [e]; exact hv
  | inr y =>
    obtain ⟨t, n⟩ := y
    by_cases h2 : t ≤ 2
    · have e : zcell (zpu Γ q a) r f (.inr (t, n)) = zcell Γ r f (.inr (t, n)) := by
        show Sum.inl (zcA Γ t, n, if t ≤ 2 then _ else _) = Sum.inl (zcA Γ t, n, if t ≤ 2 then _ else _)
        rw [if_pos h2, if_pos h2]
      rw [e]; exact hv
    · by_cases h3 : t = 3
      · have e : zcell (zpu Γ q a) r f (.inr (t, n)) = zcell Γ r f (.inr (t, n)) := by
          show Sum.inl (zcA Γ t, n, if t ≤ 2 then _ else if t = 3 then _ else _) = Sum.inl (zcA Γ t, n, if t ≤ 2 then _ else if t = 3 then _ else _)
          rw [if_neg h2, if_neg h2, if_pos h3, if_pos h3]
        rw [e]; exact hv
      · unfold zcell at hv ⊢
        simp only [if_neg h2, if_neg h3] at hv ⊢
        have hv2 : H[b]? = some (arrV (zcA Γ t) n (fun j => va_rf (zro Γ ((zsr Γ r j).getD (f j).toNat)))) := hv
        show H[b]? = some (arrV (zcA Γ t) n (fun j => va_rf (zro (zpu Γ q a) ((zsr (zpu Γ q a) r j).getD (f j).toNat))))
        rw [hv2]
        congr 1
        refine zarrV_cg (fun j hj => ?_)
        have h9 : 0 ≤ f j ∧ zvr Γ (f j).toNat := by
          have h8 := hoc.2 j hj
          match t, h2, h3, h8 with
          | 0, h2, _, _ => exact absurd (by decide) h2
          | 1, h2, _, _ => exact absurd (by decide) h2
          | 2, h2, _, _ => exact absurd (by decide) h2
          | 3, _, h3, _ => exact absurd rfl h3
          | t + 4, _, _, h8 => exact h8
        rw [hsr j, zro_rf, zro_rf, zpu_rf hl (hrf j _ h9)]
theorem zpu_oc {Γ : zC} {q K : zK} {a : Nat} {f : Nat → Int} (h : zoc Γ f K) : zoc (zpu Γ q a) f K := by
  have key : ∀ c x, zokF Γ c x → zokF (zpu Γ q a) c x := fun c x hx => by
    match c, hx with
    | 0, hx => exact hx
    | 1, hx => exact hx
    | 2, hx => exact hx
    | 3, hx => exact hx
    | c + 4, hx => exact ⟨hx.1, zpu_vr hx.2⟩
  cases K with
  | inl ci => exact fun j hj => key _ _ (h j hj)
  | inr y => exact ⟨h.1, fun j hj => key _ _ (h.2 j hj)⟩
/-- one more object: what the machine holds of it -/
theorem zWd_pu {Γ : zC} {h : zM} {A : Nat → Prop} {H1 : Heap} {s : State} {q : zK} {a : Nat} {f : Nat → Int} (hl : (zks Γ).length < 900000) (hsv : zsv Γ) (hom : zom Γ h) (hf : zoc (zpu Γ q a) f q) (hK : va_K (zD Γ) vwCl (ztys Γ) s) (hP : va_P (zD Γ) vwCl (zws Γ h ++ [(a, zcell (zpu Γ q a) ((zks Γ).length + 1) f q)]) H1) (hD : va_D A (zws Γ h ++ [(a, zcell (zpu Γ q a) ((zks Γ).length + 1) f q)])) : zWd (zpu Γ q a) (zrw h ((zks Γ).length + 1) f) A H1 s := by
  have hlen : (zws Γ h).length = (zks Γ).length := by unfold zws; simp
  have hat : ∀ (k : Nat) (p : Nat × va_E), (zws (zpu Γ q a) (zrw h ((zks Γ).length + 1) f))[k]? = some p → ∃ p0, (zws Γ h ++ [(a, zcell (zpu Γ q a) ((zks Γ).length + 1) f q)])[k]? = some p0 ∧ p0.1 = p.1 ∧ (va_at (zD Γ) vwCl p0 H1 → va_at (zD Γ) vwCl p H1) := by
    intro k p hp
    have hk : k < (zks (zpu Γ q a)).length := by
      have h9 := (List.getElem?_eq_some_iff.mp hp).1
      unfold zws at h9
      simpa using h9
    rw [zpu_len] at hk
    by_cases e : k < (zks Γ).length
    · have hkk : (zks Γ)[k]? = some ((zks Γ)[k]) := List.getElem?_eq_getElem e
      have h1 := zws_at h (Γ := Γ) (r := k + 1) hkk
      have h2 := zws_at (zrw h ((zks Γ).length + 1) f) (Γ := zpu Γ q a) (r := k + 1) (zpu_kd (r := k + 1) hkk)
      rw [show k + 1 - 1 = k by omega] at h1 h2
      rw [hp] at h2
      cases h2
      refine ⟨_, (List.getElem?_append_left (by rw [hlen]; exact e)).trans h1, (zpu_ad (q := q) (a := a) hl (Or.inl (by omega))).symm, fun hv => ?_⟩
      have e1 : zad (zpu Γ q a) (k + 1) = zad Γ (k + 1) := zpu_ad hl (Or.inl (by omega))
      rw [e1, zrw_row (by omega)]
      exact zpu_cell hl (by omega) hsv (zom_at hom (r := k + 1) hkk) hv
    · have ek : k = (zks Γ).length := by omega
      subst ek
      have h2 := zws_at (zrw h ((zks Γ).length + 1) f) (zpu_kn Γ q a)
      rw [show (zks Γ).length + 1 - 1 = (zks Γ).length by omega] at h2
      rw [hp] at h2
      cases h2
      refine ⟨(a, zcell (zpu Γ q a) ((zks Γ).length + 1) f q), by rw [List.getElem?_append_right (by omega), hlen, Nat.sub_self]; rfl, (if_pos rfl : (if (zks Γ).length + 1 = (zks Γ).length + 1 then a else _) = a).symm, fun hv => ?_⟩
      have e1 : zad (zpu Γ q a) ((zks Γ).length + 1) = a := if_pos rfl
      rw [e1, zrw_self]
      exact hv
  refine ⟨fun k x hx => ?_, fun k p hp => ?_, hK, ⟨fun i j p1 p2 h1 h2 e => ?_, fun k p hp => ?_⟩⟩
  · have hk : k < (zks (zpu Γ q a)).length := (List.getElem?_eq_some_iff.mp hx).1
    rw [zpu_len] at hk
    by_cases e : k < (zks Γ).length
    · have hkk : (zks Γ)[k]? = some ((zks Γ)[k]) := List.getElem?_eq_getElem e
      have h2 : (zks (zpu Γ q a))[k]? = some ((zks Γ)[k]) := zpu_kd (r := k + 1) hkk
      rw [h2] at hx
      cases hx
      rw [zrw_row (by omega)]
      exact zpu_oc (hom k _ hkk)
    · have ek : k = (zks Γ).length := by omega
      subst ek
      have h2 : (zks (zpu Γ q a))[(zks Γ).length]? = some q := zpu_kn Γ q a
      rw [h2] at hx
      cases hx
      rw [zrw_self]
      exact hf
  · obtain ⟨p0, h0, -, hv⟩ := hat k p hp
    exact hv (hP k p0 h0)
  · obtain ⟨q1, g1, e1, -⟩ := hat i p1 h1
    obtain ⟨q2, g2, e2, -⟩ := hat j p2 h2
    exact hD.1 i j q1 q2 g1 g2 (by rw [e1, e2]; exact e)
  · obtain ⟨q1, g1, e1, -⟩ := hat k p hp
    rw [← e1]; exact hD.2 k q1 g1
