/-! pairs told -/
def zpo1 (x : Int) : Nat := if 0 < x then 1 else 0
theorem zpo1_b (x : Int) : zpo1 x ≤ 1 := by unfold zpo1; split <;> omega
def zpct (D : zDM) : Nat := zpo1 (D 0 1) + zpo1 (D 0 2) + zpo1 (D 0 3) + zpo1 (D 0 4) + zpo1 (D 0 5) + zpo1 (D 1 2) + zpo1 (D 1 3) + zpo1 (D 1 4) + zpo1 (D 1 5) + zpo1 (D 2 3) + zpo1 (D 2 4) + zpo1 (D 2 5) + zpo1 (D 3 4) + zpo1 (D 3 5) + zpo1 (D 4 5)
theorem zpct_b (D : zDM) : zpct D ≤ 15 := by
  have h01 := zpo1_b (D 0 1)
  have h02 := zpo1_b (D 0 2)
  have h03 := zpo1_b (D 0 3)
  have h04 := zpo1_b (D 0 4)
  have h05 := zpo1_b (D 0 5)
  have h12 := zpo1_b (D 1 2)
  have h13 := zpo1_b (D 1 3)
  have h14 := zpo1_b (D 1 4)
  have h15 := zpo1_b (D 1 5)
  have h23 := zpo1_b (D 2 3)
  have h24 := zpo1_b (D 2 4)
  have h25 := zpo1_b (D 2 5)
  have h34 := zpo1_b (D 3 4)
  have h35 := zpo1_b (D 3 5)
  have h45 := zpo1_b (D 4 5)
  unfold zpct
  omega
def zsy (D : zDM) : Prop := ∀ a b, D a b = D b a
theorem zdU_s {D : zDM} (H : zsy D) (a b : Nat) (v : Int) : zsy (zdU D a b v) := fun i j => by
  unfold zdU
  by_cases e : (i = a ∧ j = b) ∨ (i = b ∧ j = a)
  · rw [if_pos e, if_pos (e.elim (fun e => Or.inr ⟨e.2, e.1⟩) (fun e => Or.inl ⟨e.2, e.1⟩))]
  · rw [if_neg e, if_neg (fun x => e (x.elim (fun x => Or.inr ⟨x.2, x.1⟩) (fun x => Or.inl ⟨x.2, x.1⟩)))]; exact H i j
theorem zdU_c (D : zDM) (a b : Nat) (v : Int) : zdU D a b v = zdU D b a v := by
  funext i j
  unfold zdU
  by_cases e : (i = a ∧ j = b) ∨ (i = b ∧ j = a)
  · rw [if_pos e, if_pos (Or.comm.1 e)]
  · rw [if_neg e, if_neg (fun x => e (Or.comm.1 x))]
theorem zpct_u {D : zDM} {a b : Nat} {v : Int} (hab : a < b) (hb : b < 6) (hD : D a b ≤ 0) (hv : 0 < v) : zpct (zdU D a b v) = zpct D + 1 := by
  have e1 : zpo1 v = 1 := if_pos hv
  have e2 : zpo1 (D a b) = 0 := if_neg (by omega)
  rcases (show (a = 0 ∧ b = 1) ∨ (a = 0 ∧ b = 2) ∨ (a = 0 ∧ b = 3) ∨ (a = 0 ∧ b = 4) ∨ (a = 0 ∧ b = 5) ∨ (a = 1 ∧ b = 2) ∨ (a = 1 ∧ b = 3) ∨ (a = 1 ∧ b = 4) ∨ (a = 1 ∧ b = 5) ∨ (a = 2 ∧ b = 3) ∨ (a = 2 ∧ b = 4) ∨ (a = 2 ∧ b = 5) ∨ (a = 3 ∧ b = 4) ∨ (a = 3 ∧ b = 5) ∨ (a = 4 ∧ b = 5) by omega) with ⟨rfl, rfl⟩ | ⟨rfl, rfl⟩ | ⟨rfl, rfl⟩ | ⟨rfl, rfl⟩ | ⟨rfl, rfl⟩ | ⟨rfl, rfl⟩ | ⟨rfl, rfl⟩ | ⟨rfl, rfl⟩ | ⟨rfl, rfl⟩ | ⟨rfl, rfl⟩ | ⟨rfl, rfl⟩ | ⟨rfl, rfl⟩ | ⟨rfl, rfl⟩ | ⟨rfl, rfl⟩ | ⟨rfl, rfl⟩ <;> (simp [zpct, zdU, e1]; omega)
theorem zWy_c {t : Nat → Int} {n N q : Nat} {D : zDM} (hN : N ≤ 6) (hs : zsy D) (hw : (zWy t n N q D).1 = true) : zpct (zWy t n N q D).2.2 = zpct D + 1 ∧ zsy (zWy t n N q D).2.2 := by
  unfold zWy at hw ⊢
  split at hw
  · cases hw
  · rename_i c1
    split at hw
    · cases hw
    · rename_i c2
      split at hw
      · cases hw
      · rename_i c3
        rw [if_neg c1, if_neg c2, if_neg c3]
        refine ⟨?_, zdU_s hs _ _ _⟩
        show zpct (zdU D _ _ _) = _
        obtain ⟨a, ha⟩ := Int.eq_ofNat_of_zero_le (show 0 ≤ zsg t n q - 97 by omega)
        obtain ⟨b, hb⟩ := Int.eq_ofNat_of_zero_le (show 0 ≤ zsg t n (zskip t n (q + 1)) - 97 by omega)
        rw [show (zsg t n q - 97).toNat = a by omega, show (zsg t n (zskip t n (q + 1)) - 97).toNat = b by omega] at c2 ⊢
        rcases (show a < b ∨ b < a by omega) with h | h
        · exact zpct_u h (by omega) (by omega) (by omega)
        · rw [zdU_c]; exact zpct_u h (by omega) (by rw [hs b a]; omega) (by omega)
