/-! the signs that the parser gives -/
abbrev zwe (x : Int) : Prop := (0 ≤ x ∧ x ≤ 9999) ∨ zlet (-x) ∨ zjs (-x) ∨ x = -33
def zwx (tag : Nat) (x : Int) : Prop := zwe x ∨ (11 ≤ tag ∧ (x = -59 ∨ x = -63))
theorem zwx_up {a b : Nat} {x : Int} (h : zwx a x) (hab : a ≤ 10 ∨ 11 ≤ b) : zwx b x := by
  rcases h with h | ⟨h1, h2⟩
  · exact Or.inl h
  · rcases hab with h3 | h3
    · omega
    · exact Or.inr ⟨h3, h2⟩
theorem z10 : ∀ d : Nat, (1 : Int) ≤ 10 ^ d
  | 0 => by decide
  | d + 1 => by have := z10 d; rw [Int.pow_succ]; omega
theorem znum_le (t : Nat → Int) (n : Nat) : ∀ (d p : Nat) (v B : Int), 0 ≤ v → v ≤ B → (znum t n d p v).1 ≤ 10 ^ d * (B + 1) - 1 := by
  intro d
  induction d with
  | zero => intro p v B h h2; simp only [znum, Int.pow_zero]; omega
  | succ d ih =>
    intro p v B h h2
    unfold znum
    split
    · rename_i hd
      have h3 := ih (p + 1) (10 * v + zsg t n p - 48) (10 * B + 9) (by omega) (by omega)
      rw [Int.pow_succ]
      have e : (10 : Int) ^ d * 10 * (B + 1) = 10 ^ d * (10 * B + 9 + 1) := by rw [Int.mul_assoc]; congr 1; omega
      rw [e]; exact h3
    · have h4 : 1 * (B + 1) ≤ 10 ^ (d + 1) * (B + 1) := Int.mul_le_mul_of_nonneg_right (z10 _) (by omega)
      show v ≤ _
      omega
theorem zwx_ap {tag : Nat} {a b : List Int} (ha : ∀ x ∈ a, zwx tag x) (hb : ∀ x ∈ b, zwx tag x) : ∀ x ∈ a ++ b, zwx tag x := fun x hx => (List.mem_append.mp hx).elim (ha x) (hb x)
theorem zwx_cn {tag : Nat} {y : Int} {b : List Int} (hy : zwx tag y) (hb : ∀ x ∈ b, zwx tag x) : ∀ x ∈ y :: b, zwx tag x := fun x hx => by
  rcases List.mem_cons.mp hx with h | h
  · rw [h]; exact hy
  · exact hb x h
theorem zwx_nl {tag : Nat} : ∀ x ∈ ([] : List Int), zwx tag x := fun x hx => by cases hx
theorem zwx_js {tag : Nat} (s : Int) (hs : zjs s) : zwx tag (-s) := Or.inl (Or.inr (Or.inr (Or.inl (by rw [Int.neg_neg]; exact hs))))
theorem zP_wf (t : Nat → Int) (n : Nat) : ∀ (f tag q dep p : Nat) (c : List Int), zP t n f tag q dep = some (true, p, c) → ∀ x ∈ c, zwx tag x := by
  intro f
  induction f with
  | zero => intro tag q dep p c h; cases h
  | succ f ih =>
    intro tag q dep p c h
    have fin : ∀ {X : Prop} {q : Nat}, zfl q = some (true, p, c) → X := fun h => (zfl_i h).elim
    match tag, h with
    | 0, h =>
      simp only [zP] at h
      split at h
      · split at h
        · obtain ⟨p1, c1, h1, h2⟩ := zbd_t h
          split at h2
          · obtain ⟨rfl, rfl⟩ := zok_i h2
            exact fun x hx => zwx_up (ih _ _ _ _ _ h1 x hx) (Or.inl (by decide))
          · exact fin h2
        · exact fin h
      · split at h
        · rename_i hs
          obtain ⟨rfl, rfl⟩ := zok_i h
          exact zwx_cn (Or.inl (Or.inr (Or.inl (by rw [Int.neg_neg]; exact hs)))) zwx_nl
        · split at h
          · exact fin h
          · obtain ⟨rfl, rfl⟩ := zok_i h
            refine zwx_cn (Or.inl (Or.inl ⟨znum_nn t n 4 q 0 (by decide), ?_⟩)) zwx_nl
            have := znum_le t n 4 q 0 0 (by decide) (by decide)
            simpa using this
    | 1, h | 3, h | 8, h | 10, h =>
      simp only [zP] at h
      obtain ⟨p1, c1, h1, h2⟩ := zbd_t h
      obtain ⟨p2, c2, h3, h4⟩ := zbd_t h2
      obtain ⟨rfl, rfl⟩ := zok_i h4
      exact zwx_ap (fun x hx => zwx_up (ih _ _ _ _ _ h1 x hx) (Or.inl (by decide))) (fun x hx => zwx_up (ih _ _ _ _ _ h3 x hx) (Or.inl (by decide)))
    | 2, h | 4, h =>
      simp only [zP] at h
      split at h
      · rename_i hs
        obtain ⟨p1, c1, h1, h2⟩ := zbd_t h
        obtain ⟨p2, c2, h3, h4⟩ := zbd_t h2
        obtain ⟨rfl, rfl⟩ := zok_i h4
        exact zwx_ap (fun x hx => zwx_up (ih _ _ _ _ _ h1 x hx) (Or.inl (by decide))) (zwx_cn (zwx_js _ (by omega)) (fun x hx => zwx_up (ih _ _ _ _ _ h3 x hx) (Or.inl (by decide))))
      · obtain ⟨rfl, rfl⟩ := zok_i h; exact zwx_nl
    | 5, h =>
      simp only [zP] at h
      split at h
      · rename_i hs
        obtain ⟨p1, c1, h1, h2⟩ := zbd_t h
        obtain ⟨rfl, rfl⟩ := zok_i h2
        exact zwx_ap (fun x hx => zwx_up (ih _ _ _ _ _ h1 x hx) (Or.inl (by decide))) (zwx_cn (zwx_js _ (by omega)) zwx_nl)
      · exact fin h
    | 6, h =>
      simp only [zP] at h
      split at h
      · split at h
        · obtain ⟨p1, c1, h1, h2⟩ := zbd_t h
          obtain ⟨rfl, rfl⟩ := zok_i h2
          exact zwx_ap (fun x hx => zwx_up (ih _ _ _ _ _ h1 x hx) (Or.inl (by decide))) (zwx_cn (Or.inl (Or.inr (Or.inr (Or.inr rfl)))) zwx_nl)
        · exact fin h
      · split at h
        · split at h
          · obtain ⟨p1, c1, h1, h2⟩ := zbd_t h
            split at h2
            · obtain ⟨rfl, rfl⟩ := zok_i h2
              exact fun x hx => zwx_up (ih _ _ _ _ _ h1 x hx) (Or.inl (by decide))
            · exact fin h2
          · exact fin h
        · obtain ⟨p1, c1, h1, h2⟩ := zbd_t h
          obtain ⟨p2, c2, h3, h4⟩ := zbd_t h2
          obtain ⟨rfl, rfl⟩ := zok_i h4
          exact zwx_ap (fun x hx => zwx_up (ih _ _ _ _ _ h1 x hx) (Or.inl (by decide))) (fun x hx => zwx_up (ih _ _ _ _ _ h3 x hx) (Or.inl (by decide)))
    | 7, h =>
      simp only [zP] at h
      split at h
      · obtain ⟨p1, c1, h1, h2⟩ := zbd_t h
        obtain ⟨p2, c2, h3, h4⟩ := zbd_t h2
        obtain ⟨rfl, rfl⟩ := zok_i h4
        exact zwx_ap (fun x hx => zwx_up (ih _ _ _ _ _ h1 x hx) (Or.inl (by decide))) (zwx_cn (zwx_js 38 (by decide)) (fun x hx => zwx_up (ih _ _ _ _ _ h3 x hx) (Or.inl (by decide))))
      · obtain ⟨rfl, rfl⟩ := zok_i h; exact zwx_nl
    | 9, h =>
      simp only [zP] at h
      split at h
      · obtain ⟨p1, c1, h1, h2⟩ := zbd_t h
        obtain ⟨p2, c2, h3, h4⟩ := zbd_t h2
        obtain ⟨p3, c3, h5, h6⟩ := zbd_t h4
        obtain ⟨rfl, rfl⟩ := zok_i h6
        exact zwx_ap (fun x hx => zwx_up (ih _ _ _ _ _ h1 x hx) (Or.inl (by decide))) (zwx_ap (fun x hx => zwx_up (ih _ _ _ _ _ h3 x hx) (Or.inl (by decide))) (zwx_cn (zwx_js 124 (by decide)) (fun x hx => zwx_up (ih _ _ _ _ _ h5 x hx) (Or.inl (by decide)))))
      · obtain ⟨rfl, rfl⟩ := zok_i h; exact zwx_nl
    | 11, h =>
      simp only [zP] at h
      split at h
      · obtain ⟨p1, c1, h1, h2⟩ := zbd_t h
        obtain ⟨rfl, rfl⟩ := zok_i h2
        exact zwx_cn (Or.inr ⟨by decide, Or.inr rfl⟩) (zwx_ap (fun x hx => zwx_up (ih _ _ _ _ _ h1 x hx) (Or.inl (by decide))) (zwx_cn (Or.inr ⟨by decide, Or.inl rfl⟩) zwx_nl))
      · exact fin h
    | 12, h =>
      have up : ∀ {b : Nat} {c : List Int}, (∀ x ∈ c, zwx b x) → ∀ x ∈ c, zwx 12 x := fun hc x hx => zwx_up (hc x hx) (Or.inr (by decide))
      simp only [zP] at h
      split at h
      · split at h
        · split at h
          · obtain ⟨p1, c1, h1, h2⟩ := zbd_t h
            obtain ⟨p2, c2, h3, h4⟩ := zbd_t h2
            obtain ⟨rfl, rfl⟩ := zok_i h4
            exact zwx_ap (up (ih _ _ _ _ _ h1)) (up (ih _ _ _ _ _ h3))
          · obtain ⟨p1, c1, h1, h2⟩ := zbd_t h
            split at h2
            · obtain ⟨p2, c2, h3, h4⟩ := zbd_t h2
              obtain ⟨p3, c3, h5, h6⟩ := zbd_t h4
              obtain ⟨p4, c4, h7, h8⟩ := zbd_t h6
              obtain ⟨rfl, rfl⟩ := zok_i h8
              exact zwx_ap (up (ih _ _ _ _ _ h1)) (zwx_ap (up (ih _ _ _ _ _ h3)) (zwx_ap (up (ih _ _ _ _ _ h5)) (up (ih _ _ _ _ _ h7))))
            · obtain ⟨rfl, rfl⟩ := zok_i h2
              exact zwx_ap (up (ih _ _ _ _ _ h1)) (zwx_cn (Or.inr ⟨by decide, Or.inl rfl⟩) zwx_nl)
        · exact fin h
      · exact fin h
    | k + 13, h =>
      have up : ∀ {b : Nat} {c : List Int}, (∀ x ∈ c, zwx b x) → ∀ x ∈ c, zwx (k + 13) x := fun hc x hx => zwx_up (hc x hx) (Or.inr (by omega))
      simp only [zP] at h
      obtain ⟨p1, c1, h1, h2⟩ := zbd_t h
      split at h2
      · obtain ⟨rfl, rfl⟩ := zok_i h2
        exact up (ih _ _ _ _ _ h1)
      · split at h2
        · obtain ⟨p2, c2, h3, h4⟩ := zbd_t h2
          obtain ⟨rfl, rfl⟩ := zok_i h4
          exact zwx_ap (up (ih _ _ _ _ _ h1)) (up (ih _ _ _ _ _ h3))
        · exact fin h2
/-! what a piece of signs does to the stack -/
def zE (L : Int → Int) (c : List Int) (s s' : List Int) : Prop := ∀ rest, zwor L (c ++ rest) s false = zwor L rest s' false
theorem zE_nil (L : Int → Int) (s : List Int) : zE L [] s s := fun _ => rfl
theorem zE_app {L : Int → Int} {a b : List Int} {s s' s'' : List Int} (h : zE L a s s') (h2 : zE L b s' s'') : zE L (a ++ b) s s'' := fun rest => by rw [List.append_assoc, h, h2]
theorem zE_num {L : Int → Int} {c : Int} {s : List Int} (h : 0 ≤ c) : zE L [c] s (c :: s) := fun rest => by
  show zwor L (c :: rest) s false = _
  exact zwor_v h
theorem zE_let {L : Int → Int} {x : Int} {s : List Int} (h : zlet x) : zE L [-x] s (L x :: s) := fun rest => by
  show zwor L (-x :: rest) s false = _
  rw [zwor_l (by rw [Int.neg_neg]; exact h), Int.neg_neg]
theorem zE_jn {L : Int → Int} {x a b : Int} {s : List Int} (h : zjs x) : zE L [-x] (b :: a :: s) (zbn (zjn x a b) :: s) := fun rest => by
  show zwor L (-x :: rest) (b :: a :: s) false = _
  rw [zwor_j2 (by rw [Int.neg_neg]; exact h), Int.neg_neg]
theorem zE_not {L : Int → Int} {a : Int} {s : List Int} : zE L [-33] (a :: s) (zw_isub 1 a :: s) := fun rest => by
  show zwor L (-33 :: rest) (a :: s) false = _
  exact zwor_n1 (by decide)
/-- what is passed over: all up to the next ; -/
theorem zwor_pass {L : Int → Int} : ∀ (c : List Int) (rest st : List Int), (∀ x ∈ c, -x ≠ 59) → zwor L (c ++ -59 :: rest) st true = zwor L rest st false := by
  intro c
  induction c with
  | nil => intro rest st _; exact zwor_p1 (by decide)
  | cons x c ih =>
    intro rest st h
    rw [List.cons_append, zwor_p0 (h x List.mem_cons_self)]
    exact ih rest st (fun y hy => h y (List.mem_cons_of_mem _ hy))
/-! a parser that stands at a digit goes no further: it stays, or fails there -/
def zDg (t : Nat → Int) (n p : Nat) (x : Option zRs) : Prop := ∀ r, x = some r → (r.1 = false ∨ zdg (zsg t n p)) ∧ r.2.1 = p
theorem zDg_ok {t : Nat → Int} {n p : Nat} {c : List Int} (h : zdg (zsg t n p)) : zDg t n p (zok p c) := fun r e => by cases e; exact ⟨Or.inr h, rfl⟩
theorem zDg_fl {t : Nat → Int} {n p : Nat} : zDg t n p (zfl p) := fun r e => by cases e; exact ⟨Or.inl rfl, rfl⟩
theorem zDg_no {t : Nat → Int} {n p : Nat} : zDg t n p none := fun r e => by cases e
theorem zDg_if {t : Nat → Int} {n p : Nat} {x : Int} {A : Option zRs} (h : zdg (zsg t n p)) (hx : x < 48 ∨ 57 < x) : zDg t n p (if zsg t n p = x then A else zfl p) := by rw [if_neg (by omega)]; exact zDg_fl
theorem zDg_lp {t : Nat → Int} {n p f tag dep : Nat} {k : Nat → List Int → Option zRs} (h : zdg (zsg t n p)) (ht : tag = 2 ∨ tag = 4 ∨ tag = 7 ∨ tag = 9) (hk : zDg t n p (k p [])) : zDg t n p (zbd (zP t n f tag p dep) k) := by
  cases f with
  | zero => exact zDg_no
  | succ f =>
    have e : zP t n (f + 1) tag p dep = zok p [] := by
      rcases ht with rfl | rfl | rfl | rfl <;> (simp only [zP]; rw [if_neg (by omega)])
    rw [e]; exact hk
theorem zDg_8 {t : Nat → Int} {n p f dep : Nat} {k : Nat → List Int → Option zRs} (h : zdg (zsg t n p)) (hk : ∀ c, zDg t n p (k p c)) : zDg t n p (zbd (zP t n f 8 p dep) k) := by
  cases f with
  | zero => exact zDg_no
  | succ f =>
    simp only [zP]
    cases f with
    | zero => exact zDg_no
    | succ f =>
      have e : zP t n (f + 1) 7 p dep = zok p [] := by simp only [zP]; rw [if_neg (by omega)]
      have e2 : zP t n (f + 1) 9 p dep = zok p [] := by simp only [zP]; rw [if_neg (by omega)]
      rw [e]
      show zDg t n p (zbd (zbd (zP t n (f + 1) 9 p dep) _) k)
      rw [e2]
      exact hk _
theorem zDg_51 {t : Nat → Int} {n p f tag dep : Nat} {k : Nat → List Int → Option zRs} (h : zdg (zsg t n p)) (ht : tag = 5 ∨ tag = 11) : zDg t n p (zbd (zP t n f tag p dep) k) := by
  cases f with
  | zero => exact zDg_no
  | succ f =>
    have e : zP t n (f + 1) tag p dep = zfl p := by rcases ht with rfl | rfl <;> (simp only [zP]; rw [if_neg (by omega)])
    rw [e]
    intro r e; cases e; exact ⟨Or.inl rfl, rfl⟩
def zK9 (k : Nat → List Int → Option zRs) (r1 r : zRs) : Prop := (r1.1 = false ∧ r = (false, r1.2.1, [])) ∨ (r1.1 = true ∧ k r1.2.1 r1.2.2 = some r)
theorem zbd_e {A : Option zRs} {k : Nat → List Int → Option zRs} {r : zRs} (h : zbd A k = some r) : ∃ r1, A = some r1 ∧ zK9 k r1 r := by
  rcases A with _ | ⟨b, p, c⟩
  · cases h
  · cases b with
    | false => cases h; exact ⟨_, rfl, Or.inl ⟨rfl, rfl⟩⟩
    | true => exact ⟨_, rfl, Or.inr ⟨rfl, h⟩⟩
theorem zX_gen {t : Nat → Int} {n p : Nat} {k : Nat → List Int → Option zRs} {r r1 : zRs} (hK : zK9 k r1 r) (hd : r1.1 = false ∨ zdg (zsg t n p)) (hp : r1.2.1 = p) (hk : zdg (zsg t n p) → ∀ c, zDg t n p (k p c)) : (r.1 = false ∨ zdg (zsg t n p)) ∧ r.2.1 = p := by
  rcases hK with ⟨h1, rfl⟩ | ⟨h1, h2⟩
  · exact ⟨Or.inl rfl, hp⟩
  · rcases hd with h3 | h3
    · rw [h1] at h3; cases h3
    · rw [hp] at h2
      exact hk h3 _ r h2
theorem zN_gen {k : Nat → List Int → Option zRs} {r r1 : zRs} {p : Nat} {c : List Int} (hK : zK9 k r1 r) (h : r1 = (true, p, c)) : k p c = some r := by
  subst h
  rcases hK with ⟨h1, -⟩ | ⟨-, h2⟩
  · cases h1
  · exact h2
theorem zskip_at (t : Nat → Int) (n : Nat) : ∀ m k, n - k ≤ m → zskip t n (zskip t n k) = zskip t n k := by
  intro m
  induction m with
  | zero => intro k hk; rw [zskip_eq t n k, if_neg (by omega), zskip_eq, if_neg (by omega)]
  | succ m ih =>
    intro k hk
    rw [zskip_eq t n k]
    split
    · exact ih (k + 1) (by omega)
    · rename_i h; rw [zskip_eq, if_neg h]
theorem zskip_id (t : Nat → Int) (n k : Nat) : zskip t n (zskip t n k) = zskip t n k := zskip_at t n _ k (Nat.le_refl _)
theorem zskip_dg {t : Nat → Int} {n p : Nat} (h : zdg (zsg t n p)) : zskip t n p = p := by
  rw [zskip_eq, if_neg]
  rintro ⟨h1, h2⟩
  unfold zsg at h
  rw [if_pos h1, h2] at h
  omega
