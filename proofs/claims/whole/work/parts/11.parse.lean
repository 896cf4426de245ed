/-! a CUSTOM's text: the one parser that both sides are tied to. zP text length fuel what place depth: none (no fuel left), or (well or not, where, the signs behind what they join) -/
abbrev zRs := Bool × Nat × List Int
def zbd (r : Option zRs) (k : Nat → List Int → Option zRs) : Option zRs := match r with
  | none => none
  | some (false, p, _) => some (false, p, [])
  | some (true, p, c) => k p c
abbrev zok (p : Nat) (c : List Int) : Option zRs := some (true, p, c)
abbrev zfl (p : Nat) : Option zRs := some (false, p, [])
abbrev zlet (s : Int) : Prop := s = 110 ∨ s = 116 ∨ s = 115 ∨ s = 108 ∨ s = 105 ∨ s = 100
abbrev zcp (s : Int) : Prop := s = 61 ∨ s = 60 ∨ s = 62
def zP (t : Nat → Int) (n : Nat) : Nat → Nat → Nat → Nat → Option zRs
  | 0, _, _, _ => none
  | f + 1, tag, q, dep => match tag with
    | 0 => if zsg t n q = 91 then (if dep < 6 then zbd (zP t n f 3 (zskip t n (q + 1)) (dep + 1)) (fun p c => if zsg t n p = 93 then zok (zskip t n (p + 1)) c else zfl p) else zfl q)
      else if zlet (zsg t n q) then zok (zskip t n (q + 1)) [-(zsg t n q)]
      else if (znum t n 4 q 0).2 = q then zfl (zskip t n q) else zok (zskip t n (znum t n 4 q 0).2) [(znum t n 4 q 0).1]
    | 1 => zbd (zP t n f 0 q dep) (fun p c => zbd (zP t n f 2 p dep) (fun p2 c2 => zok p2 (c ++ c2)))
    | 2 => if zsg t n q = 42 ∨ zsg t n q = 47 then zbd (zP t n f 0 (zskip t n (q + 1)) dep) (fun p c => zbd (zP t n f 2 p dep) (fun p2 c2 => zok p2 (c ++ -(zsg t n q) :: c2))) else zok q []
    | 3 => zbd (zP t n f 1 q dep) (fun p c => zbd (zP t n f 4 p dep) (fun p2 c2 => zok p2 (c ++ c2)))
    | 4 => if zsg t n q = 43 ∨ zsg t n q = 45 then zbd (zP t n f 1 (zskip t n (q + 1)) dep) (fun p c => zbd (zP t n f 4 p dep) (fun p2 c2 => zok p2 (c ++ -(zsg t n q) :: c2))) else zok q []
    | 5 => if zcp (zsg t n q) then zbd (zP t n f 3 (zskip t n (q + 1)) dep) (fun p c => zok p (c ++ [-(zsg t n q)])) else zfl q
    | 6 => if zsg t n q = 33 then (if dep < 6 then zbd (zP t n f 6 (zskip t n (q + 1)) (dep + 1)) (fun p c => zok p (c ++ [-33])) else zfl q)
      else if zsg t n q = 40 then (if dep < 6 then zbd (zP t n f 10 (zskip t n (q + 1)) (dep + 1)) (fun p c => if zsg t n p = 41 then zok (zskip t n (p + 1)) c else zfl p) else zfl q)
      else zbd (zP t n f 3 q dep) (fun p c => zbd (zP t n f 5 p dep) (fun p2 c2 => zok p2 (c ++ c2)))
    | 7 => if zsg t n q = 38 then zbd (zP t n f 6 (zskip t n (q + 1)) dep) (fun p c => zbd (zP t n f 7 p dep) (fun p2 c2 => zok p2 (c ++ -38 :: c2))) else zok q []
    | 8 => zbd (zP t n f 7 q dep) (fun p c => zbd (zP t n f 9 p dep) (fun p2 c2 => zok p2 (c ++ c2)))
    | 9 => if zsg t n q = 124 then zbd (zP t n f 6 (zskip t n (q + 1)) dep) (fun p c => zbd (zP t n f 7 p dep) (fun p2 c2 => zbd (zP t n f 9 p2 dep) (fun p3 c3 => zok p3 (c ++ (c2 ++ -124 :: c3))))) else zok q []
    | 10 => zbd (zP t n f 6 q dep) (fun p c => zbd (zP t n f 8 p dep) (fun p2 c2 => zok p2 (c ++ c2)))
    | 11 => if zsg t n q = 63 then zbd (zP t n f 3 (zskip t n (q + 1)) 0) (fun p c => zok p (-63 :: (c ++ [-59]))) else zfl q
    | 12 => if zsg t n q = 121 then (if zsg t n (zskip t n (q + 1)) = 58 then
        (if zsg t n (zskip t n (zskip t n (q + 1) + 1)) = 33 ∨ zsg t n (zskip t n (zskip t n (q + 1) + 1)) = 40 then zbd (zP t n f 10 (zskip t n (zskip t n (q + 1) + 1)) 0) (fun p c => zbd (zP t n f 11 p 0) (fun p2 c2 => zok p2 (c ++ c2)))
        else zbd (zP t n f 3 (zskip t n (zskip t n (q + 1) + 1)) 0) (fun p c => if zcp (zsg t n p) then zbd (zP t n f 5 p 0) (fun p2 c2 => zbd (zP t n f 8 p2 0) (fun p3 c3 => zbd (zP t n f 11 p3 0) (fun p4 c4 => zok p4 (c ++ (c2 ++ (c3 ++ c4)))))) else zok p (c ++ [-59])))
        else zfl (zskip t n (q + 1))) else zfl q
    | _ => zbd (zP t n f 12 q 0) (fun p c => if n ≤ p then zok p c else if zsg t n p = 59 then zbd (zP t n f 13 (zskip t n (p + 1)) 0) (fun p2 c2 => zok p2 (c ++ c2)) else zfl p)
theorem zbd_c {r : Option zRs} {k : Nat → List Int → Option zRs} {x : zRs} (h : zbd r k = some x) : (∃ p c, r = some (false, p, c) ∧ x = (false, p, [])) ∨ ∃ p c, r = some (true, p, c) ∧ k p c = some x := by
  rcases r with _ | ⟨b, p, c⟩
  · cases h
  · cases b with
    | false => left; cases h; exact ⟨p, c, rfl, rfl⟩
    | true => right; exact ⟨p, c, rfl, h⟩
theorem zbd_t {r : Option zRs} {k : Nat → List Int → Option zRs} {p : Nat} {c : List Int} (h : zbd r k = some (true, p, c)) : ∃ p1 c1, r = some (true, p1, c1) ∧ k p1 c1 = some (true, p, c) := by
  rcases zbd_c h with ⟨p1, c1, -, h2⟩ | h
  · cases h2
  · exact h
theorem zskip_ge (t : Nat → Int) (n : Nat) : ∀ m k, k ≤ zskipF t n m k ∧ (zskipF t n m k ≤ n ∨ zskipF t n m k = k) := by
  intro m
  induction m with
  | zero => intro k; exact ⟨Nat.le_refl _, Or.inr rfl⟩
  | succ m ih =>
    intro k
    unfold zskipF
    split
    · have := ih (k + 1)
      omega
    · exact ⟨Nat.le_refl _, Or.inr rfl⟩
theorem zskip_b (t : Nat → Int) (n k : Nat) : k ≤ zskip t n k ∧ (zskip t n k ≤ n ∨ zskip t n k = k) := zskip_ge t n _ k
theorem zsg_lt {t : Nat → Int} {n q : Nat} {x : Int} (h : zsg t n q = x) (hx : x ≠ -1) : q < n := by
  unfold zsg at h
  split at h
  · assumption
  · exact absurd h.symm hx
theorem zok_i {p q : Nat} {c d : List Int} (h : zok p c = some (true, q, d)) : p = q ∧ c = d := by
  cases h; exact ⟨rfl, rfl⟩
theorem zfl_i {p q : Nat} {d : List Int} (h : zfl p = some (true, q, d)) : False := by cases h
/-- places rise, stay within the text, and no more signs come than bytes were read -/
theorem zP_b (t : Nat → Int) (n : Nat) : ∀ (f tag q dep p : Nat) (c : List Int), zP t n f tag q dep = some (true, p, c) → q ≤ p ∧ (p ≤ n ∨ p = q) ∧ c.length + q ≤ p + (if tag = 11 then 1 else 0) := by
  intro f
  induction f with
  | zero => intro tag q dep p c h; cases h
  | succ f ih =>
    intro tag q dep p c h
    have sk1 := fun k => zskip_b t n k
    have fin : ∀ {X : Prop}, zfl q = some (true, p, c) → X := fun h => (zfl_i h).elim
    match tag, h with
    | 0, h =>
      simp only [zP] at h
      split at h
      · rename_i hs
        have := zsg_lt hs (by decide)
        split at h
        · obtain ⟨p1, c1, h1, h2⟩ := zbd_t h
          split at h2
          · rename_i hs2
            have := zsg_lt hs2 (by decide)
            obtain ⟨rfl, rfl⟩ := zok_i h2
            have a := ih _ _ _ _ _ h1
            have b := sk1 (q + 1); have b2 := sk1 (p1 + 1)
            simp at a ⊢; omega
          · exact (zfl_i h2).elim
        · exact fin h
      · split at h
        · rename_i hs
          have : q < n := by rcases hs with h | h | h | h | h | h <;> exact zsg_lt h (by decide)
          obtain ⟨rfl, rfl⟩ := zok_i h
          have b := sk1 (q + 1)
          simp; omega
        · split at h
          · exact (zfl_i h).elim
          · rename_i hne
            obtain ⟨rfl, rfl⟩ := zok_i h
            have a := znum_p t n 4 q 0
            have b := sk1 (znum t n 4 q 0).2
            have c9 : (znum t n 4 q 0).2 ≤ n := by
              have key : ∀ d q v, (znum t n d q v).2 ≤ n ∨ (znum t n d q v).2 = q := by
                intro d
                induction d with
                | zero => intro q v; exact Or.inr rfl
                | succ d ih9 =>
                  intro q v
                  unfold znum
                  split
                  · rename_i hd
                    have := zdg_lt hd
                    have := ih9 (q + 1) (10 * v + zsg t n q - 48)
                    omega
                  · exact Or.inr rfl
              rcases key 4 q 0 with h | h
              · exact h
              · exact absurd h hne
            simp; omega
    | 1, h | 3, h | 8, h | 10, h =>
      simp only [zP] at h
      obtain ⟨p1, c1, h1, h2⟩ := zbd_t h
      obtain ⟨p2, c2, h3, h4⟩ := zbd_t h2
      obtain ⟨rfl, rfl⟩ := zok_i h4
      have a := ih _ _ _ _ _ h1; have b := ih _ _ _ _ _ h3
      simp at a b ⊢; omega
    | 2, h | 4, h =>
      simp only [zP] at h
      split at h
      · rename_i hs
        have : q < n := by rcases hs with h | h <;> exact zsg_lt h (by decide)
        obtain ⟨p1, c1, h1, h2⟩ := zbd_t h
        obtain ⟨p2, c2, h3, h4⟩ := zbd_t h2
        obtain ⟨rfl, rfl⟩ := zok_i h4
        have a := ih _ _ _ _ _ h1; have b := ih _ _ _ _ _ h3
        have d := sk1 (q + 1)
        simp at a b ⊢; omega
      · obtain ⟨rfl, rfl⟩ := zok_i h
        simp
    | 5, h =>
      simp only [zP] at h
      split at h
      · rename_i hs
        have : q < n := by rcases hs with h | h | h <;> exact zsg_lt h (by decide)
        obtain ⟨p1, c1, h1, h2⟩ := zbd_t h
        obtain ⟨rfl, rfl⟩ := zok_i h2
        have a := ih _ _ _ _ _ h1
        have d := sk1 (q + 1)
        simp at a ⊢; omega
      · exact fin h
    | 6, h =>
      simp only [zP] at h
      split at h
      · rename_i hs
        have := zsg_lt hs (by decide)
        split at h
        · obtain ⟨p1, c1, h1, h2⟩ := zbd_t h
          obtain ⟨rfl, rfl⟩ := zok_i h2
          have a := ih _ _ _ _ _ h1
          have d := sk1 (q + 1)
          simp at a ⊢; omega
        · exact fin h
      · split at h
        · rename_i hs
          have := zsg_lt hs (by decide)
          split at h
          · obtain ⟨p1, c1, h1, h2⟩ := zbd_t h
            split at h2
            · rename_i hs2
              have := zsg_lt hs2 (by decide)
              obtain ⟨rfl, rfl⟩ := zok_i h2
              have a := ih _ _ _ _ _ h1
              have d := sk1 (q + 1); have d2 := sk1 (p1 + 1)
              simp at a ⊢; omega
            · exact (zfl_i h2).elim
          · exact fin h
        · obtain ⟨p1, c1, h1, h2⟩ := zbd_t h
          obtain ⟨p2, c2, h3, h4⟩ := zbd_t h2
          obtain ⟨rfl, rfl⟩ := zok_i h4
          have a := ih _ _ _ _ _ h1; have b := ih _ _ _ _ _ h3
          simp at a b ⊢; omega
    | 7, h =>
      simp only [zP] at h
      split at h
      · rename_i hs
        have := zsg_lt hs (by decide)
        obtain ⟨p1, c1, h1, h2⟩ := zbd_t h
        obtain ⟨p2, c2, h3, h4⟩ := zbd_t h2
        obtain ⟨rfl, rfl⟩ := zok_i h4
        have a := ih _ _ _ _ _ h1; have b := ih _ _ _ _ _ h3
        have d := sk1 (q + 1)
        simp at a b ⊢; omega
      · obtain ⟨rfl, rfl⟩ := zok_i h
        simp
    | 9, h =>
      simp only [zP] at h
      split at h
      · rename_i hs
        have := zsg_lt hs (by decide)
        obtain ⟨p1, c1, h1, h2⟩ := zbd_t h
        obtain ⟨p2, c2, h3, h4⟩ := zbd_t h2
        obtain ⟨p3, c3, h5, h6⟩ := zbd_t h4
        obtain ⟨rfl, rfl⟩ := zok_i h6
        have a := ih _ _ _ _ _ h1; have b := ih _ _ _ _ _ h3; have b5 := ih _ _ _ _ _ h5
        have d := sk1 (q + 1)
        simp at a b b5 ⊢; omega
      · obtain ⟨rfl, rfl⟩ := zok_i h
        simp
    | 11, h =>
      simp only [zP] at h
      split at h
      · rename_i hs
        have := zsg_lt hs (by decide)
        obtain ⟨p1, c1, h1, h2⟩ := zbd_t h
        obtain ⟨rfl, rfl⟩ := zok_i h2
        have a := ih _ _ _ _ _ h1
        have d := sk1 (q + 1)
        simp at a ⊢; omega
      · exact fin h
    | 12, h =>
      simp only [zP] at h
      split at h
      · rename_i hs
        have := zsg_lt hs (by decide)
        have d := sk1 (q + 1)
        split at h
        · rename_i hs2
          have := zsg_lt hs2 (by decide)
          have d2 := sk1 (zskip t n (q + 1) + 1)
          split at h
          · obtain ⟨p1, c1, h1, h2⟩ := zbd_t h
            obtain ⟨p2, c2, h3, h4⟩ := zbd_t h2
            obtain ⟨rfl, rfl⟩ := zok_i h4
            have a := ih _ _ _ _ _ h1; have b := ih _ _ _ _ _ h3
            simp at a b ⊢; omega
          · obtain ⟨p1, c1, h1, h2⟩ := zbd_t h
            have a := ih _ _ _ _ _ h1
            split at h2
            · obtain ⟨p2, c2, h3, h4⟩ := zbd_t h2
              obtain ⟨p3, c3, h5, h6⟩ := zbd_t h4
              obtain ⟨p4, c4, h7, h8⟩ := zbd_t h6
              obtain ⟨rfl, rfl⟩ := zok_i h8
              have b := ih _ _ _ _ _ h3; have b5 := ih _ _ _ _ _ h5; have b7 := ih _ _ _ _ _ h7
              simp at a b b5 b7 ⊢; omega
            · obtain ⟨rfl, rfl⟩ := zok_i h2
              simp at a ⊢; omega
        · exact (zfl_i h).elim
      · exact fin h
    | k + 13, h =>
      simp only [zP] at h
      obtain ⟨p1, c1, h1, h2⟩ := zbd_t h
      have a := ih _ _ _ _ _ h1
      split at h2
      · obtain ⟨rfl, rfl⟩ := zok_i h2
        simp at a ⊢; omega
      · split at h2
        · rename_i hs
          have := zsg_lt hs (by decide)
          obtain ⟨p2, c2, h3, h4⟩ := zbd_t h2
          obtain ⟨rfl, rfl⟩ := zok_i h4
          have b := ih _ _ _ _ _ h3
          have d := sk1 (p1 + 1)
          simp at a b ⊢; omega
        · exact (zfl_i h2).elim
def zrk (tag : Nat) : Nat := match tag with
  | 1 => 1 | 3 => 2 | 6 => 3 | 8 => 1 | 10 => 4 | 0 => 0 | 2 => 0 | 4 => 0 | 5 => 0 | 7 => 0 | 9 => 0 | 11 => 0 | 12 => 0 | _ => 1
theorem zbd_tot {A : Option zRs} {k : Nat → List Int → Option zRs} (h : ∃ r, A = some r) (hk : ∀ p c, A = some (true, p, c) → ∃ x, k p c = some x) : ∃ x, zbd A k = some x := by
  obtain ⟨⟨b, p, c⟩, hr⟩ := h
  cases b with
  | false => exact ⟨(false, p, []), by rw [hr]; rfl⟩
  | true => obtain ⟨x, hx⟩ := hk p c hr; exact ⟨x, by rw [hr]; exact hx⟩
theorem zP_tot (t : Nat → Int) (n : Nat) : ∀ (f tag q dep : Nat), 5 * (n - q) + zrk tag < f → ∃ r, zP t n f tag q dep = some r := by
  intro f
  induction f with
  | zero => intro tag q dep h; omega
  | succ f ih =>
    intro tag q dep hm
    have sk1 := fun k => (zskip_b t n k).1
    have up : ∀ {tag' q' dep' : Nat}, q < n → q + 1 ≤ q' → ∃ r, zP t n f tag' q' dep' = some r := fun {tag' q' dep'} h1 h2 => ih tag' q' dep' (by
      have : zrk tag' ≤ 4 := by unfold zrk; split <;> omega
      omega)
    have fl : ∀ p, ∃ x, zfl p = some x := fun p => ⟨_, rfl⟩
    have ok : ∀ p c, ∃ x, zok p c = some x := fun p c => ⟨_, rfl⟩
    have bd : ∀ {tag' q' dep' p : Nat} {c : List Int}, zP t n f tag' q' dep' = some (true, p, c) → q' ≤ p := fun h => (zP_b t n _ _ _ _ _ _ h).1
    have ih' := fun tag' q' dep' (h1 : q ≤ q') (h2 : zrk tag' < zrk tag) => ih tag' q' dep' (by omega)
    match tag, hm, ih' with
    | 0, hm, ih' =>
      simp only [zP]
      split
      · rename_i hs
        have := zsg_lt hs (by decide)
        split
        · exact zbd_tot (up this (sk1 _)) (fun p c _ => by split; exact ok _ _; exact fl _)
        · exact fl _
      · split
        · exact ok _ _
        · split
          · exact fl _
          · exact ok _ _
    | 1, hm, ih' => simp only [zP]; exact zbd_tot (ih' 0 _ _ (Nat.le_refl _) (by decide)) (fun p c h => zbd_tot (ih' 2 _ _ (bd h) (by decide)) (fun _ _ _ => ok _ _))
    | 3, hm, ih' => simp only [zP]; exact zbd_tot (ih' 1 _ _ (Nat.le_refl _) (by decide)) (fun p c h => zbd_tot (ih' 4 _ _ (bd h) (by decide)) (fun _ _ _ => ok _ _))
    | 8, hm, ih' => simp only [zP]; exact zbd_tot (ih' 7 _ _ (Nat.le_refl _) (by decide)) (fun p c h => zbd_tot (ih' 9 _ _ (bd h) (by decide)) (fun _ _ _ => ok _ _))
    | 10, hm, ih' => simp only [zP]; exact zbd_tot (ih' 6 _ _ (Nat.le_refl _) (by decide)) (fun p c h => zbd_tot (ih' 8 _ _ (bd h) (by decide)) (fun _ _ _ => ok _ _))
    | 2, hm, ih' | 4, hm, ih' =>
      simp only [zP]
      split
      · rename_i hs
        have : q < n := by rcases hs with h | h <;> exact zsg_lt h (by decide)
        exact zbd_tot (up this (sk1 _)) (fun p c h => zbd_tot (up this (Nat.le_trans (sk1 _) (bd h))) (fun _ _ _ => ok _ _))
      · exact ok _ _
    | 5, hm, ih' =>
      simp only [zP]
      split
      · rename_i hs
        have : q < n := by rcases hs with h | h | h <;> exact zsg_lt h (by decide)
        exact zbd_tot (up this (sk1 _)) (fun p c h => ok _ _)
      · exact fl _
    | 6, hm, ih' =>
      simp only [zP]
      split
      · rename_i hs
        have := zsg_lt hs (by decide)
        split
        · exact zbd_tot (up this (sk1 _)) (fun p c _ => ok _ _)
        · exact fl _
      · split
        · rename_i hs
          have := zsg_lt hs (by decide)
          split
          · exact zbd_tot (up this (sk1 _)) (fun p c _ => by split; exact ok _ _; exact fl _)
          · exact fl _
        · exact zbd_tot (ih' 3 _ _ (Nat.le_refl _) (by decide)) (fun p c h => zbd_tot (ih' 5 _ _ (bd h) (by decide)) (fun _ _ _ => ok _ _))
    | 7, hm, ih' =>
      simp only [zP]
      split
      · rename_i hs
        have := zsg_lt hs (by decide)
        exact zbd_tot (up this (sk1 _)) (fun p c h => zbd_tot (up this (Nat.le_trans (sk1 _) (bd h))) (fun _ _ _ => ok _ _))
      · exact ok _ _
    | 9, hm, ih' =>
      simp only [zP]
      split
      · rename_i hs
        have := zsg_lt hs (by decide)
        exact zbd_tot (up this (sk1 _)) (fun p c h => zbd_tot (up this (Nat.le_trans (sk1 _) (bd h))) (fun p2 c2 h2 => zbd_tot (up this (Nat.le_trans (Nat.le_trans (sk1 _) (bd h)) (bd h2))) (fun _ _ _ => ok _ _)))
      · exact ok _ _
    | 11, hm, ih' =>
      simp only [zP]
      split
      · rename_i hs
        have := zsg_lt hs (by decide)
        exact zbd_tot (up this (sk1 _)) (fun p c _ => ok _ _)
      · exact fl _
    | 12, hm, ih' =>
      simp only [zP]
      split
      · rename_i hs
        have := zsg_lt hs (by decide)
        have l2 : q + 1 ≤ zskip t n (zskip t n (q + 1) + 1) := Nat.le_trans (Nat.le_trans (sk1 _) (Nat.le_succ _)) (sk1 _)
        split
        · split
          · exact zbd_tot (up this l2) (fun p c h => zbd_tot (up this (Nat.le_trans l2 (bd h))) (fun _ _ _ => ok _ _))
          · exact zbd_tot (up this l2) (fun p c h => by
              have m1 := Nat.le_trans l2 (bd h)
              split
              · exact zbd_tot (up this m1) (fun p2 c2 h2 => zbd_tot (up this (Nat.le_trans m1 (bd h2))) (fun p3 c3 h3 => zbd_tot (up this (Nat.le_trans (Nat.le_trans m1 (bd h2)) (bd h3))) (fun _ _ _ => ok _ _)))
              · exact ok _ _)
        · exact fl _
      · exact fl _
    | k + 13, hm, ih' =>
      simp only [zP]
      refine zbd_tot (ih' 12 _ _ (Nat.le_refl _) (by show 0 < 1; decide)) (fun p c h => ?_)
      split
      · exact ok _ _
      · split
        · rename_i hs
          have h9 := zsg_lt hs (by decide)
          have := bd h
          exact zbd_tot (ih _ _ _ (by have := sk1 (p + 1); have : zrk 13 = 1 := rfl; omega)) (fun _ _ _ => ok _ _)
        · exact fl _
