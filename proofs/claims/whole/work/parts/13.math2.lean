/-! THE MATHEMATICS, on: pairs by their places, hunks -/
theorem prs_take {a b : List Int32} : ∀ {n k : Nat}, k < (prs a b n).length → ∃ i j, (prs a b n)[k]? = some (i, j) ∧ (prs a b n).take k = prs a b i ∧ pn a b i = some j ∧ i < n := by
  intro n
  induction n with
  | zero => intro k h; exact absurd h (Nat.not_lt_zero k)
  | succ n ih =>
    intro k hk
    cases h : pn a b n with
    | none =>
      rw [prs_none h] at hk ⊢
      obtain ⟨i, j, h1, h2, h3, h4⟩ := ih hk
      exact ⟨i, j, h1, h2, h3, by omega⟩
    | some j0 =>
      rw [prs_some h] at hk ⊢
      rw [List.length_append, List.length_singleton] at hk
      rcases Nat.lt_or_ge k (prs a b n).length with h9 | h9
      · obtain ⟨i, j, h1, h2, h3, h4⟩ := ih h9
        exact ⟨i, j, by rw [List.getElem?_append_left h9]; exact h1, by rw [List.take_append_of_le_length (by omega)]; exact h2, h3, by omega⟩
      · have e : k = (prs a b n).length := by omega
        subst e
        exact ⟨n, j0, by rw [List.getElem?_append_right (Nat.le_refl _), Nat.sub_self]; rfl, by rw [List.take_append_of_le_length (Nat.le_refl _), List.take_length], h, Nat.lt_succ_self n⟩
theorem prs_has {a b : List Int32} {n i j : Nat} (hi : i < n) (h : pn a b i = some j) : (i, j) ∈ prs a b n := by
  induction n with
  | zero => omega
  | succ n ih =>
    rcases Nat.lt_or_ge i n with h9 | h9
    · have := ih h9
      cases hp : pn a b n with
      | none => rw [prs_none hp]; exact this
      | some q => rw [prs_some hp]; exact List.mem_append_left _ this
    · have e : i = n := by omega
      subst e
      rw [prs_some h]
      exact List.mem_append_right _ (List.mem_singleton.mpr rfl)
theorem prs_lt {a b : List Int32} {n k k2 : Nat} {p q : Nat × Nat} (h : k < k2) (hp : (prs a b n)[k]? = some p) (hq : (prs a b n)[k2]? = some q) : p.1 < q.1 := by
  obtain ⟨i, j, h1, h2, -, -⟩ := prs_take (a := a) (b := b) (n := n) (k := k2) (List.getElem?_eq_some_iff.mp hq).1
  cases Option.some.inj (h1.symm.trans hq)
  have hm : p ∈ prs a b i := by
    rw [← h2]
    exact List.mem_of_getElem? (i := k) (by rw [List.getElem?_take_of_lt h]; exact hp)
  exact (prs_mem p hm).1
theorem rpN_at {f : Nat → Int32} {α : Type} {ps : List α} {pr : α → Nat} {k : Nat} {p : α} (h : rpN f (ps.map pr)) (hk : ps[k]? = some p) : f k = nI (pr p) := by
  have hl : k < (ps.map pr).length := by rw [List.length_map]; exact (List.getElem?_eq_some_iff.mp hk).1
  rw [h k hl]
  simp only [List.getD_eq_getElem?_getD, List.getElem?_map, hk]
  rfl
/-- a hunk: where it begins and how many lines, in a and in b; none if both are empty -/
abbrev N4 : Type := Nat × Nat × Nat × Nat
def hk1 (a i b j : Nat) : List N4 := if a < i ∨ b < j then [(a, i - a, b, j - b)] else []
def cstep (s : Nat × Nat × List N4) (p : Nat × Nat) : Nat × Nat × List N4 := (p.1 + 1, p.2 + 1, s.2.2 ++ hk1 s.1 p.1 s.2.1 p.2)
def cutp (ps : List (Nat × Nat)) : Nat × Nat × List N4 := ps.foldl cstep (0, 0, [])
theorem cutp_nil : cutp [] = (0, 0, []) := rfl
theorem cutp_snoc (ps : List (Nat × Nat)) (p : Nat × Nat) : cutp (ps ++ [p]) = cstep (cutp ps) p := by rw [cutp, cutp, List.foldl_append]; rfl
/-- the hunks of a, b -/
def hunksOf (a b : List Int32) : List N4 := (cutp (prs a b a.length)).2.2 ++ hk1 (cutp (prs a b a.length)).1 a.length (cutp (prs a b a.length)).2.1 b.length
theorem hk1_len (a i b j : Nat) : (hk1 a i b j).length ≤ 1 := by unfold hk1; split <;> simp
theorem cutp_prs (a b : List Int32) (i : Nat) : (cutp (prs a b i)).1 ≤ i ∧ (cutp (prs a b i)).2.1 = fro a b i ∧ (cutp (prs a b i)).2.2.length ≤ (prs a b i).length := by
  induction i with
  | zero => exact ⟨Nat.le_refl _, rfl, Nat.le_refl _⟩
  | succ i ih =>
    cases h : pn a b i with
    | none => rw [prs_none h, fro_none h]; omega
    | some j =>
      rw [prs_some h, fro_some h, cutp_snoc]
      refine ⟨Nat.le_refl _, rfl, ?_⟩
      have := hk1_len (cutp (prs a b i)).1 i (cutp (prs a b i)).2.1 j
      simp only [cstep, List.length_append, List.length_singleton]
      omega
theorem take_snoc {α : Type} {l : List α} {k : Nat} {p : α} (h : l[k]? = some p) : l.take (k + 1) = l.take k ++ [p] := by rw [List.take_add_one, h]; rfl
/-- numbers four by four -/
def fl4 (hs : List N4) : List Nat := hs.flatMap (fun h => [h.1, h.2.1, h.2.2.1, h.2.2.2])
theorem fl4_snoc (hs : List N4) (h : N4) : fl4 (hs ++ [h]) = (((fl4 hs ++ [h.1]) ++ [h.2.1]) ++ [h.2.2.1]) ++ [h.2.2.2] := by simp [fl4, List.flatMap_append]
theorem fl4_len (hs : List N4) : (fl4 hs).length = 4 * hs.length := by
  induction hs with
  | nil => rfl
  | cons h t ih =>
    have : fl4 (h :: t) = [h.1, h.2.1, h.2.2.1, h.2.2.2] ++ fl4 t := rfl
    rw [this, List.length_append, ih, List.length_cons]
    simp only [List.length_cons, List.length_nil]
    omega
theorem rp4_snoc {f : Nat → Int32} {hs : List N4} {n : Nat} (h : rpN f (fl4 hs)) (hn : n = hs.length) (x y z w : Nat) : rpN (upd (upd (upd (upd f (n * 4) (nI x)) (n * 4 + 1) (nI y)) (n * 4 + 2) (nI z)) (n * 4 + 3) (nI w)) (fl4 (hs ++ [(x, y, z, w)])) := by
  have hl := fl4_len hs
  rw [fl4_snoc]
  have h1 := rpN_snoc h x
  rw [hl, show 4 * hs.length = n * 4 by omega] at h1
  have h2 := rpN_snoc h1 y
  rw [List.length_append, hl, List.length_singleton, show 4 * hs.length + 1 = n * 4 + 1 by omega] at h2
  have h3 := rpN_snoc h2 z
  rw [List.length_append, List.length_append, hl, List.length_singleton, List.length_singleton, show 4 * hs.length + 1 + 1 = n * 4 + 2 by omega] at h3
  have h4 := rpN_snoc h3 w
  rw [List.length_append, List.length_append, List.length_append, hl, List.length_singleton, List.length_singleton, List.length_singleton, show 4 * hs.length + 1 + 1 + 1 = n * 4 + 3 by omega] at h4
  exact h4
theorem rp4_at {f : Nat → Int32} {hs : List N4} {k : Nat} {h : N4} (hr : rpN f (fl4 hs)) (hk : hs[k]? = some h) : f (k * 4) = nI h.1 ∧ f (k * 4 + 1) = nI h.2.1 ∧ f (k * 4 + 2) = nI h.2.2.1 ∧ f (k * 4 + 3) = nI h.2.2.2 := by
  have hl : k < hs.length := (List.getElem?_eq_some_iff.mp hk).1
  have key : ∀ (l : List N4) (k : Nat), l[k]? = some h → (fl4 l)[k * 4]? = some h.1 ∧ (fl4 l)[k * 4 + 1]? = some h.2.1 ∧ (fl4 l)[k * 4 + 2]? = some h.2.2.1 ∧ (fl4 l)[k * 4 + 3]? = some h.2.2.2 := by
    intro l
    induction l with
    | nil => intro k hk; simp at hk
    | cons z t ih =>
      intro k hk
      have e : fl4 (z :: t) = z.1 :: z.2.1 :: z.2.2.1 :: z.2.2.2 :: fl4 t := rfl
      cases k with
      | zero => simp at hk; subst hk; rw [e]; exact ⟨rfl, rfl, rfl, rfl⟩
      | succ k =>
        simp only [List.getElem?_cons_succ] at hk
        have := ih k hk
        rw [e, show (k + 1) * 4 = k * 4 + 4 by omega]
        exact this
  obtain ⟨k1, k2, k3, k4⟩ := key hs k hk
  have hl4 := fl4_len hs
  refine ⟨?_, ?_, ?_, ?_⟩
  · rw [hr _ (by omega), List.getD_eq_getElem?_getD, k1]; rfl
  · rw [hr _ (by omega), List.getD_eq_getElem?_getD, k2]; rfl
  · rw [hr _ (by omega), List.getD_eq_getElem?_getD, k3]; rfl
  · rw [hr _ (by omega), List.getD_eq_getElem?_getD, k4]; rfl
