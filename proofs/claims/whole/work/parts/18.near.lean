/-! THE MATHEMATICS, on: the nearest place by a search that falls; a merge's conflicts begin in what came of it -/
def isN (P : Nat → Bool) (w : Int) (lo hi : Nat) : Option Nat → Prop
  | none => ∀ p, lo ≤ p → p < hi → ¬ P p = true
  | some q => lo ≤ q ∧ q < hi ∧ P q = true ∧ ∀ p, lo ≤ p → p < hi → P p = true → ((q : Int) - w).natAbs < ((p : Int) - w).natAbs ∨ (((q : Int) - w).natAbs = ((p : Int) - w).natAbs ∧ q ≤ p)
theorem nrst_isN (P : Nat → Bool) (w : Int) (lo n : Nat) : isN P w lo (lo + n) (nrst P w lo n) := by
  induction n with
  | zero => intro p h1 h2; omega
  | succ n ih =>
    by_cases hP : P (lo + n) = true
    · cases e : nrst P w lo n with
      | none =>
        rw [nrst_new hP (Or.inl e)]
        rw [e] at ih
        refine ⟨by omega, by omega, hP, fun p h1 h2 h3 => ?_⟩
        rcases Nat.lt_or_ge p (lo + n) with h9 | h9
        · exact absurd h3 (ih p h1 h9)
        · exact Or.inr ⟨by rw [show p = lo + n by omega], h9⟩
      | some q =>
        rw [e] at ih
        obtain ⟨i1, i2, i3, i4⟩ := ih
        by_cases hd : (((lo + n : Nat) : Int) - w).natAbs < ((q : Int) - w).natAbs
        · rw [nrst_new hP (Or.inr ⟨q, e, hd⟩)]
          refine ⟨by omega, by omega, hP, fun p h1 h2 h3 => ?_⟩
          rcases Nat.lt_or_ge p (lo + n) with h9 | h9
          · have := i4 p h1 h9 h3
            exact Or.inl (by omega)
          · exact Or.inr ⟨by rw [show p = lo + n by omega], h9⟩
        · rw [nrst_far e hd, e]
          refine ⟨i1, by omega, i3, fun p h1 h2 h3 => ?_⟩
          rcases Nat.lt_or_ge p (lo + n) with h9 | h9
          · exact i4 p h1 h9 h3
          · rw [show p = lo + n by omega]
            omega
    · rw [nrst_no hP]
      cases e : nrst P w lo n with
      | none =>
        rw [e] at ih
        intro p h1 h2 h3
        rcases Nat.lt_or_ge p (lo + n) with h9 | h9
        · exact ih p h1 h9 h3
        · rw [show p = lo + n by omega] at h3; exact hP h3
      | some q =>
        rw [e] at ih
        obtain ⟨i1, i2, i3, i4⟩ := ih
        refine ⟨i1, by omega, i3, fun p h1 h2 h3 => ?_⟩
        rcases Nat.lt_or_ge p (lo + n) with h9 | h9
        · exact i4 p h1 h9 h3
        · rw [show p = lo + n by omega] at h3; exact absurd h3 hP
theorem isN_one {P : Nat → Bool} {w : Int} {lo hi : Nat} {x y : Option Nat} (hx : isN P w lo hi x) (hy : isN P w lo hi y) : x = y := by
  cases x with
  | none =>
    cases y with
    | none => rfl
    | some q => obtain ⟨i1, i2, i3, -⟩ := hy; exact absurd i3 (hx q i1 i2)
  | some p =>
    obtain ⟨j1, j2, j3, j4⟩ := hx
    cases y with
    | none => exact absurd j3 (hy p j1 j2)
    | some q =>
      obtain ⟨i1, i2, i3, i4⟩ := hy
      have h1 := j4 q i1 i2 i3
      have h2 := i4 p j1 j2 j3
      congr 1
      omega
theorem isN_no {P : Nat → Bool} {w : Int} {t hi : Nat} {o : Option Nat} (h : isN P w (t + 1) hi o) (hP : ¬ P t = true) : isN P w t hi o := by
  cases o with
  | none =>
    intro p h1 h2 h3
    rcases Nat.lt_or_ge t p with h9 | h9
    · exact h p h9 h2 h3
    · rw [show p = t by omega] at h3; exact hP h3
  | some q =>
    obtain ⟨i1, i2, i3, i4⟩ := h
    refine ⟨by omega, i2, i3, fun p h1 h2 h3 => ?_⟩
    rcases Nat.lt_or_ge t p with h9 | h9
    · exact i4 p h9 h2 h3
    · rw [show p = t by omega] at h3; exact absurd h3 hP
theorem isN_far {P : Nat → Bool} {w : Int} {t hi q : Nat} (h : isN P w (t + 1) hi (some q)) (hd : ((q : Int) - w).natAbs < ((t : Int) - w).natAbs) : isN P w t hi (some q) := by
  obtain ⟨i1, i2, i3, i4⟩ := h
  refine ⟨by omega, i2, i3, fun p h1 h2 h3 => ?_⟩
  rcases Nat.lt_or_ge t p with h9 | h9
  · exact i4 p h9 h2 h3
  · rw [show p = t by omega]; exact Or.inl hd
theorem isN_new0 {P : Nat → Bool} {w : Int} {t hi : Nat} (h : isN P w (t + 1) hi none) (ht : t < hi) (hP : P t = true) : isN P w t hi (some t) := by
  refine ⟨Nat.le_refl _, ht, hP, fun p h1 h2 h3 => ?_⟩
  rcases Nat.lt_or_ge t p with h9 | h9
  · exact absurd h3 (h p h9 h2)
  · exact Or.inr ⟨by rw [show p = t by omega], h1⟩
theorem isN_new1 {P : Nat → Bool} {w : Int} {t hi q : Nat} (h : isN P w (t + 1) hi (some q)) (ht : t < hi) (hP : P t = true) (hd : ((t : Int) - w).natAbs ≤ ((q : Int) - w).natAbs) : isN P w t hi (some t) := by
  obtain ⟨i1, i2, i3, i4⟩ := h
  refine ⟨Nat.le_refl _, ht, hP, fun p h1 h2 h3 => ?_⟩
  rcases Nat.lt_or_ge t p with h9 | h9
  · have := i4 p h9 h2 h3
    omega
  · exact Or.inr ⟨by rw [show p = t by omega], h1⟩
theorem nJ_lt {t n : Nat} (ht : t < 2 ^ 31) (hn : n < 2 ^ 31) : nJ t < nI n ↔ t ≤ n := by
  cases t with
  | zero =>
    refine ⟨fun _ => Nat.zero_le _, fun _ => ?_⟩
    have h1 : nJ 0 < 0 := (nJ_neg (by omega)).mpr rfl
    have h2 : (0 : Int32) ≤ nI n := Int32.not_lt.mp (nI_pos hn)
    exact Int32.lt_of_lt_of_le h1 h2
  | succ i => rw [nJ_succ, nI_ltI (by omega) hn]; omega
theorem joinP_beg {bs lf rt : List Int32} {a i la lj ra rj : Nat} {s : List Int32 × List N3} (h : ∀ x ∈ s.2, x.1 ≤ s.1.length) : ∀ x ∈ (joinP bs lf rt a i la lj ra rj s).2, x.1 ≤ (joinP bs lf rt a i la lj ra rj s).1.length := by
  unfold joinP
  intro x hx
  split at hx
  · rw [if_pos (by assumption)]
    simp only [List.length_append]
    have := h x hx
    omega
  · rename_i h1
    rw [if_neg h1]
    split at hx
    · rename_i h2
      rw [if_pos h2]
      simp only [List.length_append]
      have := h x hx
      omega
    · rename_i h2
      rw [if_neg h2]
      simp only [List.length_append]
      rcases List.mem_append.mp hx with h9 | h9
      · have := h x h9
        omega
      · rw [List.mem_singleton.mp h9]
        dsimp only
        omega
theorem mg_beg (bs lf rt : List Int32) (i : Nat) : ∀ x ∈ (mg bs lf rt i).2.2.2.2, x.1 ≤ (mg bs lf rt i).2.2.2.1.length := by
  induction i with
  | zero => intro x hx; cases hx
  | succ i ih =>
    cases h1 : pn bs lf i with
    | none => rw [mg_skipL h1]; exact ih
    | some lj =>
      cases h2 : pn bs rt i with
      | none => rw [mg_skipR h2]; exact ih
      | some rj =>
        rw [mg_anchor h1 h2]
        intro x hx
        dsimp only at hx ⊢
        have := joinP_beg (bs := bs) (lf := lf) (rt := rt) (a := (mg bs lf rt i).1) (i := i) (la := (mg bs lf rt i).2.1) (lj := lj) (ra := (mg bs lf rt i).2.2.1) (rj := rj) (s := (mg bs lf rt i).2.2.2) ih x hx
        rw [List.length_append]
        omega
theorem mgF_beg (bs lf rt : List Int32) : ∀ x ∈ (mgF bs lf rt).2, x.1 ≤ (mgF bs lf rt).1.length := joinP_beg (mg_beg bs lf rt bs.length)
theorem mgF_len (bs lf rt : List Int32) : (mgF bs lf rt).2.length ≤ bs.length + 1 ∧ (mgF bs lf rt).1.length ≤ lf.length + rt.length := by
  have h1 := mg_in bs lf rt bs.length
  have h2 := fro_le bs lf bs.length
  have h3 := fro_le bs rt bs.length
  have h4 := joinP_len (bs := bs) (lf := lf) (rt := rt) (a := (mg bs lf rt bs.length).1) (i := bs.length) (la := (mg bs lf rt bs.length).2.1) (lj := lf.length) (ra := (mg bs lf rt bs.length).2.2.1) (rj := rt.length) (mg bs lf rt bs.length).2.2.2 (Nat.le_refl _) (Nat.le_refl _)
  unfold mgF
  omega
