/-! THE MATHEMATICS: the common of two rows, by the greedy choice over the lengths of commons of ends -/
def lcs : List Int32 → List Int32 → Nat
  | [], _ => 0
  | _ :: _, [] => 0
  | x :: xs, y :: ys => if x = y then lcs xs ys + 1 else max (lcs xs (y :: ys)) (lcs (x :: xs) ys)
termination_by a b => a.length + b.length
theorem lcs_nil (b : List Int32) : lcs [] b = 0 := by simp [lcs]
theorem lcs_nil2 (a : List Int32) : lcs a [] = 0 := by cases a <;> simp [lcs]
theorem lcs_cons (x y : Int32) (a b : List Int32) : lcs (x :: a) (y :: b) = if x = y then lcs a b + 1 else max (lcs a (y :: b)) (lcs (x :: a) b) := by rw [lcs]
theorem lcs_near (n : Nat) : ∀ (a b : List Int32), a.length + b.length ≤ n → (∀ x, lcs a b ≤ lcs (x :: a) b ∧ lcs (x :: a) b ≤ lcs a b + 1) ∧ ∀ y, lcs a b ≤ lcs a (y :: b) ∧ lcs a (y :: b) ≤ lcs a b + 1 := by
  induction n with
  | zero =>
    intro a b h
    have ha : a = [] := List.length_eq_zero_iff.mp (by omega)
    have hb : b = [] := List.length_eq_zero_iff.mp (by omega)
    subst ha; subst hb
    exact ⟨fun x => by simp [lcs_nil, lcs_nil2], fun y => by simp [lcs_nil, lcs_nil2]⟩
  | succ n ih =>
    intro a b h
    refine ⟨fun x => ?_, fun y => ?_⟩
    · cases b with
      | nil => simp [lcs_nil2]
      | cons y b =>
        rw [List.length_cons] at h
        obtain ⟨i1, i2⟩ := ih a b (by omega)
        rw [lcs_cons]
        split
        · exact ⟨(i2 y).2, Nat.succ_le_succ (i2 y).1⟩
        · have h1 := i1 x
          have h2 := i2 y
          omega
    · cases a with
      | nil => simp [lcs_nil]
      | cons x a =>
        rw [List.length_cons] at h
        obtain ⟨i1, i2⟩ := ih a b (by omega)
        rw [lcs_cons]
        split
        · exact ⟨(i1 x).2, Nat.succ_le_succ (i1 x).1⟩
        · have h1 := i1 x
          have h2 := i2 y
          omega
theorem lcs_le (a : List Int32) : ∀ b : List Int32, lcs a b ≤ a.length := by
  induction a with
  | nil => intro b; simp [lcs_nil]
  | cons x a ih =>
    intro b
    have h := ((lcs_near _ a b (Nat.le_refl _)).1 x).2
    have := ih b
    rw [List.length_cons]
    omega
/-- of the ends from place i of a and j of b on -/
def Lc (a b : List Int32) (i j : Nat) : Nat := lcs (a.drop i) (b.drop j)
theorem drop_at {a : List Int32} {i : Nat} (h : i < a.length) : a.drop i = a.getD i 0 :: a.drop (i + 1) := by
  rw [List.drop_eq_getElem_cons h]
  simp [List.getD_eq_getElem?_getD, h]
theorem Lc_endA (a b : List Int32) (j : Nat) : Lc a b a.length j = 0 := by rw [Lc, List.drop_length, lcs_nil]
theorem Lc_endB (a b : List Int32) (i : Nat) : Lc a b i b.length = 0 := by rw [Lc, List.drop_length, lcs_nil2]
theorem Lc_step {a b : List Int32} {i j : Nat} (hi : i < a.length) (hj : j < b.length) : Lc a b i j = if a.getD i 0 = b.getD j 0 then Lc a b (i + 1) (j + 1) + 1 else max (Lc a b (i + 1) j) (Lc a b i (j + 1)) := by
  rw [Lc, drop_at hi, drop_at hj, lcs_cons, ← drop_at hi, ← drop_at hj]
  rfl
theorem Lc_le (a b : List Int32) (i j : Nat) : Lc a b i j ≤ a.length - i := by
  have := lcs_le (a.drop i) (b.drop j)
  rw [List.length_drop] at this
  exact this
theorem Lc_near {a b : List Int32} {i j : Nat} (hi : i < a.length) (hj : j < b.length) : Lc a b (i + 1) j ≤ Lc a b (i + 1) (j + 1) + 1 ∧ Lc a b i (j + 1) ≤ Lc a b (i + 1) (j + 1) + 1 := by
  have h := lcs_near _ (a.drop (i + 1)) (b.drop (j + 1)) (Nat.le_refl _)
  refine ⟨?_, ?_⟩
  · rw [Lc, drop_at hj]; exact (h.2 _).2
  · rw [Lc, drop_at hi]; exact (h.1 _).2
/-- the first place of a line from i on -/
def fp (b : List Int32) (v : Int32) (i : Nat) : Option Nat := (List.range b.length).find? (fun k => decide (i ≤ k) && decide (b.getD k 0 = v))
theorem fp_of {b : List Int32} {v : Int32} {i k : Nat} (h1 : i ≤ k) (h2 : k < b.length) (h3 : b.getD k 0 = v) (h4 : ∀ q, i ≤ q → q < k → b.getD q 0 ≠ v) : fp b v i = some k := by
  rw [fp, List.find?_range_eq_some]
  refine ⟨by rw [Bool.and_eq_true]; exact ⟨decide_eq_true h1, decide_eq_true h3⟩, List.mem_range.mpr h2, fun j hj => ?_⟩
  by_cases h : i ≤ j
  · rw [decide_eq_false (h4 j h hj), Bool.and_false]; rfl
  · rw [decide_eq_false h, Bool.false_and]; rfl
theorem fp_none {b : List Int32} {v : Int32} {i : Nat} (h : ∀ q, i ≤ q → q < b.length → b.getD q 0 ≠ v) : fp b v i = none := by
  rw [fp, List.find?_eq_none]
  intro k hk
  have hk := List.mem_range.mp hk
  by_cases h9 : i ≤ k
  · rw [decide_eq_false (h k h9 hk), Bool.and_false]; exact Bool.false_ne_true
  · rw [decide_eq_false h9, Bool.false_and]; exact Bool.false_ne_true
theorem fp_spec {b : List Int32} {v : Int32} {i k : Nat} (h : fp b v i = some k) : i ≤ k ∧ k < b.length ∧ b.getD k 0 = v := by
  rw [fp, List.find?_range_eq_some] at h
  obtain ⟨h1, h2, -⟩ := h
  simp only [Bool.and_eq_true, decide_eq_true_eq] at h1
  exact ⟨h1.1, List.mem_range.mp h2, h1.2⟩
/-- the place of b that is taken with place i of a, from fr on -/
def stp (a b : List Int32) (fr i : Nat) : Option Nat := match fp b (a.getD i 0) fr with
  | some j => if Lc a b (i + 1) (j + 1) + 1 = Lc a b i fr then some j else none
  | none => none
def fro (a b : List Int32) : Nat → Nat
  | 0 => 0
  | i + 1 => match stp a b (fro a b i) i with
    | some j => j + 1
    | none => fro a b i
/-- the partner of place i of a -/
def pn (a b : List Int32) (i : Nat) : Option Nat := stp a b (fro a b i) i
/-- the pairs of the places of a ahead of i -/
def prs (a b : List Int32) : Nat → List (Nat × Nat)
  | 0 => []
  | i + 1 => prs a b i ++ (match pn a b i with
    | some j => [(i, j)]
    | none => [])
theorem stp_none {a b : List Int32} {fr i : Nat} (h : fp b (a.getD i 0) fr = none) : stp a b fr i = none := by unfold stp; rw [h]
theorem stp_some {a b : List Int32} {fr i j : Nat} (h : fp b (a.getD i 0) fr = some j) (h2 : Lc a b (i + 1) (j + 1) + 1 = Lc a b i fr) : stp a b fr i = some j := by unfold stp; rw [h]; exact if_pos h2
theorem stp_not {a b : List Int32} {fr i j : Nat} (h : fp b (a.getD i 0) fr = some j) (h2 : ¬ Lc a b (i + 1) (j + 1) + 1 = Lc a b i fr) : stp a b fr i = none := by unfold stp; rw [h]; exact if_neg h2
theorem stp_spec {a b : List Int32} {fr i j : Nat} (h : stp a b fr i = some j) : fr ≤ j ∧ j < b.length := by
  unfold stp at h
  cases e : fp b (a.getD i 0) fr with
  | none => rw [e] at h; cases h
  | some k =>
    rw [e] at h
    have hs := fp_spec e
    simp only at h
    split at h
    · cases h; exact ⟨hs.1, hs.2.1⟩
    · cases h
theorem fro_none {a b : List Int32} {i : Nat} (h : pn a b i = none) : fro a b (i + 1) = fro a b i := by
  have h : stp a b (fro a b i) i = none := h
  simp [fro, h]
theorem fro_some {a b : List Int32} {i j : Nat} (h : pn a b i = some j) : fro a b (i + 1) = j + 1 := by
  have h : stp a b (fro a b i) i = some j := h
  simp [fro, h]
theorem prs_none {a b : List Int32} {i : Nat} (h : pn a b i = none) : prs a b (i + 1) = prs a b i := by simp [prs, h]
theorem prs_some {a b : List Int32} {i j : Nat} (h : pn a b i = some j) : prs a b (i + 1) = prs a b i ++ [(i, j)] := by simp [prs, h]
theorem fro_le (a b : List Int32) (i : Nat) : fro a b i ≤ b.length := by
  induction i with
  | zero => exact Nat.zero_le _
  | succ i ih =>
    cases h : pn a b i with
    | none => rw [fro_none h]; exact ih
    | some j => rw [fro_some h]; exact (stp_spec h).2
theorem prs_len (a b : List Int32) (i : Nat) : (prs a b i).length ≤ i ∧ (prs a b i).length ≤ fro a b i := by
  induction i with
  | zero => exact ⟨Nat.le_refl _, Nat.le_refl _⟩
  | succ i ih =>
    cases h : pn a b i with
    | none => rw [fro_none h, prs_none h]; omega
    | some j =>
      rw [fro_some h, prs_some h, List.length_append, List.length_singleton]
      have := (stp_spec (show stp a b (fro a b i) i = some j from h)).1
      omega
theorem prs_mem {a b : List Int32} {i : Nat} : ∀ q ∈ prs a b i, q.1 < i ∧ q.2 < fro a b i ∧ pn a b q.1 = some q.2 := by
  induction i with
  | zero => intro q hq; cases hq
  | succ i ih =>
    intro q hq
    cases h : pn a b i with
    | none =>
      rw [prs_none h] at hq
      rw [fro_none h]
      have := ih q hq
      exact ⟨by omega, this.2⟩
    | some j =>
      rw [prs_some h] at hq
      rw [fro_some h]
      have hf := (stp_spec (show stp a b (fro a b i) i = some j from h)).1
      rcases List.mem_append.mp hq with hq | hq
      · have := ih q hq
        exact ⟨by omega, by omega, this.2.2⟩
      · cases List.mem_singleton.mp hq
        exact ⟨Nat.lt_succ_self _, Nat.lt_succ_self _, h⟩
/-- an array holds numbers -/
def rpN (f : Nat → Int32) (xs : List Nat) : Prop := ∀ k, k < xs.length → f k = nI (xs.getD k 0)
theorem rpN_nil (f : Nat → Int32) : rpN f [] := fun k h => absurd h (Nat.not_lt_zero k)
theorem rpN_snoc {f : Nat → Int32} {xs : List Nat} (h : rpN f xs) (v : Nat) : rpN (upd f xs.length (nI v)) (xs ++ [v]) := by
  intro k hk
  rw [List.length_append, List.length_singleton] at hk
  by_cases e : k = xs.length
  · subst e; rw [pk_us]; simp
  · rw [pk_un e, h k (by omega)]
    simp only [List.getD_eq_getElem?_getD]
    rw [List.getElem?_append_left (by omega)]
theorem rpN_congr {f f1 : Nat → Int32} {xs : List Nat} (h : rpN f xs) (e : ∀ k, k < xs.length → f1 k = f k) : rpN f1 xs := fun k hk => by rw [e k hk]; exact h k hk
