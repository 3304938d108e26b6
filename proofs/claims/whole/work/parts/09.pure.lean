/-! PURE ROWS: lists behind arrays, parts of lists -/
/-- the array's first places hold the list -/
def rp (f : Nat → Int32) (xs : List Int32) : Prop := ∀ i, i < xs.length → f i = xs.getD i 0
theorem rp_nil (f : Nat → Int32) : rp f [] := fun i h => absurd h (Nat.not_lt_zero i)
theorem rp_snoc {f : Nat → Int32} {xs : List Int32} (h : rp f xs) (v : Int32) : rp (upd f xs.length v) (xs ++ [v]) := by
  intro i hi
  rw [List.length_append, List.length_singleton] at hi
  by_cases e : i = xs.length
  · subst e
    rw [pk_us]
    simp
  · rw [pk_un e, h i (by omega)]
    simp only [List.getD_eq_getElem?_getD]
    rw [List.getElem?_append_left (by omega)]
theorem rp_congr {f f1 : Nat → Int32} {xs : List Int32} (h : rp f xs) (e : ∀ i, i < xs.length → f1 i = f i) : rp f1 xs := fun i hi => by rw [e i hi]; exact h i hi
/-- the lines from i to ahead of j -/
def pt (xs : List Int32) (i j : Nat) : List Int32 := (xs.drop i).take (j - i)
theorem pt_self (xs : List Int32) (i : Nat) : pt xs i i = [] := by simp [pt]
theorem pt_len {xs : List Int32} {i j : Nat} (hj : j ≤ xs.length) : (pt xs i j).length = j - i := by
  simp only [pt, List.length_take, List.length_drop]
  omega
theorem pt_snoc {xs : List Int32} {i k : Nat} (h : i ≤ k) (hk : k < xs.length) : pt xs i (k + 1) = pt xs i k ++ [xs.getD k 0] := by
  have e : k + 1 - i = (k - i) + 1 := by omega
  have h2 : (xs.drop i)[k - i]? = some (xs.getD k 0) := by
    rw [List.getElem?_drop, show i + (k - i) = k by omega]
    simp [hk]
  rw [pt, pt, e, List.take_add_one, h2]
  rfl
theorem pt_all (xs : List Int32) : pt xs 0 xs.length = xs := by simp [pt]
theorem pt_get {xs : List Int32} {i j k : Nat} (hj : j ≤ xs.length) (hk : k < j - i) : (pt xs i j).getD k 0 = xs.getD (i + k) 0 := by
  simp only [pt, List.getD_eq_getElem?_getD]
  rw [List.getElem?_take_of_lt hk, List.getElem?_drop]
/-- two lists are the same if their places are -/
theorem l_ext0 {xs ys : List Int32} (hl : xs.length = ys.length) (h : ∀ i, i < xs.length → xs.getD i 0 = ys.getD i 0) : xs = ys := by
  refine List.ext_getElem hl (fun i h1 h2 => ?_)
  have := h i h1
  simpa [List.getD_eq_getElem?_getD, h1, h2] using this
