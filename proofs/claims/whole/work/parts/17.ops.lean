/-! WHAT EACH CALL ANSWERS, as functions on one state: what is thrown (0, 1, 2), the answer, the new state -/
def ix (k : Int32) (n : Nat) : Option Nat := if k < 0 then none else if k.toNatClampNeg < n then some k.toNatClampNeg else none
theorem ix_some {j n : Nat} (h : j < n) (hn : n < 2 ^ 31) : ix (nI j) n = some j := by
  rw [ix, if_neg (nI_pos (by omega)), nI_clamp (by omega), if_pos h]
theorem ix_none {k : Int32} {n : Nat} (h : ¬ ∃ j : Nat, j < n ∧ k = nI j) : ix k n = none := by
  unfold ix
  split
  · rfl
  · rename_i h0
    split
    · rename_i h1
      obtain ⟨j, hj, e⟩ := nI_of h0
      subst e
      rw [nI_clamp hj] at h1
      exact absurd ⟨j, h1, rfl⟩ h
    · rfl
theorem ix_neg {k : Int32} {n : Nat} (h : k < 0) : ix k n = none := if_pos h
theorem ix_ge {j n : Nat} (h : n ≤ j) (hj : j < 2 ^ 31) : ix (nI j) n = none := by
  rw [ix, if_neg (nI_pos hj), nI_clamp hj, if_neg (by omega)]
abbrev ST : Type := (Nat → List Int32) × List (Nat × Nat) × List N4 × List N3 × List (List Nat) × List Int32
def setR (rw : Nat → List Int32) (k : Nat) (xs : List Int32) : Nat → List Int32 := fun r => if r = k then xs else rw r
theorem setR_s (rw : Nat → List Int32) (k : Nat) (xs : List Int32) : setR rw k xs k = xs := if_pos rfl
theorem setR_n (rw : Nat → List Int32) {k r : Nat} (xs : List Int32) (h : r ≠ k) : setR rw k xs r = rw r := if_neg h
abbrev OUT : Type := Nat × Int32 × ST
def o_put (r v : Int32) (S : ST) : OUT := match ix r 6 with
  | none => (1, 0, S)
  | some k => if (S.1 k).length < 60 then (0, nI ((S.1 k).length + 1), (setR S.1 k (S.1 k ++ [v]), S.2)) else (2, 0, S)
def o_clear (r : Int32) (S : ST) : OUT := match ix r 6 with
  | none => (1, 0, S)
  | some k => (0, 0, (setR S.1 k [], S.2))
def o_size (r : Int32) (S : ST) : OUT := match ix r 6 with
  | none => (1, 0, S)
  | some k => (0, nI (S.1 k).length, S)
def o_get (r k : Int32) (S : ST) : OUT := match ix r 6 with
  | none => (1, 0, S)
  | some i => match ix k (S.1 i).length with
    | none => (2, 0, S)
    | some j => (0, (S.1 i).getD j 0, S)
def o_common (a b : Int32) (S : ST) : OUT := match ix a 6, ix b 6 with
  | some i, some j => (0, nI (prs (S.1 i) (S.1 j) (S.1 i).length).length, (S.1, prs (S.1 i) (S.1 j) (S.1 i).length, S.2.2))
  | _, _ => (1, 0, S)
def o_pair (k w : Int32) (S : ST) : OUT := match ix k S.2.1.length, ix w 2 with
  | some i, some j => (0, nI (if j = 0 then (S.2.1.getD i (0, 0)).1 else (S.2.1.getD i (0, 0)).2), S)
  | _, _ => (1, 0, S)
def o_hunks (a b : Int32) (S : ST) : OUT := match ix a 6, ix b 6 with
  | some i, some j => (0, nI (hunksOf (S.1 i) (S.1 j)).length, (S.1, S.2.1, hunksOf (S.1 i) (S.1 j), S.2.2.2))
  | _, _ => (1, 0, S)
def o_hunk (k w : Int32) (S : ST) : OUT := match ix k S.2.2.1.length, ix w 4 with
  | some i, some j => (0, nI ((fl4 S.2.2.1).getD (4 * i + j) 0), S)
  | _, _ => (1, 0, S)
def o_merge (b l r t : Int32) (S : ST) : OUT := match ix b 6, ix l 6, ix r 6, ix t 6 with
  | some i, some j, some k, some m => if (mgF (S.1 i) (S.1 j) (S.1 k)).1.length ≤ 60 then (0, nI (mgF (S.1 i) (S.1 j) (S.1 k)).2.length, (setR S.1 m (mgF (S.1 i) (S.1 j) (S.1 k)).1, S.2.1, S.2.2.1, (mgF (S.1 i) (S.1 j) (S.1 k)).2, S.2.2.2.2)) else (2, 0, S)
  | _, _, _, _ => (1, 0, S)
def o_conflict (k w : Int32) (S : ST) : OUT := match ix k S.2.2.2.1.length, ix w 3 with
  | some i, some j => (0, nI ((fl3 S.2.2.2.1).getD (3 * i + j) 0), S)
  | _, _ => (1, 0, S)
def o_patch (a b c t : Int32) (S : ST) : OUT := match ix a 6, ix b 6, ix c 6, ix t 6 with
  | some i, some j, some k, some m => if (patF (S.1 i) (S.1 j) (S.1 k)).1.length ≤ 60 then (0, nI (patF (S.1 i) (S.1 j) (S.1 k)).2, (setR S.1 m (patF (S.1 i) (S.1 j) (S.1 k)).1, S.2)) else (2, 0, S)
  | _, _, _, _ => (1, 0, S)
def o_commit (r : Int32) (S : ST) : OUT := match ix r 6 with
  | none => (1, 0, S)
  | some k => if S.2.2.2.2.1.length < 30 then (0, nI S.2.2.2.2.1.length, (S.1, S.2.1, S.2.2.1, S.2.2.2.1, S.2.2.2.2.1 ++ [orig S.2.2.2.2.1 S.2.2.2.2.2 (S.1 k)], S.1 k)) else (2, 0, S)
def o_origin (v k : Int32) (S : ST) : OUT := match ix v S.2.2.2.2.1.length with
  | none => (1, 0, S)
  | some i => match ix k (S.2.2.2.2.1.getD i []).length with
    | none => (2, 0, S)
    | some j => (0, nI ((S.2.2.2.2.1.getD i []).getD j 0), S)
/-- what holds of every state -/
def stok (S : ST) : Prop := (∀ r, r < 6 → (S.1 r).length ≤ 60) ∧ S.2.1.length ≤ 60 ∧ S.2.2.1.length ≤ 61 ∧ S.2.2.2.1.length ≤ 61 ∧ vok S.2.2.2.2.1 S.2.2.2.2.2
