def RCo : String := "MergeRows$Common"
def TCo : u_T := fun k => match k with
  | 0 => ("MergeRows$Common", "placesA", "[I", true)
  | 1 => ("MergeRows$Common", "placesB", "[I", true)
  | 2 => ("MergeRows$Common", "count", "I", false)
  | _ => ("MergeRows$Common", "lengths", "[I", true)
def tyCo : Nat → FieldType := fun k => match k with
  | 0 => .array .int
  | 1 => .array .int
  | 2 => .int
  | _ => .array .int
theorem nmCo : ∀ a, a < 4 → ∀ b, b < 4 → a ≠ b → (TCo a).2.1 ≠ (TCo b).2.1 := by decide +kernel
theorem tokCo : ∀ k, k < 4 → parseFieldDescriptor (TCo k).2.2.1 = some (tyCo k) := by decide +kernel
theorem inCo : ∀ w ∈ u_ws RCo TCo 4, w ∈ hB := by
  intro w hw
  obtain ⟨k, hk, rfl⟩ := List.mem_map.mp hw
  have hk := List.mem_range.mp hk
  match k, hk with
  | 0, _ => exact hB_in 99 (by decide +kernel) (by decide +kernel)
  | 1, _ => exact hB_in 101 (by decide +kernel) (by decide +kernel)
  | 2, _ => exact hB_in 103 (by decide +kernel) (by decide +kernel)
  | 3, _ => exact hB_in 105 (by decide +kernel) (by decide +kernel)
  | k + 4, h => exact absurd h (by omega)
def RHu : String := "MergeRows$Hunks"
def THu : u_T := fun k => match k with
  | 0 => ("MergeRows$Hunks", "cells", "[I", true)
  | 1 => ("MergeRows$Hunks", "count", "I", false)
  | _ => ("MergeRows$Hunks", "common", "LMergeRows$Common;", true)
def tyHu : Nat → FieldType := fun k => match k with
  | 0 => .array .int
  | 1 => .int
  | _ => .object "MergeRows$Common"
theorem nmHu : ∀ a, a < 3 → ∀ b, b < 3 → a ≠ b → (THu a).2.1 ≠ (THu b).2.1 := by decide +kernel
theorem tokHu : ∀ k, k < 3 → parseFieldDescriptor (THu k).2.2.1 = some (tyHu k) := by decide +kernel
theorem inHu : ∀ w ∈ u_ws RHu THu 3, w ∈ hB := by
  intro w hw
  obtain ⟨k, hk, rfl⟩ := List.mem_map.mp hw
  have hk := List.mem_range.mp hk
  match k, hk with
  | 0, _ => exact hB_in 121 (by decide +kernel) (by decide +kernel)
  | 1, _ => exact hB_in 123 (by decide +kernel) (by decide +kernel)
  | 2, _ => exact hB_in 125 (by decide +kernel) (by decide +kernel)
  | k + 3, h => exact absurd h (by omega)
def RMg : String := "MergeRows$Merging"
def TMg : u_T := fun k => match k with
  | 0 => ("MergeRows$Merging", "outcome", "LMergeRows$Row;", true)
  | 1 => ("MergeRows$Merging", "conflictCells", "[I", true)
  | 2 => ("MergeRows$Merging", "conflictCount", "I", false)
  | 3 => ("MergeRows$Merging", "baseAndLeft", "LMergeRows$Common;", true)
  | 4 => ("MergeRows$Merging", "baseAndRight", "LMergeRows$Common;", true)
  | 5 => ("MergeRows$Merging", "basePart", "LMergeRows$Part;", true)
  | 6 => ("MergeRows$Merging", "leftPart", "LMergeRows$Part;", true)
  | _ => ("MergeRows$Merging", "rightPart", "LMergeRows$Part;", true)
def tyMg : Nat → FieldType := fun k => match k with
  | 0 => .object "MergeRows$Row"
  | 1 => .array .int
  | 2 => .int
  | 3 => .object "MergeRows$Common"
  | 4 => .object "MergeRows$Common"
  | 5 => .object "MergeRows$Part"
  | 6 => .object "MergeRows$Part"
  | _ => .object "MergeRows$Part"
theorem nmMg : ∀ a, a < 8 → ∀ b, b < 8 → a ≠ b → (TMg a).2.1 ≠ (TMg b).2.1 := by decide +kernel
theorem tokMg : ∀ k, k < 8 → parseFieldDescriptor (TMg k).2.2.1 = some (tyMg k) := by decide +kernel
theorem inMg : ∀ w ∈ u_ws RMg TMg 8, w ∈ hB := by
  intro w hw
  obtain ⟨k, hk, rfl⟩ := List.mem_map.mp hw
  have hk := List.mem_range.mp hk
  match k, hk with
  | 0, _ => exact hB_in 215 (by decide +kernel) (by decide +kernel)
  | 1, _ => exact hB_in 217 (by decide +kernel) (by decide +kernel)
  | 2, _ => exact hB_in 219 (by decide +kernel) (by decide +kernel)
  | 3, _ => exact hB_in 221 (by decide +kernel) (by decide +kernel)
  | 4, _ => exact hB_in 223 (by decide +kernel) (by decide +kernel)
  | 5, _ => exact hB_in 225 (by decide +kernel) (by decide +kernel)
  | 6, _ => exact hB_in 227 (by decide +kernel) (by decide +kernel)
  | 7, _ => exact hB_in 229 (by decide +kernel) (by decide +kernel)
  | k + 8, h => exact absurd h (by omega)
def RPa : String := "MergeRows$Part"
def TPa : u_T := fun k => match k with
  | 0 => ("MergeRows$Part", "row", "LMergeRows$Row;", false)
  | 1 => ("MergeRows$Part", "from", "I", false)
  | _ => ("MergeRows$Part", "end", "I", false)
def tyPa : Nat → FieldType := fun k => match k with
  | 0 => .object "MergeRows$Row"
  | 1 => .int
  | _ => .int
theorem nmPa : ∀ a, a < 3 → ∀ b, b < 3 → a ≠ b → (TPa a).2.1 ≠ (TPa b).2.1 := by decide +kernel
theorem tokPa : ∀ k, k < 3 → parseFieldDescriptor (TPa k).2.2.1 = some (tyPa k) := by decide +kernel
theorem inPa : ∀ w ∈ u_ws RPa TPa 3, w ∈ hB := by
  intro w hw
  obtain ⟨k, hk, rfl⟩ := List.mem_map.mp hw
  have hk := List.mem_range.mp hk
  match k, hk with
  | 0, _ => exact hB_in 197 (by decide +kernel) (by decide +kernel)
  | 1, _ => exact hB_in 199 (by decide +kernel) (by decide +kernel)
  | 2, _ => exact hB_in 201 (by decide +kernel) (by decide +kernel)
  | k + 3, h => exact absurd h (by omega)
def RPg : String := "MergeRows$Patching"
def TPg : u_T := fun k => match k with
  | 0 => ("MergeRows$Patching", "outcome", "LMergeRows$Row;", true)
  | 1 => ("MergeRows$Patching", "rejected", "I", false)
  | _ => ("MergeRows$Patching", "hunks", "LMergeRows$Hunks;", true)
def tyPg : Nat → FieldType := fun k => match k with
  | 0 => .object "MergeRows$Row"
  | 1 => .int
  | _ => .object "MergeRows$Hunks"
theorem nmPg : ∀ a, a < 3 → ∀ b, b < 3 → a ≠ b → (TPg a).2.1 ≠ (TPg b).2.1 := by decide +kernel
theorem tokPg : ∀ k, k < 3 → parseFieldDescriptor (TPg k).2.2.1 = some (tyPg k) := by decide +kernel
theorem inPg : ∀ w ∈ u_ws RPg TPg 3, w ∈ hB := by
  intro w hw
  obtain ⟨k, hk, rfl⟩ := List.mem_map.mp hw
  have hk := List.mem_range.mp hk
  match k, hk with
  | 0, _ => exact hB_in 141 (by decide +kernel) (by decide +kernel)
  | 1, _ => exact hB_in 143 (by decide +kernel) (by decide +kernel)
  | 2, _ => exact hB_in 145 (by decide +kernel) (by decide +kernel)
  | k + 3, h => exact absurd h (by omega)
def RRo : String := "MergeRows$Row"
def TRo : u_T := fun k => match k with
  | 0 => ("MergeRows$Row", "lines", "[I", true)
  | _ => ("MergeRows$Row", "count", "I", false)
def tyRo : Nat → FieldType := fun k => match k with
  | 0 => .array .int
  | _ => .int
theorem nmRo : ∀ a, a < 2 → ∀ b, b < 2 → a ≠ b → (TRo a).2.1 ≠ (TRo b).2.1 := by decide +kernel
theorem tokRo : ∀ k, k < 2 → parseFieldDescriptor (TRo k).2.2.1 = some (tyRo k) := by decide +kernel
theorem inRo : ∀ w ∈ u_ws RRo TRo 2, w ∈ hB := by
  intro w hw
  obtain ⟨k, hk, rfl⟩ := List.mem_map.mp hw
  have hk := List.mem_range.mp hk
  match k, hk with
  | 0, _ => exact hB_in 71 (by decide +kernel) (by decide +kernel)
  | 1, _ => exact hB_in 73 (by decide +kernel) (by decide +kernel)
  | k + 2, h => exact absurd h (by omega)
def RVe : String := "MergeRows$Versions"
def TVe : u_T := fun k => match k with
  | 0 => ("MergeRows$Versions", "sizes", "[I", true)
  | 1 => ("MergeRows$Versions", "origins", "[I", true)
  | 2 => ("MergeRows$Versions", "count", "I", false)
  | 3 => ("MergeRows$Versions", "newest", "LMergeRows$Row;", true)
  | _ => ("MergeRows$Versions", "common", "LMergeRows$Common;", true)
def tyVe : Nat → FieldType := fun k => match k with
  | 0 => .array .int
  | 1 => .array .int
  | 2 => .int
  | 3 => .object "MergeRows$Row"
  | _ => .object "MergeRows$Common"
theorem nmVe : ∀ a, a < 5 → ∀ b, b < 5 → a ≠ b → (TVe a).2.1 ≠ (TVe b).2.1 := by decide +kernel
theorem tokVe : ∀ k, k < 5 → parseFieldDescriptor (TVe k).2.2.1 = some (tyVe k) := by decide +kernel
theorem inVe : ∀ w ∈ u_ws RVe TVe 5, w ∈ hB := by
  intro w hw
  obtain ⟨k, hk, rfl⟩ := List.mem_map.mp hw
  have hk := List.mem_range.mp hk
  match k, hk with
  | 0, _ => exact hB_in 164 (by decide +kernel) (by decide +kernel)
  | 1, _ => exact hB_in 166 (by decide +kernel) (by decide +kernel)
  | 2, _ => exact hB_in 168 (by decide +kernel) (by decide +kernel)
  | 3, _ => exact hB_in 170 (by decide +kernel) (by decide +kernel)
  | 4, _ => exact hB_in 172 (by decide +kernel) (by decide +kernel)
  | k + 5, h => exact absurd h (by omega)
def RMR : String := "MergeRows"
def TMR : u_T := fun k => match k with
  | 0 => ("MergeRows", "rows", "[LMergeRows$Row;", true)
  | 1 => ("MergeRows", "latestCommon", "LMergeRows$Common;", true)
  | 2 => ("MergeRows", "latestHunks", "LMergeRows$Hunks;", true)
  | 3 => ("MergeRows", "patching", "LMergeRows$Patching;", true)
  | 4 => ("MergeRows", "versions", "LMergeRows$Versions;", true)
  | 5 => ("MergeRows", "latestMerging", "LMergeRows$Merging;", false)
  | _ => ("MergeRows", "spareMerging", "LMergeRows$Merging;", false)
def tyMR : Nat → FieldType := fun k => match k with
  | 0 => .array (.object "MergeRows$Row")
  | 1 => .object "MergeRows$Common"
  | 2 => .object "MergeRows$Hunks"
  | 3 => .object "MergeRows$Patching"
  | 4 => .object "MergeRows$Versions"
  | 5 => .object "MergeRows$Merging"
  | _ => .object "MergeRows$Merging"
theorem nmMR : ∀ a, a < 7 → ∀ b, b < 7 → a ≠ b → (TMR a).2.1 ≠ (TMR b).2.1 := by decide +kernel
theorem tokMR : ∀ k, k < 7 → parseFieldDescriptor (TMR k).2.2.1 = some (tyMR k) := by decide +kernel
theorem inMR : ∀ w ∈ u_ws RMR TMR 7, w ∈ hB := by
  intro w hw
  obtain ⟨k, hk, rfl⟩ := List.mem_map.mp hw
  have hk := List.mem_range.mp hk
  match k, hk with
  | 0, _ => exact hB_in 239 (by decide +kernel) (by decide +kernel)
  | 1, _ => exact hB_in 241 (by decide +kernel) (by decide +kernel)
  | 2, _ => exact hB_in 243 (by decide +kernel) (by decide +kernel)
  | 3, _ => exact hB_in 245 (by decide +kernel) (by decide +kernel)
  | 4, _ => exact hB_in 247 (by decide +kernel) (by decide +kernel)
  | 5, _ => exact hB_in 249 (by decide +kernel) (by decide +kernel)
  | 6, _ => exact hB_in 251 (by decide +kernel) (by decide +kernel)
  | k + 7, h => exact absurd h (by omega)
def RMM : String := "MergeRowsModel"
def TMM : u_T := fun k => match k with
  | 0 => ("MergeRowsModel", "thrown", "I", false)
  | 1 => ("MergeRowsModel", "sizes", "[I", true)
  | 2 => ("MergeRowsModel", "lines", "[I", true)
  | 3 => ("MergeRowsModel", "xs", "I", false)
  | 4 => ("MergeRowsModel", "ys", "I", false)
  | 5 => ("MergeRowsModel", "x", "[I", true)
  | 6 => ("MergeRowsModel", "y", "[I", true)
  | 7 => ("MergeRowsModel", "best", "[I", true)
  | 8 => ("MergeRowsModel", "partner", "[I", true)
  | 9 => ("MergeRowsModel", "pairs", "I", false)
  | 10 => ("MergeRowsModel", "pairA", "[I", true)
  | 11 => ("MergeRowsModel", "pairB", "[I", true)
  | 12 => ("MergeRowsModel", "hunks", "I", false)
  | 13 => ("MergeRowsModel", "hunk", "[I", true)
  | 14 => ("MergeRowsModel", "parts", "I", false)
  | 15 => ("MergeRowsModel", "part", "[I", true)
  | 16 => ("MergeRowsModel", "made", "I", false)
  | 17 => ("MergeRowsModel", "tooLong", "Z", false)
  | 18 => ("MergeRowsModel", "fresh", "[I", true)
  | 19 => ("MergeRowsModel", "left", "[I", true)
  | 20 => ("MergeRowsModel", "right", "[I", true)
  | 21 => ("MergeRowsModel", "conflicts", "I", false)
  | 22 => ("MergeRowsModel", "conflict", "[I", true)
  | 23 => ("MergeRowsModel", "news", "I", false)
  | 24 => ("MergeRowsModel", "newConflict", "[I", true)
  | 25 => ("MergeRowsModel", "versions", "I", false)
  | 26 => ("MergeRowsModel", "versionSizes", "[I", true)
  | 27 => ("MergeRowsModel", "versionLines", "[I", true)
  | _ => ("MergeRowsModel", "origins", "[I", true)
def tyMM : Nat → FieldType := fun k => match k with
  | 0 => .int
  | 1 => .array .int
  | 2 => .array .int
  | 3 => .int
  | 4 => .int
  | 5 => .array .int
  | 6 => .array .int
  | 7 => .array .int
  | 8 => .array .int
  | 9 => .int
  | 10 => .array .int
  | 11 => .array .int
  | 12 => .int
  | 13 => .array .int
  | 14 => .int
  | 15 => .array .int
  | 16 => .int
  | 17 => .boolean
  | 18 => .array .int
  | 19 => .array .int
  | 20 => .array .int
  | 21 => .int
  | 22 => .array .int
  | 23 => .int
  | 24 => .array .int
  | 25 => .int
  | 26 => .array .int
  | 27 => .array .int
  | _ => .array .int
theorem nmMM : ∀ a, a < 29 → ∀ b, b < 29 → a ≠ b → (TMM a).2.1 ≠ (TMM b).2.1 := by decide +kernel
theorem tokMM : ∀ k, k < 29 → parseFieldDescriptor (TMM k).2.2.1 = some (tyMM k) := by decide +kernel
theorem inMM : ∀ w ∈ u_ws RMM TMM 29, w ∈ hB := by
  intro w hw
  obtain ⟨k, hk, rfl⟩ := List.mem_map.mp hw
  have hk := List.mem_range.mp hk
  match k, hk with
  | 0, _ => exact hB_in 623 (by decide +kernel) (by decide +kernel)
  | 1, _ => exact hB_in 625 (by decide +kernel) (by decide +kernel)
  | 2, _ => exact hB_in 627 (by decide +kernel) (by decide +kernel)
  | 3, _ => exact hB_in 629 (by decide +kernel) (by decide +kernel)
  | 4, _ => exact hB_in 631 (by decide +kernel) (by decide +kernel)
  | 5, _ => exact hB_in 633 (by decide +kernel) (by decide +kernel)
  | 6, _ => exact hB_in 635 (by decide +kernel) (by decide +kernel)
  | 7, _ => exact hB_in 637 (by decide +kernel) (by decide +kernel)
  | 8, _ => exact hB_in 639 (by decide +kernel) (by decide +kernel)
  | 9, _ => exact hB_in 641 (by decide +kernel) (by decide +kernel)
  | 10, _ => exact hB_in 643 (by decide +kernel) (by decide +kernel)
  | 11, _ => exact hB_in 645 (by decide +kernel) (by decide +kernel)
  | 12, _ => exact hB_in 647 (by decide +kernel) (by decide +kernel)
  | 13, _ => exact hB_in 649 (by decide +kernel) (by decide +kernel)
  | 14, _ => exact hB_in 651 (by decide +kernel) (by decide +kernel)
  | 15, _ => exact hB_in 653 (by decide +kernel) (by decide +kernel)
  | 16, _ => exact hB_in 655 (by decide +kernel) (by decide +kernel)
  | 17, _ => exact hB_in 657 (by decide +kernel) (by decide +kernel)
  | 18, _ => exact hB_in 659 (by decide +kernel) (by decide +kernel)
  | 19, _ => exact hB_in 661 (by decide +kernel) (by decide +kernel)
  | 20, _ => exact hB_in 663 (by decide +kernel) (by decide +kernel)
  | 21, _ => exact hB_in 665 (by decide +kernel) (by decide +kernel)
  | 22, _ => exact hB_in 667 (by decide +kernel) (by decide +kernel)
  | 23, _ => exact hB_in 669 (by decide +kernel) (by decide +kernel)
  | 24, _ => exact hB_in 671 (by decide +kernel) (by decide +kernel)
  | 25, _ => exact hB_in 673 (by decide +kernel) (by decide +kernel)
  | 26, _ => exact hB_in 675 (by decide +kernel) (by decide +kernel)
  | 27, _ => exact hB_in 677 (by decide +kernel) (by decide +kernel)
  | 28, _ => exact hB_in 679 (by decide +kernel) (by decide +kernel)
  | k + 29, h => exact absurd h (by omega)
def RLa : String := "MergeRowsLaw"
abbrev hC : List vw_C := [(RCo, TCo, 4), (RHu, THu, 3), (RMg, TMg, 8), (RPa, TPa, 3), (RPg, TPg, 3), (RRo, TRo, 2), (RVe, TVe, 5), (RMR, TMR, 7), (RMM, TMM, 29)]
