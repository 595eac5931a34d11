/-! parsing: where the elements end, where the first with a tag begins -/
def rf_end (M : List Nat) : Nat → Nat → Nat
  | 0, i => i
  | n + 1, i => if i + 1 < M.length then rf_end M n (i + 2 + M.getD (i + 1) 0) else i
abbrev rf_good (M : List Nat) : Prop := rf_end M 24 2 = M.length
def rf_find (M : List Nat) (tag : Nat) : Nat → Nat → Option Nat
  | 0, _ => none
  | n + 1, i => if i + 1 < M.length then (if M.getD i 0 = tag then some i else rf_find M tag n (i + 2 + M.getD (i + 1) 0)) else none
def rf_fd (M : List Nat) (tag : Nat) : Option Nat := rf_find M tag 24 2
def rf_num (M : List Nat) (at0 : Nat) : Nat → Int32
  | 0 => 0
  | n + 1 => (rf_num M at0 n <<< ((8 : Int32) &&& 31)) ||| nI (M.getD (at0 + 2 + n) 0)
/-- with enough turns the end is where nothing more begins -/
theorem rf_end_stop (M : List Nat) : ∀ (n i : Nat), M.length ≤ i + 2 * n → M.length ≤ rf_end M n i + 1
  | 0, i, h => by simp only [rf_end]; omega
  | n + 1, i, h => by
    simp only [rf_end]
    split
    · exact rf_end_stop M n _ (by omega)
    · omega
theorem rf_end_ge (M : List Nat) : ∀ (n i : Nat), i ≤ rf_end M n i
  | 0, i => Nat.le_refl _
  | n + 1, i => by
    simp only [rf_end]
    split
    · exact Nat.le_trans (by omega) (rf_end_ge M n _)
    · exact Nat.le_refl _
/-- one turn less does no harm -/
theorem rf_end_fuel (M : List Nat) : ∀ (n i : Nat), M.length ≤ i + 2 * n → rf_end M (n + 1) i = rf_end M n i
  | 0, i, h => by simp only [rf_end]; rw [if_neg (by omega)]
  | n + 1, i, h => by
    rw [rf_end]
    conv => rhs; rw [rf_end]
    split
    · exact rf_end_fuel M n _ (by omega)
    · rfl
theorem rf_end_any (M : List Nat) (n k i : Nat) (h : M.length ≤ i + 2 * n) : rf_end M (n + k) i = rf_end M n i := by
  induction k with
  | zero => rfl
  | succ k ih => rw [← Nat.add_assoc, rf_end_fuel M (n + k) i (by omega), ih]
theorem rf_end_step (M : List Nat) (i : Nat) (hM : M.length ≤ 24) (hi : 2 ≤ i) (h : i + 1 < M.length) : rf_end M 24 i = rf_end M 24 (i + 2 + M.getD (i + 1) 0) := by
  have e : rf_end M 24 i = rf_end M 23 (i + 2 + M.getD (i + 1) 0) := by rw [rf_end, if_pos h]
  rw [e]
  exact (rf_end_fuel M 23 _ (by omega)).symm
theorem rf_end_end (M : List Nat) (i : Nat) (h : ¬ i + 1 < M.length) : rf_end M 24 i = i := by rw [rf_end, if_neg h]
theorem rf_find_fuel (M : List Nat) (tag : Nat) : ∀ (n i : Nat), M.length ≤ i + 2 * n → rf_find M tag (n + 1) i = rf_find M tag n i
  | 0, i, h => by simp only [rf_find]; rw [if_neg (by omega)]
  | n + 1, i, h => by
    rw [rf_find]
    conv => rhs; rw [rf_find]
    split
    · split
      · rfl
      · exact rf_find_fuel M tag n _ (by omega)
    · rfl
theorem rf_find_step (M : List Nat) (tag i : Nat) (hM : M.length ≤ 24) (hi : 2 ≤ i) (h : i + 1 < M.length) (ht : ¬ M.getD i 0 = tag) : rf_find M tag 24 i = rf_find M tag 24 (i + 2 + M.getD (i + 1) 0) := by
  have e : rf_find M tag 24 i = rf_find M tag 23 (i + 2 + M.getD (i + 1) 0) := by rw [rf_find, if_pos h, if_neg ht]
  rw [e]
  exact (rf_find_fuel M tag 23 _ (by omega)).symm
theorem rf_find_end (M : List Nat) (tag i : Nat) (h : ¬ i + 1 < M.length) : rf_find M tag 24 i = none := by rw [rf_find, if_neg h]
theorem rf_find_hit (M : List Nat) (tag i : Nat) (h : i + 1 < M.length) (ht : M.getD i 0 = tag) : rf_find M tag 24 i = some i := by rw [rf_find, if_pos h, if_pos ht]
/-- a hit lies inside, and in a good message its bytes do too -/
theorem rf_find_in (M : List Nat) (tag : Nat) : ∀ (n i j : Nat), rf_find M tag n i = some j → i ≤ j ∧ j + 1 < M.length
  | 0, i, j, h => by simp [rf_find] at h
  | n + 1, i, j, h => by
    rw [rf_find] at h
    split at h
    · split at h
      · cases h; exact ⟨Nat.le_refl _, by assumption⟩
      · have := rf_find_in M tag n _ j h
        omega
    · cases h
theorem rf_find_good (M : List Nat) (tag : Nat) : ∀ (n i j : Nat), rf_find M tag n i = some j → rf_end M n i = M.length → j + 2 + M.getD (j + 1) 0 ≤ M.length
  | 0, i, j, h, _ => by simp [rf_find] at h
  | n + 1, i, j, h, hg => by
    rw [rf_find] at h
    rw [rf_end] at hg
    split at h
    · rename_i hl
      rw [if_pos hl] at hg
      split at h
      · cases h
        have := rf_end_ge M n (i + 2 + M.getD (i + 1) 0)
        omega
      · exact rf_find_good M tag n _ j h hg
    · cases h
