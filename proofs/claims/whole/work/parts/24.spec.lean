/-! what the reference's methods do, as functions: an answer, the numbers, the rows -/
abbrev rf_R : Type := Int32 × rf_T × rf_Q
def rf_rel (T : rf_T) (k : Nat) : rf_T := rf_become T k (T 1 k) 6 30
def rf_cau (T : rf_T) (k : Nat) (v : Int32) : rf_T := va_up T 5 (upd (T 5) k v)
def rf_o (T : rf_T) (i : Nat) (v : Int32) : rf_T := va_up T 0 (va_up (T 0) i v)
def sp_closes (T : rf_T) (Q : rf_Q) (M : List Nat) (k ty : Nat) : rf_R :=
  if ty = 37 ∧ rf_sz M 8 = some 1 ∧ (¬ T 2 k < 1 ∧ ¬ (5 : Int32) < T 2 k) then (1, rf_rel (rf_cau T k (rf_val M 8)) k, rf_put T Q k [3, 45])
  else if ty = 45 ∧ (k = 1 ∨ (0 : Int32) < T 2 k) then (1, rf_become T k (if k = 0 then 3 else 0) 0 0, rf_put T Q k [3, 42])
  else if ty = 42 ∧ (k = 1 ∨ (0 : Int32) < T 2 k) then (1, rf_become T k (if k = 0 then 3 else 0) 0 0, Q)
  else (0, T, Q)
def rf_setup (T : rf_T) (d : Nat) : List Nat := [3, 5, 94, rf_zb (nI d)] ++ (List.range d).map (fun k => rf_zb (T 6 k))
theorem rf_ei {a b : Nat} (ha : a < 256) (hb : b < 256) (h : nI a = nI b) : a = b := (nI_eq (by omega) (by omega)).mp h
theorem rf_nl {a b : Int32} (h : a ≤ b) : ¬ b < a := fun q => by
  rw [Int32.le_iff_toInt_le] at h
  rw [Int32.lt_iff_toInt_lt] at q
  omega
theorem rf_gt {a b : Int32} (h : ¬ a ≤ b) : b < a := by
  rw [Int32.le_iff_toInt_le] at h
  rw [Int32.lt_iff_toInt_lt]
  omega
theorem rf_ge {a b : Int32} (h : ¬ a < b) : b ≤ a := by
  rw [Int32.lt_iff_toInt_lt] at h
  rw [Int32.le_iff_toInt_le]
  omega
