/-! the whole class over the same T, Q as the reference's: T 0 .. T 7, Q 0 up, Q 1 down; releasedTwice only has to be T 4 k where the call is 6 -/
def cl_op (T : rf_T) : Int32 := if T 0 4 = 0 then 1 else 0
def cl_b0 (v : Int32) : Int32 := if v &&& 1 = 0 then 0 else 1
def cl_b1 (v : Int32) : Int32 := if v &&& 2 = 0 then 0 else 1
def clA (G : zz_G) (ad : Nat → Nat) (ce : zz_C) (T : rf_T) (r0 r1 : Int32) : Prop :=
  ce 0 = some (.inr (4, [.ref (ad 10), .ref (ad 30), .ref (ad 1), .ref (ad 2), .int (T 0 5)])) ∧ ce 1 = some (.inr (1, [.ref (ad 10), .int 3, .int (T 1 0), .int (T 2 0), .int (T 3 0), .int (T 5 0), .int r0, .int (T 0 0), .int (T 0 6), .ref (ad 3), .int (T 0 9)])) ∧ ce 2 = some (.inr (2, [.ref (ad 30), .int 0, .int (T 1 1), .int (T 2 1), .int (T 3 1), .int (T 5 1), .int r1, .int (T 0 1), .int (T 0 7), .int (T 0 2), .int (T 0 8), .int (cl_b0 (T 0 3)), .int (cl_b1 (T 0 3)), .ref (ad 4), .int (T 0 10)])) ∧ ce 3 = some (.inl (zz_cI G, 8, .inl (T 6))) ∧ ce 4 = some (.inl (zz_cI G, 8, .inl (T 7)))
def cl_tw (T : rf_T) (k : Nat) (r : Int32) : Prop := (r = 0 ∨ r = 1) ∧ (T 2 k = 6 → r = T 4 k)
def clV (G : zz_G) (ad : Nat → Nat) (ce : zz_C) (T : rf_T) (Q : rf_Q) : Prop := ∃ r0 r1 : Int32, clA G ad ce T r0 r1 ∧ cl_tw T 0 r0 ∧ cl_tw T 1 r1 ∧ cl_r G ad ce 10 (Q 0) (cl_op T) ∧ cl_r G ad ce 30 (Q 1) (cl_op T)
theorem cl_op_rm {T : rf_T} {q : List (List Nat)} : cl_rm q (cl_op T) ↔ (T 0 4 = 0 ∧ q.length < 8) := by
  unfold cl_op
  by_cases h : T 0 4 = 0
  · simp [h]
  · simp [h]
theorem cl_opb (T : rf_T) : narrow .boolean (.int (cl_op T)) = .int (cl_op T) := by
  unfold cl_op
  split <;> rfl
theorem cl_b0b (v : Int32) : narrow .boolean (.int (cl_b0 v)) = .int (cl_b0 v) := by
  unfold cl_b0
  split <;> rfl
theorem cl_b1b (v : Int32) : narrow .boolean (.int (cl_b1 v)) = .int (cl_b1 v) := by
  unfold cl_b1
  split <;> rfl
theorem cl_put {G : zz_G} {ad : Nat → Nat} {ce : zz_C} {b w : Nat} {T : rf_T} {Q : rf_Q} {x : List Nat} (h : cl_r G ad ce b (if cl_rm (Q w) (cl_op T) then Q w ++ [x] else Q w) (cl_op T)) : cl_r G ad ce b (rf_put T Q w x w) (cl_op T) := by
  unfold rf_put
  by_cases hc : T 0 4 = 0 ∧ (Q w).length < 8
  · rw [if_pos hc, rf_vu_s]
    rw [if_pos (cl_op_rm.mpr hc)] at h
    exact h
  · rw [if_neg hc]
    rw [if_neg (fun q => hc (cl_op_rm.mp q))] at h
    exact h
theorem cl_putn (T : rf_T) (Q : rf_Q) (x : List Nat) {w v : Nat} (h : v ≠ w) : rf_put T Q w x v = Q v := by
  unfold rf_put
  split
  · exact rf_vu_n _ _ h
  · rfl
