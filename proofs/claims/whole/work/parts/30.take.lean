/-! the first message is taken out of its row: what the shift of the others does -/
def rfS (zs bs zs2 bs2 : Nat → Int32) (w k : Nat) (x : List Nat) (r : List (List Nat)) : Prop :=
  (∀ j, j < k → rfm zs2 bs2 (8 * w + j) (r.getD j [])) ∧ (∀ j, k ≤ j → j < r.length → rfm zs2 bs2 (8 * w + (j + 1)) (r.getD j [])) ∧ (∀ j, j < 8 * w ∨ 8 * w + 8 ≤ j → zs2 j = zs j) ∧ ∀ j, j < 24 * (8 * w) ∨ 24 * (8 * w) + 192 ≤ j → bs2 j = bs j
theorem rfS_0 {cn zs bs : Nat → Int32} {Q : rf_Q} {w : Nat} {x : List Nat} {r : List (List Nat)} (h : rfQ cn zs bs Q) (hw : w < 2) (hq : Q w = x :: r) : rfS zs bs zs bs w 0 x r := by
  obtain ⟨g1, g2, g3⟩ := h w hw
  rw [hq] at g1 g2 g3
  refine ⟨fun j hj => absurd hj (Nat.not_lt_zero _), fun j _ hj => ?_, fun _ _ => rfl, fun _ _ => rfl⟩
  have h3 := g3 (j + 1) (by simp; omega)
  simpa using h3
theorem rfS_s {zs bs zs2 bs2 bs3 : Nat → Int32} {w k : Nat} {x : List Nat} {r : List (List Nat)} (h : rfS zs bs zs2 bs2 w k x r) (hk : k < r.length) (hr : r.length < 8)
    (h1 : ∀ q, q < 24 → bs3 (24 * (8 * w + k) + q) = bs2 (24 * (8 * w + k + 1) + q)) (h2 : ∀ q, q < 24 * (8 * w + k) ∨ 24 * (8 * w + k) + 24 ≤ q → bs3 q = bs2 q) : rfS zs bs (upd zs2 (8 * w + k) (zs2 (8 * w + k + 1))) bs3 w (k + 1) x r := by
  obtain ⟨a1, a2, a3, a4⟩ := h
  refine ⟨fun j hj => ?_, fun j hj hj2 => ?_, fun j hj => ?_, fun j hj => ?_⟩
  · by_cases hjk : j < k
    · obtain ⟨m1, m2, m3, m4⟩ := a1 j hjk
      refine ⟨m1, m2, by rw [rf_up_n _ _ (by omega)]; exact m3, fun i hi => ?_⟩
      rw [h2 _ (by omega)]
      exact m4 i hi
    · have e : j = k := by omega
      subst e
      obtain ⟨m1, m2, m3, m4⟩ := a2 j (Nat.le_refl _) hk
      refine ⟨m1, m2, by rw [rf_up_s]; exact m3, fun i hi => ?_⟩
      rw [h1 i (by omega)]
      exact m4 i hi
  · obtain ⟨m1, m2, m3, m4⟩ := a2 j (by omega) hj2
    refine ⟨m1, m2, by rw [rf_up_n _ _ (by omega)]; exact m3, fun i hi => ?_⟩
    rw [h2 _ (by omega)]
    exact m4 i hi
  · rw [rf_up_n _ _ (by omega)]
    exact a3 j hj
  · rw [h2 _ (by omega)]
    exact a4 j hj
theorem rfS_e {cn zs bs zs2 bs2 : Nat → Int32} {Q : rf_Q} {w : Nat} {x : List Nat} {r : List (List Nat)} (h : rfQ cn zs bs Q) (hw : w < 2) (hq : Q w = x :: r) (hs : rfS zs bs zs2 bs2 w r.length x r) : rfQ (upd cn w (nI r.length)) zs2 bs2 (va_up Q w r) := by
  obtain ⟨a1, a2, a3, a4⟩ := hs
  intro v hv
  obtain ⟨g1, g2, g3⟩ := h v hv
  by_cases hvw : v = w
  · subst hvw
    rw [hq] at g1
    rw [rf_vu_s, rf_up_s]
    exact ⟨by simp at g1; omega, rfl, a1⟩
  · rw [rf_vu_n _ _ hvw, rf_up_n _ _ hvw]
    refine ⟨g1, g2, fun k hk => ?_⟩
    obtain ⟨m1, m2, m3, m4⟩ := g3 k hk
    refine ⟨m1, m2, by rw [a3 _ (by omega)]; exact m3, fun i hi => ?_⟩
    rw [a4 _ (by omega)]
    exact m4 i hi
