/-! THE CLASS'S WORLD: names 0 MobileCall, 1 Mobile, 2 Network, 3 digits, 4 number; rows at b = 10 and b = 30: b the row, b + 1 its slots, b + 2 the spare message (b + 3 its bytes), b + 4 + 2 j the message of slot j, b + 5 + 2 j its bytes. -/
def cl_m (G : zz_G) (ad : Nat → Nat) (ce : zz_C) (n : Nat) (x : List Nat) : Prop := ∃ f : Nat → Int32, ce n = some (.inr (0, [.ref (ad (n + 1)), .int (nI x.length)])) ∧ ce (n + 1) = some (.inl (zz_cI G, 24, .inl f)) ∧ rfM f x
def cl_w (G : zz_G) (ad : Nat → Nat) (ce : zz_C) (b fs : Nat) (cn op : Int32) (xs : Nat → List Nat) (y : List Nat) : Prop :=
  ce b = some (.inr (3, [.ref (ad (b + 1)), .ref (ad (b + 2)), .int (nI fs), .int cn, .int op])) ∧ (∃ sl : Nat → Option Nat, ce (b + 1) = some (.inl (zz_cM G, 8, .inr (.inr (.inr (.inr sl))))) ∧ ∀ j, j < 8 → sl j = some (ad (b + 4 + 2 * j))) ∧ fs < 8 ∧ (∀ j, j < 8 → cl_m G ad ce (b + 4 + 2 * j) (xs j)) ∧ cl_m G ad ce (b + 2) y
def cl_q (fs : Nat) (xs : Nat → List Nat) (q : List (List Nat)) : Prop := q.length ≤ 8 ∧ ∀ k, k < q.length → xs ((fs + k) % 8) = q.getD k [] ∧ 2 ≤ (q.getD k []).length
def cl_r (G : zz_G) (ad : Nat → Nat) (ce : zz_C) (b : Nat) (q : List (List Nat)) (op : Int32) : Prop := ∃ (fs : Nat) (xs : Nat → List Nat) (y : List Nat), cl_w G ad ce b fs (nI q.length) op xs y ∧ cl_q fs xs q
abbrev cl_rm (q : List (List Nat)) (op : Int32) : Prop := ¬ op = 0 ∧ q.length < 8
def cl_p (G : zz_G) (ad : Nat → Nat) (ce : zz_C) (b : Nat) (q : List (List Nat)) (op : Int32) (h : Nat) (x : List Nat) : Prop := ∃ (fs : Nat) (xs : Nat → List Nat) (y : List Nat), cl_q fs xs q ∧ 2 ≤ x.length ∧ ((cl_rm q op ∧ cl_w G ad ce b fs (nI (q.length + 1)) op xs y ∧ h = b + 4 + 2 * ((fs + q.length) % 8) ∧ xs ((fs + q.length) % 8) = x) ∨ (¬ cl_rm q op ∧ cl_w G ad ce b fs (nI q.length) op xs y ∧ h = b + 2 ∧ y = x))
def cl_h (G : zz_G) (ad : Nat → Nat) (ce : zz_C) (b : Nat) (q : List (List Nat)) (op : Int32) (k h : Nat) : Prop := ∃ (fs : Nat) (xs : Nat → List Nat) (y : List Nat), cl_w G ad ce b fs (nI q.length) op xs y ∧ cl_q fs xs q ∧ k < q.length ∧ h = b + 4 + 2 * ((fs + k) % 8)
abbrev cl_in (x : List Nat) (i : Int32) : Prop := ¬ i < 0 ∧ ¬ nI x.length ≤ i
section CL0
variable {G : zz_G} {ad : Nat → Nat} {ce ce1 : zz_C} {n b fs h k : Nat} {x x1 y : List Nat} {xs : Nat → List Nat} {q : List (List Nat)} {cn op : Int32}
theorem cl_ixv {v : Int32} (h0 : ¬ v < 0) : v = nI v.toNatClampNeg := by
  obtain ⟨j, hj, e⟩ := nI_of h0
  rw [e, nI_clamp hj]
theorem cl_ixl {v : Int32} {n : Nat} (h0 : ¬ v < 0) (h : ¬ nI n ≤ v) : v.toNatClampNeg < n := by
  obtain ⟨j, hj, e⟩ := nI_of h0
  rw [e, nI_clamp hj]
  rw [e] at h
  exact Nat.lt_of_not_le (fun q => h (nI_le q hj))
theorem cl_mod8 : ∀ a, a < 16 → nI a - nI a / 8 * 8 = nI (a % 8) := by decide +kernel
theorem cl_m.obj (h : cl_m G ad ce n x) : ce n = some (.inr (0, [.ref (ad (n + 1)), .int (nI x.length)])) := by
  obtain ⟨f, h, -⟩ := h
  exact h
theorem cl_m.len (h : cl_m G ad ce n x) : x.length ≤ 24 := by
  obtain ⟨f, -, -, h, -⟩ := h
  exact h
theorem cl_m.kept (h : cl_m G ad ce n x) (h1 : ce1 n = ce n) (h2 : ce1 (n + 1) = ce (n + 1)) : cl_m G ad ce1 n x := by
  obtain ⟨f, g1, g2, g3⟩ := h
  exact ⟨f, h1.trans g1, h2.trans g2, g3⟩
theorem rfM_2 {f : Nat → Int32} {a b : Nat} (ha : a < 256) (hb : b < 256) : rfM (upd (upd f 0 (nI a)) 1 (nI b)) [a, b] := ⟨by simp, fun i hi => by
  have hi2 : i = 0 ∨ i = 1 := by simp at hi; omega
  rcases hi2 with rfl | rfl
  · rw [rf_up_n _ _ (by decide), rf_up_s]; exact ⟨rfl, ha⟩
  · rw [rf_up_s]; exact ⟨rfl, hb⟩⟩
theorem rfM_add {f : Nat → Int32} {c : Nat} (h : rfM f x) (hl : x.length < 24) (hc : c < 256) : rfM (upd f x.length (nI c)) (x ++ [c]) := ⟨by simp; omega, fun i hi => by
  by_cases hil : i < x.length
  · rw [rf_gb _ _ hil, rf_up_n _ _ (by omega)]
    exact h.2 i hil
  · have hie : i = x.length := by simp at hi; omega
    subst hie
    rw [rf_ga, rf_up_s]
    exact ⟨rfl, hc⟩⟩
theorem cl_sd (x : List Nat) (i c : Nat) {j : Nat} (h : j < x.length) : (x.set i c).getD j 0 = if j = i then c else x.getD j 0 := by
  simp only [List.getD, List.getElem?_set]
  by_cases e : j = i
  · subst e
    simp [h]
  · simp [e, Ne.symm e]
theorem rfM_set {f : Nat → Int32} {i c : Nat} (h : rfM f x) (hi : i < x.length) (hc : c < 256) : rfM (upd f i (nI c)) (x.set i c) := ⟨by simpa using h.1, fun j hj => by
  have hj2 : j < x.length := by simpa using hj
  rw [cl_sd _ _ _ hj2]
  by_cases e : j = i
  · subst e
    rw [rf_up_s, if_pos rfl]
    exact ⟨rfl, hc⟩
  · rw [rf_up_n _ _ e, if_neg e]
    exact h.2 j hj2⟩
theorem cl_w.kept (hw : cl_w G ad ce b fs cn op xs y) (hk : ∀ j, b ≤ j → j < b + 20 → ce1 j = ce j) : cl_w G ad ce1 b fs cn op xs y := by
  obtain ⟨g1, ⟨sl, g2, g3⟩, g4, g5, g6⟩ := hw
  exact ⟨(hk _ (by omega) (by omega)).trans g1, ⟨sl, (hk _ (by omega) (by omega)).trans g2, g3⟩, g4, fun j hj => (g5 j hj).kept (hk _ (by omega) (by omega)) (hk _ (by omega) (by omega)), g6.kept (hk _ (by omega) (by omega)) (hk _ (by omega) (by omega))⟩
theorem cl_r.kept (hr : cl_r G ad ce b q op) (hk : ∀ j, b ≤ j → j < b + 20 → ce1 j = ce j) : cl_r G ad ce1 b q op := by
  obtain ⟨fs, xs, y, g1, g2⟩ := hr
  exact ⟨fs, xs, y, g1.kept hk, g2⟩
theorem cl_r.obj (hr : cl_r G ad ce b q op) : ∃ vs, ce b = some (.inr (3, vs)) := by
  obtain ⟨fs, xs, y, g1, g2⟩ := hr
  exact ⟨_, g1.1⟩
theorem cl_p.obj (hr : cl_p G ad ce b q op h x) : ∃ vs, ce b = some (.inr (3, vs)) := by
  obtain ⟨fs, xs, y, -, -, g | g⟩ := hr
  · exact ⟨_, g.2.1.1⟩
  · exact ⟨_, g.2.1.1⟩
/-- the row's object alone has changed -/
theorem cl_w.re {fs1 : Nat} {cn1 op1 : Int32} (hw : cl_w G ad ce b fs cn op xs y) (ho : ce1 b = some (.inr (3, [.ref (ad (b + 1)), .ref (ad (b + 2)), .int (nI fs1), .int cn1, .int op1]))) (hk : ∀ j, j ≠ b → ce1 j = ce j) (hf : fs1 < 8) : cl_w G ad ce1 b fs1 cn1 op1 xs y := by
  obtain ⟨g1, ⟨sl, g2, g3⟩, g4, g5, g6⟩ := hw
  exact ⟨ho, ⟨sl, (hk _ (by omega)).trans g2, g3⟩, hf, fun j hj => (g5 j hj).kept (hk _ (by omega)) (hk _ (by omega)), g6.kept (hk _ (by omega)) (hk _ (by omega))⟩
/-- the message of one slot alone has changed -/
theorem cl_w.one {j : Nat} (hw : cl_w G ad ce b fs cn op xs y) (hj : j < 8) (hk : ∀ i, i ≠ b + 4 + 2 * j → i ≠ b + 4 + 2 * j + 1 → ce1 i = ce i) (hm : cl_m G ad ce1 (b + 4 + 2 * j) x1) : cl_w G ad ce1 b fs cn op (va_up xs j x1) y := by
  obtain ⟨g1, ⟨sl, g2, g3⟩, g4, g5, g6⟩ := hw
  refine ⟨(hk _ (by omega) (by omega)).trans g1, ⟨sl, (hk _ (by omega) (by omega)).trans g2, g3⟩, g4, fun i hi => ?_, g6.kept (hk _ (by omega) (by omega)) (hk _ (by omega) (by omega))⟩
  by_cases e : i = j
  · subst e
    rw [rf_vu_s]
    exact hm
  · rw [rf_vu_n _ _ e]
    exact (g5 i hi).kept (hk _ (by omega) (by omega)) (hk _ (by omega) (by omega))
theorem cl_w.spare (hw : cl_w G ad ce b fs cn op xs y) (hk : ∀ i, i ≠ b + 2 → i ≠ b + 2 + 1 → ce1 i = ce i) (hm : cl_m G ad ce1 (b + 2) x1) : cl_w G ad ce1 b fs cn op xs x1 := by
  obtain ⟨g1, ⟨sl, g2, g3⟩, g4, g5, g6⟩ := hw
  exact ⟨(hk _ (by omega) (by omega)).trans g1, ⟨sl, (hk _ (by omega) (by omega)).trans g2, g3⟩, g4, fun i hi => (g5 i hi).kept (hk _ (by omega) (by omega)) (hk _ (by omega) (by omega)), hm⟩
theorem cl_q.up {j : Nat} (hq : cl_q fs xs q) (hj : ∀ k, k < q.length → (fs + k) % 8 ≠ j) : cl_q fs (va_up xs j x1) q := ⟨hq.1, fun k hk => by
  rw [rf_vu_n _ _ (hj k hk)]
  exact hq.2 k hk⟩
theorem cl_p.m (hp : cl_p G ad ce b q op h x) : cl_m G ad ce h x := by
  obtain ⟨fs, xs, y, -, -, ⟨-, g, rfl, rfl⟩ | ⟨-, g, rfl, rfl⟩⟩ := hp
  · exact g.2.2.2.1 _ (Nat.mod_lt _ (by decide))
  · exact g.2.2.2.2
theorem cl_p.at (hp : cl_p G ad ce b q op h x) : b + 2 ≤ h ∧ h + 1 < b + 20 := by
  obtain ⟨fs, xs, y, -, -, ⟨-, g, rfl, rfl⟩ | ⟨-, g, rfl, rfl⟩⟩ := hp <;> omega
theorem cl_p.kept (hp : cl_p G ad ce b q op h x) (hk : ∀ j, b ≤ j → j < b + 20 → ce1 j = ce j) : cl_p G ad ce1 b q op h x := by
  obtain ⟨fs, xs, y, g1, g2, ⟨g3, g4, g5⟩ | ⟨g3, g4, g5⟩⟩ := hp
  · exact ⟨fs, xs, y, g1, g2, Or.inl ⟨g3, g4.kept hk, g5⟩⟩
  · exact ⟨fs, xs, y, g1, g2, Or.inr ⟨g3, g4.kept hk, g5⟩⟩
theorem cl_p.step (hp : cl_p G ad ce b q op h x) (hk : ∀ i, i ≠ h → i ≠ h + 1 → ce1 i = ce i) (hm : cl_m G ad ce1 h x1) (h2 : 2 ≤ x1.length) : cl_p G ad ce1 b q op h x1 := by
  obtain ⟨fs, xs, y, g1, g2, ⟨g3, g4, rfl, g5⟩ | ⟨g3, g4, rfl, g5⟩⟩ := hp
  · have h8 := g3.2
    exact ⟨fs, va_up xs ((fs + q.length) % 8) x1, y, g1.up (fun k hk => by omega), h2, Or.inl ⟨g3, g4.one (Nat.mod_lt _ (by decide)) hk hm, rfl, rf_vu_s _ _ _⟩⟩
  · exact ⟨fs, xs, x1, g1, h2, Or.inr ⟨g3, g4.spare hk hm, rfl, rfl⟩⟩
theorem cl_p.end (hp : cl_p G ad ce b q op h x) : cl_r G ad ce b (if cl_rm q op then q ++ [x] else q) op := by
  obtain ⟨fs, xs, y, g1, g2, ⟨g3, g4, rfl, g5⟩ | ⟨g3, g4, rfl, g5⟩⟩ := hp
  · rw [if_pos g3]
    have h8 := g3.2
    refine ⟨fs, xs, y, by simpa using g4, by simp; omega, fun k hk => ?_⟩
    by_cases hkl : k < q.length
    · rw [rf_gl _ _ hkl]
      exact g1.2 k hkl
    · have hke : k = q.length := by simp at hk; omega
      subst hke
      rw [rf_gd, g5]
      exact ⟨rfl, g2⟩
  · rw [if_neg g3]
    exact ⟨fs, xs, y, g4, g1⟩
theorem cl_h.m (hh : cl_h G ad ce b q op k h) : cl_m G ad ce h (q.getD k []) ∧ 2 ≤ (q.getD k []).length := by
  obtain ⟨fs, xs, y, g1, g2, g3, rfl⟩ := hh
  have g := g1.2.2.2.1 _ (Nat.mod_lt (fs + k) (by decide))
  obtain ⟨e1, e2⟩ := g2.2 k g3
  rw [e1] at g
  exact ⟨g, e2⟩
theorem cl_h.at (hh : cl_h G ad ce b q op k h) : b + 4 ≤ h ∧ h + 1 < b + 20 := by
  obtain ⟨fs, xs, y, g1, g2, g3, rfl⟩ := hh
  omega
theorem cl_h.r (hh : cl_h G ad ce b q op k h) : cl_r G ad ce b q op := by
  obtain ⟨fs, xs, y, g1, g2, g3, rfl⟩ := hh
  exact ⟨fs, xs, y, g1, g2⟩
theorem cl_lsd (q : List (List Nat)) (i : Nat) (c : List Nat) {j : Nat} (h : j < q.length) : (q.set i c).getD j [] = if j = i then c else q.getD j [] := by
  simp only [List.getD, List.getElem?_set]
  by_cases e : j = i
  · subst e
    simp [h]
  · simp [e, Ne.symm e]
theorem cl_h.set (hh : cl_h G ad ce b q op k h) (hk : ∀ i, i ≠ h → i ≠ h + 1 → ce1 i = ce i) (hm : cl_m G ad ce1 h x1) (h2 : 2 ≤ x1.length) : cl_r G ad ce1 b (q.set k x1) op := by
  obtain ⟨fs, xs, y, g1, g2, g3, rfl⟩ := hh
  have hl := g2.1
  refine ⟨fs, va_up xs ((fs + k) % 8) x1, y, by simpa using g1.one (Nat.mod_lt _ (by decide)) hk hm, by simpa using hl, fun j hj => ?_⟩
  have hj2 : j < q.length := by simpa using hj
  rw [cl_lsd _ _ _ hj2]
  by_cases e : j = k
  · subst e
    rw [rf_vu_s, if_pos rfl]
    exact ⟨rfl, h2⟩
  · rw [rf_vu_n _ _ (by omega), if_neg e]
    exact g2.2 j hj2
theorem cl_q.drop (hq : cl_q fs xs q) : cl_q ((fs + 1) % 8) xs q.tail := by
  cases q with
  | nil => exact ⟨by simp, fun k hk => by simp at hk⟩
  | cons a t =>
    refine ⟨by have := hq.1; simp at this ⊢; omega, fun k hk => ?_⟩
    have := hq.2 (k + 1) (by simp at hk ⊢; omega)
    rw [show ((fs + 1) % 8 + k) % 8 = (fs + (k + 1)) % 8 by omega]
    simpa using this
end CL0
