/-! THE REFERENCE'S WORLD: names 100 (the object), 101 .. 111 (counts, sizes, bytes, states, calls, timers, twice, causes, digits, called, here). T 0: its numbers (0 key, 1 otherKey, 2 challenge, 3 accepts, 4 silent, 5 left, 6 area, 7 known, 8 wished, 9 digitCount, 10 calledCount); T 1 .. T 7: the arrays states, calls, timers, twice, causes, digits, called. Q: the two rows of messages, bytes as numbers; M: the message that was taken (size, here). -/
abbrev rf_fs (ad : Nat → Nat) (o : Nat → Int32) (sv : Int32) : List Value := [.int (o 0), .int (o 1), .int (o 2), .int (o 3), .int (o 4), .ref (ad 101), .ref (ad 102), .ref (ad 103), .int (o 5), .ref (ad 104), .ref (ad 105), .ref (ad 106), .ref (ad 107), .ref (ad 108), .int (o 6), .int (o 7), .int (o 8), .ref (ad 109), .int (o 9), .ref (ad 110), .int (o 10), .int sv, .ref (ad 111)]
abbrev rf_T : Type := Nat → Nat → Int32
abbrev rf_Q : Type := Nat → List (List Nat)
def rfA (G : zz_G) (ad : Nat → Nat) (ce : zz_C) (T : rf_T) (cn zs bs hr : Nat → Int32) (sv : Int32) : Prop :=
  ce 100 = some (.inr (5, rf_fs ad (T 0) sv)) ∧ ce 101 = some (.inl (zz_cI G, 2, .inl cn)) ∧ ce 102 = some (.inl (zz_cI G, 16, .inl zs)) ∧ ce 103 = some (.inl (zz_cI G, 384, .inl bs)) ∧ ce 104 = some (.inl (zz_cI G, 2, .inl (T 1))) ∧ ce 105 = some (.inl (zz_cI G, 2, .inl (T 2))) ∧ ce 106 = some (.inl (zz_cI G, 2, .inl (T 3))) ∧ ce 107 = some (.inl (zz_cZ G, 2, .inl (T 4))) ∧ ce 108 = some (.inl (zz_cI G, 2, .inl (T 5))) ∧ ce 109 = some (.inl (zz_cI G, 8, .inl (T 6))) ∧ ce 110 = some (.inl (zz_cI G, 8, .inl (T 7))) ∧ ce 111 = some (.inl (zz_cI G, 24, .inl hr))
/-- message number m holds x -/
def rfm (zs bs : Nat → Int32) (m : Nat) (x : List Nat) : Prop := 2 ≤ x.length ∧ x.length ≤ 24 ∧ zs m = nI x.length ∧ ∀ i, i < x.length → bs (24 * m + i) = nI (x.getD i 0) ∧ x.getD i 0 < 256
def rfQ (cn zs bs : Nat → Int32) (Q : rf_Q) : Prop := ∀ w, w < 2 → (Q w).length ≤ 8 ∧ cn w = nI (Q w).length ∧ ∀ k, k < (Q w).length → rfm zs bs (8 * w + k) ((Q w).getD k [])
def rfM (hr : Nat → Int32) (M : List Nat) : Prop := M.length ≤ 24 ∧ ∀ i, i < M.length → hr i = nI (M.getD i 0) ∧ M.getD i 0 < 256
def rfV (G : zz_G) (ad : Nat → Nat) (ce : zz_C) (T : rf_T) (Q : rf_Q) (M : List Nat) : Prop := ∃ cn zs bs hr, rfA G ad ce T cn zs bs hr (nI M.length) ∧ rfQ cn zs bs Q ∧ rfM hr M
def rf_become (T : rf_T) (k : Nat) (s c t : Int32) : rf_T := va_up (va_up (va_up (va_up T 1 (upd (T 1) k s)) 2 (upd (T 2) k c)) 3 (upd (T 3) k t)) 4 (upd (T 4) k 0)
abbrev rf_inC (T : rf_T) (k : Nat) (lo hi : Int32) : Prop := ¬ T 2 k < lo ∧ ¬ hi < T 2 k
def rf_turned (a b : Int32) : Int32 := (((a ^^^ b) * 16777619) <<< ((5 : Int32) &&& 31)) ||| (((a ^^^ b) * 16777619).toUInt32 >>> ((27 : Int32).toUInt32 &&& Int32.toUInt32 31)).toInt32
/-- is there room for one more in row w; the row with x behind it; its number -/
def rf_room (T : rf_T) (Q : rf_Q) (w : Nat) : Prop := T 0 4 = 0 ∧ (Q w).length < 8
def rf_put (T : rf_T) (Q : rf_Q) (w : Nat) (x : List Nat) : rf_Q := if T 0 4 = 0 ∧ (Q w).length < 8 then va_up Q w (Q w ++ [x]) else Q
def rf_hd (T : rf_T) (Q : rf_Q) (w : Nat) : Int32 := if T 0 4 = 0 ∧ (Q w).length < 8 then nI (8 * w + (Q w).length) else -3
/-- the lowest byte; byte k of an int -/
def rf_zb (b : Int32) : Nat := b.toBitVec.toNat % 256
def rf_rb (v : Int32) (k : Nat) : Nat := v.toBitVec.toNat / 2 ^ (8 * k) % 256
theorem rf_and (b : Int32) : b &&& 255 = nI (rf_zb b) := pk_and b 8 (by decide)
theorem rf_zb_lt (b : Int32) : rf_zb b < 256 := Nat.mod_lt _ (by decide)
theorem rf_rb_lt (v : Int32) (k : Nat) : rf_rb v k < 256 := Nat.mod_lt _ (by decide)
theorem rf_up_s (f : Nat → Int32) (k : Nat) (x : Int32) : upd f k x k = x := pk_us
theorem rf_up_n (f : Nat → Int32) {k j : Nat} (x : Int32) (h : j ≠ k) : upd f k x j = f j := pk_un h
theorem rf_vu_s {α : Type} (f : Nat → α) (k : Nat) (x : α) : va_up f k x k = x := by simp [va_up]
theorem rf_vu_n {α : Type} (f : Nat → α) {k j : Nat} (x : α) (h : j ≠ k) : va_up f k x j = f j := by simp [va_up, h]
theorem rf_gd (q : List (List Nat)) (x : List Nat) : (q ++ [x]).getD q.length [] = x := by simp [List.getD]
theorem rf_gl (q : List (List Nat)) (x : List Nat) {k : Nat} (h : k < q.length) : (q ++ [x]).getD k [] = q.getD k [] := by
  simp [List.getD, List.getElem?_append_left h]
/-- one message more: what is behind the last is free -/
theorem rfQ_more {cn zs bs cn1 zs1 bs1 : Nat → Int32} {Q : rf_Q} {w : Nat} {x : List Nat} (h : rfQ cn zs bs Q) (hw : w < 2) (hl : (Q w).length < 8) (hc : cn1 w = nI ((Q w).length + 1)) (hc2 : ∀ j, j ≠ w → cn1 j = cn j)
    (hz : ∀ j, j ≠ 8 * w + (Q w).length → zs1 j = zs j) (hb : ∀ j, j < 24 * (8 * w + (Q w).length) ∨ 24 * (8 * w + (Q w).length) + 24 ≤ j → bs1 j = bs j) (hx : rfm zs1 bs1 (8 * w + (Q w).length) x) : rfQ cn1 zs1 bs1 (va_up Q w (Q w ++ [x])) := by
  intro v hv
  have old : ∀ v k, v < 2 → k < (Q v).length → 8 * v + k ≠ 8 * w + (Q w).length → rfm zs1 bs1 (8 * v + k) ((Q v).getD k []) := by
    intro v k hv hk hne
    obtain ⟨g1, g2, g3⟩ := h v hv
    obtain ⟨m1, m2, m3, m4⟩ := g3 k hk
    refine ⟨m1, m2, by rw [hz _ hne]; exact m3, fun i hi => ?_⟩
    rw [hb _ (by omega)]
    exact m4 i hi
  by_cases hvw : v = w
  · subst hvw
    rw [rf_vu_s]
    refine ⟨by simp; omega, by simp [hc], fun k hk => ?_⟩
    by_cases hkl : k < (Q v).length
    · rw [rf_gl _ _ hkl]
      exact old v k hv hkl (by omega)
    · have hke : k = (Q v).length := by simp at hk; omega
      subst hke
      rw [rf_gd]
      exact hx
  · rw [rf_vu_n _ _ hvw]
    obtain ⟨g1, g2, g3⟩ := h v hv
    obtain ⟨q1, -, -⟩ := h w hw
    exact ⟨g1, by rw [hc2 v hvw]; exact g2, fun k hk => old v k hv hk (by omega)⟩
theorem rfQ_put {cn zs bs : Nat → Int32} {Q : rf_Q} {w a b : Nat} (h : rfQ cn zs bs Q) (hw : w < 2) (hl : (Q w).length < 8) (ha : a < 256) (hb : b < 256) : rfQ (upd cn w (cn w + 1)) (upd zs (8 * w + (Q w).length) 2) (upd (upd bs (24 * (8 * w + (Q w).length)) (nI a)) (24 * (8 * w + (Q w).length) + 1) (nI b)) (va_up Q w (Q w ++ [[a, b]])) := by
  have hc := (h w hw).2.1
  refine rfQ_more h hw hl (by rw [rf_up_s, hc, nI_1]) (fun j hj => rf_up_n _ _ hj) (fun j hj => rf_up_n _ _ hj) (fun j hj => by rw [rf_up_n _ _ (by omega), rf_up_n _ _ (by omega)]) ⟨by simp, by simp, by rw [rf_up_s]; rfl, fun i hi => ?_⟩
  have hi2 : i = 0 ∨ i = 1 := by simp at hi; omega
  rcases hi2 with rfl | rfl
  · rw [rf_up_n _ _ (by omega), Nat.add_zero, rf_up_s]; exact ⟨rfl, ha⟩
  · rw [rf_up_s]; exact ⟨rfl, hb⟩
/-- the last message becomes another -/
theorem rfQ_last {cn zs bs zs1 bs1 : Nat → Int32} {Q : rf_Q} {w : Nat} {x x1 : List Nat} (h : rfQ cn zs bs (va_up Q w (Q w ++ [x]))) (hw : w < 2)
    (hz : ∀ j, j ≠ 8 * w + (Q w).length → zs1 j = zs j) (hb : ∀ j, j < 24 * (8 * w + (Q w).length) ∨ 24 * (8 * w + (Q w).length) + 24 ≤ j → bs1 j = bs j) (hx : rfm zs1 bs1 (8 * w + (Q w).length) x1) : rfQ cn zs1 bs1 (va_up Q w (Q w ++ [x1])) := by
  have hq := (h w hw).1
  rw [rf_vu_s] at hq
  simp only [List.length_append, List.length_cons, List.length_nil] at hq
  have keep : ∀ m y, m ≠ 8 * w + (Q w).length → rfm zs bs m y → rfm zs1 bs1 m y := by
    intro m y hne hm
    obtain ⟨m1, m2, m3, m4⟩ := hm
    refine ⟨m1, m2, by rw [hz _ hne]; exact m3, fun i hi => ?_⟩
    rw [hb _ (by omega)]
    exact m4 i hi
  intro v hv
  obtain ⟨g1, g2, g3⟩ := h v hv
  by_cases hvw : v = w
  · subst hvw
    rw [rf_vu_s] at g1 g2 g3 ⊢
    refine ⟨by simpa using g1, by simpa using g2, fun k hk => ?_⟩
    by_cases hkl : k < (Q v).length
    · have h3 := g3 k (by simp; omega)
      rw [rf_gl _ _ hkl] at h3 ⊢
      exact keep _ _ (by omega) h3
    · have hke : k = (Q v).length := by simp at hk; omega
      subst hke
      rw [rf_gd]
      exact hx
  · rw [rf_vu_n _ _ hvw] at g1 g2 g3 ⊢
    exact ⟨g1, g2, fun k hk => keep _ _ (by omega) (g3 k hk)⟩
theorem rfQ_at {cn zs bs : Nat → Int32} {Q : rf_Q} {w : Nat} {x : List Nat} (h : rfQ cn zs bs (va_up Q w (Q w ++ [x]))) (hw : w < 2) : (Q w).length < 8 ∧ rfm zs bs (8 * w + (Q w).length) x := by
  obtain ⟨g1, g2, g3⟩ := h w hw
  rw [rf_vu_s] at g1 g2 g3
  have h3 := g3 (Q w).length (by simp)
  rw [rf_gd] at h3
  simp only [List.length_append, List.length_cons, List.length_nil] at g1
  exact ⟨by omega, h3⟩
theorem rf_ga (x : List Nat) (c : Nat) : (x ++ [c]).getD x.length 0 = c := by simp [List.getD]
theorem rf_gb (x : List Nat) (c : Nat) {i : Nat} (h : i < x.length) : (x ++ [c]).getD i 0 = x.getD i 0 := by simp [List.getD, List.getElem?_append_left h]
theorem rfQ_byte {cn zs bs : Nat → Int32} {Q : rf_Q} {w c : Nat} {x : List Nat} (h : rfQ cn zs bs (va_up Q w (Q w ++ [x]))) (hw : w < 2) (hl : x.length < 24) (hc : c < 256) : rfQ cn (upd zs (8 * w + (Q w).length) (zs (8 * w + (Q w).length) + 1)) (upd bs (24 * (8 * w + (Q w).length) + x.length) (nI c)) (va_up Q w (Q w ++ [x ++ [c]])) := by
  obtain ⟨g0, m1, m2, m3, m4⟩ := rfQ_at h hw
  refine rfQ_last h hw (fun j hj => rf_up_n _ _ hj) (fun j hj => rf_up_n _ _ (by omega)) ⟨by simp; omega, by simp; omega, by rw [rf_up_s, m3, nI_1]; simp, fun i hi => ?_⟩
  by_cases hil : i < x.length
  · rw [rf_gb _ _ hil, rf_up_n _ _ (by omega)]
    exact m4 i hil
  · have hie : i = x.length := by simp at hi; omega
    subst hie
    rw [rf_ga, rf_up_s]
    exact ⟨rfl, hc⟩
theorem rf_sh (v s : Int32) (k : Nat) (hs : (s.toBitVec.smod 32).toNat = 8 * k) (hk : k ≤ 3) : rf_zb (v >>> s) = rf_rb v k := by
  have e : (v >>> s).toBitVec = v.toBitVec.sshiftRight (8 * k) := by
    show v.toBitVec.sshiftRight' (s.toBitVec.smod 32) = _
    rw [BitVec.sshiftRight', hs]
  have h1 : (v.toBitVec.sshiftRight (8 * k)).setWidth 8 = (v.toBitVec >>> (8 * k)).setWidth 8 := by
    apply BitVec.eq_of_getLsbD_eq
    intro i hi
    simp only [BitVec.getLsbD_setWidth, BitVec.getLsbD_sshiftRight, BitVec.getLsbD_ushiftRight]
    have h9 : 8 * k + i < 32 := by omega
    simp [hi, h9]
    intro _
    omega
  have h2 := congrArg BitVec.toNat h1
  simp only [BitVec.toNat_setWidth, BitVec.toNat_ushiftRight, Nat.shiftRight_eq_div_pow] at h2
  unfold rf_zb rf_rb
  rw [e]
  exact h2
theorem rf_sh0 (v : Int32) : rf_zb (v >>> ((0 : Int32) &&& 31)) = rf_rb v 0 := rf_sh v _ 0 (by decide) (by decide)
theorem rf_sh8 (v : Int32) : rf_zb (v >>> ((8 : Int32) &&& 31)) = rf_rb v 1 := rf_sh v _ 1 (by decide) (by decide)
theorem rf_sh16 (v : Int32) : rf_zb (v >>> ((16 : Int32) &&& 31)) = rf_rb v 2 := rf_sh v _ 2 (by decide) (by decide)
theorem rf_sh24 (v : Int32) : rf_zb (v >>> ((24 : Int32) &&& 31)) = rf_rb v 3 := rf_sh v _ 3 (by decide) (by decide)
theorem rf_zb_nI {n : Nat} (h : n < 256) : rf_zb (nI n) = n := by
  unfold rf_zb
  rw [pk_tn (by omega)]
  exact Nat.mod_eq_of_lt h
/-- the bytes of a number of n bytes, the highest first -/
def rf_bytes (n : Nat) (v : Int32) : List Nat := (List.range n).map (fun j => rf_rb v (n - 1 - j))
