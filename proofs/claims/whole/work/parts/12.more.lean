section ZZ3
variable {p : Program} {l : Launch} {e : Env} {R : Room} {s : State} {m : MethodId} {args : Array Value} {below : List Frame} {meth : Method} {c : Code} {H : Heap} {locs : List Loc} {cells slots : Nat} {Q : State → Prop}
variable {cc : ByteArray} {y : MethodName} {ret : Option FieldType} {nL pc : Nat} {ls : Array Slot} {rest st0 : List Value} {G : zz_G} {A : Nat → Prop} {H0 : Heap} {ad : Nat → Nat} {ce : zz_C} {sz : Nat}
/-- the int on top under another name -/
theorem z_top {x : Int32} (y : Int32) (h : x = y) (kk : W p l e R s m args below meth c H locs cells slots Q (F0 m pc ls (.int y :: rest))) : W p l e R s m args below meth c H locs cells slots Q (F0 m pc ls (.int x :: rest)) := by
  subst h; exact kk
theorem z_ld (F : zz_F p s m args meth c cc y ret nL G) (hw : zz_W G A ad ce sz H) {n N : Nat} {f : Nat → Int32} (hn : ce n = some (.inl (zz_cI G, N, .inl f))) {i : Int32} (k : Nat) (hi : i = nI k) (hk : k < N) (hN : N < 2 ^ 31) (hdg : decode cc pc = .ok (.iaload, 1))
    (kk : W p l e R s m args below meth c H locs cells slots Q (F0 m (pc + 1) ls (.int (f k) :: rest))) : W p l e R s m args below meth c H locs cells slots Q (F0 m pc ls (.int i :: .ref (ad n) :: rest)) := by
  subst hi
  refine z_iald F hw hn (vp_in_nI hk hN) hdg ?_
  rw [nI_clamp (Nat.lt_trans hk hN)]
  exact kk
theorem z_st (F : zz_F p s m args meth c cc y ret nL G) (hw : zz_W G A ad ce sz H) (hS : va_S A H0 H locs) {n N : Nat} {f : Nat → Int32} (hn : ce n = some (.inl (zz_cI G, N, .inl f))) {i x : Int32} (k : Nat) (hi : i = nI k) (hk : k < N) (hN : N < 2 ^ 31) (hdg : decode cc pc = .ok (.iastore, 1))
    (kk : ∀ (ce1 : zz_C) (H1 : Heap) (locs1 : List Loc), ce1 n = some (.inl (zz_cI G, N, .inl (upd f k x))) → (∀ j, j ≠ n → ce1 j = ce j) → zz_W G A ad ce1 sz H1 → va_S A H0 H1 locs1 → W p l e R s m args below meth c H1 locs1 cells slots Q (F0 m (pc + 1) ls rest)) : W p l e R s m args below meth c H locs cells slots Q (F0 m pc ls (.int x :: .int i :: .ref (ad n) :: rest)) := by
  subst hi
  refine z_iast F hw hS hn (vp_in_nI hk hN) hdg ?_
  rw [nI_clamp (Nat.lt_trans hk hN)]
  exact kk
theorem z_zld (F : zz_F p s m args meth c cc y ret nL G) (hw : zz_W G A ad ce sz H) {n N : Nat} {f : Nat → Int32} (hn : ce n = some (.inl (zz_cZ G, N, .inl f))) {i : Int32} (k : Nat) (hi : i = nI k) (hk : k < N) (hN : N < 2 ^ 31) (hdg : decode cc pc = .ok (.baload, 1))
    (kk : W p l e R s m args below meth c H locs cells slots Q (F0 m (pc + 1) ls (.int (f k) :: rest))) : W p l e R s m args below meth c H locs cells slots Q (F0 m pc ls (.int i :: .ref (ad n) :: rest)) := by
  obtain ⟨hx, hb, hr, hml, hown, hts, hlocks, hK, -⟩ := F
  subst hi
  refine va_zald hx hb hK.1 (hw.one hn) 0 1 rfl rfl (vp_in_nI hk hN) hdg ?_
  rw [nI_clamp (Nat.lt_trans hk hN)]
  exact kk
theorem z_zst (F : zz_F p s m args meth c cc y ret nL G) (hw : zz_W G A ad ce sz H) (hS : va_S A H0 H locs) {n N : Nat} {f : Nat → Int32} (hn : ce n = some (.inl (zz_cZ G, N, .inl f))) {i x : Int32} (k : Nat) (hi : i = nI k) (hk : k < N) (hN : N < 2 ^ 31) (hx1 : vp_nar .boolean x = x) (hdg : decode cc pc = .ok (.bastore, 1))
    (kk : ∀ (ce1 : zz_C) (H1 : Heap) (locs1 : List Loc), ce1 n = some (.inl (zz_cZ G, N, .inl (upd f k x))) → (∀ j, j ≠ n → ce1 j = ce j) → zz_W G A ad ce1 sz H1 → va_S A H0 H1 locs1 → W p l e R s m args below meth c H1 locs1 cells slots Q (F0 m (pc + 1) ls rest)) : W p l e R s m args below meth c H locs cells slots Q (F0 m pc ls (.int x :: .int i :: .ref (ad n) :: rest)) := by
  obtain ⟨hx, hb, hr, hml, hown, hts, hlocks, hK, -⟩ := F
  subst hi
  have hin := vp_in_nI hk hN
  have hcl := nI_clamp (Nat.lt_trans hk hN)
  refine W.zast hx hb (hw.2.1 n _ hn) ((hK.1.2 1 (zz_cZ G, .boolean) rfl).1 N (fun j => .int (f j))) (fun q => by cases q) (by show ¬ (nI k < 0 ∨ (arrV _ _ _).slots.size ≤ _); rw [arrV_size]; exact hin) rfl rfl hdg fun H1 e1 z oq => ?_
  have he : va_at G.1 classes (ad n, .inl (zz_cZ G, N, .inl (upd f k x))) H1 := by
    show H1[ad n]? = some (vp_cell _ _)
    rw [e1]
    show some ((vp_cell _ _).setSlot _ _) = _
    rw [vp_cell_i, vp_cell_i, arrV_store, hcl]
    congr 2
    funext q
    by_cases hq : q = k
    · subst hq
      simp only [updV, upd, if_true]
      have h9 : narrow .boolean (.int x) = .int x := by
        have := hx1
        simp only [vp_nar] at this
        revert this
        simp [narrow]
      simpa using h9
    · simp [updV, upd, hq]
  obtain ⟨ce1, g1, g2, g3⟩ := hw.put hn he z oq
  exact kk ce1 H1 _ g1 g2 g3 (hS.put z oq (hw.2.2.2 n _ hn))
/-- a loop: a measure falls, I holds at the head -/
theorem z_loop {α : Type} (μ : α → Nat) (I : α → zz_C → Array Slot → Prop) (a0 : α) (h0 : I a0 ce ls) (hw : zz_W G A ad ce sz H) (hS : va_S A H0 H locs)
    (step : ∀ (a : α), (∀ (b : α) (ce1 : zz_C) (H1 : Heap) (locs1 : List Loc) (ls1 : Array Slot), μ b < μ a → I b ce1 ls1 → zz_W G A ad ce1 sz H1 → va_S A H0 H1 locs1 → W p l e R s m args below meth c H1 locs1 cells slots Q (F0 m pc ls1 st0)) →
      ∀ (ce1 : zz_C) (H1 : Heap) (locs1 : List Loc) (ls1 : Array Slot), I a ce1 ls1 → zz_W G A ad ce1 sz H1 → va_S A H0 H1 locs1 → W p l e R s m args below meth c H1 locs1 cells slots Q (F0 m pc ls1 st0)) : W p l e R s m args below meth c H locs cells slots Q (F0 m pc ls st0) := by
  have key : ∀ (n : Nat) (a : α), μ a < n → ∀ (ce1 : zz_C) (H1 : Heap) (locs1 : List Loc) (ls1 : Array Slot), I a ce1 ls1 → zz_W G A ad ce1 sz H1 → va_S A H0 H1 locs1 → W p l e R s m args below meth c H1 locs1 cells slots Q (F0 m pc ls1 st0) := by
    intro n
    induction n with
    | zero => intro a h; exact absurd h (Nat.not_lt_zero _)
    | succ n ih =>
      intro a ha ce1 H1 locs1 ls1 hI hw1 hS1
      exact step a (fun b ce2 H2 locs2 ls2 hb => ih b (by omega) ce2 H2 locs2 ls2) ce1 H1 locs1 ls1 hI hw1 hS1
  exact key (μ a0 + 1) a0 (Nat.lt_succ_self _) ce H locs ls h0 hw hS
end ZZ3
