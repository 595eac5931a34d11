section ZZ8
variable {p : Program} {l : Launch} {e : Env} {R : Room} {s : State} {m : MethodId} {args : Array Value} {below : List Frame} {meth : Method} {c : Code} {H : Heap} {locs : List Loc} {cells slots : Nat} {Q : State → Prop}
variable {cc : ByteArray} {y : MethodName} {ret : Option FieldType} {nL pc : Nat} {ls : Array Slot} {rest : List Value} {G : zz_G} {A : Nat → Prop} {H0 : Heap} {ad : Nat → Nat} {ce : zz_C} {sz : Nat}
theorem z_newF {C : String} {T : u_T} {N ci index : Nat} {ty0 : Nat → FieldType} (F : zz_F p s m args meth c cc y ret nL G) (hw : zz_W G A ad ce sz H) (hA : ∀ q, H0.size ≤ q → A q) (hS : va_S A H0 H locs) (n : Nat) (hn : ce n = none) (had : ad n = sz) {fs : List Value} (hc : classes[ci]? = some (C, T, N)) (hin : ∀ w ∈ u_ws C T N, w ∈ zz_T) (hp : ∀ j, j < N → parseFieldDescriptor (T j).2.2.1 = some (ty0 j)) (hl : Cond.classLink y.cls index C ∈ zz_T) (hi : Cond.instantiable C N ∈ zz_T) (hini : Cond.initialized C ∈ zz_T) (hfs : ∀ j, j < N → defaultValue (ty0 j) = vp_V fs j) (hcells : cells + 1 ≤ R.cells) (hslots : slots + N ≤ R.slots) (hdg : decode cc pc = .ok (.new index, 3))
    (kk : ∀ (ce1 : zz_C) (H1 : Heap), ce1 n = some (.inr (ci, fs)) → (∀ j, j ≠ n → ce1 j = ce j) → zz_W G A ad ce1 (sz + 1) H1 → va_S A H0 H1 locs → W p l e R s m args below meth c H1 locs (cells + 1) (slots + N) Q (F0 m (pc + 3) ls (.ref (ad n) :: rest))) : W p l e R s m args below meth c H locs cells slots Q (F0 m pc ls rest) :=
  z_new F hw hA hS n hn hc hin hp hl hi hini hfs hcells hslots hdg (fun ad1 ce1 H1 g1 g2 g3 g4 g5 g6 => by
    have e9 := zz_adF g1 g2 had
    subst e9
    rw [← had]
    exact kk ce1 H1 g3 g4 g5 g6)
theorem z_newqF {x : Int32} {N index : Nat} (F : zz_F p s m args meth c cc y ret nL G) (hw : zz_W G A ad ce sz H) (hA : ∀ q, H0.size ≤ q → A q) (hS : va_S A H0 H locs) (n : Nat) (hn : ce n = none) (had : ad n = sz) (hcl : Cond.classLink y.cls index RX0 ∈ zz_T) (hx0 : ¬ x < 0) (hN : x.toNatClampNeg = N) (hb4 : N * 4 ≤ 536870912) (hcells : cells + 1 ≤ R.cells) (hslots : slots + N ≤ R.slots) (hdg : decode cc pc = .ok (.anewarray index, 3))
    (kk : ∀ (ce1 : zz_C) (H1 : Heap), ce1 n = some (.inl (zz_cM G, N, .inr (.inr (.inr (.inr (fun _ => none)))))) → (∀ j, j ≠ n → ce1 j = ce j) → zz_W G A ad ce1 (sz + 1) H1 → va_S A H0 H1 locs → W p l e R s m args below meth c H1 locs (cells + 1) (slots + N) Q (F0 m (pc + 3) ls (.ref (ad n) :: rest))) : W p l e R s m args below meth c H locs cells slots Q (F0 m pc ls (.int x :: rest)) :=
  z_newq F hw hA hS n hn hcl hx0 hN hb4 hcells hslots hdg (fun ad1 ce1 H1 g1 g2 g3 g4 g5 g6 => by
    have e9 := zz_adF g1 g2 had
    subst e9
    rw [← had]
    exact kk ce1 H1 g3 g4 g5 g6)
/-- a message into its slot -/
theorem z_ast (F : zz_F p s m args meth c cc y ret nL G) (hw : zz_W G A ad ce sz H) (hS : va_S A H0 H locs) {n N nv : Nat} {f : Nat → Option Nat} (hn : ce n = some (.inl (zz_cM G, N, .inr (.inr (.inr (.inr f)))))) {vs : List Value} (hv : ce nv = some (.inr (0, vs))) {i : Int32} (k : Nat) (hi : i = nI k) (hk : k < N) (hN : N < 2 ^ 31) (hdg : decode cc pc = .ok (.aastore, 1))
    (kk : ∀ (ce1 : zz_C) (H1 : Heap) (locs1 : List Loc), ce1 n = some (.inl (zz_cM G, N, .inr (.inr (.inr (.inr (va_up f k (some (ad nv)))))))) → (∀ j, j ≠ n → ce1 j = ce j) → zz_W G A ad ce1 sz H1 → va_S A H0 H1 locs1 → W p l e R s m args below meth c H1 locs1 cells slots Q (F0 m (pc + 1) ls rest)) : W p l e R s m args below meth c H locs cells slots Q (F0 m pc ls (.ref (ad nv) :: .int i :: .ref (ad n) :: rest)) := by
  obtain ⟨hx, hb, hr, hml, hown, hts, hlocks, hK, -⟩ := F
  subst hi
  have hin := vp_in_nI hk hN
  have hcl := nI_clamp (Nat.lt_trans hk hN)
  have h0 : ¬ nI k < 0 := fun q => hin (Or.inl q)
  obtain ⟨r', hr', cellV, g1, g2, g3, -⟩ := hw.2.1 nv _ hv
  have hcls := (hK.1.1 0 _ (show classes[0]? = some (RX0, TX0, 2) from rfl)).2
  obtain ⟨kA, comp, k1, k2, k3, -⟩ := (hK.1.2 2 (zz_cM G, .object RX0) rfl).2
  have hcomp : comp = G.1.1 0 := Option.some.inj (k3.symm.trans hcls.1)
  subst hcomp
  obtain ⟨kC, hkC, -⟩ := hcls.2
  refine W.aast hx hb (hw.2.1 n _ hn) (fun q h => by cases h) (fun h => by cases h) k1 k2 rfl hkC ⟨h0, by show _ < (arrV _ _ _).slots.size; rw [arrV_size, hcl]; exact hk⟩ g1 (fun q h => by rw [g3] at h; cases h) (by rw [g2]; exact hkC) (by rw [g2]; exact va_assign hcls) rfl rfl hdg fun H1 e1 z oq => ?_
  have he : va_at G.1 classes (ad n, .inl (zz_cM G, N, .inr (.inr (.inr (.inr (va_up f k (some (ad nv)))))))) H1 := by
    show H1[ad n]? = some (vp_cell _ _)
    rw [e1, hcl]
    rw [vp_cell_q, vp_cell_q, arrV_store]
    congr 2
    funext q
    by_cases hq : q = k
    · subst hq
      simp [updV, va_up, va_rf]
    · simp [updV, va_up, hq]
  obtain ⟨ce1, g1', g2', g3'⟩ := hw.put hn he z oq
  exact kk ce1 H1 _ g1' g2' g3' (hS.put z oq (hw.2.2.2 n _ hn))
end ZZ8
