section ZZ4
variable {p : Program} {l : Launch} {e : Env} {R : Room} {s : State} {m : MethodId} {args : Array Value} {below : List Frame} {meth : Method} {c : Code} {H : Heap} {locs : List Loc} {cells slots : Nat} {Q : State → Prop}
variable {cc : ByteArray} {y : MethodName} {ret : Option FieldType} {nL pc : Nat} {ls : Array Slot} {rest : List Value} {G : zz_G} {A : Nat → Prop} {H0 : Heap} {ad : Nat → Nat} {ce : zz_C} {sz : Nat}
theorem zz_S.born {H1 : Heap} (hS : va_S A H0 H locs) (z : H1.size = H.size + 1) (o1 : ∀ q, q < H.size → H1[q]? = H[q]?) : va_S A H0 H1 locs := ⟨Nat.le_trans hS.1 (by omega), fun x h1 h2 => (o1 x (Nat.lt_of_lt_of_le h1 hS.1)).trans (hS.2.1 x h1 h2), hS.2.2⟩
/-- a new object under the free name n -/
theorem z_new {C : String} {T : u_T} {N ci index : Nat} {ty0 : Nat → FieldType} (F : zz_F p s m args meth c cc y ret nL G) (hw : zz_W G A ad ce sz H) (hA : ∀ q, H0.size ≤ q → A q) (hS : va_S A H0 H locs) (n : Nat) (hn : ce n = none) {fs : List Value} (hc : classes[ci]? = some (C, T, N)) (hin : ∀ w ∈ u_ws C T N, w ∈ zz_T) (hp : ∀ j, j < N → parseFieldDescriptor (T j).2.2.1 = some (ty0 j)) (hl : Cond.classLink y.cls index C ∈ zz_T) (hi : Cond.instantiable C N ∈ zz_T) (hini : Cond.initialized C ∈ zz_T) (hfs : ∀ j, j < N → defaultValue (ty0 j) = vp_V fs j) (hcells : cells + 1 ≤ R.cells) (hslots : slots + N ≤ R.slots) (hdg : decode cc pc = .ok (.new index, 3))
    (kk : ∀ (ad1 : Nat → Nat) (ce1 : zz_C) (H1 : Heap), ad1 n = sz → (∀ j, j ≠ n → ad1 j = ad j) → ce1 n = some (.inr (ci, fs)) → (∀ j, j ≠ n → ce1 j = ce j) → zz_W G A ad1 ce1 (sz + 1) H1 → va_S A H0 H1 locs → W p l e R s m args below meth c H1 locs (cells + 1) (slots + N) Q (F0 m (pc + 3) ls (.ref sz :: rest))) : W p l e R s m args below meth c H locs cells slots Q (F0 m pc ls rest) := by
  obtain ⟨hx, hb, hr, hml, hown, hts, hlocks, hK, -⟩ := F
  have hKn := hK.1.1 ci _ hc
  refine W.newcK hx hb hown (hts _ hl) (hts _ hi) (hts _ hini) rfl hdg hcells hslots hKn.2.1 hw.1 fun H1 kC hkC e1 z1 o1 => ?_
  have hat : va_at G.1 classes (sz, .inr (ci, fs)) H1 := ⟨_, hc, (u_born ty0 hts hin hKn hkC e1 hp).to hfs⟩
  obtain ⟨ad1, ce1, g1, g2, g3, g4, g5⟩ := hw.born hn hat z1 o1 (hA _ (by rw [← hw.1]; exact hS.1))
  exact kk ad1 ce1 H1 g1 g2 g3 g4 g5 (zz_S.born hS (by rw [hw.1]; exact z1) (by rw [hw.1]; exact o1))
/-- a new int array of N under the free name n -/
theorem z_newi {x : Int32} {N : Nat} (F : zz_F p s m args meth c cc y ret nL G) (hw : zz_W G A ad ce sz H) (hA : ∀ q, H0.size ≤ q → A q) (hS : va_S A H0 H locs) (n : Nat) (hn : ce n = none) (har : Cond.arrayClass .int ∈ zz_T) (hx0 : ¬ x < 0) (hN : x.toNatClampNeg = N) (hb4 : N * 4 ≤ 536870912) (hcells : cells + 1 ≤ R.cells) (hslots : slots + N ≤ R.slots) (hdg : decode cc pc = .ok (.newarray .int, 2))
    (kk : ∀ (ad1 : Nat → Nat) (ce1 : zz_C) (H1 : Heap), ad1 n = sz → (∀ j, j ≠ n → ad1 j = ad j) → ce1 n = some (.inl (zz_cI G, N, .inl (fun _ => 0))) → (∀ j, j ≠ n → ce1 j = ce j) → zz_W G A ad1 ce1 (sz + 1) H1 → va_S A H0 H1 locs → W p l e R s m args below meth c H1 locs (cells + 1) (slots + N) Q (F0 m (pc + 2) ls (.ref sz :: rest))) : W p l e R s m args below meth c H locs cells slots Q (F0 m pc ls (.int x :: rest)) := by
  obtain ⟨hx, hb, hr, hml, hown, hts, hlocks, hK, -⟩ := F
  refine va_newaK (atype := .int) hx hb (hts _ har) rfl hdg rfl hx0 hN hb4 hcells hslots hw.1 fun H1 cA e1 z1 o1 hAr hNm => ?_
  have hcA : cA = zz_cI G := Option.some.inj (hNm.symm.trans (hK.1.2 0 (zz_cI G, .int) rfl).2)
  subst hcA
  have hat : va_at G.1 classes (sz, .inl (zz_cI G, N, .inl (fun _ => 0))) H1 := by
    show H1[sz]? = some (vp_cell _ _)
    rw [vp_cell_i]
    exact e1
  obtain ⟨ad1, ce1, g1, g2, g3, g4, g5⟩ := hw.born hn hat z1 o1 (hA _ (by rw [← hw.1]; exact hS.1))
  exact kk ad1 ce1 H1 g1 g2 g3 g4 g5 (zz_S.born hS (by rw [hw.1]; exact z1) (by rw [hw.1]; exact o1))
theorem z_newz {x : Int32} {N : Nat} (F : zz_F p s m args meth c cc y ret nL G) (hw : zz_W G A ad ce sz H) (hA : ∀ q, H0.size ≤ q → A q) (hS : va_S A H0 H locs) (n : Nat) (hn : ce n = none) (har : Cond.arrayClass .boolean ∈ zz_T) (hx0 : ¬ x < 0) (hN : x.toNatClampNeg = N) (hb4 : N * 1 ≤ 536870912) (hcells : cells + 1 ≤ R.cells) (hslots : slots + N ≤ R.slots) (hdg : decode cc pc = .ok (.newarray .boolean, 2))
    (kk : ∀ (ad1 : Nat → Nat) (ce1 : zz_C) (H1 : Heap), ad1 n = sz → (∀ j, j ≠ n → ad1 j = ad j) → ce1 n = some (.inl (zz_cZ G, N, .inl (fun _ => 0))) → (∀ j, j ≠ n → ce1 j = ce j) → zz_W G A ad1 ce1 (sz + 1) H1 → va_S A H0 H1 locs → W p l e R s m args below meth c H1 locs (cells + 1) (slots + N) Q (F0 m (pc + 2) ls (.ref sz :: rest))) : W p l e R s m args below meth c H locs cells slots Q (F0 m pc ls (.int x :: rest)) := by
  obtain ⟨hx, hb, hr, hml, hown, hts, hlocks, hK, -⟩ := F
  refine va_newaK (atype := .boolean) hx hb (hts _ har) rfl hdg rfl hx0 hN hb4 hcells hslots hw.1 fun H1 cA e1 z1 o1 hAr hNm => ?_
  have hcA : cA = zz_cZ G := Option.some.inj (hNm.symm.trans (hK.1.2 1 (zz_cZ G, .boolean) rfl).2)
  subst hcA
  have hat : va_at G.1 classes (sz, .inl (zz_cZ G, N, .inl (fun _ => 0))) H1 := by
    show H1[sz]? = some (vp_cell _ _)
    rw [vp_cell_i]
    exact e1
  obtain ⟨ad1, ce1, g1, g2, g3, g4, g5⟩ := hw.born hn hat z1 o1 (hA _ (by rw [← hw.1]; exact hS.1))
  exact kk ad1 ce1 H1 g1 g2 g3 g4 g5 (zz_S.born hS (by rw [hw.1]; exact z1) (by rw [hw.1]; exact o1))
/-- a new row of messages -/
theorem z_newq {x : Int32} {N index : Nat} (F : zz_F p s m args meth c cc y ret nL G) (hw : zz_W G A ad ce sz H) (hA : ∀ q, H0.size ≤ q → A q) (hS : va_S A H0 H locs) (n : Nat) (hn : ce n = none) (hcl : Cond.classLink y.cls index RX0 ∈ zz_T) (hx0 : ¬ x < 0) (hN : x.toNatClampNeg = N) (hb4 : N * 4 ≤ 536870912) (hcells : cells + 1 ≤ R.cells) (hslots : slots + N ≤ R.slots) (hdg : decode cc pc = .ok (.anewarray index, 3))
    (kk : ∀ (ad1 : Nat → Nat) (ce1 : zz_C) (H1 : Heap), ad1 n = sz → (∀ j, j ≠ n → ad1 j = ad j) → ce1 n = some (.inl (zz_cM G, N, .inr (.inr (.inr (.inr (fun _ => none)))))) → (∀ j, j ≠ n → ce1 j = ce j) → zz_W G A ad1 ce1 (sz + 1) H1 → va_S A H0 H1 locs → W p l e R s m args below meth c H1 locs (cells + 1) (slots + N) Q (F0 m (pc + 3) ls (.ref sz :: rest))) : W p l e R s m args below meth c H locs cells slots Q (F0 m pc ls (.int x :: rest)) := by
  obtain ⟨hx, hb, hr, hml, hown, hts, hlocks, hK, -⟩ := F
  subst hN
  refine W.anew hx hb hown (hts _ hcl) (va_AO.use (hK.2.2 RX0 (by simp [zz_over]))) rfl hdg rfl hx0 hb4 hcells hslots fun cA kA comp f1 f2 f3 f4 => ?_
  obtain ⟨kB, compB, k1, k2, k3, k4⟩ := (hK.1.2 2 (zz_cM G, .object RX0) rfl).2
  have hcA : cA = zz_cM G := Option.some.inj (f1.symm.trans k4)
  subst hcA
  have hsz := hw.1
  subst hsz
  generalize hH1 : H.push ({ cls := zz_cM G, slots := Array.replicate x.toNatClampNeg .null, vm := .none } : Cell) = H1
  have z1 : H1.size = H.size + 1 := by rw [← hH1, Array.size_push]
  have e1 : H1[H.size]? = some (arrV (zz_cM G) x.toNatClampNeg (fun _ => .null)) := by rw [← hH1, Array.getElem?_push_size, ← arrV_new]
  have o1 : ∀ q : Nat, q < H.size → H1[q]? = H[q]? := fun q hq => by rw [← hH1, Array.getElem?_push, if_neg (Nat.ne_of_lt hq)]
  have hat : va_at G.1 classes (H.size, .inl (zz_cM G, x.toNatClampNeg, .inr (.inr (.inr (.inr (fun _ => none)))))) H1 := by
    show H1[H.size]? = some (vp_cell _ _)
    rw [vp_cell_q]
    exact e1
  obtain ⟨ad1, ce1, g1, g2, g3, g4, g5⟩ := hw.born hn hat z1 o1 (hA _ hS.1)
  exact kk ad1 ce1 H1 g1 g2 g3 g4 g5 (zz_S.born hS z1 o1)
theorem z_ald (F : zz_F p s m args meth c cc y ret nL G) (hw : zz_W G A ad ce sz H) {n N : Nat} {f : Nat → Option Nat} (hn : ce n = some (.inl (zz_cM G, N, .inr (.inr (.inr (.inr f)))))) {i : Int32} (k : Nat) (hi : i = nI k) (hk : k < N) (hN : N < 2 ^ 31) (hdg : decode cc pc = .ok (.aaload, 1))
    (kk : W p l e R s m args below meth c H locs cells slots Q (F0 m (pc + 1) ls (va_rf (f k) :: rest))) : W p l e R s m args below meth c H locs cells slots Q (F0 m pc ls (.int i :: .ref (ad n) :: rest)) := by
  obtain ⟨hx, hb, hr, hml, hown, hts, hlocks, hK, -⟩ := F
  subst hi
  refine va_aldq (C := RX0) hx hb hK.1 (hw.one hn) 0 2 rfl rfl (vp_in_nI hk hN) hdg ?_
  rw [nI_clamp (Nat.lt_trans hk hN)]
  exact kk
end ZZ4
