theorem zz_W.adr {G : zz_G} {A : Nat → Prop} {ad ad1 : Nat → Nat} {ce : zz_C} {sz : Nat} {H : Heap} (h : zz_W G A ad ce sz H) (he : ∀ (n : Nat) (x : va_E), ce n = some x → ad1 n = ad n) : zz_W G A ad1 ce sz H :=
  ⟨h.1, fun n x hn => by rw [he n x hn]; exact h.2.1 n x hn, fun i j x y hi hj hij => h.2.2.1 i j x y hi hj (by rw [← he i x hi, ← he j y hj]; exact hij), fun n x hn => by rw [he n x hn]; exact h.2.2.2 n x hn⟩
theorem zz_adF {ad ad1 : Nat → Nat} {n sz : Nat} (h1 : ad1 n = sz) (h2 : ∀ j, j ≠ n → ad1 j = ad j) (had : ad n = sz) : ad1 = ad := funext (fun j => if h : j = n then (by rw [h, h1, had]) else h2 j h)
section ZZ5
variable {p : Program} {l : Launch} {e : Env} {R : Room} {s : State} {m : MethodId} {args : Array Value} {below : List Frame} {meth : Method} {c : Code} {H : Heap} {locs : List Loc} {cells slots : Nat} {Q : State → Prop}
variable {cc : ByteArray} {y : MethodName} {ret : Option FieldType} {nL pc : Nat} {ls : Array Slot} {rest : List Value} {G : zz_G} {A : Nat → Prop} {H0 : Heap} {ad : Nat → Nat} {ce : zz_C} {sz : Nat}
/-- the same, where the name's address is already the next one -/
theorem z_newiF {x : Int32} {N : Nat} (F : zz_F p s m args meth c cc y ret nL G) (hw : zz_W G A ad ce sz H) (hA : ∀ q, H0.size ≤ q → A q) (hS : va_S A H0 H locs) (n : Nat) (hn : ce n = none) (had : ad n = sz) (har : Cond.arrayClass .int ∈ zz_T) (hx0 : ¬ x < 0) (hN : x.toNatClampNeg = N) (hb4 : N * 4 ≤ 536870912) (hcells : cells + 1 ≤ R.cells) (hslots : slots + N ≤ R.slots) (hdg : decode cc pc = .ok (.newarray .int, 2))
    (kk : ∀ (ce1 : zz_C) (H1 : Heap), ce1 n = some (.inl (zz_cI G, N, .inl (fun _ => 0))) → (∀ j, j ≠ n → ce1 j = ce j) → zz_W G A ad ce1 (sz + 1) H1 → va_S A H0 H1 locs → W p l e R s m args below meth c H1 locs (cells + 1) (slots + N) Q (F0 m (pc + 2) ls (.ref (ad n) :: rest))) : W p l e R s m args below meth c H locs cells slots Q (F0 m pc ls (.int x :: rest)) :=
  z_newi F hw hA hS n hn har hx0 hN hb4 hcells hslots hdg (fun ad1 ce1 H1 g1 g2 g3 g4 g5 g6 => by
    have e9 := zz_adF g1 g2 had
    subst e9
    rw [← had]
    exact kk ce1 H1 g3 g4 g5 g6)
theorem z_newzF {x : Int32} {N : Nat} (F : zz_F p s m args meth c cc y ret nL G) (hw : zz_W G A ad ce sz H) (hA : ∀ q, H0.size ≤ q → A q) (hS : va_S A H0 H locs) (n : Nat) (hn : ce n = none) (had : ad n = sz) (har : Cond.arrayClass .boolean ∈ zz_T) (hx0 : ¬ x < 0) (hN : x.toNatClampNeg = N) (hb4 : N * 1 ≤ 536870912) (hcells : cells + 1 ≤ R.cells) (hslots : slots + N ≤ R.slots) (hdg : decode cc pc = .ok (.newarray .boolean, 2))
    (kk : ∀ (ce1 : zz_C) (H1 : Heap), ce1 n = some (.inl (zz_cZ G, N, .inl (fun _ => 0))) → (∀ j, j ≠ n → ce1 j = ce j) → zz_W G A ad ce1 (sz + 1) H1 → va_S A H0 H1 locs → W p l e R s m args below meth c H1 locs (cells + 1) (slots + N) Q (F0 m (pc + 2) ls (.ref (ad n) :: rest))) : W p l e R s m args below meth c H locs cells slots Q (F0 m pc ls (.int x :: rest)) :=
  z_newz F hw hA hS n hn har hx0 hN hb4 hcells hslots hdg (fun ad1 ce1 H1 g1 g2 g3 g4 g5 g6 => by
    have e9 := zz_adF g1 g2 had
    subst e9
    rw [← had]
    exact kk ce1 H1 g3 g4 g5 g6)
end ZZ5
