/-! THE WORLD BY NAMES: cells have names (numbers); ad gives a name's address, ce its content. A contract speaks of every ad and ce with some lookups, and its end gives the new lookups and leaves all other names as they were. -/
abbrev zz_C : Type := Nat → Option va_E
def zz_good (w : Cond) : Bool := (w.onTables && w.keeps) || (match w with | .arrayClass _ => true | _ => false)
def zz_T : List Cond := (zz_sp ++ lw_tbl).filter zz_good
theorem zz_mem {w : Cond} (h : w ∈ lw_tbl) (hg : zz_good w = true) : w ∈ zz_T := List.mem_filter.mpr ⟨List.mem_append_right _ h, hg⟩
theorem zz_memS {w : Cond} (h : w ∈ zz_sp) (hg : zz_good w = true) : w ∈ zz_T := List.mem_filter.mpr ⟨List.mem_append_left _ h, hg⟩
theorem zz_ok {w : Cond} (h : zz_good w = true) : (w.onTables && w.keeps) = true ∨ ∃ ty, w = .arrayClass ty := by
  unfold zz_good at h
  rcases (Bool.or_eq_true _ _).mp h with h | h
  · exact Or.inl h
  · refine Or.inr ?_
    cases w <;> first | exact ⟨_, rfl⟩ | cases h
theorem zz_gT : GoodIn zz_T zz_T := fun _ h => ⟨h, zz_ok (List.mem_filter.mp h).2⟩
theorem zz_gC {w : Cond} {ws : List Cond} (hw : w ∈ zz_T) (h : GoodIn zz_T ws) : GoodIn zz_T (w :: ws) := fun x hx => by
  rcases List.mem_cons.mp hx with rfl | hx
  · exact zz_gT _ hw
  · exact h x hx
/-- what the tables say all along: the classes, the arrays' classes, the words between nest mates -/
def zz_K (G : zz_G) (U : State) : Prop := va_K G.1 classes (zz_tys G) U ∧ (∀ w ∈ zz_nest, va_Nw w U) ∧ ∀ C ∈ zz_over, va_AO C U
theorem zz_K.warm {G : zz_G} {s U : State} (hW : s.WarmedH U.vm) (h : zz_K G s) : zz_K G U := ⟨va_K.moved hW.alike h.1, fun w hw => zz_nest_warm w hw hW (h.2.1 w hw), fun C hC => va_AO.moved hW.alike (h.2.2 C hC)⟩
theorem zz_K.same {G : zz_G} {s U : State} (e : s.vm = U.vm) (h : zz_K G s) : zz_K G U := ⟨va_K.moved (by rw [e]; exact Vm.Alike.refl _) h.1, fun w hw => va_Nw.same (zz_nest_tab w hw) e (h.2.1 w hw), fun C hC => va_AO.moved (by rw [e]; exact Vm.Alike.refl _) (h.2.2 C hC)⟩
def zz_W (G : zz_G) (A : Nat → Prop) (ad : Nat → Nat) (ce : zz_C) (sz : Nat) (H : Heap) : Prop :=
  H.size = sz ∧ (∀ (n : Nat) (x : va_E), ce n = some x → va_at G.1 classes (ad n, x) H) ∧ (∀ (i j : Nat) (x y : va_E), ce i = some x → ce j = some y → ad i = ad j → i = j) ∧ ∀ (n : Nat) (x : va_E), ce n = some x → A (ad n)
def zz_A (ad : Nat → Nat) (ce : zz_C) (sz : Nat) : Nat → Prop := fun q => (∃ (n : Nat) (x : va_E), ce n = some x ∧ ad n = q) ∨ sz ≤ q
theorem zz_W.any {G : zz_G} {A B : Nat → Prop} {ad : Nat → Nat} {ce : zz_C} {sz : Nat} {H : Heap} (h : zz_W G A ad ce sz H) (hB : ∀ q, A q → B q) : zz_W G B ad ce sz H := ⟨h.1, h.2.1, h.2.2.1, fun n x hn => hB _ (h.2.2.2 n x hn)⟩
theorem zz_W.self {G : zz_G} {A : Nat → Prop} {ad : Nat → Nat} {ce : zz_C} {sz : Nat} {H : Heap} (h : zz_W G A ad ce sz H) : zz_W G (zz_A ad ce sz) ad ce sz H := ⟨h.1, h.2.1, h.2.2.1, fun n x hn => Or.inl ⟨n, x, hn, rfl⟩⟩
theorem zz_W.one {G : zz_G} {A : Nat → Prop} {ad : Nat → Nat} {ce : zz_C} {sz : Nat} {H : Heap} (h : zz_W G A ad ce sz H) {n : Nat} {x : va_E} (hn : ce n = some x) : va_P G.1 classes [(ad n, x)] H := by
  intro k q hk
  have hz : k < 1 := (List.getElem?_eq_some_iff.mp hk).1
  rw [show k = 0 by omega] at hk
  cases hk
  exact h.2.1 n x hn
theorem zz_W.set {G : zz_G} {A : Nat → Prop} {ad : Nat → Nat} {ce : zz_C} {sz : Nat} {H H1 : Heap} (h : zz_W G A ad ce sz H) {n : Nat} {e0 e : va_E} (hn : ce n = some e0) (he : va_at G.1 classes (ad n, e) H1) (z : H1.size = H.size) (oq : ∀ q : Nat, q ≠ ad n → H1[q]? = H[q]?) : zz_W G A ad (va_up ce n (some e)) sz H1 := by
  obtain ⟨h1, h2, h3, h4⟩ := h
  have key : ∀ (k : Nat) (x : va_E), va_up ce n (some e) k = some x → ∃ x0, ce k = some x0 := by
    intro k x hk
    by_cases hkn : k = n
    · subst hkn; exact ⟨e0, hn⟩
    · simp only [va_up, if_neg hkn] at hk; exact ⟨x, hk⟩
  refine ⟨z.trans h1, fun k x hk => ?_, fun i j x y hi hj hij => ?_, fun k x hk => ?_⟩
  · by_cases hkn : k = n
    · subst hkn
      simp only [va_up, if_true] at hk
      cases hk
      exact he
    · simp only [va_up, if_neg hkn] at hk
      exact (h2 k x hk).kept (oq _ (fun q => hkn (h3 k n x e0 hk hn q)))
  · obtain ⟨x0, hx⟩ := key i x hi
    obtain ⟨y0, hy⟩ := key j y hj
    exact h3 i j x0 y0 hx hy hij
  · obtain ⟨x0, hx⟩ := key k x hk
    exact h4 k x0 hx
theorem zz_W.put {G : zz_G} {A : Nat → Prop} {ad : Nat → Nat} {ce : zz_C} {sz : Nat} {H H1 : Heap} (h : zz_W G A ad ce sz H) {n : Nat} {e0 e : va_E} (hn : ce n = some e0) (he : va_at G.1 classes (ad n, e) H1) (z : H1.size = H.size) (oq : ∀ q : Nat, q ≠ ad n → H1[q]? = H[q]?) : ∃ ce1 : zz_C, ce1 n = some e ∧ (∀ j, j ≠ n → ce1 j = ce j) ∧ zz_W G A ad ce1 sz H1 := ⟨va_up ce n (some e), by simp [va_up], fun j hj => by simp [va_up, hj], h.set hn he z oq⟩
/-- a new cell under a name that was free -/
theorem zz_W.born {G : zz_G} {A : Nat → Prop} {ad : Nat → Nat} {ce : zz_C} {sz : Nat} {H H1 : Heap} (h : zz_W G A ad ce sz H) {n : Nat} {e : va_E} (hn : ce n = none) (he : va_at G.1 classes (sz, e) H1) (z : H1.size = sz + 1) (oq : ∀ q : Nat, q < sz → H1[q]? = H[q]?) (hA : A sz) : ∃ (ad1 : Nat → Nat) (ce1 : zz_C), ad1 n = sz ∧ (∀ j, j ≠ n → ad1 j = ad j) ∧ ce1 n = some e ∧ (∀ j, j ≠ n → ce1 j = ce j) ∧ zz_W G A ad1 ce1 (sz + 1) H1 := by
  obtain ⟨h1, h2, h3, h4⟩ := h
  have lt : ∀ (k : Nat) (x : va_E), ce k = some x → ad k < sz := fun k x hk => by rw [← h1]; exact (h2 k x hk).lt
  refine ⟨va_up ad n sz, va_up ce n (some e), by simp [va_up], fun j hj => by simp [va_up, hj], by simp [va_up], fun j hj => by simp [va_up, hj], z, fun k x hk => ?_, fun i j x y hi hj hij => ?_, fun k x hk => ?_⟩
  · by_cases hkn : k = n
    · subst hkn
      simp only [va_up, if_true] at hk ⊢
      cases hk
      exact he
    · simp only [va_up, if_neg hkn] at hk ⊢
      exact (h2 k x hk).kept (oq _ (lt k x hk))
  · by_cases hi' : i = n <;> by_cases hj' : j = n
    · rw [hi', hj']
    · simp only [va_up, if_pos hi', if_neg hj'] at hij hj
      have := lt j y hj
      omega
    · simp only [va_up, if_neg hi', if_pos hj'] at hij hi
      have := lt i x hi
      omega
    · simp only [va_up, if_neg hi', if_neg hj'] at hij hi hj
      exact h3 i j x y hi hj hij
  · by_cases hkn : k = n
    · simp only [va_up, if_pos hkn]; exact hA
    · simp only [va_up, if_neg hkn] at hk ⊢
      exact h4 k x hk
def zz_R (d lc mc ms : Nat) : Room := { frames := d, cells := mc, slots := ms, locals := lc }
def zz_Pre (G : zz_G) (ad : Nat → Nat) (ce : zz_C) (sz : Nat) : State → Prop := fun U => zz_K G U ∧ zz_W G (fun _ => True) ad ce sz U.heap
def zz_Q (G : zz_G) (ad : Nat → Nat) (ce : zz_C) (sz mc : Nat) (Po : Option Value → (Nat → Nat) → zz_C → Prop) : Array Value → State → Outcome → State → Prop := fun _ st oc t => (∃ (r : Option Value) (ad1 : Nat → Nat) (ce1 : zz_C), oc = .returned r ∧ Po r ad1 ce1 ∧ zz_W G (zz_A ad ce sz) ad1 ce1 (sz + mc) t.heap) ∧ va_F (zz_A ad ce sz) st t
/-- THE CONTRACT of method y at height d (calls below it), with mc cells of ms slots made: from the world (ad, ce) it ends with Po -/
def zz_M (l : Launch) (y : MethodName) (cc : ByteArray) (maxL : Nat) (ret : Option FieldType) (d lc mc ms : Nat) (G : zz_G) (av : List Value) (ad : Nat → Nat) (ce : zz_C) (sz : Nat) (Po : Option Value → (Nat → Nat) → zz_C → Prop) : Prop :=
  Met l y (Cond.code y cc maxL ret :: zz_T) (zz_R d lc mc ms) (va_Pc av (zz_Pre G ad ce sz)) (zz_Q G ad ce sz mc Po) mc ms (zz_A ad ce sz)
theorem zz_blind {G : zz_G} {av : List Value} {ad : Nat → Nat} {ce : zz_C} {sz : Nat} : FrameBlind (va_Pc av (zz_Pre G ad ce sz)) := fun a U g mk q => ⟨q.1, zz_K.same (s := U) (U := U.calling g mk a) rfl q.2.1, q.2.2⟩
def zz_F (p : Program) (s : State) (m : MethodId) (args : Array Value) (meth : Method) (c : Code) (cc : ByteArray) (y : MethodName) (ret : Option FieldType) (nL : Nat) (G : zz_G) : Prop :=
  p.tables.exec = Jvm.exec ∧ c.code = cc ∧ meth.sig.returnType = ret ∧ c.maxLocals = nL ∧ s.vm.findClass y.cls = some m.cls ∧ (∀ w ∈ zz_T, w.before args s = true) ∧ meth.locks = false ∧ zz_K G s ∧ meth.name = y.name
theorem zz_enter {l : Launch} {y : MethodName} {cc : ByteArray} {maxL : Nat} {ret : Option FieldType} {d lc mc ms : Nat} {G : zz_G} {av : List Value} {ad : Nat → Nat} {ce : zz_C} {sz : Nat} {Po : Option Value → (Nat → Nat) → zz_C → Prop}
    (hy : plainName y.cls = true) (hn : (lg_sl av).length ≤ maxL)
    (body : ∀ (p : Program) (e : Env) (s : State) (m : MethodId) (below : List Frame) (meth : Method) (c : Code) (ls : Array Slot), zz_F p s m av.toArray meth c cc y ret maxL G → lv_has ls maxL (lv_args 0 av) → zz_W G (zz_A ad ce sz) ad ce sz s.heap → va_S (zz_A ad ce sz) s.heap s.heap [] → (∀ q, s.heap.size ≤ q → zz_A ad ce sz q) →
      W p l e (zz_R d lc mc ms) s m av.toArray below meth c s.heap [] 0 0 (MQ below (zz_Q G ad ce sz mc Po) av.toArray s mc ms (zz_A ad ce sz)) (F0 m 0 ls [])) : zz_M l y cc maxL ret d lc mc ms G av ad ce sz Po := by
  refine Met.ofW (cc := cc) (maxL := maxL) (ret := ret) hy rfl ?_
  intro p e s m args below meth c s₁ B hml hv
  obtain ⟨rfl, hK, hW⟩ := hv
  have hts := atoms_spec (ws := Cond.code y cc maxL ret :: zz_T) B.pre
  have hl := lv_entry av (n := maxL) hn
  rw [lg_entry_eq]
  generalize (lg_sl av ++ List.replicate (maxL - (lg_sl av).length) Slot.unset).toArray = ls at hl ⊢
  exact body p e s m below meth c ls ⟨B.exec, B.bytes, B.returns, hml, findClass_of_methodNamed B.named, fun w hw => hts w (List.mem_cons_of_mem _ hw), B.notSynchronized, hK, (name_of_methodNamed B.named B.method).1⟩ hl hW.self va_S.rf (fun q hq => Or.inr (by rw [← hW.1]; exact hq))
section ZZ1
variable {p : Program} {l : Launch} {e : Env} {R : Room} {s : State} {m : MethodId} {args : Array Value} {below : List Frame} {meth : Method} {c : Code} {H : Heap} {locs : List Loc} {cells slots : Nat} {Q : State → Prop}
variable {cc : ByteArray} {y : MethodName} {ret : Option FieldType} {nL pc : Nat} {ls : Array Slot} {rest : List Value} {G : zz_G} {A : Nat → Prop} {H0 : Heap} {ad : Nat → Nat} {ce : zz_C} {sz : Nat}
/-- a field's words: own class of the method, pool index, class number, place -/
def zz_fd (own : String) (index ci k : Nat) (C : String) (T : u_T) (N : Nat) (ref : String) : Prop :=
  classes[ci]? = some (C, T, N) ∧ k < N ∧ (∀ w ∈ u_ws C T N, w ∈ zz_T) ∧ Cond.fieldLink own index ref (T k).2.1 (T k).2.2.1 ∈ zz_T ∧ (ref = (T k).1 ∨ Cond.sameField ref (T k).1 (T k).2.1 (T k).2.2.1 ∈ zz_T)
theorem zz_same {own C ref : String} {T : u_T} {N index ci k : Nat} (hts : ∀ w ∈ zz_T, w.before args s = true) (hf : zz_fd own index ci k C T N ref) : ∀ x, s.fieldFound? (T k).1 (T k).2.1 (T k).2.2.1 = some x → s.fieldFound? ref (T k).2.1 (T k).2.2.1 = some x := by
  intro x hx
  rcases hf.2.2.2.2 with h | h
  · rw [h]; exact hx
  · exact u_same (hts _ h) x hx
theorem z_get {C ref : String} {T : u_T} {N ci index k : Nat} (F : zz_F p s m args meth c cc y ret nL G) (hw : zz_W G A ad ce sz H) {n : Nat} {fs : List Value} (hn : ce n = some (.inr (ci, fs))) (hf : zz_fd y.cls index ci k C T N ref) {v : Value} (hv : fs[k]? = some v) (hdg : decode cc pc = .ok (.getfield index, 3))
    (kk : W p l e R s m args below meth c H locs cells slots Q (F0 m (pc + 3) ls (v :: rest))) : W p l e R s m args below meth c H locs cells slots Q (F0 m pc ls (.ref (ad n) :: rest)) := by
  obtain ⟨hx, hb, hr, hml, hown, hts, hlocks, hK, -⟩ := F
  exact va_get hx hb hts hf.2.2.1 hown hK.1 (hw.one hn) 0 rfl hf.1 k hf.2.1 (hts _ hf.2.2.2.1) (zz_same hts hf) hv hdg kk
/-- .. and what a store asks beside: the types, the names apart, that it isn't final -/
def zz_pt (k : Nat) (T : u_T) (N : Nat) (ty0 : Nat → FieldType) : Prop :=
  (∀ j, j < N → parseFieldDescriptor (T j).2.2.1 = some (ty0 j)) ∧ (∀ a, a < N → ∀ b, b < N → a ≠ b → (T a).2.1 ≠ (T b).2.1)
theorem z_put {C ref : String} {T : u_T} {N ci index k : Nat} {ty0 : Nat → FieldType} (F : zz_F p s m args meth c cc y ret nL G) (hw : zz_W G A ad ce sz H) (hS : va_S A H0 H locs) {n : Nat} {fs fs' : List Value} (hn : ce n = some (.inr (ci, fs))) (hf : zz_fd y.cls index ci k C T N ref) (hp : zz_pt k T N ty0) (hfin : (T k).2.2.2 = false) {v : Value} (hnr : narrow (ty0 k) v = v) (hfit : fits (ty0 k) v = true) (hl : k < fs.length) (hfs : fs.set k v = fs') (hdg : decode cc pc = .ok (.putfield index, 3))
    (kk : ∀ (ce1 : zz_C) (H1 : Heap) (locs1 : List Loc), ce1 n = some (.inr (ci, fs')) → (∀ j, j ≠ n → ce1 j = ce j) → zz_W G A ad ce1 sz H1 → va_S A H0 H1 locs1 → W p l e R s m args below meth c H1 locs1 cells slots Q (F0 m (pc + 3) ls rest)) : W p l e R s m args below meth c H locs cells slots Q (F0 m pc ls (v :: .ref (ad n) :: rest)) := by
  obtain ⟨hx, hb, hr, hml, hown, hts, hlocks, hK, -⟩ := F
  subst hfs
  have hap := va_apart (own := y.cls) hts hf.2.2.1 ty0 hp.1 hp.2 hK.1 hf.1
  obtain ⟨r, h1, cell, q1, q2, q3, q4⟩ := hw.2.1 n _ hn
  have hr : r = (C, T, N) := Option.some.inj (h1.symm.trans hf.1)
  subst hr
  have hk := hf.2.1
  obtain ⟨hSl, hfc, kC, hkC, hkind⟩ := hK.1.1 ci _ hf.1
  obtain ⟨cf, kf, fi, f, hi, hsl⟩ := hSl k hk
  have hlay := hts _ (hf.2.2.1 _ (u_in_lay hk))
  unfold u_lay at hlay
  rw [if_neg (by rw [hfin]; decide)] at hlay
  have hst := (u_facts hfc hkC (u_lays hts hf.2.2.1 hk) hi).1
  have h6 := u_store hfc hkC hkind hlay hi (hp.1 k hk) hnr hfit
  refine W.putK hx hb (f := f) ⟨hown, hts _ hf.2.2.2.1, ⟨_, _, _, zz_same hts hf _ hi⟩, hst⟩ (by rw [q2]; exact h6) q1 q3 (by rw [hsl]; exact k2_hasslot (q4 k hk)) rfl rfl hdg fun H' e1 e2 e3 => ?_
  rw [hsl] at e1 ⊢
  have he : va_at G.1 classes (ad n, .inr (ci, fs.set k v)) H' := ⟨_, hf.1, t_OB.to (V := updV (vp_V fs) k v) ⟨_, e1, q2, q3, t_set q4 hap hk v⟩ (fun j _ => vp_updV_set hl v j)⟩
  obtain ⟨ce1, g1, g2, g3⟩ := hw.put hn he e2 e3
  exact kk ce1 H' _ g1 g2 g3 (hS.put e2 e3 (hw.2.2.2 n _ hn))
theorem z_putF {C ref : String} {T : u_T} {N ci index k : Nat} {ty0 : Nat → FieldType} (F : zz_F p s m args meth c cc y ret nL G) (hin2 : y.name = "<init>") (hw : zz_W G A ad ce sz H) (hS : va_S A H0 H locs) {n : Nat} {fs fs' : List Value} (hn : ce n = some (.inr (ci, fs))) (hf : zz_fd y.cls index ci k C T N ref) (hp : zz_pt k T N ty0) (hfin : (T k).2.2.2 = true) (hdecl : (T k).1 = y.cls) {v : Value} (hnr : narrow (ty0 k) v = v) (hfit : fits (ty0 k) v = true) (hl : k < fs.length) (hfs : fs.set k v = fs') (hdg : decode cc pc = .ok (.putfield index, 3))
    (kk : ∀ (ce1 : zz_C) (H1 : Heap) (locs1 : List Loc), ce1 n = some (.inr (ci, fs')) → (∀ j, j ≠ n → ce1 j = ce j) → zz_W G A ad ce1 sz H1 → va_S A H0 H1 locs1 → W p l e R s m args below meth c H1 locs1 cells slots Q (F0 m (pc + 3) ls rest)) : W p l e R s m args below meth c H locs cells slots Q (F0 m pc ls (v :: .ref (ad n) :: rest)) := by
  obtain ⟨hx, hb, hr, hml, hown, hts, hlocks, hK, hnm⟩ := F
  subst hfs
  have hap := va_apart (own := y.cls) hts hf.2.2.1 ty0 hp.1 hp.2 hK.1 hf.1
  obtain ⟨r, h1, cell, q1, q2, q3, q4⟩ := hw.2.1 n _ hn
  have hr : r = (C, T, N) := Option.some.inj (h1.symm.trans hf.1)
  subst hr
  have hk := hf.2.1
  obtain ⟨hSl, hfc, kC, hkC, hkind⟩ := hK.1.1 ci _ hf.1
  obtain ⟨cf, kf, fi, f, hi, hsl⟩ := hSl k hk
  have hlay := hts _ (hf.2.2.1 _ (u_in_lay hk))
  unfold u_lay at hlay
  rw [if_pos hfin] at hlay
  have hst := (u_facts hfc hkC (u_lays hts hf.2.2.1 hk) hi).1
  have hcf : m.cls = cf := by
    obtain ⟨_, _, c', _, _, _, -, -, hf', -, -, -, hown2, -⟩ := Cond.laysFinal_spec hlay
    have e1 : c' = cf := by have := hi.symm.trans hf'; simp at this; exact this.1.symm
    rw [hdecl] at hown2
    rw [← e1]; exact Option.some.inj (hown.symm.trans hown2)
  have h6 := u_fits hfc hkC hkind (Or.inr hlay) hi (hp.1 k hk) hnr hfit
  refine W.putFinK hx hb hown (hts _ hf.2.2.2.1) (zz_same hts hf _ hi) hst hcf (hnm.trans hin2) (by rw [q2]; exact h6) q1 q3 (by rw [hsl]; exact k2_hasslot (q4 k hk)) rfl rfl hdg fun H' e1 e2 e3 => ?_
  rw [hsl] at e1 ⊢
  have he : va_at G.1 classes (ad n, .inr (ci, fs.set k v)) H' := ⟨_, hf.1, t_OB.to (V := updV (vp_V fs) k v) ⟨_, e1, q2, q3, t_set q4 hap hk v⟩ (fun j _ => vp_updV_set hl v j)⟩
  obtain ⟨ce1, g1, g2, g3⟩ := hw.put hn he e2 e3
  exact kk ce1 H' _ g1 g2 g3 (hS.put e2 e3 (hw.2.2.2 n _ hn))
theorem z_iald (F : zz_F p s m args meth c cc y ret nL G) (hw : zz_W G A ad ce sz H) {n N : Nat} {f : Nat → Int32} (hn : ce n = some (.inl (zz_cI G, N, .inl f))) {i : Int32} (hin : vp_in i N) (hdg : decode cc pc = .ok (.iaload, 1))
    (kk : W p l e R s m args below meth c H locs cells slots Q (F0 m (pc + 1) ls (.int (f i.toNatClampNeg) :: rest))) : W p l e R s m args below meth c H locs cells slots Q (F0 m pc ls (.int i :: .ref (ad n) :: rest)) := by
  obtain ⟨hx, hb, hr, hml, hown, hts, hlocks, hK, -⟩ := F
  exact va_iald hx hb hK.1 (hw.one hn) 0 0 rfl rfl hin hdg kk
theorem z_iast (F : zz_F p s m args meth c cc y ret nL G) (hw : zz_W G A ad ce sz H) (hS : va_S A H0 H locs) {n N : Nat} {f : Nat → Int32} (hn : ce n = some (.inl (zz_cI G, N, .inl f))) {i x : Int32} (hin : vp_in i N) (hdg : decode cc pc = .ok (.iastore, 1))
    (kk : ∀ (ce1 : zz_C) (H1 : Heap) (locs1 : List Loc), ce1 n = some (.inl (zz_cI G, N, .inl (upd f i.toNatClampNeg x))) → (∀ j, j ≠ n → ce1 j = ce j) → zz_W G A ad ce1 sz H1 → va_S A H0 H1 locs1 → W p l e R s m args below meth c H1 locs1 cells slots Q (F0 m (pc + 1) ls rest)) : W p l e R s m args below meth c H locs cells slots Q (F0 m pc ls (.int x :: .int i :: .ref (ad n) :: rest)) := by
  obtain ⟨hx, hb, hr, hml, hown, hts, hlocks, hK, -⟩ := F
  refine W.iast hx hb (hw.2.1 n _ hn) ((hK.1.2 0 (zz_cI G, .int) rfl).1 N (fun j => .int (f j))) (fun q => by cases q) (by show ¬ (i < 0 ∨ (arrV _ _ _).slots.size ≤ _); rw [arrV_size]; exact hin) rfl rfl hdg fun H1 e1 z oq => ?_
  have he : va_at G.1 classes (ad n, .inl (zz_cI G, N, .inl (upd f i.toNatClampNeg x))) H1 := by
    show H1[ad n]? = some (vp_cell _ _)
    rw [e1]
    show some ((vp_cell _ _).setSlot _ _) = _
    rw [vp_cell_i, vp_cell_i, arrV_store]
    congr 2
    funext q
    by_cases hq : q = i.toNatClampNeg
    · subst hq
      simp [updV, upd]
    · simp [updV, upd, hq]
  obtain ⟨ce1, g1, g2, g3⟩ := hw.put hn he z oq
  exact kk ce1 H1 _ g1 g2 g3 (hS.put z oq (hw.2.2.2 n _ hn))
theorem z_alen (F : zz_F p s m args meth c cc y ret nL G) (hw : zz_W G A ad ce sz H) {n N : Nat} {f : Nat → Int32} (hn : ce n = some (.inl (zz_cI G, N, .inl f))) {v : Int32} (hv : Int32.ofNat N = v) (hdg : decode cc pc = .ok (.arraylength, 1))
    (kk : W p l e R s m args below meth c H locs cells slots Q (F0 m (pc + 1) ls (.int v :: rest))) : W p l e R s m args below meth c H locs cells slots Q (F0 m pc ls (.ref (ad n) :: rest)) := by
  obtain ⟨hx, hb, hr, hml, hown, hts, hlocks, hK, -⟩ := F
  exact va_alen hx hb hK.1 (hw.one hn) 0 0 rfl (ty := .int) rfl hv hdg kk
/-- a call, whatever its kind: what va_run.. gives, and the world behind it -/
theorem z_call {mc ms : Nat} {st0 : List Value} {a : Array Value} {Po : Option Value → (Nat → Nat) → zz_C → Prop} (hr : va_Run p l e R s m args below meth c H locs cells slots mc ms (F0 m pc ls st0) rest (zz_Q G ad ce sz mc Po a) (zz_A ad ce sz)) (hw : zz_W G A ad ce sz H) (hA : ∀ q, H0.size ≤ q → A q) (hS : va_S A H0 H locs)
    (kk : ∀ (r : Option Value) (ad1 : Nat → Nat) (ce1 : zz_C) (H1 : Heap) (locs1 : List Loc), Po r ad1 ce1 → zz_W G A ad1 ce1 (sz + mc) H1 → va_S A H0 H1 locs1 → W p l e R s m args below meth c H1 locs1 (cells + mc) (slots + ms) Q (F0 m (pc + 3) ls (r.toList ++ rest))) : W p l e R s m args below meth c H locs cells slots Q (F0 m pc ls st0) := by
  have hsub : ∀ q, zz_A ad ce sz q → A q := by
    intro q hq
    rcases hq with ⟨n, x, h1, h2⟩ | h
    · rw [← h2]; exact hw.2.2.2 n x h1
    · exact hA q (Nat.le_trans hS.1 (by rw [hw.1]; exact h))
  intro T hT X
  obtain ⟨v, st₀, t, T', L, h0, X', hL, e1, e2, ⟨⟨r, ad1, ce1, hv, hp, hb⟩, hz, hk⟩, st⟩ := hr T hT X
  cases hv
  rw [h0] at hz hk
  obtain ⟨t2, a1, b1⟩ := kk v ad1 ce1 T'.heap (locs ++ L) hp (by rw [e1]; exact hb.any hsub)
    ⟨Nat.le_trans hS.1 (by rw [e1]; exact hz), fun q h1 h2 => by rw [e1, hk q (Nat.lt_of_lt_of_le h1 hS.1) (fun z => h2 (hsub q z))]; exact hS.2.1 q h1 h2, fun q hq => by
      rcases List.mem_append.mp hq with h | h
      · exact hS.2.2 q h
      · exact hsub _ (hL q h)⟩ T' rfl X'
  exact ⟨t2, st t2 a1, b1⟩
/-- ends -/
theorem z_iret {mc ms : Nat} {ad0 : Nat → Nat} {ce0 : zz_C} {sz0 : Nat} {Po : Option Value → (Nat → Nat) → zz_C → Prop} {ty : FieldType} {v : Int32} (F : zz_F p s m args meth c cc y (some ty) nL G) (hn : narrow ty (.int v) = .int v) (hw : zz_W G (zz_A ad0 ce0 sz0) ad ce (sz0 + mc) H) (hS : va_S (zz_A ad0 ce0 sz0) s.heap H locs) (hp : Po (some (.int v)) ad ce) (hdg : decode cc pc = .ok (.ireturn, 1)) :
    W p l e R s m args below meth c H locs mc ms (MQ below (zz_Q G ad0 ce0 sz0 mc Po) args s mc ms (zz_A ad0 ce0 sz0)) (F0 m pc ls [.int v]) := by
  obtain ⟨hx, hb, hr, hml, hown, hts, hlocks, hK, -⟩ := F
  exact W.zret hx hb hr hn (fun t ht hW => ⟨⟨_, ad, ce, rfl, hp, by rw [ht]; exact hw⟩, hS.F ht⟩) hS.2.2 hdg hlocks
theorem z_vret {mc ms : Nat} {ad0 : Nat → Nat} {ce0 : zz_C} {sz0 : Nat} {Po : Option Value → (Nat → Nat) → zz_C → Prop} (F : zz_F p s m args meth c cc y none nL G) (hw : zz_W G (zz_A ad0 ce0 sz0) ad ce (sz0 + mc) H) (hS : va_S (zz_A ad0 ce0 sz0) s.heap H locs) (hp : Po none ad ce) (hdg : decode cc pc = .ok (.return_, 1)) :
    W p l e R s m args below meth c H locs mc ms (MQ below (zz_Q G ad0 ce0 sz0 mc Po) args s mc ms (zz_A ad0 ce0 sz0)) (F0 m pc ls []) := by
  obtain ⟨hx, hb, hr, hml, hown, hts, hlocks, hK, -⟩ := F
  exact W.vret hx hb hr (fun t ht hW => ⟨⟨_, ad, ce, rfl, hp, by rw [ht]; exact hw⟩, hS.F ht⟩) hS.2.2 hdg hlocks
theorem z_aret {mc ms : Nat} {ad0 : Nat → Nat} {ce0 : zz_C} {sz0 : Nat} {Po : Option Value → (Nat → Nat) → zz_C → Prop} {C : String} {v : Value} (F : zz_F p s m args meth c cc y (some (.object C)) nL G) (hv : v = .null ∨ ∃ a, v = .ref a) (hw : zz_W G (zz_A ad0 ce0 sz0) ad ce (sz0 + mc) H) (hS : va_S (zz_A ad0 ce0 sz0) s.heap H locs) (hp : Po (some v) ad ce) (hdg : decode cc pc = .ok (.areturn, 1)) :
    W p l e R s m args below meth c H locs mc ms (MQ below (zz_Q G ad0 ce0 sz0 mc Po) args s mc ms (zz_A ad0 ce0 sz0)) (F0 m pc ls [v]) := by
  obtain ⟨hx, hb, hr, hml, hown, hts, hlocks, hK, -⟩ := F
  exact W.aret hx hb hr (Or.inl ⟨C, rfl⟩) hv (fun t ht hW => ⟨⟨_, ad, ce, rfl, hp, by rw [ht]; exact hw⟩, hS.F ht⟩) hS.2.2 hdg hlocks
end ZZ1
