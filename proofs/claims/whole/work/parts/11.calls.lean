section ZZ2
variable {p : Program} {l : Launch} {e : Env} {R : Room} {s : State} {m : MethodId} {args : Array Value} {below : List Frame} {meth : Method} {c : Code} {H : Heap} {locs : List Loc} {cells slots : Nat} {Q : State → Prop}
variable {cc : ByteArray} {y : MethodName} {ret : Option FieldType} {nL pc : Nat} {ls : Array Slot} {rest st0 As : List Value} {G : zz_G} {A : Nat → Prop} {H0 : Heap} {ad : Nat → Nat} {ce : zz_C} {sz : Nat}
variable {own C : String} {T : u_T} {N ci index : Nat} {x z : MethodName} {bx : ByteArray} {mL : Nat} {rt : Option FieldType} {d lc mc ms n : Nat} {Po : Option Value → (Nat → Nat) → zz_C → Prop} {lv : List (Nat × Value)}
abbrev zz_nh (o : String) : Prop := o ≠ "java/lang/invoke/MethodHandle" ∧ o ≠ "java/lang/invoke/VarHandle"
abbrev zz_pn (x : MethodName) (n : Nat) : Prop := (parseMethodDescriptor x.desc).map (fun d => d.parameters.length) = some n
theorem zz_len (h : zz_pn x n) : ∀ sig, parseMethodDescriptor x.desc = some sig → n = sig.parameters.length := fun sig hs => by
  have h2 := h
  rw [zz_pn, hs] at h2
  exact (Option.some.inj h2).symm
theorem zz_pre (hK : zz_K G s) (hw : zz_W G A ad ce sz H) {av : List Value} : ∀ U : State, U.heap = H → s.WarmedH U.vm → va_Pc av (zz_Pre G ad ce sz) av.toArray U := fun U hU hW => ⟨rfl, hK.warm hW, by rw [hU]; exact hw.any (fun _ _ => trivial)⟩
theorem zz_recv (hK : zz_K G s) (hw : zz_W G A ad ce sz H) {q : Nat} {fs : List Value} (hq : ce q = some (.inr (ci, fs))) (hc : classes[ci]? = some (C, T, N)) : ∃ cell : Cell, H[ad q]? = some cell ∧ cell.vm.isStatics = false ∧ s.vm.findClass C = some cell.cls := va_recv hK.1 (hw.one hq) hc (q0 := 0) rfl
/-- a method of its own class's name, on a receiver of that class -/
def zz_yv (own : String) (index : Nat) (x : MethodName) (bx : ByteArray) (mL : Nat) (rt : Option FieldType) (n : Nat) : Prop :=
  Cond.methodLink own index x ∈ zz_T ∧ Cond.instanceMethod x ∈ zz_T ∧ Cond.selects x.cls x x ∈ zz_T ∧ Cond.initialized x.cls ∈ zz_T ∧ Cond.code x bx mL rt ∈ zz_T ∧ zz_nh x.cls ∧ zz_pn x n
theorem z_invV (F : zz_F p s m args meth c cc y ret nL G) {q : Nat} (hM : zz_M l x bx mL rt d lc mc ms G (.ref (ad q) :: As) ad ce sz Po) (hY : zz_yv y.cls index x bx mL rt n) (hR : d + 1 ≤ R.frames ∧ 8 + (mL + 11) + lc ≤ R.locals) (hw : zz_W G A ad ce sz H) (hA : ∀ q, H0.size ≤ q → A q) (hS : va_S A H0 H locs) (hl : lv_has ls nL lv) {fs : List Value} (hq : ce q = some (.inr (ci, fs))) (hci : classes[ci]? = some (x.cls, T, N)) (hn : As.length = n) (hst : st0 = As.reverse ++ .ref (ad q) :: rest) (hrm : (rest.map fun v => v.category).sum ≤ 8) (hdg : decode cc pc = .ok (.invokevirtual index, 3)) (hf : cells + mc ≤ R.cells ∧ slots + ms ≤ R.slots)
    (kk : ∀ (r : Option Value) (ad1 : Nat → Nat) (ce1 : zz_C) (H1 : Heap) (locs1 : List Loc), Po r ad1 ce1 → zz_W G A ad1 ce1 (sz + mc) H1 → va_S A H0 H1 locs1 → W p l e R s m args below meth c H1 locs1 (cells + mc) (slots + ms) Q (F0 m (pc + 3) ls (r.toList ++ rest))) : W p l e R s m args below meth c H locs cells slots Q (F0 m pc ls st0) := by
  obtain ⟨hx, hb, hr, hml, hown, hts, hlocks, hK, -⟩ := F
  obtain ⟨y1, y2, y3, y4, y5, y6, y7⟩ := hY
  subst hst
  exact z_call (va_runV (As := As) (rest := rest) (Ts := zz_T) (own := y.cls) ⟨hx, hb, hml, hown, hts⟩ hM ⟨⟨rfl, rfl, hR.1, hR.2, pay_in hts (zz_gC y5 zz_gT), List.mem_cons_self, hts _ y5, hts _ y4, y6, zz_len y7, hts _ y1⟩, hts _ y2, hts _ y3⟩ ⟨zz_blind, zz_recv hK hw hq hci, zz_pre hK hw⟩ rfl hn hl.1 rfl (lv_room hrm) hdg hf) hw hA hS kk
/-- a private method of a nest mate -/
def zz_yn (own : String) (index : Nat) (host : String) (x : MethodName) (bx : ByteArray) (mL : Nat) (rt : Option FieldType) (n : Nat) : Prop :=
  Cond.methodLinkNest own index x host ∈ zz_nest ∧ Cond.instanceMethod x ∈ zz_T ∧ Cond.selects x.cls x x ∈ zz_T ∧ Cond.initialized x.cls ∈ zz_T ∧ Cond.code x bx mL rt ∈ zz_T ∧ zz_nh x.cls ∧ zz_pn x n
theorem z_invN {host : String} (F : zz_F p s m args meth c cc y ret nL G) {q : Nat} (hM : zz_M l x bx mL rt d lc mc ms G (.ref (ad q) :: As) ad ce sz Po) (hY : zz_yn y.cls index host x bx mL rt n) (hR : d + 1 ≤ R.frames ∧ 8 + (mL + 11) + lc ≤ R.locals) (hw : zz_W G A ad ce sz H) (hA : ∀ q, H0.size ≤ q → A q) (hS : va_S A H0 H locs) (hl : lv_has ls nL lv) {fs : List Value} (hq : ce q = some (.inr (ci, fs))) (hci : classes[ci]? = some (x.cls, T, N)) (hn : As.length = n) (hst : st0 = As.reverse ++ .ref (ad q) :: rest) (hrm : (rest.map fun v => v.category).sum ≤ 8) (hdg : decode cc pc = .ok (.invokevirtual index, 3)) (hf : cells + mc ≤ R.cells ∧ slots + ms ≤ R.slots)
    (kk : ∀ (r : Option Value) (ad1 : Nat → Nat) (ce1 : zz_C) (H1 : Heap) (locs1 : List Loc), Po r ad1 ce1 → zz_W G A ad1 ce1 (sz + mc) H1 → va_S A H0 H1 locs1 → W p l e R s m args below meth c H1 locs1 (cells + mc) (slots + ms) Q (F0 m (pc + 3) ls (r.toList ++ rest))) : W p l e R s m args below meth c H locs cells slots Q (F0 m pc ls st0) := by
  obtain ⟨hx, hb, hr, hml, hown, hts, hlocks, hK, -⟩ := F
  obtain ⟨y1, y2, y3, y4, y5, y6, y7⟩ := hY
  subst hst
  exact z_call (va_runVN (As := As) (rest := rest) (Ts := zz_T) (own := y.cls) (host := host) ⟨hx, hb, hml, hown, hts⟩ hM ⟨⟨⟨rfl, rfl, hR.1, hR.2, pay_in hts (zz_gC y5 zz_gT), List.mem_cons_self⟩, hts _ y5, hts _ y4, y6, zz_len y7, va_Nw.use rfl (hK.2.1 _ y1)⟩, hts _ y2, hts _ y3⟩ ⟨zz_blind, zz_recv hK hw hq hci, zz_pre hK hw⟩ rfl hn hl.1 rfl (lv_room hrm) hdg hf) hw hA hS kk
/-- a method that the reference names through a class above or below: the receiver's class C selects z -/
def zz_yu (own : String) (index : Nat) (C owner : String) (x z : MethodName) (bx : ByteArray) (mL : Nat) (rt : Option FieldType) (n : Nat) : Prop :=
  Cond.methodLink own index x ∈ zz_T ∧ Cond.sameMethod x.cls owner x.name x.desc ∈ zz_T ∧ Cond.selects C x z ∈ zz_T ∧ Cond.instanceMethod z ∈ zz_T ∧ Cond.initialized z.cls ∈ zz_T ∧ Cond.code z bx mL rt ∈ zz_T ∧ zz_nh owner ∧ zz_pn x n ∧ (z = ⟨owner, x.name, x.desc⟩ ∨ Cond.declares ⟨owner, x.name, x.desc⟩ ∈ zz_nest)
theorem z_invU {owner : String} (F : zz_F p s m args meth c cc y ret nL G) {q : Nat} (hM : zz_M l z bx mL rt d lc mc ms G (.ref (ad q) :: As) ad ce sz Po) (hY : zz_yu y.cls index C owner x z bx mL rt n) (hR : d + 1 ≤ R.frames ∧ 8 + (mL + 11) + lc ≤ R.locals) (hw : zz_W G A ad ce sz H) (hA : ∀ q, H0.size ≤ q → A q) (hS : va_S A H0 H locs) (hl : lv_has ls nL lv) {fs : List Value} (hq : ce q = some (.inr (ci, fs))) (hci : classes[ci]? = some (C, T, N)) (hn : As.length = n) (hst : st0 = As.reverse ++ .ref (ad q) :: rest) (hrm : (rest.map fun v => v.category).sum ≤ 8) (hdg : decode cc pc = .ok (.invokevirtual index, 3)) (hf : cells + mc ≤ R.cells ∧ slots + ms ≤ R.slots)
    (kk : ∀ (r : Option Value) (ad1 : Nat → Nat) (ce1 : zz_C) (H1 : Heap) (locs1 : List Loc), Po r ad1 ce1 → zz_W G A ad1 ce1 (sz + mc) H1 → va_S A H0 H1 locs1 → W p l e R s m args below meth c H1 locs1 (cells + mc) (slots + ms) Q (F0 m (pc + 3) ls (r.toList ++ rest))) : W p l e R s m args below meth c H locs cells slots Q (F0 m pc ls st0) := by
  obtain ⟨hx, hb, hr, hml, hown, hts, hlocks, hK, -⟩ := F
  obtain ⟨y1, y2, y3, y4, y5, y6, y7, y8, y9⟩ := hY
  subst hst
  have hdecl : va_Decl s ⟨owner, x.name, x.desc⟩ := by
    rcases y9 with h | h
    · rw [← h]; exact va_Decl.of (hts _ y4) (hts _ y6)
    · exact va_Decl.abs (hK.2.1 _ h)
  exact z_call (va_runU (As := As) (rest := rest) (Ts := zz_T) (own := y.cls) (C := C) (owner := owner) ⟨hx, hb, hml, hown, hts⟩ hM ⟨⟨rfl, rfl, hR.1, hR.2, pay_in hts (zz_gC y6 zz_gT), List.mem_cons_self⟩, hts _ y6, hts _ y5, y7, zz_len y8, hts _ y1, hts _ y2, hdecl, hts _ y3, hts _ y4⟩ ⟨zz_blind, zz_recv hK hw hq hci, zz_pre hK hw⟩ rfl hn hl.1 rfl (lv_room hrm) hdg hf) hw hA hS kk
/-- a static method -/
def zz_ys (own : String) (index : Nat) (x : MethodName) (bx : ByteArray) (mL : Nat) (rt : Option FieldType) (n : Nat) : Prop :=
  Cond.methodLink own index x ∈ zz_T ∧ Cond.static x ∈ zz_T ∧ Cond.initialized x.cls ∈ zz_T ∧ Cond.code x bx mL rt ∈ zz_T ∧ zz_nh x.cls ∧ zz_pn x n
theorem z_invS (F : zz_F p s m args meth c cc y ret nL G) (hM : zz_M l x bx mL rt d lc mc ms G As ad ce sz Po) (hY : zz_ys y.cls index x bx mL rt n) (hR : d + 1 ≤ R.frames ∧ 8 + (mL + 11) + lc ≤ R.locals) (hw : zz_W G A ad ce sz H) (hA : ∀ q, H0.size ≤ q → A q) (hS : va_S A H0 H locs) (hl : lv_has ls nL lv) (hn : As.length = n) (hst : st0 = As.reverse ++ rest) (hrm : (rest.map fun v => v.category).sum ≤ 8) (hdg : decode cc pc = .ok (.invokestatic index, 3)) (hf : cells + mc ≤ R.cells ∧ slots + ms ≤ R.slots)
    (kk : ∀ (r : Option Value) (ad1 : Nat → Nat) (ce1 : zz_C) (H1 : Heap) (locs1 : List Loc), Po r ad1 ce1 → zz_W G A ad1 ce1 (sz + mc) H1 → va_S A H0 H1 locs1 → W p l e R s m args below meth c H1 locs1 (cells + mc) (slots + ms) Q (F0 m (pc + 3) ls (r.toList ++ rest))) : W p l e R s m args below meth c H locs cells slots Q (F0 m pc ls st0) := by
  obtain ⟨hx, hb, hr, hml, hown, hts, hlocks, hK, -⟩ := F
  obtain ⟨y1, y2, y3, y4, y5, y6⟩ := hY
  subst hst
  exact z_call (va_runS (As := As) (rest := rest) (Ts := zz_T) (own := y.cls) ⟨hx, hb, hml, hown, hts⟩ hM ⟨⟨rfl, rfl, hR.1, hR.2, pay_in hts (zz_gC y4 zz_gT), List.mem_cons_self, hts _ y4, hts _ y3, y5, zz_len y6, hts _ y1⟩, hts _ y2⟩ ⟨zz_blind, zz_pre hK hw⟩ rfl hn hl.1 rfl (lv_room hrm) hdg hf) hw hA hS kk
/-- a constructor -/
def zz_yi (own : String) (index : Nat) (x : MethodName) (bx : ByteArray) (mL : Nat) (n : Nat) : Prop :=
  Cond.methodLink own index x ∈ zz_T ∧ Cond.instanceMethod x ∈ zz_T ∧ Cond.initialized x.cls ∈ zz_T ∧ Cond.code x bx mL none ∈ zz_T ∧ zz_nh x.cls ∧ zz_pn x n ∧ x.name = "<init>"
theorem z_invI (F : zz_F p s m args meth c cc y ret nL G) {b : Nat} (hM : zz_M l x bx mL none d lc mc ms G (.ref b :: As) ad ce sz Po) (hY : zz_yi y.cls index x bx mL n) (hR : d + 1 ≤ R.frames ∧ 8 + (mL + 11) + lc ≤ R.locals) (hw : zz_W G A ad ce sz H) (hA : ∀ q, H0.size ≤ q → A q) (hS : va_S A H0 H locs) (hl : lv_has ls nL lv) (hn : As.length = n) (hst : st0 = As.reverse ++ .ref b :: rest) (hrm : (rest.map fun v => v.category).sum ≤ 8) (hdg : decode cc pc = .ok (.invokespecial index, 3)) (hf : cells + mc ≤ R.cells ∧ slots + ms ≤ R.slots)
    (kk : ∀ (r : Option Value) (ad1 : Nat → Nat) (ce1 : zz_C) (H1 : Heap) (locs1 : List Loc), Po r ad1 ce1 → zz_W G A ad1 ce1 (sz + mc) H1 → va_S A H0 H1 locs1 → W p l e R s m args below meth c H1 locs1 (cells + mc) (slots + ms) Q (F0 m (pc + 3) ls (r.toList ++ rest))) : W p l e R s m args below meth c H locs cells slots Q (F0 m pc ls st0) := by
  obtain ⟨hx, hb, hr, hml, hown, hts, hlocks, hK, -⟩ := F
  obtain ⟨y1, y2, y3, y4, y5, y6, y7⟩ := hY
  subst hst
  exact z_call (va_runI (As := As) (rest := rest) (Ts := zz_T) (own := y.cls) ⟨hx, hb, hml, hown, hts⟩ hM ⟨⟨rfl, rfl, hR.1, hR.2, pay_in hts (zz_gC y4 zz_gT), List.mem_cons_self, hts _ y4, hts _ y3, y5, zz_len y6, hts _ y1⟩, y7, hts _ y2⟩ ⟨zz_blind, zz_pre hK hw⟩ rfl hn hl.1 rfl (lv_room hrm) hdg hf) hw hA hS kk
end ZZ2
