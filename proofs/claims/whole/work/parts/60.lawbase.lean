theorem wi_X0 : (Jvm.Cond.instantiable "MobileCall$Message" (2 : Nat)) ∈ lw_tbl := List.mem_of_getElem? (i := 78) (by decide +kernel)
theorem wi_X1 : (Jvm.Cond.instantiable "MobileCall$Mobile" (11 : Nat)) ∈ lw_tbl := List.mem_of_getElem? (i := 62) (by decide +kernel)
theorem wi_X2 : (Jvm.Cond.instantiable "MobileCall$Network" (15 : Nat)) ∈ lw_tbl := List.mem_of_getElem? (i := 170) (by decide +kernel)
theorem wi_X4 : (Jvm.Cond.instantiable "MobileCall$Row" (5 : Nat)) ∈ lw_tbl := List.mem_of_getElem? (i := 71) (by decide +kernel)
theorem wi_X5 : (Jvm.Cond.instantiable "MobileCall" (5 : Nat)) ∈ lw_tbl := List.mem_of_getElem? (i := 54) (by decide +kernel)
theorem wi_X6 : (Jvm.Cond.instantiable "MobileCallModel" (23 : Nat)) ∈ lw_tbl := List.mem_of_getElem? (i := 684) (by decide +kernel)
theorem wi_ao : (Jvm.Cond.arrayOver (Jvm.ClassFile.FieldType.object "MobileCall$Message")) ∈ lw_tbl := List.mem_of_getElem? (i := 77) (by decide +kernel)
theorem wi_ai : (Jvm.Cond.arrayClass Jvm.ClassFile.FieldType.int) ∈ lw_tbl := List.mem_of_getElem? (i := 90) (by decide +kernel)
theorem wi_ab : (Jvm.Cond.arrayClass Jvm.ClassFile.FieldType.boolean) ∈ lw_tbl := List.mem_of_getElem? (i := 759) (by decide +kernel)
theorem wi_sm : (Jvm.Cond.sameMethod "MobileCall$Party" "MobileCall$Party" "startReleasing" "()V") ∈ lw_tbl := List.mem_of_getElem? (i := 934) (by decide +kernel)
theorem wi_pm : (Jvm.Cond.privateMethod ({ cls := "MobileCall$Party", name := "startReleasing", desc := "()V" } : Jvm.MethodName)) ∈ lw_tbl := List.mem_of_getElem? (i := 549) (by decide +kernel)
theorem wi_im : (Jvm.Cond.instanceMethod ({ cls := "MobileCall$Party", name := "startReleasing", desc := "()V" } : Jvm.MethodName)) ∈ lw_tbl := List.mem_of_getElem? (i := 550) (by decide +kernel)
theorem wi_d0 : (Jvm.Cond.declares ({ cls := "MobileCall$Party", name := "takesManaging", desc := "(LMobileCall$Message;)Z" } : Jvm.MethodName)) ∈ lw_tbl := List.mem_of_getElem? (i := 421) (by decide +kernel)
theorem wi_d1 : (Jvm.Cond.declares ({ cls := "MobileCall$Party", name := "takesCalling", desc := "(LMobileCall$Message;)Z" } : Jvm.MethodName)) ∈ lw_tbl := List.mem_of_getElem? (i := 524) (by decide +kernel)
theorem wi_d2 : (Jvm.Cond.declares ({ cls := "MobileCall$Party", name := "timeOut", desc := "()V" } : Jvm.MethodName)) ∈ lw_tbl := List.mem_of_getElem? (i := 643) (by decide +kernel)
/-! class and reference side by side; the law's start -/
section LB
variable {G : zz_G} {ad ad1 : Nat → Nat} {ce ce1 : zz_C} {T : rf_T} {Q : rf_Q} {M : List Nat}
theorem rfV_k (h : rfV G ad ce T Q M) (hk : ∀ j, 50 ≤ j → ce1 j = ce j) : rfV G ad ce1 T Q M := by
  obtain ⟨cn, zs, bs, hr, ⟨h0, h1, h2, h3, h4, h5, h6, h7, h8, h9, h10, h11⟩, hQ, hM⟩ := h
  exact ⟨cn, zs, bs, hr, ⟨(hk _ (by decide)).trans h0, (hk _ (by decide)).trans h1, (hk _ (by decide)).trans h2, (hk _ (by decide)).trans h3, (hk _ (by decide)).trans h4, (hk _ (by decide)).trans h5, (hk _ (by decide)).trans h6, (hk _ (by decide)).trans h7, (hk _ (by decide)).trans h8, (hk _ (by decide)).trans h9, (hk _ (by decide)).trans h10, (hk _ (by decide)).trans h11⟩, hQ, hM⟩
theorem rfV_o (h : rfV G ad ce T Q M) : ∃ vs, ce 100 = some (.inr (5, vs)) := by
  obtain ⟨cn, zs, bs, hr, ⟨h0, -⟩, -⟩ := h
  exact ⟨_, h0⟩
theorem clV_k (h : clV G ad ce T Q) (hk : ∀ j, j < 100 → ce1 j = ce j) : clV G ad ce1 T Q := by
  obtain ⟨r0, r1, ⟨h0, h1, h2, h3, h4⟩, ht0, ht1, hR0, hR1⟩ := h
  exact ⟨r0, r1, ⟨(hk _ (by decide)).trans h0, (hk _ (by decide)).trans h1, (hk _ (by decide)).trans h2, (hk _ (by decide)).trans h3, (hk _ (by decide)).trans h4⟩, ht0, ht1, hR0.kept (fun j h1 h2 => hk j (by omega)), hR1.kept (fun j h1 h2 => hk j (by omega))⟩
theorem clV_o (h : clV G ad ce T Q) : ∃ vs, ce 0 = some (.inr (4, vs)) := by
  obtain ⟨r0, r1, ⟨h0, -⟩, -⟩ := h
  exact ⟨_, h0⟩
theorem cl_m_ad {n : Nat} {x : List Nat} (h : cl_m G ad ce n x) (ha : ad1 (n + 1) = ad (n + 1)) : cl_m G ad1 ce n x := by
  obtain ⟨f, g1, g2, g3⟩ := h
  exact ⟨f, by rw [ha]; exact g1, g2, g3⟩
theorem cl_r_ad {b : Nat} {q : List (List Nat)} {op : Int32} (h : cl_r G ad ce b q op) (ha : ∀ j, b ≤ j → j < b + 20 → ad1 j = ad j) : cl_r G ad1 ce b q op := by
  obtain ⟨fs, xs, y, ⟨g1, ⟨sl, g2, g3⟩, g4, g5, g6⟩, hq⟩ := h
  refine ⟨fs, xs, y, ⟨by rw [ha (b + 1) (by omega) (by omega), ha (b + 2) (by omega) (by omega)]; exact g1, ⟨sl, g2, fun j hj => by rw [ha (b + 4 + 2 * j) (by omega) (by omega)]; exact g3 j hj⟩, g4, fun j hj => cl_m_ad (g5 j hj) (ha _ (by omega) (by omega)), cl_m_ad g6 (ha _ (by omega) (by omega))⟩, hq⟩
theorem clV_ad (h : clV G ad ce T Q) (ha : ∀ j, j < 50 → ad1 j = ad j) : clV G ad1 ce T Q := by
  obtain ⟨r0, r1, ⟨h0, h1, h2, h3, h4⟩, ht0, ht1, hR0, hR1⟩ := h
  exact ⟨r0, r1, ⟨by rw [ha 10 (by decide), ha 30 (by decide), ha 1 (by decide), ha 2 (by decide)]; exact h0, by rw [ha 10 (by decide), ha 3 (by decide)]; exact h1, by rw [ha 30 (by decide), ha 4 (by decide)]; exact h2, h3, h4⟩, ht0, ht1, cl_r_ad hR0 (fun j h1 h2 => ha j (by omega)), cl_r_ad hR1 (fun j h1 h2 => ha j (by omega))⟩
/-- what the rows hold -/
def cl_wf (Q : rf_Q) : Prop := ∀ w, w < 2 → (Q w).length ≤ 8 ∧ ((Q w).headD []).length ≤ 24 ∧ (¬ nI (Q w).length = 0 → 2 ≤ ((Q w).headD []).length ∧ ∀ i, i < ((Q w).headD []).length → ((Q w).headD []).getD i 0 < 256)
theorem rfV_wf (h : rfV G ad ce T Q M) : cl_wf Q := by
  obtain ⟨cn, zs, bs, hr, -, hQ, -⟩ := h
  intro w hw
  obtain ⟨g1, g2, g3⟩ := hQ w hw
  cases hq : Q w with
  | nil => exact ⟨by simp, by simp, fun q => absurd rfl q⟩
  | cons a t =>
    rw [hq] at g1 g3
    obtain ⟨m1, m2, -, m4⟩ := g3 0 (by simp)
    exact ⟨g1, m2, fun _ => ⟨m1, fun i hi => (m4 i hi).2⟩⟩
end LB
theorem lw_arr {s : State} {args : Array Value} {ty : FieldType} (h : (Cond.arrayClass ty).before args s = true) : ∃ cA, ArrOfT s cA ty ∧ s.vm.findClass ("[" ++ ty.toString) = some cA := by
  obtain ⟨c, k, comp, h1, h2, h3⟩ := Cond.arrayClass_spec h
  exact ⟨c, fun n z => ⟨fun q e => (by cases e), k, h2, comp, h3⟩, h1⟩
theorem lw_G {s : State} {args : Array Value} (hts : ∀ w ∈ lw_tbl, w.before args s = true) : ∃ G : zz_G, zz_K G s ∧ ∀ w ∈ zz_T, w.before args s = true := by
  obtain ⟨c0, i0, k0⟩ := u_known (C := RX0) (T := TX0) (N := 2) (n := 2) hts iaX0 (hts _ wi_X0)
  obtain ⟨c1, i1, k1⟩ := u_known (C := RX1) (T := TX1) (N := 11) (n := 11) hts iaX1 (hts _ wi_X1)
  obtain ⟨c2, i2, k2⟩ := u_known (C := RX2) (T := TX2) (N := 15) (n := 15) hts iaX2 (hts _ wi_X2)
  obtain ⟨c3, i3, k3⟩ := u_known (C := RX4) (T := TX4) (N := 5) (n := 5) hts iaX4 (hts _ wi_X4)
  obtain ⟨c4, i4, k4⟩ := u_known (C := RX5) (T := TX5) (N := 5) (n := 5) hts iaX5 (hts _ wi_X5)
  obtain ⟨c5, i5, k5⟩ := u_known (C := RX6) (T := TX6) (N := 23) (n := 23) hts iaX6 (hts _ wi_X6)
  obtain ⟨cI, aI, nI0⟩ := lw_arr (hts _ wi_ai)
  obtain ⟨cZ, aZ, nZ0⟩ := lw_arr (hts _ wi_ab)
  have hov := hts _ wi_ao
  obtain ⟨comp, cM, kM, m1, m2, m3, m4, m5⟩ := Cond.arrayOver_spec hov
  refine ⟨((fun k => if k = 0 then c0 else if k = 1 then c1 else if k = 2 then c2 else if k = 3 then c3 else if k = 4 then c4 else c5, fun k => if k = 0 then i0 else if k = 1 then i1 else if k = 2 then i2 else if k = 3 then i3 else if k = 4 then i4 else i5), cI, cZ, cM), ⟨⟨?_, ?_⟩, ?_, ?_⟩, ?_⟩
  · intro k q hq
    match k, hq with
    | 0, hq => cases hq; exact k0
    | 1, hq => cases hq; exact k1
    | 2, hq => cases hq; exact k2
    | 3, hq => cases hq; exact k3
    | 4, hq => cases hq; exact k4
    | 5, hq => cases hq; exact k5
    | k + 6, hq => simp [classes] at hq
  · intro k q hq
    match k, hq with
    | 0, hq => cases hq; exact ⟨aI, nI0⟩
    | 1, hq => cases hq; exact ⟨aZ, nZ0⟩
    | 2, hq => cases hq; exact ⟨fun n z => ⟨fun q e => (by cases e), kM, m3, comp, m4⟩, kM, comp, m3, m4, m1, m5⟩
    | k + 3, hq => simp at hq
  · intro w hw
    refine va_Nw.of (zz_nest_tab w hw) (hts w ?_)
    simp only [zz_nest, zz_dec, List.map_cons, List.map_nil, List.mem_cons, List.not_mem_nil, or_false] at hw
    rcases hw with rfl | rfl | rfl
    · exact wi_d0
    · exact wi_d1
    · exact wi_d2
  · intro C hC
    simp only [zz_over, List.mem_cons, List.not_mem_nil, or_false] at hC
    subst hC
    exact va_AO.of hov
  · intro w hw
    have hw2 := (List.mem_filter.mp hw).1
    rcases List.mem_append.mp hw2 with h | h
    · simp only [zz_sp, List.mem_cons, List.not_mem_nil, or_false] at h
      rcases h with rfl | rfl
      · exact zz_selP (hts _ wi_X1) (hts _ wi_sm) (hts _ wi_pm) (hts _ wi_im)
      · exact zz_selP (hts _ wi_X2) (hts _ wi_sm) (hts _ wi_pm) (hts _ wi_im)
    · exact hts w h
/-! the script's cell -/
def lw_c (L : Nat) (xs : Nat → Int32) (k : Nat) : Int32 := if k < L then xs k else 0
theorem c_cell (l : Launch) {b L : Nat} {xs : Nat → Int32} (hL : L < 2 ^ 31) (k : Nat) (hk : k < 2 ^ 31) : Met l yL_cell (Cond.code yL_cell cL_cell 2 (some .int) :: zz_T) (zz_R 0 0 0 0) (va_Pc [.ref b, .int (nI k)] (fun U => va_X b L xs U U.heap)) (fun _ st oc t => oc = .returned (some (.int (lw_c L xs k))) ∧ t.heap = st.heap) 0 0 (fun _ => False) := by
  refine Met.ofW (cc := cL_cell) (maxL := 2) (ret := some .int) (by decide) rfl ?_
  intro p e s m args below meth c s₁ B hml hv
  obtain ⟨rfl, hX⟩ := hv
  have hbl : b < s.heap.size := by
    obtain ⟨scr, h1, -⟩ := hX
    exact (Array.getElem?_eq_some_iff.mp h1).1
  have hx := B.exec
  have hb := B.bytes
  have hr := B.returns
  have hlocks := B.notSynchronized
  have hl := lv_entry [.ref b, .int (nI k)] (n := 2) (Nat.le_of_ble_eq_true rfl)
  rw [lg_entry_eq]
  generalize (lg_sl [Value.ref b, Value.int (nI k)] ++ List.replicate (2 - (lg_sl [Value.ref b, Value.int (nI k)]).length) Slot.unset).toArray = ls at hl ⊢
  have hl : lv_has ls 2 [(0, .ref b), (1, .int (nI k))] := hl
  have hS : va_S (fun _ => False) s.heap s.heap [] := va_S.rf
  refine lv_iload_n hx hb dL_cell_0 rfl (lv_at hl 1 rfl) ?_
  refine lv_aload_n hx hb dL_cell_1 rfl (lv_at hl 0 rfl) ?_
  refine va_slen hx hb hX hbl id hS dL_cell_2 ?_
  refine lv_icmp_ge (tgt := 12) hx hb dL_cell_3 (by decide) (fun c3 => ?_) (fun c3 => ?_)
  · have hge : ¬ k < L := fun q => absurd c3 (nI_ge q hL)
    refine lv_iconst (v := 0) hx hb dL_cell_12 (by decide) ?_
    exact W.zret hx hb hr rfl (fun t ht hW => ⟨by unfold lw_c; rw [if_neg hge], ht⟩) (fun q h => by cases h) dL_cell_13 hlocks
  · have hlt : k < L := Nat.lt_of_not_le (fun q => c3 (nI_le q hk))
    refine lv_aload_n hx hb dL_cell_6 rfl (lv_at hl 0 rfl) ?_
    refine lv_iload_n hx hb dL_cell_7 rfl (lv_at hl 1 rfl) ?_
    refine va_sld hx hb hX hbl id hS (vp_in_nI hlt hL) dL_cell_8 ?_
    refine z_top (xs k) (by rw [nI_clamp hk]) ?_
    refine lv_goto (tgt := 13) hx hb dL_cell_9 (by decide) ?_
    exact W.zret hx hb hr rfl (fun t ht hW => ⟨by unfold lw_c; rw [if_pos hlt], ht⟩) (fun q h => by cases h) dL_cell_13 hlocks
section LC
variable {p : Program} {l : Launch} {e : Env} {R : Room} {s : State} {m : MethodId} {args : Array Value} {below : List Frame} {meth : Method} {c : Code} {H H0 : Heap} {locs : List Loc} {cells slots : Nat} {Q : State → Prop}
variable {cc : ByteArray} {y : MethodName} {ret0 : Option FieldType} {nL pc : Nat} {ls : Array Slot} {rest st0 : List Value} {G : zz_G} {A : Nat → Prop} {lv : List (Nat × Value)} {index : Nat}
theorem z_cell {b L : Nat} {xs : Nat → Int32} (F : zz_F p s m args meth c cc y ret0 nL G) (hX : va_X b L xs s H0) (hbl : b < H0.size) (hbA : ¬ A b) (hS : va_S A H0 H locs) (hL : L < 2 ^ 31) (k : Nat) (hk : k < 2 ^ 31) (hY : zz_ys y.cls index yL_cell cL_cell 2 (some .int) 2) (hR : 0 + 1 ≤ R.frames ∧ 8 + (2 + 11) + 0 ≤ R.locals) (hl : lv_has ls nL lv) (hst : st0 = .int (nI k) :: .ref b :: rest) (hrm : (rest.map fun v => v.category).sum ≤ 8) (hdg : decode cc pc = .ok (.invokestatic index, 3)) (hf : cells ≤ R.cells ∧ slots ≤ R.slots)
    (kk : W p l e R s m args below meth c H locs cells slots Q (F0 m (pc + 3) ls (.int (lw_c L xs k) :: rest))) : W p l e R s m args below meth c H locs cells slots Q (F0 m pc ls st0) := by
  obtain ⟨hx, hb, hr, hml, hown, hts, hlocks, hK, -⟩ := F
  obtain ⟨y1, y2, y3, y4, y5, y6⟩ := hY
  subst hst
  have run := va_runS (l := l) (e := e) (R := R) (below := below) (meth := meth) (H := H) (locs := locs) (cells := cells) (slots := slots) (g := F0 m pc ls (.int (nI k) :: .ref b :: rest)) (As := [.ref b, .int (nI k)]) (rest := rest) (Ts := zz_T) (own := y.cls) ⟨hx, hb, hml, hown, hts⟩ (c_cell l (b := b) (xs := xs) hL k hk) ⟨⟨rfl, rfl, hR.1, hR.2, pay_in hts (zz_gC y4 zz_gT), List.mem_cons_self, hts _ y4, hts _ y3, y5, zz_len y6, hts _ y1⟩, hts _ y2⟩ ⟨fun a U g mk q => ⟨q.1, va_X.moved (u := U) (U := U.calling g mk a) (Vm.Alike.refl U.vm) q.2⟩, fun U hU hW => ⟨rfl, by show va_X b L xs U U.heap; rw [hU]; exact va_X.moved hW.alike (hX.kept (hS.2.1 b hbl hbA))⟩⟩ rfl rfl hl.1 rfl (lv_room hrm) hdg ⟨hf.1, hf.2⟩
  intro T hT X
  obtain ⟨v, st₀, t, T', L', h0, X', hL', e1, e2, ⟨hv, hq⟩, st⟩ := run T hT X
  cases hv
  have hnil : L' = [] := by
    cases L' with
    | nil => rfl
    | cons a r => exact absurd (hL' a List.mem_cons_self) id
  subst hnil
  rw [List.append_nil] at X'
  obtain ⟨t2, a1, b1⟩ := kk T' (by rw [e1, hq, h0]) X'
  exact ⟨t2, st t2 a1, b1⟩
end LC
