theorem rf_hdtl {q : List (List Nat)} (h : ¬ nI q.length = 0) : q = q.headD [] :: q.tail := by
  cases q with
  | nil => exact absurd rfl h
  | cons a l => rfl
theorem rfQ_first {cn zs bs : Nat → Int32} {Q : rf_Q} {w : Nat} (h : rfQ cn zs bs Q) (hw : w < 2) (hq : ¬ nI (Q w).length = 0) : rfm zs bs (8 * w + 0) ((Q w).headD []) := by
  have e := rf_hdtl hq
  obtain ⟨g1, g2, g3⟩ := h w hw
  have h3 := g3 0 (by rw [e]; simp)
  rw [e] at h3
  simpa using h3
def sp_lose0 (T : rf_T) (Q : rf_Q) (M : List Nat) : rf_R := (if ((nI (Q 0).length) : Int32) = 0 then ((-3), T, Q) else ((nI (((Q 0).headD []).getD 1 0)), T, va_up Q 0 ((Q 0).tail)))
set_option maxHeartbeats 4000000 in
set_option maxRecDepth 100000 in
theorem r_lose0 (l : Launch) {G : zz_G} {ad : Nat → Nat} {ce : zz_C} {sz : Nat} (T : rf_T) (Q : rf_Q) (M : List Nat) (hV : rfV G ad ce T Q M) : zz_M l yX6_lose cX6_lose 2 (some .int) 1 24 0 0 G [.ref (ad 100), .int 0] ad ce sz (fun r ad1 ce1 => r = some (.int (sp_lose0 T Q M).1) ∧ ad = ad1 ∧ (∃ M1, rfV G ad ce1 (sp_lose0 T Q M).2.1 (sp_lose0 T Q M).2.2 M1) ∧ (∀ j, j < 100 → ce1 j = ce j)) := by
  refine zz_enter (by decide) (Nat.le_of_ble_eq_true rfl) ?_
  intro p e s m below meth c ls F hl hw hS hA
  obtain ⟨hx, hb, hr, hml, hown, hts, hlocks, hK, hnm⟩ := id F
  have hl : lv_has ls 2 [(0, .ref (ad 100)), (1, .int 0)] := hl
  obtain ⟨cn, zs, bs, hh, ⟨h100, h101, h102, h103, h104, h105, h106, h107, h108, h109, h110, h111⟩, hQ, hM⟩ := hV
  have hF : ∀ j, j < 100 → ce j = ce j := fun _ _ => rfl
  refine lv_iload_n hx hb dX6_lose_0 rfl (lv_at hl 1 rfl) ?_
  refine z_invS F (rest := []) (r_isWay l 0) ys_X6_145 ⟨Nat.le_of_ble_eq_true rfl, Nat.le_of_ble_eq_true rfl⟩ hw hA hS hl rfl rfl (Nat.le_of_ble_eq_true rfl) dX6_lose_1 ⟨Nat.le_of_ble_eq_true rfl, Nat.le_of_ble_eq_true rfl⟩ (fun r ad1 ce1 H locs hp hw hS => ?_)
  obtain ⟨hp, rfl, rfl⟩ := hp
  rcases hp with ⟨-, rfl⟩ | ⟨hn9, rfl⟩
  rotate_left
  · exact absurd (Or.inl rfl) hn9
  refine W.eq (g2 := F0 m 4 ls [.int 1]) rfl ?_
  refine lv_if_ne (tgt := 9) hx hb dX6_lose_4 (by decide) (fun c4 => ?_) (fun c4 => absurd c4 (by decide))
  refine lv_aload_n hx hb dX6_lose_9 rfl (lv_at hl 0 rfl) ?_
  refine z_get F hw h100 fd_X6_13_X6 rfl dX6_lose_10 ?_
  refine lv_iload_n hx hb dX6_lose_13 rfl (lv_at hl 1 rfl) ?_
  refine z_ld F hw h101 (0) (rfl) (by decide) (by decide) dX6_lose_14 ?_
  refine z_top (nI (Q 0).length) ((hQ 0 (by decide)).2.1) ?_
  refine lv_if_ne (tgt := 21) hx hb dX6_lose_15 (by decide) (fun c15 => ?_) (fun c15 => ?_)
  · have hq := rf_hdtl c15
    obtain ⟨hx2, hx24, -, -⟩ := rfQ_first hQ (by decide) c15
    refine lv_aload_n hx hb dX6_lose_21 rfl (lv_at hl 0 rfl) ?_
    refine lv_iload_n hx hb dX6_lose_22 rfl (lv_at hl 1 rfl) ?_
    have hV : rfV G ad ce T Q M := ⟨_, _, _, _, ⟨h100, h101, h102, h103, h104, h105, h106, h107, h108, h109, h110, h111⟩, hQ, hM⟩
    refine z_invV F (rest := []) (r_take0 l T Q M hV ((Q 0).headD []) ((Q 0).tail) hq) yv_X6_149 ⟨Nat.le_of_ble_eq_true rfl, Nat.le_of_ble_eq_true rfl⟩ hw hA hS hl h100 rfl rfl rfl (Nat.le_of_ble_eq_true rfl) dX6_lose_23 ⟨Nat.le_of_ble_eq_true rfl, Nat.le_of_ble_eq_true rfl⟩ (fun r ad1 ce2 H locs hp hw hS => ?_)
    obtain ⟨rfl, rfl, hV, hF2⟩ := hp
    have hF : ∀ j, j < 100 → ce2 j = ce j := fun j hj => (hF2 j hj).trans (hF j hj)
    obtain ⟨cn, zs, bs, hh, ⟨h100, h101, h102, h103, h104, h105, h106, h107, h108, h109, h110, h111⟩, hQ, hM⟩ := hV
    refine W.eq (g2 := F0 m 26 ls []) rfl ?_
    refine lv_aload_n hx hb dX6_lose_26 rfl (lv_at hl 0 rfl) ?_
    refine z_get F hw h100 fd_X6_48_X6 rfl dX6_lose_27 ?_
    refine lv_iconst (v := 1) hx hb dX6_lose_30 (by decide) ?_
    refine z_ld F hw h111 (1) (rfl) (by decide) (by decide) dX6_lose_31 ?_
    refine z_top (nI (((Q 0).headD []).getD 1 0)) ((hM.2 1 (by omega)).1) ?_
    exact z_iret F (rfl) hw hS (by unfold sp_lose0; rw [if_neg c15]; exact ⟨rfl, rfl, ⟨_, ⟨_, _, _, _, ⟨h100, h101, h102, h103, h104, h105, h106, h107, h108, h109, h110, h111⟩, hQ, hM⟩⟩, hF⟩) dX6_lose_32
  · refine lv_bipush (v := -3) hx hb dX6_lose_18 (by decide) ?_
    exact z_iret F (rfl) hw hS (by unfold sp_lose0; rw [if_pos c15]; exact ⟨rfl, rfl, ⟨_, ⟨_, _, _, _, ⟨h100, h101, h102, h103, h104, h105, h106, h107, h108, h109, h110, h111⟩, hQ, hM⟩⟩, hF⟩) dX6_lose_20
def sp_lose1 (T : rf_T) (Q : rf_Q) (M : List Nat) : rf_R := (if ((nI (Q 1).length) : Int32) = 0 then ((-3), T, Q) else ((nI (((Q 1).headD []).getD 1 0)), T, va_up Q 1 ((Q 1).tail)))
set_option maxHeartbeats 4000000 in
set_option maxRecDepth 100000 in
theorem r_lose1 (l : Launch) {G : zz_G} {ad : Nat → Nat} {ce : zz_C} {sz : Nat} (T : rf_T) (Q : rf_Q) (M : List Nat) (hV : rfV G ad ce T Q M) : zz_M l yX6_lose cX6_lose 2 (some .int) 1 24 0 0 G [.ref (ad 100), .int 1] ad ce sz (fun r ad1 ce1 => r = some (.int (sp_lose1 T Q M).1) ∧ ad = ad1 ∧ (∃ M1, rfV G ad ce1 (sp_lose1 T Q M).2.1 (sp_lose1 T Q M).2.2 M1) ∧ (∀ j, j < 100 → ce1 j = ce j)) := by
  refine zz_enter (by decide) (Nat.le_of_ble_eq_true rfl) ?_
  intro p e s m below meth c ls F hl hw hS hA
  obtain ⟨hx, hb, hr, hml, hown, hts, hlocks, hK, hnm⟩ := id F
  have hl : lv_has ls 2 [(0, .ref (ad 100)), (1, .int 1)] := hl
  obtain ⟨cn, zs, bs, hh, ⟨h100, h101, h102, h103, h104, h105, h106, h107, h108, h109, h110, h111⟩, hQ, hM⟩ := hV
  have hF : ∀ j, j < 100 → ce j = ce j := fun _ _ => rfl
  refine lv_iload_n hx hb dX6_lose_0 rfl (lv_at hl 1 rfl) ?_
  refine z_invS F (rest := []) (r_isWay l 1) ys_X6_145 ⟨Nat.le_of_ble_eq_true rfl, Nat.le_of_ble_eq_true rfl⟩ hw hA hS hl rfl rfl (Nat.le_of_ble_eq_true rfl) dX6_lose_1 ⟨Nat.le_of_ble_eq_true rfl, Nat.le_of_ble_eq_true rfl⟩ (fun r ad1 ce1 H locs hp hw hS => ?_)
  obtain ⟨hp, rfl, rfl⟩ := hp
  rcases hp with ⟨-, rfl⟩ | ⟨hn9, rfl⟩
  rotate_left
  · exact absurd (Or.inr rfl) hn9
  refine W.eq (g2 := F0 m 4 ls [.int 1]) rfl ?_
  refine lv_if_ne (tgt := 9) hx hb dX6_lose_4 (by decide) (fun c4 => ?_) (fun c4 => absurd c4 (by decide))
  refine lv_aload_n hx hb dX6_lose_9 rfl (lv_at hl 0 rfl) ?_
  refine z_get F hw h100 fd_X6_13_X6 rfl dX6_lose_10 ?_
  refine lv_iload_n hx hb dX6_lose_13 rfl (lv_at hl 1 rfl) ?_
  refine z_ld F hw h101 (1) (rfl) (by decide) (by decide) dX6_lose_14 ?_
  refine z_top (nI (Q 1).length) ((hQ 1 (by decide)).2.1) ?_
  refine lv_if_ne (tgt := 21) hx hb dX6_lose_15 (by decide) (fun c15 => ?_) (fun c15 => ?_)
  · have hq := rf_hdtl c15
    obtain ⟨hx2, hx24, -, -⟩ := rfQ_first hQ (by decide) c15
    refine lv_aload_n hx hb dX6_lose_21 rfl (lv_at hl 0 rfl) ?_
    refine lv_iload_n hx hb dX6_lose_22 rfl (lv_at hl 1 rfl) ?_
    have hV : rfV G ad ce T Q M := ⟨_, _, _, _, ⟨h100, h101, h102, h103, h104, h105, h106, h107, h108, h109, h110, h111⟩, hQ, hM⟩
    refine z_invV F (rest := []) (r_take1 l T Q M hV ((Q 1).headD []) ((Q 1).tail) hq) yv_X6_149 ⟨Nat.le_of_ble_eq_true rfl, Nat.le_of_ble_eq_true rfl⟩ hw hA hS hl h100 rfl rfl rfl (Nat.le_of_ble_eq_true rfl) dX6_lose_23 ⟨Nat.le_of_ble_eq_true rfl, Nat.le_of_ble_eq_true rfl⟩ (fun r ad1 ce2 H locs hp hw hS => ?_)
    obtain ⟨rfl, rfl, hV, hF2⟩ := hp
    have hF : ∀ j, j < 100 → ce2 j = ce j := fun j hj => (hF2 j hj).trans (hF j hj)
    obtain ⟨cn, zs, bs, hh, ⟨h100, h101, h102, h103, h104, h105, h106, h107, h108, h109, h110, h111⟩, hQ, hM⟩ := hV
    refine W.eq (g2 := F0 m 26 ls []) rfl ?_
    refine lv_aload_n hx hb dX6_lose_26 rfl (lv_at hl 0 rfl) ?_
    refine z_get F hw h100 fd_X6_48_X6 rfl dX6_lose_27 ?_
    refine lv_iconst (v := 1) hx hb dX6_lose_30 (by decide) ?_
    refine z_ld F hw h111 (1) (rfl) (by decide) (by decide) dX6_lose_31 ?_
    refine z_top (nI (((Q 1).headD []).getD 1 0)) ((hM.2 1 (by omega)).1) ?_
    exact z_iret F (rfl) hw hS (by unfold sp_lose1; rw [if_neg c15]; exact ⟨rfl, rfl, ⟨_, ⟨_, _, _, _, ⟨h100, h101, h102, h103, h104, h105, h106, h107, h108, h109, h110, h111⟩, hQ, hM⟩⟩, hF⟩) dX6_lose_32
  · refine lv_bipush (v := -3) hx hb dX6_lose_18 (by decide) ?_
    exact z_iret F (rfl) hw hS (by unfold sp_lose1; rw [if_pos c15]; exact ⟨rfl, rfl, ⟨_, ⟨_, _, _, _, ⟨h100, h101, h102, h103, h104, h105, h106, h107, h108, h109, h110, h111⟩, hQ, hM⟩⟩, hF⟩) dX6_lose_20
def sp_losex (T : rf_T) (Q : rf_Q) (M : List Nat) (a : Int32) : rf_R := ((-1), T, Q)
set_option maxHeartbeats 4000000 in
set_option maxRecDepth 100000 in
theorem r_losex (l : Launch) {G : zz_G} {ad : Nat → Nat} {ce : zz_C} {sz : Nat} (T : rf_T) (Q : rf_Q) (M : List Nat) (hV : rfV G ad ce T Q M) (a : Int32) (hnw : ¬ (a = 0 ∨ a = 1)) : zz_M l yX6_lose cX6_lose 2 (some .int) 1 24 0 0 G [.ref (ad 100), .int a] ad ce sz (fun r ad1 ce1 => r = some (.int (sp_losex T Q M a).1) ∧ ad = ad1 ∧ (∃ M1, rfV G ad ce1 (sp_losex T Q M a).2.1 (sp_losex T Q M a).2.2 M1) ∧ (∀ j, j < 100 → ce1 j = ce j)) := by
  refine zz_enter (by decide) (Nat.le_of_ble_eq_true rfl) ?_
  intro p e s m below meth c ls F hl hw hS hA
  obtain ⟨hx, hb, hr, hml, hown, hts, hlocks, hK, hnm⟩ := id F
  have hl : lv_has ls 2 [(0, .ref (ad 100)), (1, .int a)] := hl
  obtain ⟨cn, zs, bs, hh, ⟨h100, h101, h102, h103, h104, h105, h106, h107, h108, h109, h110, h111⟩, hQ, hM⟩ := hV
  have hF : ∀ j, j < 100 → ce j = ce j := fun _ _ => rfl
  refine lv_iload_n hx hb dX6_lose_0 rfl (lv_at hl 1 rfl) ?_
  refine z_invS F (rest := []) (r_isWay l a) ys_X6_145 ⟨Nat.le_of_ble_eq_true rfl, Nat.le_of_ble_eq_true rfl⟩ hw hA hS hl rfl rfl (Nat.le_of_ble_eq_true rfl) dX6_lose_1 ⟨Nat.le_of_ble_eq_true rfl, Nat.le_of_ble_eq_true rfl⟩ (fun r ad1 ce1 H locs hp hw hS => ?_)
  obtain ⟨hp, rfl, rfl⟩ := hp
  rcases hp with ⟨hn9, rfl⟩ | ⟨-, rfl⟩
  · exact absurd hn9 hnw
  refine W.eq (g2 := F0 m 4 ls [.int 0]) rfl ?_
  refine lv_if_ne (tgt := 9) hx hb dX6_lose_4 (by decide) (fun c4 => absurd c4 (by decide)) (fun c4 => ?_)
  refine lv_iconst (v := -1) hx hb dX6_lose_7 (by decide) ?_
  exact z_iret F (rfl) hw hS (by unfold sp_losex; exact ⟨rfl, rfl, ⟨_, ⟨_, _, _, _, ⟨h100, h101, h102, h103, h104, h105, h106, h107, h108, h109, h110, h111⟩, hQ, hM⟩⟩, hF⟩) dX6_lose_8
def sp_carry0 (T : rf_T) (Q : rf_Q) (M : List Nat) : rf_R := (if ((nI (Q 0).length) : Int32) = 0 then ((-3), T, Q) else (if rf_good ((Q 0).headD []) then (if ((nI (((Q 0).headD []).getD 0 0)) : Int32) = 5 then (if (((sp_networkMoves T (va_up Q 0 ((Q 0).tail)) ((Q 0).headD []) (((Q 0).headD []).getD 1 0)).1) : Int32) = 0 then (((nI (((Q 0).headD []).getD 1 0)) + 1000), va_up ((sp_networkMoves T (va_up Q 0 ((Q 0).tail)) ((Q 0).headD []) (((Q 0).headD []).getD 1 0)).2.1) 0 (va_up (((sp_networkMoves T (va_up Q 0 ((Q 0).tail)) ((Q 0).headD []) (((Q 0).headD []).getD 1 0)).2.1) 0) 5 ((((sp_networkMoves T (va_up Q 0 ((Q 0).tail)) ((Q 0).headD []) (((Q 0).headD []).getD 1 0)).2.1) 0 5) + 1)), (sp_networkMoves T (va_up Q 0 ((Q 0).tail)) ((Q 0).headD []) (((Q 0).headD []).getD 1 0)).2.2) else ((nI (((Q 0).headD []).getD 1 0)), ((sp_networkMoves T (va_up Q 0 ((Q 0).tail)) ((Q 0).headD []) (((Q 0).headD []).getD 1 0)).2.1), (sp_networkMoves T (va_up Q 0 ((Q 0).tail)) ((Q 0).headD []) (((Q 0).headD []).getD 1 0)).2.2)) else (if ((nI (((Q 0).headD []).getD 0 0)) : Int32) = 3 then (if (((sp_networkCalls T (va_up Q 0 ((Q 0).tail)) ((Q 0).headD []) (((Q 0).headD []).getD 1 0)).1) : Int32) = 0 then (((nI (((Q 0).headD []).getD 1 0)) + 1000), va_up ((sp_networkCalls T (va_up Q 0 ((Q 0).tail)) ((Q 0).headD []) (((Q 0).headD []).getD 1 0)).2.1) 0 (va_up (((sp_networkCalls T (va_up Q 0 ((Q 0).tail)) ((Q 0).headD []) (((Q 0).headD []).getD 1 0)).2.1) 0) 5 ((((sp_networkCalls T (va_up Q 0 ((Q 0).tail)) ((Q 0).headD []) (((Q 0).headD []).getD 1 0)).2.1) 0 5) + 1)), (sp_networkCalls T (va_up Q 0 ((Q 0).tail)) ((Q 0).headD []) (((Q 0).headD []).getD 1 0)).2.2) else ((nI (((Q 0).headD []).getD 1 0)), ((sp_networkCalls T (va_up Q 0 ((Q 0).tail)) ((Q 0).headD []) (((Q 0).headD []).getD 1 0)).2.1), (sp_networkCalls T (va_up Q 0 ((Q 0).tail)) ((Q 0).headD []) (((Q 0).headD []).getD 1 0)).2.2)) else (((nI (((Q 0).headD []).getD 1 0)) + 1000), va_up T 0 (va_up (T 0) 5 ((T 0 5) + 1)), va_up Q 0 ((Q 0).tail)))) else (((nI (((Q 0).headD []).getD 1 0)) + 1000), va_up T 0 (va_up (T 0) 5 ((T 0 5) + 1)), va_up Q 0 ((Q 0).tail))))
set_option maxHeartbeats 4000000 in
set_option maxRecDepth 100000 in
theorem r_carry0 (l : Launch) {G : zz_G} {ad : Nat → Nat} {ce : zz_C} {sz : Nat} (T : rf_T) (Q : rf_Q) (M : List Nat) (hV : rfV G ad ce T Q M) : zz_M l yX6_carry cX6_carry 4 (some .int) 4 95 0 0 G [.ref (ad 100), .int 0] ad ce sz (fun r ad1 ce1 => r = some (.int (sp_carry0 T Q M).1) ∧ ad = ad1 ∧ (∃ M1, rfV G ad ce1 (sp_carry0 T Q M).2.1 (sp_carry0 T Q M).2.2 M1) ∧ (∀ j, j < 100 → ce1 j = ce j)) := by
  refine zz_enter (by decide) (Nat.le_of_ble_eq_true rfl) ?_
  intro p e s m below meth c ls F hl hw hS hA
  obtain ⟨hx, hb, hr, hml, hown, hts, hlocks, hK, hnm⟩ := id F
  have hl : lv_has ls 4 [(0, .ref (ad 100)), (1, .int 0)] := hl
  obtain ⟨cn, zs, bs, hh, ⟨h100, h101, h102, h103, h104, h105, h106, h107, h108, h109, h110, h111⟩, hQ, hM⟩ := hV
  have hF : ∀ j, j < 100 → ce j = ce j := fun _ _ => rfl
  refine lv_iload_n hx hb dX6_carry_0 rfl (lv_at hl 1 rfl) ?_
  refine z_invS F (rest := []) (r_isWay l 0) ys_X6_145 ⟨Nat.le_of_ble_eq_true rfl, Nat.le_of_ble_eq_true rfl⟩ hw hA hS hl rfl rfl (Nat.le_of_ble_eq_true rfl) dX6_carry_1 ⟨Nat.le_of_ble_eq_true rfl, Nat.le_of_ble_eq_true rfl⟩ (fun r ad1 ce1 H locs hp hw hS => ?_)
  obtain ⟨hp, rfl, rfl⟩ := hp
  rcases hp with ⟨-, rfl⟩ | ⟨hn9, rfl⟩
  rotate_left
  · exact absurd (Or.inl rfl) hn9
  refine W.eq (g2 := F0 m 4 ls [.int 1]) rfl ?_
  refine lv_if_ne (tgt := 9) hx hb dX6_carry_4 (by decide) (fun c4 => ?_) (fun c4 => absurd c4 (by decide))
  refine lv_aload_n hx hb dX6_carry_9 rfl (lv_at hl 0 rfl) ?_
  refine z_get F hw h100 fd_X6_13_X6 rfl dX6_carry_10 ?_
  refine lv_iload_n hx hb dX6_carry_13 rfl (lv_at hl 1 rfl) ?_
  refine z_ld F hw h101 (0) (rfl) (by decide) (by decide) dX6_carry_14 ?_
  refine z_top (nI (Q 0).length) ((hQ 0 (by decide)).2.1) ?_
  refine lv_if_ne (tgt := 21) hx hb dX6_carry_15 (by decide) (fun c15 => ?_) (fun c15 => ?_)
  · have hq := rf_hdtl c15
    obtain ⟨hx2, hx24, -, -⟩ := rfQ_first hQ (by decide) c15
    refine lv_aload_n hx hb dX6_carry_21 rfl (lv_at hl 0 rfl) ?_
    refine lv_iload_n hx hb dX6_carry_22 rfl (lv_at hl 1 rfl) ?_
    have hV : rfV G ad ce T Q M := ⟨_, _, _, _, ⟨h100, h101, h102, h103, h104, h105, h106, h107, h108, h109, h110, h111⟩, hQ, hM⟩
    refine z_invV F (rest := []) (r_take0 l T Q M hV ((Q 0).headD []) ((Q 0).tail) hq) yv_X6_149 ⟨Nat.le_of_ble_eq_true rfl, Nat.le_of_ble_eq_true rfl⟩ hw hA hS hl h100 rfl rfl rfl (Nat.le_of_ble_eq_true rfl) dX6_carry_23 ⟨Nat.le_of_ble_eq_true rfl, Nat.le_of_ble_eq_true rfl⟩ (fun r ad1 ce2 H locs hp hw hS => ?_)
    obtain ⟨rfl, rfl, hV, hF2⟩ := hp
    have hF : ∀ j, j < 100 → ce2 j = ce j := fun j hj => (hF2 j hj).trans (hF j hj)
    obtain ⟨cn, zs, bs, hh, ⟨h100, h101, h102, h103, h104, h105, h106, h107, h108, h109, h110, h111⟩, hQ, hM⟩ := hV
    refine W.eq (g2 := F0 m 26 ls []) rfl ?_
    refine lv_aload_n hx hb dX6_carry_26 rfl (lv_at hl 0 rfl) ?_
    refine z_get F hw h100 fd_X6_48_X6 rfl dX6_carry_27 ?_
    refine lv_iconst (v := 1) hx hb dX6_carry_30 (by decide) ?_
    refine z_ld F hw h111 (1) (rfl) (by decide) (by decide) dX6_carry_31 ?_
    refine z_top (nI (((Q 0).headD []).getD 1 0)) ((hM.2 1 (by omega)).1) ?_
    refine lv_istore_n (lv' := [(2, .int (nI (((Q 0).headD []).getD 1 0))), (0, .ref (ad 100)), (1, .int 0)]) hx hb dX6_carry_32 rfl hl (by decide) rfl (fun ls hl => ?_)
    refine lv_aload_n hx hb dX6_carry_33 rfl (lv_at hl 1 rfl) ?_
    have hV : rfV G ad ce2 T (va_up Q 0 ((Q 0).tail)) ((Q 0).headD []) := ⟨_, _, _, _, ⟨h100, h101, h102, h103, h104, h105, h106, h107, h108, h109, h110, h111⟩, hQ, hM⟩
    refine z_invV F (rest := []) (r_isGood l T (va_up Q 0 ((Q 0).tail)) ((Q 0).headD []) hV hx2) yv_X6_152 ⟨Nat.le_of_ble_eq_true rfl, Nat.le_of_ble_eq_true rfl⟩ hw hA hS hl h100 rfl rfl rfl (Nat.le_of_ble_eq_true rfl) dX6_carry_34 ⟨Nat.le_of_ble_eq_true rfl, Nat.le_of_ble_eq_true rfl⟩ (fun r ad1 ce3 H locs hp hw hS => ?_)
    obtain ⟨hp, rfl, rfl⟩ := hp
    rcases hp with ⟨hg, rfl⟩ | ⟨hg, rfl⟩
    · refine W.eq (g2 := F0 m 37 ls [.int 1]) rfl ?_
      refine lv_if_eq (tgt := 115) hx hb dX6_carry_37 (by decide) (fun c37 => absurd c37 (by decide)) (fun c37 => ?_)
      refine lv_aload_n hx hb dX6_carry_40 rfl (lv_at hl 1 rfl) ?_
      refine z_get F hw h100 fd_X6_48_X6 rfl dX6_carry_41 ?_
      refine lv_iconst (v := 0) hx hb dX6_carry_44 (by decide) ?_
      refine z_ld F hw h111 (0) (rfl) (by decide) (by decide) dX6_carry_45 ?_
      refine z_top (nI (((Q 0).headD []).getD 0 0)) ((hM.2 0 (by omega)).1) ?_
      refine lv_iconst (v := 5) hx hb dX6_carry_46 (by decide) ?_
      refine lv_icmp_ne (tgt := 77) hx hb dX6_carry_47 (by decide) (fun c47 => ?_) (fun c47 => ?_)
      · refine lv_aload_n hx hb dX6_carry_77 rfl (lv_at hl 1 rfl) ?_
        refine z_get F hw h100 fd_X6_48_X6 rfl dX6_carry_78 ?_
        refine lv_iconst (v := 0) hx hb dX6_carry_81 (by decide) ?_
        refine z_ld F hw h111 (0) (rfl) (by decide) (by decide) dX6_carry_82 ?_
        refine z_top (nI (((Q 0).headD []).getD 0 0)) ((hM.2 0 (by omega)).1) ?_
        refine lv_iconst (v := 3) hx hb dX6_carry_83 (by decide) ?_
        refine lv_icmp_ne (tgt := 115) hx hb dX6_carry_84 (by decide) (fun c84 => ?_) (fun c84 => ?_)
        · refine lv_iconst (v := 0) hx hb dX6_carry_115 (by decide) ?_
          refine lv_istore_n (lv' := [(3, .int 0), (2, .int (nI (((Q 0).headD []).getD 1 0))), (0, .ref (ad 100)), (1, .int 0)]) hx hb dX6_carry_116 rfl hl (by decide) rfl (fun ls hl => ?_)
          refine lv_aload_n hx hb dX6_carry_117 rfl (lv_at hl 2 rfl) ?_
          refine lv_iload_n hx hb dX6_carry_118 rfl (lv_at hl 0 rfl) ?_
          refine lv_if_eq (tgt := 129) hx hb dX6_carry_119 (by decide) (fun c119 => ?_) (fun c119 => absurd c119 (by decide))
          refine lv_aload_n hx hb dX6_carry_129 rfl (lv_at hl 2 rfl) ?_
          refine z_get F hw h100 fd_X6_168_X6 rfl dX6_carry_130 ?_
          refine lv_iconst (v := 1) hx hb dX6_carry_133 (by decide) ?_
          refine lv_iadd hx hb dX6_carry_134 ?_
          refine z_put F hw hS (fs' := [.int (T 0 0), .int (T 0 1), .int (T 0 2), .int (T 0 3), .int (T 0 4), .ref (ad 101), .ref (ad 102), .ref (ad 103), .int ((T 0 5) + 1), .ref (ad 104), .ref (ad 105), .ref (ad 106), .ref (ad 107), .ref (ad 108), .int (T 0 6), .int (T 0 7), .int (T 0 8), .ref (ad 109), .int (T 0 9), .ref (ad 110), .int (T 0 10), .int (nI (((Q 0).headD [])).length), .ref (ad 111)]) h100 fd_X6_168_X6 ptX6 rfl (rfl) (rfl) (Nat.le_of_ble_eq_true rfl) rfl dX6_carry_135 (fun ce4 H locs h100 fr5 hw hS => ?_)
          have h101 := (fr5 101 (by decide)).trans h101
          have h102 := (fr5 102 (by decide)).trans h102
          have h103 := (fr5 103 (by decide)).trans h103
          have h104 := (fr5 104 (by decide)).trans h104
          have h105 := (fr5 105 (by decide)).trans h105
          have h106 := (fr5 106 (by decide)).trans h106
          have h107 := (fr5 107 (by decide)).trans h107
          have h108 := (fr5 108 (by decide)).trans h108
          have h109 := (fr5 109 (by decide)).trans h109
          have h110 := (fr5 110 (by decide)).trans h110
          have h111 := (fr5 111 (by decide)).trans h111
          have hF : ∀ j, j < 100 → _ = ce j := fun j hj => (fr5 j (by omega)).trans (hF j hj)
          refine lv_iload_n hx hb dX6_carry_138 rfl (lv_at hl 0 rfl) ?_
          refine lv_if_eq (tgt := 146) hx hb dX6_carry_139 (by decide) (fun c139 => ?_) (fun c139 => absurd c139 (by decide))
          refine lv_iload_n hx hb dX6_carry_146 rfl (lv_at hl 1 rfl) ?_
          refine lv_sipush (v := 1000) hx hb dX6_carry_147 (by decide) ?_
          refine lv_iadd hx hb dX6_carry_150 ?_
          exact z_iret F (rfl) hw hS (by unfold sp_carry0; rw [if_neg c15, if_pos hg, if_neg c47, if_neg c84]; exact ⟨rfl, rfl, ⟨_, ⟨_, _, _, _, ⟨h100, h101, h102, h103, h104, h105, h106, h107, h108, h109, h110, h111⟩, hQ, hM⟩⟩, hF⟩) dX6_carry_151
        · refine lv_iload_n hx hb dX6_carry_87 rfl (lv_at hl 2 rfl) ?_
          refine lv_iconst (v := 1) hx hb dX6_carry_88 (by decide) ?_
          refine lv_icmp_ne (tgt := 103) hx hb dX6_carry_89 (by decide) (fun c89 => ?_) (fun c89 => absurd c89 (by decide))
          refine lv_aload_n hx hb dX6_carry_103 rfl (lv_at hl 1 rfl) ?_
          refine lv_iload_n hx hb dX6_carry_104 rfl (lv_at hl 0 rfl) ?_
          have hV : rfV G ad ce2 T (va_up Q 0 ((Q 0).tail)) ((Q 0).headD []) := ⟨_, _, _, _, ⟨h100, h101, h102, h103, h104, h105, h106, h107, h108, h109, h110, h111⟩, hQ, hM⟩
          refine z_invV F (rest := []) (r_networkCalls l T (va_up Q 0 ((Q 0).tail)) ((Q 0).headD []) hV hg (((Q 0).headD []).getD 1 0) (hM.2 1 (by omega)).2) yv_X6_165 ⟨Nat.le_of_ble_eq_true rfl, Nat.le_of_ble_eq_true rfl⟩ hw hA hS hl h100 rfl rfl rfl (Nat.le_of_ble_eq_true rfl) dX6_carry_105 ⟨Nat.le_of_ble_eq_true rfl, Nat.le_of_ble_eq_true rfl⟩ (fun r ad1 ce6 H locs hp hw hS => ?_)
          obtain ⟨rfl, rfl, hV, hF2⟩ := hp
          have hF : ∀ j, j < 100 → ce6 j = ce j := fun j hj => (hF2 j hj).trans (hF j hj)
          obtain ⟨cn, zs, bs, hh, ⟨h100, h101, h102, h103, h104, h105, h106, h107, h108, h109, h110, h111⟩, hQ, hM⟩ := hV
          refine W.eq (g2 := F0 m 108 ls [.int ((sp_networkCalls T (va_up Q 0 ((Q 0).tail)) ((Q 0).headD []) (((Q 0).headD []).getD 1 0)).1)]) rfl ?_
          refine lv_if_eq (tgt := 115) hx hb dX6_carry_108 (by decide) (fun c108 => ?_) (fun c108 => ?_)
          · refine lv_iconst (v := 0) hx hb dX6_carry_115 (by decide) ?_
            refine lv_istore_n (lv' := [(3, .int 0), (2, .int (nI (((Q 0).headD []).getD 1 0))), (0, .ref (ad 100)), (1, .int 0)]) hx hb dX6_carry_116 rfl hl (by decide) rfl (fun ls hl => ?_)
            refine lv_aload_n hx hb dX6_carry_117 rfl (lv_at hl 2 rfl) ?_
            refine lv_iload_n hx hb dX6_carry_118 rfl (lv_at hl 0 rfl) ?_
            refine lv_if_eq (tgt := 129) hx hb dX6_carry_119 (by decide) (fun c119 => ?_) (fun c119 => absurd c119 (by decide))
            refine lv_aload_n hx hb dX6_carry_129 rfl (lv_at hl 2 rfl) ?_
            refine z_get F hw h100 fd_X6_168_X6 rfl dX6_carry_130 ?_
            refine lv_iconst (v := 1) hx hb dX6_carry_133 (by decide) ?_
            refine lv_iadd hx hb dX6_carry_134 ?_
            refine z_put F hw hS (fs' := [.int (((sp_networkCalls T (va_up Q 0 ((Q 0).tail)) ((Q 0).headD []) (((Q 0).headD []).getD 1 0)).2.1) 0 0), .int (((sp_networkCalls T (va_up Q 0 ((Q 0).tail)) ((Q 0).headD []) (((Q 0).headD []).getD 1 0)).2.1) 0 1), .int (((sp_networkCalls T (va_up Q 0 ((Q 0).tail)) ((Q 0).headD []) (((Q 0).headD []).getD 1 0)).2.1) 0 2), .int (((sp_networkCalls T (va_up Q 0 ((Q 0).tail)) ((Q 0).headD []) (((Q 0).headD []).getD 1 0)).2.1) 0 3), .int (((sp_networkCalls T (va_up Q 0 ((Q 0).tail)) ((Q 0).headD []) (((Q 0).headD []).getD 1 0)).2.1) 0 4), .ref (ad 101), .ref (ad 102), .ref (ad 103), .int ((((sp_networkCalls T (va_up Q 0 ((Q 0).tail)) ((Q 0).headD []) (((Q 0).headD []).getD 1 0)).2.1) 0 5) + 1), .ref (ad 104), .ref (ad 105), .ref (ad 106), .ref (ad 107), .ref (ad 108), .int (((sp_networkCalls T (va_up Q 0 ((Q 0).tail)) ((Q 0).headD []) (((Q 0).headD []).getD 1 0)).2.1) 0 6), .int (((sp_networkCalls T (va_up Q 0 ((Q 0).tail)) ((Q 0).headD []) (((Q 0).headD []).getD 1 0)).2.1) 0 7), .int (((sp_networkCalls T (va_up Q 0 ((Q 0).tail)) ((Q 0).headD []) (((Q 0).headD []).getD 1 0)).2.1) 0 8), .ref (ad 109), .int (((sp_networkCalls T (va_up Q 0 ((Q 0).tail)) ((Q 0).headD []) (((Q 0).headD []).getD 1 0)).2.1) 0 9), .ref (ad 110), .int (((sp_networkCalls T (va_up Q 0 ((Q 0).tail)) ((Q 0).headD []) (((Q 0).headD []).getD 1 0)).2.1) 0 10), .int (nI (((Q 0).headD [])).length), .ref (ad 111)]) h100 fd_X6_168_X6 ptX6 rfl (rfl) (rfl) (Nat.le_of_ble_eq_true rfl) rfl dX6_carry_135 (fun ce7 H locs h100 fr8 hw hS => ?_)
            have h101 := (fr8 101 (by decide)).trans h101
            have h102 := (fr8 102 (by decide)).trans h102
            have h103 := (fr8 103 (by decide)).trans h103
            have h104 := (fr8 104 (by decide)).trans h104
            have h105 := (fr8 105 (by decide)).trans h105
            have h106 := (fr8 106 (by decide)).trans h106
            have h107 := (fr8 107 (by decide)).trans h107
            have h108 := (fr8 108 (by decide)).trans h108
            have h109 := (fr8 109 (by decide)).trans h109
            have h110 := (fr8 110 (by decide)).trans h110
            have h111 := (fr8 111 (by decide)).trans h111
            have hF : ∀ j, j < 100 → _ = ce j := fun j hj => (fr8 j (by omega)).trans (hF j hj)
            refine lv_iload_n hx hb dX6_carry_138 rfl (lv_at hl 0 rfl) ?_
            refine lv_if_eq (tgt := 146) hx hb dX6_carry_139 (by decide) (fun c139 => ?_) (fun c139 => absurd c139 (by decide))
            refine lv_iload_n hx hb dX6_carry_146 rfl (lv_at hl 1 rfl) ?_
            refine lv_sipush (v := 1000) hx hb dX6_carry_147 (by decide) ?_
            refine lv_iadd hx hb dX6_carry_150 ?_
            exact z_iret F (rfl) hw hS (by unfold sp_carry0; rw [if_neg c15, if_pos hg, if_neg c47, if_pos c84, if_pos c108]; exact ⟨rfl, rfl, ⟨_, ⟨_, _, _, _, ⟨h100, h101, h102, h103, h104, h105, h106, h107, h108, h109, h110, h111⟩, hQ, hM⟩⟩, hF⟩) dX6_carry_151
          · refine lv_iconst (v := 1) hx hb dX6_carry_111 (by decide) ?_
            refine lv_goto (tgt := 116) hx hb dX6_carry_112 (by decide) ?_
            refine lv_istore_n (lv' := [(3, .int 1), (2, .int (nI (((Q 0).headD []).getD 1 0))), (0, .ref (ad 100)), (1, .int 0)]) hx hb dX6_carry_116 rfl hl (by decide) rfl (fun ls hl => ?_)
            refine lv_aload_n hx hb dX6_carry_117 rfl (lv_at hl 2 rfl) ?_
            refine lv_iload_n hx hb dX6_carry_118 rfl (lv_at hl 0 rfl) ?_
            refine lv_if_eq (tgt := 129) hx hb dX6_carry_119 (by decide) (fun c119 => absurd c119 (by decide)) (fun c119 => ?_)
            refine lv_aload_n hx hb dX6_carry_122 rfl (lv_at hl 2 rfl) ?_
            refine z_get F hw h100 fd_X6_168_X6 rfl dX6_carry_123 ?_
            refine lv_goto (tgt := 135) hx hb dX6_carry_126 (by decide) ?_
            refine z_put F hw hS (fs' := [.int (((sp_networkCalls T (va_up Q 0 ((Q 0).tail)) ((Q 0).headD []) (((Q 0).headD []).getD 1 0)).2.1) 0 0), .int (((sp_networkCalls T (va_up Q 0 ((Q 0).tail)) ((Q 0).headD []) (((Q 0).headD []).getD 1 0)).2.1) 0 1), .int (((sp_networkCalls T (va_up Q 0 ((Q 0).tail)) ((Q 0).headD []) (((Q 0).headD []).getD 1 0)).2.1) 0 2), .int (((sp_networkCalls T (va_up Q 0 ((Q 0).tail)) ((Q 0).headD []) (((Q 0).headD []).getD 1 0)).2.1) 0 3), .int (((sp_networkCalls T (va_up Q 0 ((Q 0).tail)) ((Q 0).headD []) (((Q 0).headD []).getD 1 0)).2.1) 0 4), .ref (ad 101), .ref (ad 102), .ref (ad 103), .int (((sp_networkCalls T (va_up Q 0 ((Q 0).tail)) ((Q 0).headD []) (((Q 0).headD []).getD 1 0)).2.1) 0 5), .ref (ad 104), .ref (ad 105), .ref (ad 106), .ref (ad 107), .ref (ad 108), .int (((sp_networkCalls T (va_up Q 0 ((Q 0).tail)) ((Q 0).headD []) (((Q 0).headD []).getD 1 0)).2.1) 0 6), .int (((sp_networkCalls T (va_up Q 0 ((Q 0).tail)) ((Q 0).headD []) (((Q 0).headD []).getD 1 0)).2.1) 0 7), .int (((sp_networkCalls T (va_up Q 0 ((Q 0).tail)) ((Q 0).headD []) (((Q 0).headD []).getD 1 0)).2.1) 0 8), .ref (ad 109), .int (((sp_networkCalls T (va_up Q 0 ((Q 0).tail)) ((Q 0).headD []) (((Q 0).headD []).getD 1 0)).2.1) 0 9), .ref (ad 110), .int (((sp_networkCalls T (va_up Q 0 ((Q 0).tail)) ((Q 0).headD []) (((Q 0).headD []).getD 1 0)).2.1) 0 10), .int (nI (((Q 0).headD [])).length), .ref (ad 111)]) h100 fd_X6_168_X6 ptX6 rfl (rfl) (rfl) (Nat.le_of_ble_eq_true rfl) rfl dX6_carry_135 (fun ce9 H locs h100 fr10 hw hS => ?_)
            have h101 := (fr10 101 (by decide)).trans h101
            have h102 := (fr10 102 (by decide)).trans h102
            have h103 := (fr10 103 (by decide)).trans h103
            have h104 := (fr10 104 (by decide)).trans h104
            have h105 := (fr10 105 (by decide)).trans h105
            have h106 := (fr10 106 (by decide)).trans h106
            have h107 := (fr10 107 (by decide)).trans h107
            have h108 := (fr10 108 (by decide)).trans h108
            have h109 := (fr10 109 (by decide)).trans h109
            have h110 := (fr10 110 (by decide)).trans h110
            have h111 := (fr10 111 (by decide)).trans h111
            have hF : ∀ j, j < 100 → _ = ce j := fun j hj => (fr10 j (by omega)).trans (hF j hj)
            refine lv_iload_n hx hb dX6_carry_138 rfl (lv_at hl 0 rfl) ?_
            refine lv_if_eq (tgt := 146) hx hb dX6_carry_139 (by decide) (fun c139 => absurd c139 (by decide)) (fun c139 => ?_)
            refine lv_iload_n hx hb dX6_carry_142 rfl (lv_at hl 1 rfl) ?_
            refine lv_goto (tgt := 151) hx hb dX6_carry_143 (by decide) ?_
            exact z_iret F (rfl) hw hS (by unfold sp_carry0; rw [if_neg c15, if_pos hg, if_neg c47, if_pos c84, if_neg c108]; exact ⟨rfl, rfl, ⟨_, ⟨_, _, _, _, ⟨h100, h101, h102, h103, h104, h105, h106, h107, h108, h109, h110, h111⟩, hQ, hM⟩⟩, hF⟩) dX6_carry_151
      · refine lv_iload_n hx hb dX6_carry_50 rfl (lv_at hl 2 rfl) ?_
        refine lv_iconst (v := 1) hx hb dX6_carry_51 (by decide) ?_
        refine lv_icmp_ne (tgt := 66) hx hb dX6_carry_52 (by decide) (fun c52 => ?_) (fun c52 => absurd c52 (by decide))
        refine lv_aload_n hx hb dX6_carry_66 rfl (lv_at hl 1 rfl) ?_
        refine lv_iload_n hx hb dX6_carry_67 rfl (lv_at hl 0 rfl) ?_
        have hV : rfV G ad ce2 T (va_up Q 0 ((Q 0).tail)) ((Q 0).headD []) := ⟨_, _, _, _, ⟨h100, h101, h102, h103, h104, h105, h106, h107, h108, h109, h110, h111⟩, hQ, hM⟩
        refine z_invV F (rest := []) (r_networkMoves l T (va_up Q 0 ((Q 0).tail)) ((Q 0).headD []) hV hg (((Q 0).headD []).getD 1 0) (hM.2 1 (by omega)).2) yv_X6_159 ⟨Nat.le_of_ble_eq_true rfl, Nat.le_of_ble_eq_true rfl⟩ hw hA hS hl h100 rfl rfl rfl (Nat.le_of_ble_eq_true rfl) dX6_carry_68 ⟨Nat.le_of_ble_eq_true rfl, Nat.le_of_ble_eq_true rfl⟩ (fun r ad1 ce11 H locs hp hw hS => ?_)
        obtain ⟨rfl, rfl, hV, hF2⟩ := hp
        have hF : ∀ j, j < 100 → ce11 j = ce j := fun j hj => (hF2 j hj).trans (hF j hj)
        obtain ⟨cn, zs, bs, hh, ⟨h100, h101, h102, h103, h104, h105, h106, h107, h108, h109, h110, h111⟩, hQ, hM⟩ := hV
        refine W.eq (g2 := F0 m 71 ls [.int ((sp_networkMoves T (va_up Q 0 ((Q 0).tail)) ((Q 0).headD []) (((Q 0).headD []).getD 1 0)).1)]) rfl ?_
        refine lv_if_eq (tgt := 115) hx hb dX6_carry_71 (by decide) (fun c71 => ?_) (fun c71 => ?_)
        · refine lv_iconst (v := 0) hx hb dX6_carry_115 (by decide) ?_
          refine lv_istore_n (lv' := [(3, .int 0), (2, .int (nI (((Q 0).headD []).getD 1 0))), (0, .ref (ad 100)), (1, .int 0)]) hx hb dX6_carry_116 rfl hl (by decide) rfl (fun ls hl => ?_)
          refine lv_aload_n hx hb dX6_carry_117 rfl (lv_at hl 2 rfl) ?_
          refine lv_iload_n hx hb dX6_carry_118 rfl (lv_at hl 0 rfl) ?_
          refine lv_if_eq (tgt := 129) hx hb dX6_carry_119 (by decide) (fun c119 => ?_) (fun c119 => absurd c119 (by decide))
          refine lv_aload_n hx hb dX6_carry_129 rfl (lv_at hl 2 rfl) ?_
          refine z_get F hw h100 fd_X6_168_X6 rfl dX6_carry_130 ?_
          refine lv_iconst (v := 1) hx hb dX6_carry_133 (by decide) ?_
          refine lv_iadd hx hb dX6_carry_134 ?_
          refine z_put F hw hS (fs' := [.int (((sp_networkMoves T (va_up Q 0 ((Q 0).tail)) ((Q 0).headD []) (((Q 0).headD []).getD 1 0)).2.1) 0 0), .int (((sp_networkMoves T (va_up Q 0 ((Q 0).tail)) ((Q 0).headD []) (((Q 0).headD []).getD 1 0)).2.1) 0 1), .int (((sp_networkMoves T (va_up Q 0 ((Q 0).tail)) ((Q 0).headD []) (((Q 0).headD []).getD 1 0)).2.1) 0 2), .int (((sp_networkMoves T (va_up Q 0 ((Q 0).tail)) ((Q 0).headD []) (((Q 0).headD []).getD 1 0)).2.1) 0 3), .int (((sp_networkMoves T (va_up Q 0 ((Q 0).tail)) ((Q 0).headD []) (((Q 0).headD []).getD 1 0)).2.1) 0 4), .ref (ad 101), .ref (ad 102), .ref (ad 103), .int ((((sp_networkMoves T (va_up Q 0 ((Q 0).tail)) ((Q 0).headD []) (((Q 0).headD []).getD 1 0)).2.1) 0 5) + 1), .ref (ad 104), .ref (ad 105), .ref (ad 106), .ref (ad 107), .ref (ad 108), .int (((sp_networkMoves T (va_up Q 0 ((Q 0).tail)) ((Q 0).headD []) (((Q 0).headD []).getD 1 0)).2.1) 0 6), .int (((sp_networkMoves T (va_up Q 0 ((Q 0).tail)) ((Q 0).headD []) (((Q 0).headD []).getD 1 0)).2.1) 0 7), .int (((sp_networkMoves T (va_up Q 0 ((Q 0).tail)) ((Q 0).headD []) (((Q 0).headD []).getD 1 0)).2.1) 0 8), .ref (ad 109), .int (((sp_networkMoves T (va_up Q 0 ((Q 0).tail)) ((Q 0).headD []) (((Q 0).headD []).getD 1 0)).2.1) 0 9), .ref (ad 110), .int (((sp_networkMoves T (va_up Q 0 ((Q 0).tail)) ((Q 0).headD []) (((Q 0).headD []).getD 1 0)).2.1) 0 10), .int (nI (((Q 0).headD [])).length), .ref (ad 111)]) h100 fd_X6_168_X6 ptX6 rfl (rfl) (rfl) (Nat.le_of_ble_eq_true rfl) rfl dX6_carry_135 (fun ce12 H locs h100 fr13 hw hS => ?_)
          have h101 := (fr13 101 (by decide)).trans h101
          have h102 := (fr13 102 (by decide)).trans h102
          have h103 := (fr13 103 (by decide)).trans h103
          have h104 := (fr13 104 (by decide)).trans h104
          have h105 := (fr13 105 (by decide)).trans h105
          have h106 := (fr13 106 (by decide)).trans h106
          have h107 := (fr13 107 (by decide)).trans h107
          have h108 := (fr13 108 (by decide)).trans h108
          have h109 := (fr13 109 (by decide)).trans h109
          have h110 := (fr13 110 (by decide)).trans h110
          have h111 := (fr13 111 (by decide)).trans h111
          have hF : ∀ j, j < 100 → _ = ce j := fun j hj => (fr13 j (by omega)).trans (hF j hj)
          refine lv_iload_n hx hb dX6_carry_138 rfl (lv_at hl 0 rfl) ?_
          refine lv_if_eq (tgt := 146) hx hb dX6_carry_139 (by decide) (fun c139 => ?_) (fun c139 => absurd c139 (by decide))
          refine lv_iload_n hx hb dX6_carry_146 rfl (lv_at hl 1 rfl) ?_
          refine lv_sipush (v := 1000) hx hb dX6_carry_147 (by decide) ?_
          refine lv_iadd hx hb dX6_carry_150 ?_
          exact z_iret F (rfl) hw hS (by unfold sp_carry0; rw [if_neg c15, if_pos hg, if_pos c47, if_pos c71]; exact ⟨rfl, rfl, ⟨_, ⟨_, _, _, _, ⟨h100, h101, h102, h103, h104, h105, h106, h107, h108, h109, h110, h111⟩, hQ, hM⟩⟩, hF⟩) dX6_carry_151
        · refine lv_goto (tgt := 111) hx hb dX6_carry_74 (by decide) ?_
          refine lv_iconst (v := 1) hx hb dX6_carry_111 (by decide) ?_
          refine lv_goto (tgt := 116) hx hb dX6_carry_112 (by decide) ?_
          refine lv_istore_n (lv' := [(3, .int 1), (2, .int (nI (((Q 0).headD []).getD 1 0))), (0, .ref (ad 100)), (1, .int 0)]) hx hb dX6_carry_116 rfl hl (by decide) rfl (fun ls hl => ?_)
          refine lv_aload_n hx hb dX6_carry_117 rfl (lv_at hl 2 rfl) ?_
          refine lv_iload_n hx hb dX6_carry_118 rfl (lv_at hl 0 rfl) ?_
          refine lv_if_eq (tgt := 129) hx hb dX6_carry_119 (by decide) (fun c119 => absurd c119 (by decide)) (fun c119 => ?_)
          refine lv_aload_n hx hb dX6_carry_122 rfl (lv_at hl 2 rfl) ?_
          refine z_get F hw h100 fd_X6_168_X6 rfl dX6_carry_123 ?_
          refine lv_goto (tgt := 135) hx hb dX6_carry_126 (by decide) ?_
          refine z_put F hw hS (fs' := [.int (((sp_networkMoves T (va_up Q 0 ((Q 0).tail)) ((Q 0).headD []) (((Q 0).headD []).getD 1 0)).2.1) 0 0), .int (((sp_networkMoves T (va_up Q 0 ((Q 0).tail)) ((Q 0).headD []) (((Q 0).headD []).getD 1 0)).2.1) 0 1), .int (((sp_networkMoves T (va_up Q 0 ((Q 0).tail)) ((Q 0).headD []) (((Q 0).headD []).getD 1 0)).2.1) 0 2), .int (((sp_networkMoves T (va_up Q 0 ((Q 0).tail)) ((Q 0).headD []) (((Q 0).headD []).getD 1 0)).2.1) 0 3), .int (((sp_networkMoves T (va_up Q 0 ((Q 0).tail)) ((Q 0).headD []) (((Q 0).headD []).getD 1 0)).2.1) 0 4), .ref (ad 101), .ref (ad 102), .ref (ad 103), .int (((sp_networkMoves T (va_up Q 0 ((Q 0).tail)) ((Q 0).headD []) (((Q 0).headD []).getD 1 0)).2.1) 0 5), .ref (ad 104), .ref (ad 105), .ref (ad 106), .ref (ad 107), .ref (ad 108), .int (((sp_networkMoves T (va_up Q 0 ((Q 0).tail)) ((Q 0).headD []) (((Q 0).headD []).getD 1 0)).2.1) 0 6), .int (((sp_networkMoves T (va_up Q 0 ((Q 0).tail)) ((Q 0).headD []) (((Q 0).headD []).getD 1 0)).2.1) 0 7), .int (((sp_networkMoves T (va_up Q 0 ((Q 0).tail)) ((Q 0).headD []) (((Q 0).headD []).getD 1 0)).2.1) 0 8), .ref (ad 109), .int (((sp_networkMoves T (va_up Q 0 ((Q 0).tail)) ((Q 0).headD []) (((Q 0).headD []).getD 1 0)).2.1) 0 9), .ref (ad 110), .int (((sp_networkMoves T (va_up Q 0 ((Q 0).tail)) ((Q 0).headD []) (((Q 0).headD []).getD 1 0)).2.1) 0 10), .int (nI (((Q 0).headD [])).length), .ref (ad 111)]) h100 fd_X6_168_X6 ptX6 rfl (rfl) (rfl) (Nat.le_of_ble_eq_true rfl) rfl dX6_carry_135 (fun ce14 H locs h100 fr15 hw hS => ?_)
          have h101 := (fr15 101 (by decide)).trans h101
          have h102 := (fr15 102 (by decide)).trans h102
          have h103 := (fr15 103 (by decide)).trans h103
          have h104 := (fr15 104 (by decide)).trans h104
          have h105 := (fr15 105 (by decide)).trans h105
          have h106 := (fr15 106 (by decide)).trans h106
          have h107 := (fr15 107 (by decide)).trans h107
          have h108 := (fr15 108 (by decide)).trans h108
          have h109 := (fr15 109 (by decide)).trans h109
          have h110 := (fr15 110 (by decide)).trans h110
          have h111 := (fr15 111 (by decide)).trans h111
          have hF : ∀ j, j < 100 → _ = ce j := fun j hj => (fr15 j (by omega)).trans (hF j hj)
          refine lv_iload_n hx hb dX6_carry_138 rfl (lv_at hl 0 rfl) ?_
          refine lv_if_eq (tgt := 146) hx hb dX6_carry_139 (by decide) (fun c139 => absurd c139 (by decide)) (fun c139 => ?_)
          refine lv_iload_n hx hb dX6_carry_142 rfl (lv_at hl 1 rfl) ?_
          refine lv_goto (tgt := 151) hx hb dX6_carry_143 (by decide) ?_
          exact z_iret F (rfl) hw hS (by unfold sp_carry0; rw [if_neg c15, if_pos hg, if_pos c47, if_neg c71]; exact ⟨rfl, rfl, ⟨_, ⟨_, _, _, _, ⟨h100, h101, h102, h103, h104, h105, h106, h107, h108, h109, h110, h111⟩, hQ, hM⟩⟩, hF⟩) dX6_carry_151
    · refine W.eq (g2 := F0 m 37 ls [.int 0]) rfl ?_
      refine lv_if_eq (tgt := 115) hx hb dX6_carry_37 (by decide) (fun c37 => ?_) (fun c37 => absurd c37 (by decide))
      refine lv_iconst (v := 0) hx hb dX6_carry_115 (by decide) ?_
      refine lv_istore_n (lv' := [(3, .int 0), (2, .int (nI (((Q 0).headD []).getD 1 0))), (0, .ref (ad 100)), (1, .int 0)]) hx hb dX6_carry_116 rfl hl (by decide) rfl (fun ls hl => ?_)
      refine lv_aload_n hx hb dX6_carry_117 rfl (lv_at hl 2 rfl) ?_
      refine lv_iload_n hx hb dX6_carry_118 rfl (lv_at hl 0 rfl) ?_
      refine lv_if_eq (tgt := 129) hx hb dX6_carry_119 (by decide) (fun c119 => ?_) (fun c119 => absurd c119 (by decide))
      refine lv_aload_n hx hb dX6_carry_129 rfl (lv_at hl 2 rfl) ?_
      refine z_get F hw h100 fd_X6_168_X6 rfl dX6_carry_130 ?_
      refine lv_iconst (v := 1) hx hb dX6_carry_133 (by decide) ?_
      refine lv_iadd hx hb dX6_carry_134 ?_
      refine z_put F hw hS (fs' := [.int (T 0 0), .int (T 0 1), .int (T 0 2), .int (T 0 3), .int (T 0 4), .ref (ad 101), .ref (ad 102), .ref (ad 103), .int ((T 0 5) + 1), .ref (ad 104), .ref (ad 105), .ref (ad 106), .ref (ad 107), .ref (ad 108), .int (T 0 6), .int (T 0 7), .int (T 0 8), .ref (ad 109), .int (T 0 9), .ref (ad 110), .int (T 0 10), .int (nI (((Q 0).headD [])).length), .ref (ad 111)]) h100 fd_X6_168_X6 ptX6 rfl (rfl) (rfl) (Nat.le_of_ble_eq_true rfl) rfl dX6_carry_135 (fun ce16 H locs h100 fr17 hw hS => ?_)
      have h101 := (fr17 101 (by decide)).trans h101
      have h102 := (fr17 102 (by decide)).trans h102
      have h103 := (fr17 103 (by decide)).trans h103
      have h104 := (fr17 104 (by decide)).trans h104
      have h105 := (fr17 105 (by decide)).trans h105
      have h106 := (fr17 106 (by decide)).trans h106
      have h107 := (fr17 107 (by decide)).trans h107
      have h108 := (fr17 108 (by decide)).trans h108
      have h109 := (fr17 109 (by decide)).trans h109
      have h110 := (fr17 110 (by decide)).trans h110
      have h111 := (fr17 111 (by decide)).trans h111
      have hF : ∀ j, j < 100 → _ = ce j := fun j hj => (fr17 j (by omega)).trans (hF j hj)
      refine lv_iload_n hx hb dX6_carry_138 rfl (lv_at hl 0 rfl) ?_
      refine lv_if_eq (tgt := 146) hx hb dX6_carry_139 (by decide) (fun c139 => ?_) (fun c139 => absurd c139 (by decide))
      refine lv_iload_n hx hb dX6_carry_146 rfl (lv_at hl 1 rfl) ?_
      refine lv_sipush (v := 1000) hx hb dX6_carry_147 (by decide) ?_
      refine lv_iadd hx hb dX6_carry_150 ?_
      exact z_iret F (rfl) hw hS (by unfold sp_carry0; rw [if_neg c15, if_neg hg]; exact ⟨rfl, rfl, ⟨_, ⟨_, _, _, _, ⟨h100, h101, h102, h103, h104, h105, h106, h107, h108, h109, h110, h111⟩, hQ, hM⟩⟩, hF⟩) dX6_carry_151
  · refine lv_bipush (v := -3) hx hb dX6_carry_18 (by decide) ?_
    exact z_iret F (rfl) hw hS (by unfold sp_carry0; rw [if_pos c15]; exact ⟨rfl, rfl, ⟨_, ⟨_, _, _, _, ⟨h100, h101, h102, h103, h104, h105, h106, h107, h108, h109, h110, h111⟩, hQ, hM⟩⟩, hF⟩) dX6_carry_20
def sp_carry1 (T : rf_T) (Q : rf_Q) (M : List Nat) (d : Nat) : rf_R := (if ((nI (Q 1).length) : Int32) = 0 then ((-3), T, Q) else (if rf_good ((Q 1).headD []) then (if ((nI (((Q 1).headD []).getD 0 0)) : Int32) = 5 then (if (((sp_mobileMoves T (va_up Q 1 ((Q 1).tail)) ((Q 1).headD []) (((Q 1).headD []).getD 1 0) d).1) : Int32) = 0 then (((nI (((Q 1).headD []).getD 1 0)) + 1000), va_up ((sp_mobileMoves T (va_up Q 1 ((Q 1).tail)) ((Q 1).headD []) (((Q 1).headD []).getD 1 0) d).2.1) 0 (va_up (((sp_mobileMoves T (va_up Q 1 ((Q 1).tail)) ((Q 1).headD []) (((Q 1).headD []).getD 1 0) d).2.1) 0) 5 ((((sp_mobileMoves T (va_up Q 1 ((Q 1).tail)) ((Q 1).headD []) (((Q 1).headD []).getD 1 0) d).2.1) 0 5) + 1)), (sp_mobileMoves T (va_up Q 1 ((Q 1).tail)) ((Q 1).headD []) (((Q 1).headD []).getD 1 0) d).2.2) else ((nI (((Q 1).headD []).getD 1 0)), ((sp_mobileMoves T (va_up Q 1 ((Q 1).tail)) ((Q 1).headD []) (((Q 1).headD []).getD 1 0) d).2.1), (sp_mobileMoves T (va_up Q 1 ((Q 1).tail)) ((Q 1).headD []) (((Q 1).headD []).getD 1 0) d).2.2)) else (if ((nI (((Q 1).headD []).getD 0 0)) : Int32) = 3 then (if (((sp_mobileCalls T (va_up Q 1 ((Q 1).tail)) ((Q 1).headD []) (((Q 1).headD []).getD 1 0)).1) : Int32) = 0 then (((nI (((Q 1).headD []).getD 1 0)) + 1000), va_up ((sp_mobileCalls T (va_up Q 1 ((Q 1).tail)) ((Q 1).headD []) (((Q 1).headD []).getD 1 0)).2.1) 0 (va_up (((sp_mobileCalls T (va_up Q 1 ((Q 1).tail)) ((Q 1).headD []) (((Q 1).headD []).getD 1 0)).2.1) 0) 5 ((((sp_mobileCalls T (va_up Q 1 ((Q 1).tail)) ((Q 1).headD []) (((Q 1).headD []).getD 1 0)).2.1) 0 5) + 1)), (sp_mobileCalls T (va_up Q 1 ((Q 1).tail)) ((Q 1).headD []) (((Q 1).headD []).getD 1 0)).2.2) else ((nI (((Q 1).headD []).getD 1 0)), ((sp_mobileCalls T (va_up Q 1 ((Q 1).tail)) ((Q 1).headD []) (((Q 1).headD []).getD 1 0)).2.1), (sp_mobileCalls T (va_up Q 1 ((Q 1).tail)) ((Q 1).headD []) (((Q 1).headD []).getD 1 0)).2.2)) else (((nI (((Q 1).headD []).getD 1 0)) + 1000), va_up T 0 (va_up (T 0) 5 ((T 0 5) + 1)), va_up Q 1 ((Q 1).tail)))) else (((nI (((Q 1).headD []).getD 1 0)) + 1000), va_up T 0 (va_up (T 0) 5 ((T 0 5) + 1)), va_up Q 1 ((Q 1).tail))))
set_option maxHeartbeats 4000000 in
set_option maxRecDepth 100000 in
theorem r_carry1 (l : Launch) {G : zz_G} {ad : Nat → Nat} {ce : zz_C} {sz : Nat} (T : rf_T) (Q : rf_Q) (M : List Nat) (hV : rfV G ad ce T Q M) (d : Nat) (hd : d ≤ 8) (hdc : T 0 9 = nI d) : zz_M l yX6_carry cX6_carry 4 (some .int) 4 95 0 0 G [.ref (ad 100), .int 1] ad ce sz (fun r ad1 ce1 => r = some (.int (sp_carry1 T Q M d).1) ∧ ad = ad1 ∧ (∃ M1, rfV G ad ce1 (sp_carry1 T Q M d).2.1 (sp_carry1 T Q M d).2.2 M1) ∧ (∀ j, j < 100 → ce1 j = ce j)) := by
  refine zz_enter (by decide) (Nat.le_of_ble_eq_true rfl) ?_
  intro p e s m below meth c ls F hl hw hS hA
  obtain ⟨hx, hb, hr, hml, hown, hts, hlocks, hK, hnm⟩ := id F
  have hl : lv_has ls 4 [(0, .ref (ad 100)), (1, .int 1)] := hl
  obtain ⟨cn, zs, bs, hh, ⟨h100, h101, h102, h103, h104, h105, h106, h107, h108, h109, h110, h111⟩, hQ, hM⟩ := hV
  have hF : ∀ j, j < 100 → ce j = ce j := fun _ _ => rfl
  refine lv_iload_n hx hb dX6_carry_0 rfl (lv_at hl 1 rfl) ?_
  refine z_invS F (rest := []) (r_isWay l 1) ys_X6_145 ⟨Nat.le_of_ble_eq_true rfl, Nat.le_of_ble_eq_true rfl⟩ hw hA hS hl rfl rfl (Nat.le_of_ble_eq_true rfl) dX6_carry_1 ⟨Nat.le_of_ble_eq_true rfl, Nat.le_of_ble_eq_true rfl⟩ (fun r ad1 ce1 H locs hp hw hS => ?_)
  obtain ⟨hp, rfl, rfl⟩ := hp
  rcases hp with ⟨-, rfl⟩ | ⟨hn9, rfl⟩
  rotate_left
  · exact absurd (Or.inr rfl) hn9
  refine W.eq (g2 := F0 m 4 ls [.int 1]) rfl ?_
  refine lv_if_ne (tgt := 9) hx hb dX6_carry_4 (by decide) (fun c4 => ?_) (fun c4 => absurd c4 (by decide))
  refine lv_aload_n hx hb dX6_carry_9 rfl (lv_at hl 0 rfl) ?_
  refine z_get F hw h100 fd_X6_13_X6 rfl dX6_carry_10 ?_
  refine lv_iload_n hx hb dX6_carry_13 rfl (lv_at hl 1 rfl) ?_
  refine z_ld F hw h101 (1) (rfl) (by decide) (by decide) dX6_carry_14 ?_
  refine z_top (nI (Q 1).length) ((hQ 1 (by decide)).2.1) ?_
  refine lv_if_ne (tgt := 21) hx hb dX6_carry_15 (by decide) (fun c15 => ?_) (fun c15 => ?_)
  · have hq := rf_hdtl c15
    obtain ⟨hx2, hx24, -, -⟩ := rfQ_first hQ (by decide) c15
    refine lv_aload_n hx hb dX6_carry_21 rfl (lv_at hl 0 rfl) ?_
    refine lv_iload_n hx hb dX6_carry_22 rfl (lv_at hl 1 rfl) ?_
    have hV : rfV G ad ce T Q M := ⟨_, _, _, _, ⟨h100, h101, h102, h103, h104, h105, h106, h107, h108, h109, h110, h111⟩, hQ, hM⟩
    refine z_invV F (rest := []) (r_take1 l T Q M hV ((Q 1).headD []) ((Q 1).tail) hq) yv_X6_149 ⟨Nat.le_of_ble_eq_true rfl, Nat.le_of_ble_eq_true rfl⟩ hw hA hS hl h100 rfl rfl rfl (Nat.le_of_ble_eq_true rfl) dX6_carry_23 ⟨Nat.le_of_ble_eq_true rfl, Nat.le_of_ble_eq_true rfl⟩ (fun r ad1 ce2 H locs hp hw hS => ?_)
    obtain ⟨rfl, rfl, hV, hF2⟩ := hp
    have hF : ∀ j, j < 100 → ce2 j = ce j := fun j hj => (hF2 j hj).trans (hF j hj)
    obtain ⟨cn, zs, bs, hh, ⟨h100, h101, h102, h103, h104, h105, h106, h107, h108, h109, h110, h111⟩, hQ, hM⟩ := hV
    refine W.eq (g2 := F0 m 26 ls []) rfl ?_
    refine lv_aload_n hx hb dX6_carry_26 rfl (lv_at hl 0 rfl) ?_
    refine z_get F hw h100 fd_X6_48_X6 rfl dX6_carry_27 ?_
    refine lv_iconst (v := 1) hx hb dX6_carry_30 (by decide) ?_
    refine z_ld F hw h111 (1) (rfl) (by decide) (by decide) dX6_carry_31 ?_
    refine z_top (nI (((Q 1).headD []).getD 1 0)) ((hM.2 1 (by omega)).1) ?_
    refine lv_istore_n (lv' := [(2, .int (nI (((Q 1).headD []).getD 1 0))), (0, .ref (ad 100)), (1, .int 1)]) hx hb dX6_carry_32 rfl hl (by decide) rfl (fun ls hl => ?_)
    refine lv_aload_n hx hb dX6_carry_33 rfl (lv_at hl 1 rfl) ?_
    have hV : rfV G ad ce2 T (va_up Q 1 ((Q 1).tail)) ((Q 1).headD []) := ⟨_, _, _, _, ⟨h100, h101, h102, h103, h104, h105, h106, h107, h108, h109, h110, h111⟩, hQ, hM⟩
    refine z_invV F (rest := []) (r_isGood l T (va_up Q 1 ((Q 1).tail)) ((Q 1).headD []) hV hx2) yv_X6_152 ⟨Nat.le_of_ble_eq_true rfl, Nat.le_of_ble_eq_true rfl⟩ hw hA hS hl h100 rfl rfl rfl (Nat.le_of_ble_eq_true rfl) dX6_carry_34 ⟨Nat.le_of_ble_eq_true rfl, Nat.le_of_ble_eq_true rfl⟩ (fun r ad1 ce3 H locs hp hw hS => ?_)
    obtain ⟨hp, rfl, rfl⟩ := hp
    rcases hp with ⟨hg, rfl⟩ | ⟨hg, rfl⟩
    · refine W.eq (g2 := F0 m 37 ls [.int 1]) rfl ?_
      refine lv_if_eq (tgt := 115) hx hb dX6_carry_37 (by decide) (fun c37 => absurd c37 (by decide)) (fun c37 => ?_)
      refine lv_aload_n hx hb dX6_carry_40 rfl (lv_at hl 1 rfl) ?_
      refine z_get F hw h100 fd_X6_48_X6 rfl dX6_carry_41 ?_
      refine lv_iconst (v := 0) hx hb dX6_carry_44 (by decide) ?_
      refine z_ld F hw h111 (0) (rfl) (by decide) (by decide) dX6_carry_45 ?_
      refine z_top (nI (((Q 1).headD []).getD 0 0)) ((hM.2 0 (by omega)).1) ?_
      refine lv_iconst (v := 5) hx hb dX6_carry_46 (by decide) ?_
      refine lv_icmp_ne (tgt := 77) hx hb dX6_carry_47 (by decide) (fun c47 => ?_) (fun c47 => ?_)
      · refine lv_aload_n hx hb dX6_carry_77 rfl (lv_at hl 1 rfl) ?_
        refine z_get F hw h100 fd_X6_48_X6 rfl dX6_carry_78 ?_
        refine lv_iconst (v := 0) hx hb dX6_carry_81 (by decide) ?_
        refine z_ld F hw h111 (0) (rfl) (by decide) (by decide) dX6_carry_82 ?_
        refine z_top (nI (((Q 1).headD []).getD 0 0)) ((hM.2 0 (by omega)).1) ?_
        refine lv_iconst (v := 3) hx hb dX6_carry_83 (by decide) ?_
        refine lv_icmp_ne (tgt := 115) hx hb dX6_carry_84 (by decide) (fun c84 => ?_) (fun c84 => ?_)
        · refine lv_iconst (v := 0) hx hb dX6_carry_115 (by decide) ?_
          refine lv_istore_n (lv' := [(3, .int 0), (2, .int (nI (((Q 1).headD []).getD 1 0))), (0, .ref (ad 100)), (1, .int 1)]) hx hb dX6_carry_116 rfl hl (by decide) rfl (fun ls hl => ?_)
          refine lv_aload_n hx hb dX6_carry_117 rfl (lv_at hl 2 rfl) ?_
          refine lv_iload_n hx hb dX6_carry_118 rfl (lv_at hl 0 rfl) ?_
          refine lv_if_eq (tgt := 129) hx hb dX6_carry_119 (by decide) (fun c119 => ?_) (fun c119 => absurd c119 (by decide))
          refine lv_aload_n hx hb dX6_carry_129 rfl (lv_at hl 2 rfl) ?_
          refine z_get F hw h100 fd_X6_168_X6 rfl dX6_carry_130 ?_
          refine lv_iconst (v := 1) hx hb dX6_carry_133 (by decide) ?_
          refine lv_iadd hx hb dX6_carry_134 ?_
          refine z_put F hw hS (fs' := [.int (T 0 0), .int (T 0 1), .int (T 0 2), .int (T 0 3), .int (T 0 4), .ref (ad 101), .ref (ad 102), .ref (ad 103), .int ((T 0 5) + 1), .ref (ad 104), .ref (ad 105), .ref (ad 106), .ref (ad 107), .ref (ad 108), .int (T 0 6), .int (T 0 7), .int (T 0 8), .ref (ad 109), .int (T 0 9), .ref (ad 110), .int (T 0 10), .int (nI (((Q 1).headD [])).length), .ref (ad 111)]) h100 fd_X6_168_X6 ptX6 rfl (rfl) (rfl) (Nat.le_of_ble_eq_true rfl) rfl dX6_carry_135 (fun ce4 H locs h100 fr5 hw hS => ?_)
          have h101 := (fr5 101 (by decide)).trans h101
          have h102 := (fr5 102 (by decide)).trans h102
          have h103 := (fr5 103 (by decide)).trans h103
          have h104 := (fr5 104 (by decide)).trans h104
          have h105 := (fr5 105 (by decide)).trans h105
          have h106 := (fr5 106 (by decide)).trans h106
          have h107 := (fr5 107 (by decide)).trans h107
          have h108 := (fr5 108 (by decide)).trans h108
          have h109 := (fr5 109 (by decide)).trans h109
          have h110 := (fr5 110 (by decide)).trans h110
          have h111 := (fr5 111 (by decide)).trans h111
          have hF : ∀ j, j < 100 → _ = ce j := fun j hj => (fr5 j (by omega)).trans (hF j hj)
          refine lv_iload_n hx hb dX6_carry_138 rfl (lv_at hl 0 rfl) ?_
          refine lv_if_eq (tgt := 146) hx hb dX6_carry_139 (by decide) (fun c139 => ?_) (fun c139 => absurd c139 (by decide))
          refine lv_iload_n hx hb dX6_carry_146 rfl (lv_at hl 1 rfl) ?_
          refine lv_sipush (v := 1000) hx hb dX6_carry_147 (by decide) ?_
          refine lv_iadd hx hb dX6_carry_150 ?_
          exact z_iret F (rfl) hw hS (by unfold sp_carry1; rw [if_neg c15, if_pos hg, if_neg c47, if_neg c84]; exact ⟨rfl, rfl, ⟨_, ⟨_, _, _, _, ⟨h100, h101, h102, h103, h104, h105, h106, h107, h108, h109, h110, h111⟩, hQ, hM⟩⟩, hF⟩) dX6_carry_151
        · refine lv_iload_n hx hb dX6_carry_87 rfl (lv_at hl 2 rfl) ?_
          refine lv_iconst (v := 1) hx hb dX6_carry_88 (by decide) ?_
          refine lv_icmp_ne (tgt := 103) hx hb dX6_carry_89 (by decide) (fun c89 => absurd c89 (by decide)) (fun c89 => ?_)
          refine lv_aload_n hx hb dX6_carry_92 rfl (lv_at hl 1 rfl) ?_
          refine lv_iload_n hx hb dX6_carry_93 rfl (lv_at hl 0 rfl) ?_
          have hV : rfV G ad ce2 T (va_up Q 1 ((Q 1).tail)) ((Q 1).headD []) := ⟨_, _, _, _, ⟨h100, h101, h102, h103, h104, h105, h106, h107, h108, h109, h110, h111⟩, hQ, hM⟩
          refine z_invV F (rest := []) (r_mobileCalls l T (va_up Q 1 ((Q 1).tail)) ((Q 1).headD []) hV hg (((Q 1).headD []).getD 1 0) (hM.2 1 (by omega)).2) yv_X6_162 ⟨Nat.le_of_ble_eq_true rfl, Nat.le_of_ble_eq_true rfl⟩ hw hA hS hl h100 rfl rfl rfl (Nat.le_of_ble_eq_true rfl) dX6_carry_94 ⟨Nat.le_of_ble_eq_true rfl, Nat.le_of_ble_eq_true rfl⟩ (fun r ad1 ce6 H locs hp hw hS => ?_)
          obtain ⟨rfl, rfl, hV, hF2⟩ := hp
          have hF : ∀ j, j < 100 → ce6 j = ce j := fun j hj => (hF2 j hj).trans (hF j hj)
          obtain ⟨cn, zs, bs, hh, ⟨h100, h101, h102, h103, h104, h105, h106, h107, h108, h109, h110, h111⟩, hQ, hM⟩ := hV
          refine W.eq (g2 := F0 m 97 ls [.int ((sp_mobileCalls T (va_up Q 1 ((Q 1).tail)) ((Q 1).headD []) (((Q 1).headD []).getD 1 0)).1)]) rfl ?_
          refine lv_if_eq (tgt := 115) hx hb dX6_carry_97 (by decide) (fun c97 => ?_) (fun c97 => ?_)
          · refine lv_iconst (v := 0) hx hb dX6_carry_115 (by decide) ?_
            refine lv_istore_n (lv' := [(3, .int 0), (2, .int (nI (((Q 1).headD []).getD 1 0))), (0, .ref (ad 100)), (1, .int 1)]) hx hb dX6_carry_116 rfl hl (by decide) rfl (fun ls hl => ?_)
            refine lv_aload_n hx hb dX6_carry_117 rfl (lv_at hl 2 rfl) ?_
            refine lv_iload_n hx hb dX6_carry_118 rfl (lv_at hl 0 rfl) ?_
            refine lv_if_eq (tgt := 129) hx hb dX6_carry_119 (by decide) (fun c119 => ?_) (fun c119 => absurd c119 (by decide))
            refine lv_aload_n hx hb dX6_carry_129 rfl (lv_at hl 2 rfl) ?_
            refine z_get F hw h100 fd_X6_168_X6 rfl dX6_carry_130 ?_
            refine lv_iconst (v := 1) hx hb dX6_carry_133 (by decide) ?_
            refine lv_iadd hx hb dX6_carry_134 ?_
            refine z_put F hw hS (fs' := [.int (((sp_mobileCalls T (va_up Q 1 ((Q 1).tail)) ((Q 1).headD []) (((Q 1).headD []).getD 1 0)).2.1) 0 0), .int (((sp_mobileCalls T (va_up Q 1 ((Q 1).tail)) ((Q 1).headD []) (((Q 1).headD []).getD 1 0)).2.1) 0 1), .int (((sp_mobileCalls T (va_up Q 1 ((Q 1).tail)) ((Q 1).headD []) (((Q 1).headD []).getD 1 0)).2.1) 0 2), .int (((sp_mobileCalls T (va_up Q 1 ((Q 1).tail)) ((Q 1).headD []) (((Q 1).headD []).getD 1 0)).2.1) 0 3), .int (((sp_mobileCalls T (va_up Q 1 ((Q 1).tail)) ((Q 1).headD []) (((Q 1).headD []).getD 1 0)).2.1) 0 4), .ref (ad 101), .ref (ad 102), .ref (ad 103), .int ((((sp_mobileCalls T (va_up Q 1 ((Q 1).tail)) ((Q 1).headD []) (((Q 1).headD []).getD 1 0)).2.1) 0 5) + 1), .ref (ad 104), .ref (ad 105), .ref (ad 106), .ref (ad 107), .ref (ad 108), .int (((sp_mobileCalls T (va_up Q 1 ((Q 1).tail)) ((Q 1).headD []) (((Q 1).headD []).getD 1 0)).2.1) 0 6), .int (((sp_mobileCalls T (va_up Q 1 ((Q 1).tail)) ((Q 1).headD []) (((Q 1).headD []).getD 1 0)).2.1) 0 7), .int (((sp_mobileCalls T (va_up Q 1 ((Q 1).tail)) ((Q 1).headD []) (((Q 1).headD []).getD 1 0)).2.1) 0 8), .ref (ad 109), .int (((sp_mobileCalls T (va_up Q 1 ((Q 1).tail)) ((Q 1).headD []) (((Q 1).headD []).getD 1 0)).2.1) 0 9), .ref (ad 110), .int (((sp_mobileCalls T (va_up Q 1 ((Q 1).tail)) ((Q 1).headD []) (((Q 1).headD []).getD 1 0)).2.1) 0 10), .int (nI (((Q 1).headD [])).length), .ref (ad 111)]) h100 fd_X6_168_X6 ptX6 rfl (rfl) (rfl) (Nat.le_of_ble_eq_true rfl) rfl dX6_carry_135 (fun ce7 H locs h100 fr8 hw hS => ?_)
            have h101 := (fr8 101 (by decide)).trans h101
            have h102 := (fr8 102 (by decide)).trans h102
            have h103 := (fr8 103 (by decide)).trans h103
            have h104 := (fr8 104 (by decide)).trans h104
            have h105 := (fr8 105 (by decide)).trans h105
            have h106 := (fr8 106 (by decide)).trans h106
            have h107 := (fr8 107 (by decide)).trans h107
            have h108 := (fr8 108 (by decide)).trans h108
            have h109 := (fr8 109 (by decide)).trans h109
            have h110 := (fr8 110 (by decide)).trans h110
            have h111 := (fr8 111 (by decide)).trans h111
            have hF : ∀ j, j < 100 → _ = ce j := fun j hj => (fr8 j (by omega)).trans (hF j hj)
            refine lv_iload_n hx hb dX6_carry_138 rfl (lv_at hl 0 rfl) ?_
            refine lv_if_eq (tgt := 146) hx hb dX6_carry_139 (by decide) (fun c139 => ?_) (fun c139 => absurd c139 (by decide))
            refine lv_iload_n hx hb dX6_carry_146 rfl (lv_at hl 1 rfl) ?_
            refine lv_sipush (v := 1000) hx hb dX6_carry_147 (by decide) ?_
            refine lv_iadd hx hb dX6_carry_150 ?_
            exact z_iret F (rfl) hw hS (by unfold sp_carry1; rw [if_neg c15, if_pos hg, if_neg c47, if_pos c84, if_pos c97]; exact ⟨rfl, rfl, ⟨_, ⟨_, _, _, _, ⟨h100, h101, h102, h103, h104, h105, h106, h107, h108, h109, h110, h111⟩, hQ, hM⟩⟩, hF⟩) dX6_carry_151
          · refine lv_goto (tgt := 111) hx hb dX6_carry_100 (by decide) ?_
            refine lv_iconst (v := 1) hx hb dX6_carry_111 (by decide) ?_
            refine lv_goto (tgt := 116) hx hb dX6_carry_112 (by decide) ?_
            refine lv_istore_n (lv' := [(3, .int 1), (2, .int (nI (((Q 1).headD []).getD 1 0))), (0, .ref (ad 100)), (1, .int 1)]) hx hb dX6_carry_116 rfl hl (by decide) rfl (fun ls hl => ?_)
            refine lv_aload_n hx hb dX6_carry_117 rfl (lv_at hl 2 rfl) ?_
            refine lv_iload_n hx hb dX6_carry_118 rfl (lv_at hl 0 rfl) ?_
            refine lv_if_eq (tgt := 129) hx hb dX6_carry_119 (by decide) (fun c119 => absurd c119 (by decide)) (fun c119 => ?_)
            refine lv_aload_n hx hb dX6_carry_122 rfl (lv_at hl 2 rfl) ?_
            refine z_get F hw h100 fd_X6_168_X6 rfl dX6_carry_123 ?_
            refine lv_goto (tgt := 135) hx hb dX6_carry_126 (by decide) ?_
            refine z_put F hw hS (fs' := [.int (((sp_mobileCalls T (va_up Q 1 ((Q 1).tail)) ((Q 1).headD []) (((Q 1).headD []).getD 1 0)).2.1) 0 0), .int (((sp_mobileCalls T (va_up Q 1 ((Q 1).tail)) ((Q 1).headD []) (((Q 1).headD []).getD 1 0)).2.1) 0 1), .int (((sp_mobileCalls T (va_up Q 1 ((Q 1).tail)) ((Q 1).headD []) (((Q 1).headD []).getD 1 0)).2.1) 0 2), .int (((sp_mobileCalls T (va_up Q 1 ((Q 1).tail)) ((Q 1).headD []) (((Q 1).headD []).getD 1 0)).2.1) 0 3), .int (((sp_mobileCalls T (va_up Q 1 ((Q 1).tail)) ((Q 1).headD []) (((Q 1).headD []).getD 1 0)).2.1) 0 4), .ref (ad 101), .ref (ad 102), .ref (ad 103), .int (((sp_mobileCalls T (va_up Q 1 ((Q 1).tail)) ((Q 1).headD []) (((Q 1).headD []).getD 1 0)).2.1) 0 5), .ref (ad 104), .ref (ad 105), .ref (ad 106), .ref (ad 107), .ref (ad 108), .int (((sp_mobileCalls T (va_up Q 1 ((Q 1).tail)) ((Q 1).headD []) (((Q 1).headD []).getD 1 0)).2.1) 0 6), .int (((sp_mobileCalls T (va_up Q 1 ((Q 1).tail)) ((Q 1).headD []) (((Q 1).headD []).getD 1 0)).2.1) 0 7), .int (((sp_mobileCalls T (va_up Q 1 ((Q 1).tail)) ((Q 1).headD []) (((Q 1).headD []).getD 1 0)).2.1) 0 8), .ref (ad 109), .int (((sp_mobileCalls T (va_up Q 1 ((Q 1).tail)) ((Q 1).headD []) (((Q 1).headD []).getD 1 0)).2.1) 0 9), .ref (ad 110), .int (((sp_mobileCalls T (va_up Q 1 ((Q 1).tail)) ((Q 1).headD []) (((Q 1).headD []).getD 1 0)).2.1) 0 10), .int (nI (((Q 1).headD [])).length), .ref (ad 111)]) h100 fd_X6_168_X6 ptX6 rfl (rfl) (rfl) (Nat.le_of_ble_eq_true rfl) rfl dX6_carry_135 (fun ce9 H locs h100 fr10 hw hS => ?_)
            have h101 := (fr10 101 (by decide)).trans h101
            have h102 := (fr10 102 (by decide)).trans h102
            have h103 := (fr10 103 (by decide)).trans h103
            have h104 := (fr10 104 (by decide)).trans h104
            have h105 := (fr10 105 (by decide)).trans h105
            have h106 := (fr10 106 (by decide)).trans h106
            have h107 := (fr10 107 (by decide)).trans h107
            have h108 := (fr10 108 (by decide)).trans h108
            have h109 := (fr10 109 (by decide)).trans h109
            have h110 := (fr10 110 (by decide)).trans h110
            have h111 := (fr10 111 (by decide)).trans h111
            have hF : ∀ j, j < 100 → _ = ce j := fun j hj => (fr10 j (by omega)).trans (hF j hj)
            refine lv_iload_n hx hb dX6_carry_138 rfl (lv_at hl 0 rfl) ?_
            refine lv_if_eq (tgt := 146) hx hb dX6_carry_139 (by decide) (fun c139 => absurd c139 (by decide)) (fun c139 => ?_)
            refine lv_iload_n hx hb dX6_carry_142 rfl (lv_at hl 1 rfl) ?_
            refine lv_goto (tgt := 151) hx hb dX6_carry_143 (by decide) ?_
            exact z_iret F (rfl) hw hS (by unfold sp_carry1; rw [if_neg c15, if_pos hg, if_neg c47, if_pos c84, if_neg c97]; exact ⟨rfl, rfl, ⟨_, ⟨_, _, _, _, ⟨h100, h101, h102, h103, h104, h105, h106, h107, h108, h109, h110, h111⟩, hQ, hM⟩⟩, hF⟩) dX6_carry_151
      · refine lv_iload_n hx hb dX6_carry_50 rfl (lv_at hl 2 rfl) ?_
        refine lv_iconst (v := 1) hx hb dX6_carry_51 (by decide) ?_
        refine lv_icmp_ne (tgt := 66) hx hb dX6_carry_52 (by decide) (fun c52 => absurd c52 (by decide)) (fun c52 => ?_)
        refine lv_aload_n hx hb dX6_carry_55 rfl (lv_at hl 1 rfl) ?_
        refine lv_iload_n hx hb dX6_carry_56 rfl (lv_at hl 0 rfl) ?_
        have hV : rfV G ad ce2 T (va_up Q 1 ((Q 1).tail)) ((Q 1).headD []) := ⟨_, _, _, _, ⟨h100, h101, h102, h103, h104, h105, h106, h107, h108, h109, h110, h111⟩, hQ, hM⟩
        refine z_invV F (rest := []) (r_mobileMoves l T (va_up Q 1 ((Q 1).tail)) ((Q 1).headD []) hV hg (((Q 1).headD []).getD 1 0) (hM.2 1 (by omega)).2 d hd hdc) yv_X6_156 ⟨Nat.le_of_ble_eq_true rfl, Nat.le_of_ble_eq_true rfl⟩ hw hA hS hl h100 rfl rfl rfl (Nat.le_of_ble_eq_true rfl) dX6_carry_57 ⟨Nat.le_of_ble_eq_true rfl, Nat.le_of_ble_eq_true rfl⟩ (fun r ad1 ce11 H locs hp hw hS => ?_)
        obtain ⟨rfl, rfl, hV, hF2⟩ := hp
        have hF : ∀ j, j < 100 → ce11 j = ce j := fun j hj => (hF2 j hj).trans (hF j hj)
        obtain ⟨cn, zs, bs, hh, ⟨h100, h101, h102, h103, h104, h105, h106, h107, h108, h109, h110, h111⟩, hQ, hM⟩ := hV
        refine W.eq (g2 := F0 m 60 ls [.int ((sp_mobileMoves T (va_up Q 1 ((Q 1).tail)) ((Q 1).headD []) (((Q 1).headD []).getD 1 0) d).1)]) rfl ?_
        refine lv_if_eq (tgt := 115) hx hb dX6_carry_60 (by decide) (fun c60 => ?_) (fun c60 => ?_)
        · refine lv_iconst (v := 0) hx hb dX6_carry_115 (by decide) ?_
          refine lv_istore_n (lv' := [(3, .int 0), (2, .int (nI (((Q 1).headD []).getD 1 0))), (0, .ref (ad 100)), (1, .int 1)]) hx hb dX6_carry_116 rfl hl (by decide) rfl (fun ls hl => ?_)
          refine lv_aload_n hx hb dX6_carry_117 rfl (lv_at hl 2 rfl) ?_
          refine lv_iload_n hx hb dX6_carry_118 rfl (lv_at hl 0 rfl) ?_
          refine lv_if_eq (tgt := 129) hx hb dX6_carry_119 (by decide) (fun c119 => ?_) (fun c119 => absurd c119 (by decide))
          refine lv_aload_n hx hb dX6_carry_129 rfl (lv_at hl 2 rfl) ?_
          refine z_get F hw h100 fd_X6_168_X6 rfl dX6_carry_130 ?_
          refine lv_iconst (v := 1) hx hb dX6_carry_133 (by decide) ?_
          refine lv_iadd hx hb dX6_carry_134 ?_
          refine z_put F hw hS (fs' := [.int (((sp_mobileMoves T (va_up Q 1 ((Q 1).tail)) ((Q 1).headD []) (((Q 1).headD []).getD 1 0) d).2.1) 0 0), .int (((sp_mobileMoves T (va_up Q 1 ((Q 1).tail)) ((Q 1).headD []) (((Q 1).headD []).getD 1 0) d).2.1) 0 1), .int (((sp_mobileMoves T (va_up Q 1 ((Q 1).tail)) ((Q 1).headD []) (((Q 1).headD []).getD 1 0) d).2.1) 0 2), .int (((sp_mobileMoves T (va_up Q 1 ((Q 1).tail)) ((Q 1).headD []) (((Q 1).headD []).getD 1 0) d).2.1) 0 3), .int (((sp_mobileMoves T (va_up Q 1 ((Q 1).tail)) ((Q 1).headD []) (((Q 1).headD []).getD 1 0) d).2.1) 0 4), .ref (ad 101), .ref (ad 102), .ref (ad 103), .int ((((sp_mobileMoves T (va_up Q 1 ((Q 1).tail)) ((Q 1).headD []) (((Q 1).headD []).getD 1 0) d).2.1) 0 5) + 1), .ref (ad 104), .ref (ad 105), .ref (ad 106), .ref (ad 107), .ref (ad 108), .int (((sp_mobileMoves T (va_up Q 1 ((Q 1).tail)) ((Q 1).headD []) (((Q 1).headD []).getD 1 0) d).2.1) 0 6), .int (((sp_mobileMoves T (va_up Q 1 ((Q 1).tail)) ((Q 1).headD []) (((Q 1).headD []).getD 1 0) d).2.1) 0 7), .int (((sp_mobileMoves T (va_up Q 1 ((Q 1).tail)) ((Q 1).headD []) (((Q 1).headD []).getD 1 0) d).2.1) 0 8), .ref (ad 109), .int (((sp_mobileMoves T (va_up Q 1 ((Q 1).tail)) ((Q 1).headD []) (((Q 1).headD []).getD 1 0) d).2.1) 0 9), .ref (ad 110), .int (((sp_mobileMoves T (va_up Q 1 ((Q 1).tail)) ((Q 1).headD []) (((Q 1).headD []).getD 1 0) d).2.1) 0 10), .int (nI (((Q 1).headD [])).length), .ref (ad 111)]) h100 fd_X6_168_X6 ptX6 rfl (rfl) (rfl) (Nat.le_of_ble_eq_true rfl) rfl dX6_carry_135 (fun ce12 H locs h100 fr13 hw hS => ?_)
          have h101 := (fr13 101 (by decide)).trans h101
          have h102 := (fr13 102 (by decide)).trans h102
          have h103 := (fr13 103 (by decide)).trans h103
          have h104 := (fr13 104 (by decide)).trans h104
          have h105 := (fr13 105 (by decide)).trans h105
          have h106 := (fr13 106 (by decide)).trans h106
          have h107 := (fr13 107 (by decide)).trans h107
          have h108 := (fr13 108 (by decide)).trans h108
          have h109 := (fr13 109 (by decide)).trans h109
          have h110 := (fr13 110 (by decide)).trans h110
          have h111 := (fr13 111 (by decide)).trans h111
          have hF : ∀ j, j < 100 → _ = ce j := fun j hj => (fr13 j (by omega)).trans (hF j hj)
          refine lv_iload_n hx hb dX6_carry_138 rfl (lv_at hl 0 rfl) ?_
          refine lv_if_eq (tgt := 146) hx hb dX6_carry_139 (by decide) (fun c139 => ?_) (fun c139 => absurd c139 (by decide))
          refine lv_iload_n hx hb dX6_carry_146 rfl (lv_at hl 1 rfl) ?_
          refine lv_sipush (v := 1000) hx hb dX6_carry_147 (by decide) ?_
          refine lv_iadd hx hb dX6_carry_150 ?_
          exact z_iret F (rfl) hw hS (by unfold sp_carry1; rw [if_neg c15, if_pos hg, if_pos c47, if_pos c60]; exact ⟨rfl, rfl, ⟨_, ⟨_, _, _, _, ⟨h100, h101, h102, h103, h104, h105, h106, h107, h108, h109, h110, h111⟩, hQ, hM⟩⟩, hF⟩) dX6_carry_151
        · refine lv_goto (tgt := 111) hx hb dX6_carry_63 (by decide) ?_
          refine lv_iconst (v := 1) hx hb dX6_carry_111 (by decide) ?_
          refine lv_goto (tgt := 116) hx hb dX6_carry_112 (by decide) ?_
          refine lv_istore_n (lv' := [(3, .int 1), (2, .int (nI (((Q 1).headD []).getD 1 0))), (0, .ref (ad 100)), (1, .int 1)]) hx hb dX6_carry_116 rfl hl (by decide) rfl (fun ls hl => ?_)
          refine lv_aload_n hx hb dX6_carry_117 rfl (lv_at hl 2 rfl) ?_
          refine lv_iload_n hx hb dX6_carry_118 rfl (lv_at hl 0 rfl) ?_
          refine lv_if_eq (tgt := 129) hx hb dX6_carry_119 (by decide) (fun c119 => absurd c119 (by decide)) (fun c119 => ?_)
          refine lv_aload_n hx hb dX6_carry_122 rfl (lv_at hl 2 rfl) ?_
          refine z_get F hw h100 fd_X6_168_X6 rfl dX6_carry_123 ?_
          refine lv_goto (tgt := 135) hx hb dX6_carry_126 (by decide) ?_
          refine z_put F hw hS (fs' := [.int (((sp_mobileMoves T (va_up Q 1 ((Q 1).tail)) ((Q 1).headD []) (((Q 1).headD []).getD 1 0) d).2.1) 0 0), .int (((sp_mobileMoves T (va_up Q 1 ((Q 1).tail)) ((Q 1).headD []) (((Q 1).headD []).getD 1 0) d).2.1) 0 1), .int (((sp_mobileMoves T (va_up Q 1 ((Q 1).tail)) ((Q 1).headD []) (((Q 1).headD []).getD 1 0) d).2.1) 0 2), .int (((sp_mobileMoves T (va_up Q 1 ((Q 1).tail)) ((Q 1).headD []) (((Q 1).headD []).getD 1 0) d).2.1) 0 3), .int (((sp_mobileMoves T (va_up Q 1 ((Q 1).tail)) ((Q 1).headD []) (((Q 1).headD []).getD 1 0) d).2.1) 0 4), .ref (ad 101), .ref (ad 102), .ref (ad 103), .int (((sp_mobileMoves T (va_up Q 1 ((Q 1).tail)) ((Q 1).headD []) (((Q 1).headD []).getD 1 0) d).2.1) 0 5), .ref (ad 104), .ref (ad 105), .ref (ad 106), .ref (ad 107), .ref (ad 108), .int (((sp_mobileMoves T (va_up Q 1 ((Q 1).tail)) ((Q 1).headD []) (((Q 1).headD []).getD 1 0) d).2.1) 0 6), .int (((sp_mobileMoves T (va_up Q 1 ((Q 1).tail)) ((Q 1).headD []) (((Q 1).headD []).getD 1 0) d).2.1) 0 7), .int (((sp_mobileMoves T (va_up Q 1 ((Q 1).tail)) ((Q 1).headD []) (((Q 1).headD []).getD 1 0) d).2.1) 0 8), .ref (ad 109), .int (((sp_mobileMoves T (va_up Q 1 ((Q 1).tail)) ((Q 1).headD []) (((Q 1).headD []).getD 1 0) d).2.1) 0 9), .ref (ad 110), .int (((sp_mobileMoves T (va_up Q 1 ((Q 1).tail)) ((Q 1).headD []) (((Q 1).headD []).getD 1 0) d).2.1) 0 10), .int (nI (((Q 1).headD [])).length), .ref (ad 111)]) h100 fd_X6_168_X6 ptX6 rfl (rfl) (rfl) (Nat.le_of_ble_eq_true rfl) rfl dX6_carry_135 (fun ce14 H locs h100 fr15 hw hS => ?_)
          have h101 := (fr15 101 (by decide)).trans h101
          have h102 := (fr15 102 (by decide)).trans h102
          have h103 := (fr15 103 (by decide)).trans h103
          have h104 := (fr15 104 (by decide)).trans h104
          have h105 := (fr15 105 (by decide)).trans h105
          have h106 := (fr15 106 (by decide)).trans h106
          have h107 := (fr15 107 (by decide)).trans h107
          have h108 := (fr15 108 (by decide)).trans h108
          have h109 := (fr15 109 (by decide)).trans h109
          have h110 := (fr15 110 (by decide)).trans h110
          have h111 := (fr15 111 (by decide)).trans h111
          have hF : ∀ j, j < 100 → _ = ce j := fun j hj => (fr15 j (by omega)).trans (hF j hj)
          refine lv_iload_n hx hb dX6_carry_138 rfl (lv_at hl 0 rfl) ?_
          refine lv_if_eq (tgt := 146) hx hb dX6_carry_139 (by decide) (fun c139 => absurd c139 (by decide)) (fun c139 => ?_)
          refine lv_iload_n hx hb dX6_carry_142 rfl (lv_at hl 1 rfl) ?_
          refine lv_goto (tgt := 151) hx hb dX6_carry_143 (by decide) ?_
          exact z_iret F (rfl) hw hS (by unfold sp_carry1; rw [if_neg c15, if_pos hg, if_pos c47, if_neg c60]; exact ⟨rfl, rfl, ⟨_, ⟨_, _, _, _, ⟨h100, h101, h102, h103, h104, h105, h106, h107, h108, h109, h110, h111⟩, hQ, hM⟩⟩, hF⟩) dX6_carry_151
    · refine W.eq (g2 := F0 m 37 ls [.int 0]) rfl ?_
      refine lv_if_eq (tgt := 115) hx hb dX6_carry_37 (by decide) (fun c37 => ?_) (fun c37 => absurd c37 (by decide))
      refine lv_iconst (v := 0) hx hb dX6_carry_115 (by decide) ?_
      refine lv_istore_n (lv' := [(3, .int 0), (2, .int (nI (((Q 1).headD []).getD 1 0))), (0, .ref (ad 100)), (1, .int 1)]) hx hb dX6_carry_116 rfl hl (by decide) rfl (fun ls hl => ?_)
      refine lv_aload_n hx hb dX6_carry_117 rfl (lv_at hl 2 rfl) ?_
      refine lv_iload_n hx hb dX6_carry_118 rfl (lv_at hl 0 rfl) ?_
      refine lv_if_eq (tgt := 129) hx hb dX6_carry_119 (by decide) (fun c119 => ?_) (fun c119 => absurd c119 (by decide))
      refine lv_aload_n hx hb dX6_carry_129 rfl (lv_at hl 2 rfl) ?_
      refine z_get F hw h100 fd_X6_168_X6 rfl dX6_carry_130 ?_
      refine lv_iconst (v := 1) hx hb dX6_carry_133 (by decide) ?_
      refine lv_iadd hx hb dX6_carry_134 ?_
      refine z_put F hw hS (fs' := [.int (T 0 0), .int (T 0 1), .int (T 0 2), .int (T 0 3), .int (T 0 4), .ref (ad 101), .ref (ad 102), .ref (ad 103), .int ((T 0 5) + 1), .ref (ad 104), .ref (ad 105), .ref (ad 106), .ref (ad 107), .ref (ad 108), .int (T 0 6), .int (T 0 7), .int (T 0 8), .ref (ad 109), .int (T 0 9), .ref (ad 110), .int (T 0 10), .int (nI (((Q 1).headD [])).length), .ref (ad 111)]) h100 fd_X6_168_X6 ptX6 rfl (rfl) (rfl) (Nat.le_of_ble_eq_true rfl) rfl dX6_carry_135 (fun ce16 H locs h100 fr17 hw hS => ?_)
      have h101 := (fr17 101 (by decide)).trans h101
      have h102 := (fr17 102 (by decide)).trans h102
      have h103 := (fr17 103 (by decide)).trans h103
      have h104 := (fr17 104 (by decide)).trans h104
      have h105 := (fr17 105 (by decide)).trans h105
      have h106 := (fr17 106 (by decide)).trans h106
      have h107 := (fr17 107 (by decide)).trans h107
      have h108 := (fr17 108 (by decide)).trans h108
      have h109 := (fr17 109 (by decide)).trans h109
      have h110 := (fr17 110 (by decide)).trans h110
      have h111 := (fr17 111 (by decide)).trans h111
      have hF : ∀ j, j < 100 → _ = ce j := fun j hj => (fr17 j (by omega)).trans (hF j hj)
      refine lv_iload_n hx hb dX6_carry_138 rfl (lv_at hl 0 rfl) ?_
      refine lv_if_eq (tgt := 146) hx hb dX6_carry_139 (by decide) (fun c139 => ?_) (fun c139 => absurd c139 (by decide))
      refine lv_iload_n hx hb dX6_carry_146 rfl (lv_at hl 1 rfl) ?_
      refine lv_sipush (v := 1000) hx hb dX6_carry_147 (by decide) ?_
      refine lv_iadd hx hb dX6_carry_150 ?_
      exact z_iret F (rfl) hw hS (by unfold sp_carry1; rw [if_neg c15, if_neg hg]; exact ⟨rfl, rfl, ⟨_, ⟨_, _, _, _, ⟨h100, h101, h102, h103, h104, h105, h106, h107, h108, h109, h110, h111⟩, hQ, hM⟩⟩, hF⟩) dX6_carry_151
  · refine lv_bipush (v := -3) hx hb dX6_carry_18 (by decide) ?_
    exact z_iret F (rfl) hw hS (by unfold sp_carry1; rw [if_pos c15]; exact ⟨rfl, rfl, ⟨_, ⟨_, _, _, _, ⟨h100, h101, h102, h103, h104, h105, h106, h107, h108, h109, h110, h111⟩, hQ, hM⟩⟩, hF⟩) dX6_carry_20
def sp_carryx (T : rf_T) (Q : rf_Q) (M : List Nat) (a : Int32) : rf_R := ((-1), T, Q)
set_option maxHeartbeats 4000000 in
set_option maxRecDepth 100000 in
theorem r_carryx (l : Launch) {G : zz_G} {ad : Nat → Nat} {ce : zz_C} {sz : Nat} (T : rf_T) (Q : rf_Q) (M : List Nat) (hV : rfV G ad ce T Q M) (a : Int32) (hnw : ¬ (a = 0 ∨ a = 1)) : zz_M l yX6_carry cX6_carry 4 (some .int) 4 95 0 0 G [.ref (ad 100), .int a] ad ce sz (fun r ad1 ce1 => r = some (.int (sp_carryx T Q M a).1) ∧ ad = ad1 ∧ (∃ M1, rfV G ad ce1 (sp_carryx T Q M a).2.1 (sp_carryx T Q M a).2.2 M1) ∧ (∀ j, j < 100 → ce1 j = ce j)) := by
  refine zz_enter (by decide) (Nat.le_of_ble_eq_true rfl) ?_
  intro p e s m below meth c ls F hl hw hS hA
  obtain ⟨hx, hb, hr, hml, hown, hts, hlocks, hK, hnm⟩ := id F
  have hl : lv_has ls 4 [(0, .ref (ad 100)), (1, .int a)] := hl
  obtain ⟨cn, zs, bs, hh, ⟨h100, h101, h102, h103, h104, h105, h106, h107, h108, h109, h110, h111⟩, hQ, hM⟩ := hV
  have hF : ∀ j, j < 100 → ce j = ce j := fun _ _ => rfl
  refine lv_iload_n hx hb dX6_carry_0 rfl (lv_at hl 1 rfl) ?_
  refine z_invS F (rest := []) (r_isWay l a) ys_X6_145 ⟨Nat.le_of_ble_eq_true rfl, Nat.le_of_ble_eq_true rfl⟩ hw hA hS hl rfl rfl (Nat.le_of_ble_eq_true rfl) dX6_carry_1 ⟨Nat.le_of_ble_eq_true rfl, Nat.le_of_ble_eq_true rfl⟩ (fun r ad1 ce1 H locs hp hw hS => ?_)
  obtain ⟨hp, rfl, rfl⟩ := hp
  rcases hp with ⟨hn9, rfl⟩ | ⟨-, rfl⟩
  · exact absurd hn9 hnw
  refine W.eq (g2 := F0 m 4 ls [.int 0]) rfl ?_
  refine lv_if_ne (tgt := 9) hx hb dX6_carry_4 (by decide) (fun c4 => absurd c4 (by decide)) (fun c4 => ?_)
  refine lv_iconst (v := -1) hx hb dX6_carry_7 (by decide) ?_
  exact z_iret F (rfl) hw hS (by unfold sp_carryx; exact ⟨rfl, rfl, ⟨_, ⟨_, _, _, _, ⟨h100, h101, h102, h103, h104, h105, h106, h107, h108, h109, h110, h111⟩, hQ, hM⟩⟩, hF⟩) dX6_carry_8
def sp_tk1 (M : List Nat) (n9 : Int32) (T9 : rf_T) (Q9 : rf_Q) : rf_R := (if (((T9 3) 0) : Int32) ≤ 0 then (if (((T9 3) 1) : Int32) ≤ 0 then (n9, T9, Q9) else (if ((((T9 3) 1) - 1) : Int32) = 0 then ((n9 + 1), ((sp_out1 (va_up T9 3 (upd (T9 3) 1 (((T9 3) 1) - 1))) Q9 M).2.1), (sp_out1 (va_up T9 3 (upd (T9 3) 1 (((T9 3) 1) - 1))) Q9 M).2.2) else (n9, va_up T9 3 (upd (T9 3) 1 (((T9 3) 1) - 1)), Q9))) else (if ((((T9 3) 0) - 1) : Int32) = 0 then (if (((((sp_out0 (va_up T9 3 (upd (T9 3) 0 (((T9 3) 0) - 1))) Q9 M).2.1) 3) 1) : Int32) ≤ 0 then ((n9 + 1), ((sp_out0 (va_up T9 3 (upd (T9 3) 0 (((T9 3) 0) - 1))) Q9 M).2.1), (sp_out0 (va_up T9 3 (upd (T9 3) 0 (((T9 3) 0) - 1))) Q9 M).2.2) else (if ((((((sp_out0 (va_up T9 3 (upd (T9 3) 0 (((T9 3) 0) - 1))) Q9 M).2.1) 3) 1) - 1) : Int32) = 0 then (((n9 + 1) + 1), ((sp_out1 (va_up ((sp_out0 (va_up T9 3 (upd (T9 3) 0 (((T9 3) 0) - 1))) Q9 M).2.1) 3 (upd (((sp_out0 (va_up T9 3 (upd (T9 3) 0 (((T9 3) 0) - 1))) Q9 M).2.1) 3) 1 (((((sp_out0 (va_up T9 3 (upd (T9 3) 0 (((T9 3) 0) - 1))) Q9 M).2.1) 3) 1) - 1))) ((sp_out0 (va_up T9 3 (upd (T9 3) 0 (((T9 3) 0) - 1))) Q9 M).2.2) M).2.1), (sp_out1 (va_up ((sp_out0 (va_up T9 3 (upd (T9 3) 0 (((T9 3) 0) - 1))) Q9 M).2.1) 3 (upd (((sp_out0 (va_up T9 3 (upd (T9 3) 0 (((T9 3) 0) - 1))) Q9 M).2.1) 3) 1 (((((sp_out0 (va_up T9 3 (upd (T9 3) 0 (((T9 3) 0) - 1))) Q9 M).2.1) 3) 1) - 1))) ((sp_out0 (va_up T9 3 (upd (T9 3) 0 (((T9 3) 0) - 1))) Q9 M).2.2) M).2.2) else ((n9 + 1), va_up ((sp_out0 (va_up T9 3 (upd (T9 3) 0 (((T9 3) 0) - 1))) Q9 M).2.1) 3 (upd (((sp_out0 (va_up T9 3 (upd (T9 3) 0 (((T9 3) 0) - 1))) Q9 M).2.1) 3) 1 (((((sp_out0 (va_up T9 3 (upd (T9 3) 0 (((T9 3) 0) - 1))) Q9 M).2.1) 3) 1) - 1)), (sp_out0 (va_up T9 3 (upd (T9 3) 0 (((T9 3) 0) - 1))) Q9 M).2.2))) else (if (((upd (T9 3) 0 (((T9 3) 0) - 1)) 1) : Int32) ≤ 0 then (n9, va_up T9 3 (upd (T9 3) 0 (((T9 3) 0) - 1)), Q9) else (if ((((upd (T9 3) 0 (((T9 3) 0) - 1)) 1) - 1) : Int32) = 0 then ((n9 + 1), ((sp_out1 (va_up T9 3 (upd (upd (T9 3) 0 (((T9 3) 0) - 1)) 1 (((upd (T9 3) 0 (((T9 3) 0) - 1)) 1) - 1))) Q9 M).2.1), (sp_out1 (va_up T9 3 (upd (upd (T9 3) 0 (((T9 3) 0) - 1)) 1 (((upd (T9 3) 0 (((T9 3) 0) - 1)) 1) - 1))) Q9 M).2.2) else (n9, va_up T9 3 (upd (upd (T9 3) 0 (((T9 3) 0) - 1)) 1 (((upd (T9 3) 0 (((T9 3) 0) - 1)) 1) - 1)), Q9)))))
def rf_tks (M : List Nat) : Nat → rf_R → rf_R
  | 0, p => p
  | k + 1, p => (fun q : rf_R => sp_tk1 M q.1 q.2.1 q.2.2) (rf_tks M k p)
def sp_tick (T : rf_T) (Q : rf_Q) (M : List Nat) (v : Int32) : rf_R := (if (v : Int32) < 1 then ((-1), T, Q) else (if (v : Int32) ≤ 100 then rf_tks M v.toNatClampNeg (0, T, Q) else ((-1), T, Q)))
set_option maxHeartbeats 4000000 in
set_option maxRecDepth 100000 in
theorem r_tick (l : Launch) {G : zz_G} {ad : Nat → Nat} {ce : zz_C} {sz : Nat} (T : rf_T) (Q : rf_Q) (M : List Nat) (hV : rfV G ad ce T Q M) (v : Int32) : zz_M l yX6_tick cX6_tick 5 (some .int) 3 74 0 0 G [.ref (ad 100), .int v] ad ce sz (fun r ad1 ce1 => r = some (.int (sp_tick T Q M v).1) ∧ ad = ad1 ∧ rfV G ad ce1 (sp_tick T Q M v).2.1 (sp_tick T Q M v).2.2 M ∧ (∀ j, j < 100 → ce1 j = ce j)) := by
  refine zz_enter (by decide) (Nat.le_of_ble_eq_true rfl) ?_
  intro p e s m below meth c ls F hl hw hS hA
  obtain ⟨hx, hb, hr, hml, hown, hts, hlocks, hK, hnm⟩ := id F
  have hl : lv_has ls 5 [(0, .ref (ad 100)), (1, .int v)] := hl
  obtain ⟨cn, zs, bs, hh, ⟨h100, h101, h102, h103, h104, h105, h106, h107, h108, h109, h110, h111⟩, hQ, hM⟩ := hV
  have hF : ∀ j, j < 100 → ce j = ce j := fun _ _ => rfl
  refine lv_iload_n hx hb dX6_tick_0 rfl (lv_at hl 1 rfl) ?_
  refine lv_iconst (v := 1) hx hb dX6_tick_1 (by decide) ?_
  refine lv_icmp_lt (tgt := 11) hx hb dX6_tick_2 (by decide) (fun c2 => ?_) (fun c2 => ?_)
  · refine lv_iconst (v := -1) hx hb dX6_tick_11 (by decide) ?_
    exact z_iret F (rfl) hw hS (by unfold sp_tick; rw [if_pos c2]; exact ⟨rfl, rfl, ⟨_, _, _, _, ⟨h100, h101, h102, h103, h104, h105, h106, h107, h108, h109, h110, h111⟩, hQ, hM⟩, hF⟩) dX6_tick_12
  · refine lv_iload_n hx hb dX6_tick_5 rfl (lv_at hl 1 rfl) ?_
    refine lv_bipush (v := 100) hx hb dX6_tick_6 (by decide) ?_
    refine lv_icmp_le (tgt := 13) hx hb dX6_tick_8 (by decide) (fun c8 => ?_) (fun c8 => ?_)
    · refine lv_iconst (v := 0) hx hb dX6_tick_13 (by decide) ?_
      refine lv_istore_n (lv' := [(2, .int 0), (0, .ref (ad 100)), (1, .int v)]) hx hb dX6_tick_14 rfl hl (by decide) rfl (fun ls hl => ?_)
      refine lv_iconst (v := 0) hx hb dX6_tick_15 (by decide) ?_
      refine lv_istore_n (lv' := [(3, .int 0), (2, .int 0), (0, .ref (ad 100)), (1, .int v)]) hx hb dX6_tick_16 rfl hl (by decide) rfl (fun ls hl => ?_)
      have hv0 : ¬ v < 0 := fun q => c2 (by rw [Int32.lt_iff_toInt_lt] at q ⊢; rw [Int32.toInt_zero] at q; rw [show (1 : Int32).toInt = 1 from rfl]; omega)
      have hvv := rf_ixv hv0
      have hvl := rf_clt v
      refine z_loop (α := Nat) (fun k => v.toNatClampNeg - k) (fun k ce9 ls9 => lv_has ls9 5 [(0, .ref (ad 100)), (1, .int v), (2, .int (rf_tks M k (0, T, Q)).1), (3, .int (nI k))] ∧ rfV G ad ce9 (rf_tks M k (0, T, Q)).2.1 (rf_tks M k (0, T, Q)).2.2 M ∧ (∀ j, j < 100 → ce9 j = ce j) ∧ k ≤ v.toNatClampNeg) 0 ⟨lv_sub hl [2, 3, 1, 0] rfl, ⟨_, _, _, _, ⟨h100, h101, h102, h103, h104, h105, h106, h107, h108, h109, h110, h111⟩, hQ, hM⟩, hF, Nat.zero_le _⟩ hw hS (fun k ih17 ce9 H locs ls hI hw hS => ?_)
      obtain ⟨hl, hV, hF, hkd⟩ := hI
      generalize hgk : rf_tks M k (0, T, Q) = g9 at hV hl
      obtain ⟨n9, T9, Q9⟩ := g9
      have hl : lv_has ls 5 [(0, .ref (ad 100)), (1, .int v), (2, .int n9), (3, .int (nI k))] := hl
      have hV : rfV G ad ce9 T9 Q9 M := hV
      obtain ⟨cn, zs, bs, hh, ⟨h100, h101, h102, h103, h104, h105, h106, h107, h108, h109, h110, h111⟩, hQ, hM⟩ := hV
      refine lv_iload_n hx hb dX6_tick_17 rfl (lv_at hl 3 rfl) ?_
      refine lv_iload_n hx hb dX6_tick_18 rfl (lv_at hl 1 rfl) ?_
      refine lv_icmp_ge (tgt := 83) hx hb dX6_tick_19 (by decide) (fun c19 => ?_) (fun c19 => ?_)
      · have hke : k = v.toNatClampNeg := Nat.le_antisymm hkd (Nat.le_of_not_lt (fun q => absurd c19 (by rw [hvv]; exact nI_ge q hvl)))
        subst hke
        refine lv_iload_n hx hb dX6_tick_83 rfl (lv_at hl 2 rfl) ?_
        exact z_iret F (rfl) hw hS (by unfold sp_tick; rw [if_neg c2, if_pos c8, hgk]; exact ⟨rfl, rfl, ⟨_, _, _, _, ⟨h100, h101, h102, h103, h104, h105, h106, h107, h108, h109, h110, h111⟩, hQ, hM⟩, hF⟩) dX6_tick_84
      · have hklt : k < v.toNatClampNeg := Nat.lt_of_not_le (fun q => c19 (by rw [hvv]; exact nI_le q (by omega)))
        refine lv_iconst (v := 0) hx hb dX6_tick_22 (by decide) ?_
        refine lv_istore (lv' := [(4, .int 0), (0, .ref (ad 100)), (1, .int v), (2, .int n9), (3, .int (nI k))]) hx hb dX6_tick_23 hl (by decide) rfl (fun ls hl => ?_)
        refine lv_iload hx hb dX6_tick_25 (lv_at hl 0 rfl) ?_
        refine lv_iconst (v := 2) hx hb dX6_tick_27 (by decide) ?_
        refine lv_icmp_ge (tgt := 77) hx hb dX6_tick_28 (by decide) (fun c28 => absurd c28 (by decide)) (fun c28 => ?_)
        refine lv_aload_n hx hb dX6_tick_31 rfl (lv_at hl 1 rfl) ?_
        refine z_get F hw h100 fd_X6_29_X6 rfl dX6_tick_32 ?_
        refine lv_iload hx hb dX6_tick_35 (lv_at hl 0 rfl) ?_
        refine z_ld F hw h106 (0) (rfl) (by decide) (by decide) dX6_tick_37 ?_
        refine lv_if_le (tgt := 71) hx hb dX6_tick_38 (by decide) (fun c38 => ?_) (fun c38 => ?_)
        · refine lv_iinc (v := 1) (lv' := [(4, .int 1), (0, .ref (ad 100)), (1, .int v), (2, .int n9), (3, .int (nI k))]) hx hb dX6_tick_71 hl (k := 0) rfl (by decide) (by decide) rfl (fun ls hl => ?_)
          refine lv_goto (tgt := 25) hx hb dX6_tick_74 (by decide) ?_
          refine lv_iload hx hb dX6_tick_25 (lv_at hl 0 rfl) ?_
          refine lv_iconst (v := 2) hx hb dX6_tick_27 (by decide) ?_
          refine lv_icmp_ge (tgt := 77) hx hb dX6_tick_28 (by decide) (fun c28_1 => absurd c28_1 (by decide)) (fun c28_1 => ?_)
          refine lv_aload_n hx hb dX6_tick_31 rfl (lv_at hl 1 rfl) ?_
          refine z_get F hw h100 fd_X6_29_X6 rfl dX6_tick_32 ?_
          refine lv_iload hx hb dX6_tick_35 (lv_at hl 0 rfl) ?_
          refine z_ld F hw h106 (1) (rfl) (by decide) (by decide) dX6_tick_37 ?_
          refine lv_if_le (tgt := 71) hx hb dX6_tick_38 (by decide) (fun c38_1 => ?_) (fun c38_1 => ?_)
          · refine lv_iinc (v := 2) (lv' := [(4, .int 2), (0, .ref (ad 100)), (1, .int v), (2, .int n9), (3, .int (nI k))]) hx hb dX6_tick_71 hl (k := 0) rfl (by decide) (by decide) rfl (fun ls hl => ?_)
            refine lv_goto (tgt := 25) hx hb dX6_tick_74 (by decide) ?_
            refine lv_iload hx hb dX6_tick_25 (lv_at hl 0 rfl) ?_
            refine lv_iconst (v := 2) hx hb dX6_tick_27 (by decide) ?_
            refine lv_icmp_ge (tgt := 77) hx hb dX6_tick_28 (by decide) (fun c28_2 => ?_) (fun c28_2 => absurd c28_2 (by decide))
            refine lv_iinc (v := nI (k + 1)) (lv' := [(3, .int (nI (k + 1))), (4, .int 2), (0, .ref (ad 100)), (1, .int v), (2, .int n9)]) hx hb dX6_tick_77 hl (k := 4) rfl (nI_1 k) (by decide) rfl (fun ls hl => ?_)
            refine lv_goto (tgt := 17) hx hb dX6_tick_80 (by decide) ?_
            have hst : rf_tks M (k + 1) (0, T, Q) = (n9, T9, Q9) := by rw [rf_tks, hgk]; show sp_tk1 M n9 T9 Q9 = _; unfold sp_tk1; rw [if_pos c38, if_pos c38_1]
            exact ih17 (k + 1) _ _ _ _ (by omega) ⟨by rw [hst]; exact lv_sub hl [2, 3, 4, 0] rfl, by rw [hst]; exact ⟨_, _, _, _, ⟨h100, h101, h102, h103, h104, h105, h106, h107, h108, h109, h110, h111⟩, hQ, hM⟩, hF, by omega⟩ hw hS
          · refine lv_aload_n hx hb dX6_tick_41 rfl (lv_at hl 1 rfl) ?_
            refine z_get F hw h100 fd_X6_29_X6 rfl dX6_tick_42 ?_
            refine lv_iload hx hb dX6_tick_45 (lv_at hl 0 rfl) ?_
            refine lv_dup2_11 hx hb dX6_tick_47 rfl rfl ?_
            refine z_ld F hw h106 (1) (rfl) (by decide) (by decide) dX6_tick_48 ?_
            refine lv_iconst (v := 1) hx hb dX6_tick_49 (by decide) ?_
            refine lv_isub hx hb dX6_tick_50 ?_
            refine z_st F hw hS h106 (1) (rfl) (by decide) (by decide) dX6_tick_51 (fun ce1 H locs h106 fr2 hw hS => ?_)
            have h100 := (fr2 100 (by decide)).trans h100
            have h101 := (fr2 101 (by decide)).trans h101
            have h102 := (fr2 102 (by decide)).trans h102
            have h103 := (fr2 103 (by decide)).trans h103
            have h104 := (fr2 104 (by decide)).trans h104
            have h105 := (fr2 105 (by decide)).trans h105
            have h107 := (fr2 107 (by decide)).trans h107
            have h108 := (fr2 108 (by decide)).trans h108
            have h109 := (fr2 109 (by decide)).trans h109
            have h110 := (fr2 110 (by decide)).trans h110
            have h111 := (fr2 111 (by decide)).trans h111
            have hF : ∀ j, j < 100 → _ = ce j := fun j hj => (fr2 j (by omega)).trans (hF j hj)
            refine lv_aload_n hx hb dX6_tick_52 rfl (lv_at hl 1 rfl) ?_
            refine z_get F hw h100 fd_X6_29_X6 rfl dX6_tick_53 ?_
            refine lv_iload hx hb dX6_tick_56 (lv_at hl 0 rfl) ?_
            refine z_ld F hw h106 (1) (rfl) (by decide) (by decide) dX6_tick_58 ?_
            refine z_top (((T9 3) 1) - 1) (rf_up_s _ _ _) ?_
            refine lv_if_ne (tgt := 71) hx hb dX6_tick_59 (by decide) (fun c59 => ?_) (fun c59 => ?_)
            · refine lv_iinc (v := 2) (lv' := [(4, .int 2), (0, .ref (ad 100)), (1, .int v), (2, .int n9), (3, .int (nI k))]) hx hb dX6_tick_71 hl (k := 0) rfl (by decide) (by decide) rfl (fun ls hl => ?_)
              refine lv_goto (tgt := 25) hx hb dX6_tick_74 (by decide) ?_
              refine lv_iload hx hb dX6_tick_25 (lv_at hl 0 rfl) ?_
              refine lv_iconst (v := 2) hx hb dX6_tick_27 (by decide) ?_
              refine lv_icmp_ge (tgt := 77) hx hb dX6_tick_28 (by decide) (fun c28_2 => ?_) (fun c28_2 => absurd c28_2 (by decide))
              refine lv_iinc (v := nI (k + 1)) (lv' := [(3, .int (nI (k + 1))), (4, .int 2), (0, .ref (ad 100)), (1, .int v), (2, .int n9)]) hx hb dX6_tick_77 hl (k := 4) rfl (nI_1 k) (by decide) rfl (fun ls hl => ?_)
              refine lv_goto (tgt := 17) hx hb dX6_tick_80 (by decide) ?_
              have hst : rf_tks M (k + 1) (0, T, Q) = (n9, va_up T9 3 (upd (T9 3) 1 (((T9 3) 1) - 1)), Q9) := by rw [rf_tks, hgk]; show sp_tk1 M n9 T9 Q9 = _; unfold sp_tk1; rw [if_pos c38, if_neg c38_1, if_neg c59]
              exact ih17 (k + 1) _ _ _ _ (by omega) ⟨by rw [hst]; exact lv_sub hl [2, 3, 4, 0] rfl, by rw [hst]; exact ⟨_, _, _, _, ⟨h100, h101, h102, h103, h104, h105, h106, h107, h108, h109, h110, h111⟩, hQ, hM⟩, hF, by omega⟩ hw hS
            · refine lv_iinc (v := n9 + 1) (lv' := [(2, .int (n9 + 1)), (4, .int 1), (0, .ref (ad 100)), (1, .int v), (3, .int (nI k))]) hx hb dX6_tick_62 hl (k := 3) rfl (rfl) (by decide) rfl (fun ls hl => ?_)
              refine lv_aload_n hx hb dX6_tick_65 rfl (lv_at hl 2 rfl) ?_
              refine lv_iload hx hb dX6_tick_66 (lv_at hl 1 rfl) ?_
              have hV : rfV G ad ce1 (va_up T9 3 (upd (T9 3) 1 (((T9 3) 1) - 1))) Q9 M := ⟨_, _, _, _, ⟨h100, h101, h102, h103, h104, h105, h106, h107, h108, h109, h110, h111⟩, hQ, hM⟩
              refine z_invV F (rest := []) (r_out1 l (va_up T9 3 (upd (T9 3) 1 (((T9 3) 1) - 1))) Q9 M hV) yv_X6_138 ⟨Nat.le_of_ble_eq_true rfl, Nat.le_of_ble_eq_true rfl⟩ hw hA hS hl h100 rfl rfl rfl (Nat.le_of_ble_eq_true rfl) dX6_tick_68 ⟨Nat.le_of_ble_eq_true rfl, Nat.le_of_ble_eq_true rfl⟩ (fun r ad1 ce3 H locs hp hw hS => ?_)
              obtain ⟨rfl, rfl, hV, hF2⟩ := hp
              have hF : ∀ j, j < 100 → ce3 j = ce j := fun j hj => (hF2 j hj).trans (hF j hj)
              obtain ⟨cn, zs, bs, hh, ⟨h100, h101, h102, h103, h104, h105, h106, h107, h108, h109, h110, h111⟩, hQ, hM⟩ := hV
              refine W.eq (g2 := F0 m 71 ls []) rfl ?_
              refine lv_iinc (v := 2) (lv' := [(4, .int 2), (2, .int (n9 + 1)), (0, .ref (ad 100)), (1, .int v), (3, .int (nI k))]) hx hb dX6_tick_71 hl (k := 1) rfl (by decide) (by decide) rfl (fun ls hl => ?_)
              refine lv_goto (tgt := 25) hx hb dX6_tick_74 (by decide) ?_
              refine lv_iload hx hb dX6_tick_25 (lv_at hl 0 rfl) ?_
              refine lv_iconst (v := 2) hx hb dX6_tick_27 (by decide) ?_
              refine lv_icmp_ge (tgt := 77) hx hb dX6_tick_28 (by decide) (fun c28_2 => ?_) (fun c28_2 => absurd c28_2 (by decide))
              refine lv_iinc (v := nI (k + 1)) (lv' := [(3, .int (nI (k + 1))), (4, .int 2), (2, .int (n9 + 1)), (0, .ref (ad 100)), (1, .int v)]) hx hb dX6_tick_77 hl (k := 4) rfl (nI_1 k) (by decide) rfl (fun ls hl => ?_)
              refine lv_goto (tgt := 17) hx hb dX6_tick_80 (by decide) ?_
              have hst : rf_tks M (k + 1) (0, T, Q) = ((n9 + 1), ((sp_out1 (va_up T9 3 (upd (T9 3) 1 (((T9 3) 1) - 1))) Q9 M).2.1), (sp_out1 (va_up T9 3 (upd (T9 3) 1 (((T9 3) 1) - 1))) Q9 M).2.2) := by rw [rf_tks, hgk]; show sp_tk1 M n9 T9 Q9 = _; unfold sp_tk1; rw [if_pos c38, if_neg c38_1, if_pos c59]
              exact ih17 (k + 1) _ _ _ _ (by omega) ⟨by rw [hst]; exact lv_sub hl [3, 4, 2, 0] rfl, by rw [hst]; exact ⟨_, _, _, _, ⟨h100, h101, h102, h103, h104, h105, h106, h107, h108, h109, h110, h111⟩, hQ, hM⟩, hF, by omega⟩ hw hS
        · refine lv_aload_n hx hb dX6_tick_41 rfl (lv_at hl 1 rfl) ?_
          refine z_get F hw h100 fd_X6_29_X6 rfl dX6_tick_42 ?_
          refine lv_iload hx hb dX6_tick_45 (lv_at hl 0 rfl) ?_
          refine lv_dup2_11 hx hb dX6_tick_47 rfl rfl ?_
          refine z_ld F hw h106 (0) (rfl) (by decide) (by decide) dX6_tick_48 ?_
          refine lv_iconst (v := 1) hx hb dX6_tick_49 (by decide) ?_
          refine lv_isub hx hb dX6_tick_50 ?_
          refine z_st F hw hS h106 (0) (rfl) (by decide) (by decide) dX6_tick_51 (fun ce4 H locs h106 fr5 hw hS => ?_)
          have h100 := (fr5 100 (by decide)).trans h100
          have h101 := (fr5 101 (by decide)).trans h101
          have h102 := (fr5 102 (by decide)).trans h102
          have h103 := (fr5 103 (by decide)).trans h103
          have h104 := (fr5 104 (by decide)).trans h104
          have h105 := (fr5 105 (by decide)).trans h105
          have h107 := (fr5 107 (by decide)).trans h107
          have h108 := (fr5 108 (by decide)).trans h108
          have h109 := (fr5 109 (by decide)).trans h109
          have h110 := (fr5 110 (by decide)).trans h110
          have h111 := (fr5 111 (by decide)).trans h111
          have hF : ∀ j, j < 100 → _ = ce j := fun j hj => (fr5 j (by omega)).trans (hF j hj)
          refine lv_aload_n hx hb dX6_tick_52 rfl (lv_at hl 1 rfl) ?_
          refine z_get F hw h100 fd_X6_29_X6 rfl dX6_tick_53 ?_
          refine lv_iload hx hb dX6_tick_56 (lv_at hl 0 rfl) ?_
          refine z_ld F hw h106 (0) (rfl) (by decide) (by decide) dX6_tick_58 ?_
          refine z_top (((T9 3) 0) - 1) (rf_up_s _ _ _) ?_
          refine lv_if_ne (tgt := 71) hx hb dX6_tick_59 (by decide) (fun c59 => ?_) (fun c59 => ?_)
          · refine lv_iinc (v := 1) (lv' := [(4, .int 1), (0, .ref (ad 100)), (1, .int v), (2, .int n9), (3, .int (nI k))]) hx hb dX6_tick_71 hl (k := 0) rfl (by decide) (by decide) rfl (fun ls hl => ?_)
            refine lv_goto (tgt := 25) hx hb dX6_tick_74 (by decide) ?_
            refine lv_iload hx hb dX6_tick_25 (lv_at hl 0 rfl) ?_
            refine lv_iconst (v := 2) hx hb dX6_tick_27 (by decide) ?_
            refine lv_icmp_ge (tgt := 77) hx hb dX6_tick_28 (by decide) (fun c28_1 => absurd c28_1 (by decide)) (fun c28_1 => ?_)
            refine lv_aload_n hx hb dX6_tick_31 rfl (lv_at hl 1 rfl) ?_
            refine z_get F hw h100 fd_X6_29_X6 rfl dX6_tick_32 ?_
            refine lv_iload hx hb dX6_tick_35 (lv_at hl 0 rfl) ?_
            refine z_ld F hw h106 (1) (rfl) (by decide) (by decide) dX6_tick_37 ?_
            refine lv_if_le (tgt := 71) hx hb dX6_tick_38 (by decide) (fun c38_1 => ?_) (fun c38_1 => ?_)
            · refine lv_iinc (v := 2) (lv' := [(4, .int 2), (0, .ref (ad 100)), (1, .int v), (2, .int n9), (3, .int (nI k))]) hx hb dX6_tick_71 hl (k := 0) rfl (by decide) (by decide) rfl (fun ls hl => ?_)
              refine lv_goto (tgt := 25) hx hb dX6_tick_74 (by decide) ?_
              refine lv_iload hx hb dX6_tick_25 (lv_at hl 0 rfl) ?_
              refine lv_iconst (v := 2) hx hb dX6_tick_27 (by decide) ?_
              refine lv_icmp_ge (tgt := 77) hx hb dX6_tick_28 (by decide) (fun c28_2 => ?_) (fun c28_2 => absurd c28_2 (by decide))
              refine lv_iinc (v := nI (k + 1)) (lv' := [(3, .int (nI (k + 1))), (4, .int 2), (0, .ref (ad 100)), (1, .int v), (2, .int n9)]) hx hb dX6_tick_77 hl (k := 4) rfl (nI_1 k) (by decide) rfl (fun ls hl => ?_)
              refine lv_goto (tgt := 17) hx hb dX6_tick_80 (by decide) ?_
              have hst : rf_tks M (k + 1) (0, T, Q) = (n9, va_up T9 3 (upd (T9 3) 0 (((T9 3) 0) - 1)), Q9) := by rw [rf_tks, hgk]; show sp_tk1 M n9 T9 Q9 = _; unfold sp_tk1; rw [if_neg c38, if_neg c59, if_pos c38_1]
              exact ih17 (k + 1) _ _ _ _ (by omega) ⟨by rw [hst]; exact lv_sub hl [2, 3, 4, 0] rfl, by rw [hst]; exact ⟨_, _, _, _, ⟨h100, h101, h102, h103, h104, h105, h106, h107, h108, h109, h110, h111⟩, hQ, hM⟩, hF, by omega⟩ hw hS
            · refine lv_aload_n hx hb dX6_tick_41 rfl (lv_at hl 1 rfl) ?_
              refine z_get F hw h100 fd_X6_29_X6 rfl dX6_tick_42 ?_
              refine lv_iload hx hb dX6_tick_45 (lv_at hl 0 rfl) ?_
              refine lv_dup2_11 hx hb dX6_tick_47 rfl rfl ?_
              refine z_ld F hw h106 (1) (rfl) (by decide) (by decide) dX6_tick_48 ?_
              refine lv_iconst (v := 1) hx hb dX6_tick_49 (by decide) ?_
              refine lv_isub hx hb dX6_tick_50 ?_
              refine z_st F hw hS h106 (1) (rfl) (by decide) (by decide) dX6_tick_51 (fun ce6 H locs h106 fr7 hw hS => ?_)
              have h100 := (fr7 100 (by decide)).trans h100
              have h101 := (fr7 101 (by decide)).trans h101
              have h102 := (fr7 102 (by decide)).trans h102
              have h103 := (fr7 103 (by decide)).trans h103
              have h104 := (fr7 104 (by decide)).trans h104
              have h105 := (fr7 105 (by decide)).trans h105
              have h107 := (fr7 107 (by decide)).trans h107
              have h108 := (fr7 108 (by decide)).trans h108
              have h109 := (fr7 109 (by decide)).trans h109
              have h110 := (fr7 110 (by decide)).trans h110
              have h111 := (fr7 111 (by decide)).trans h111
              have hF : ∀ j, j < 100 → _ = ce j := fun j hj => (fr7 j (by omega)).trans (hF j hj)
              refine lv_aload_n hx hb dX6_tick_52 rfl (lv_at hl 1 rfl) ?_
              refine z_get F hw h100 fd_X6_29_X6 rfl dX6_tick_53 ?_
              refine lv_iload hx hb dX6_tick_56 (lv_at hl 0 rfl) ?_
              refine z_ld F hw h106 (1) (rfl) (by decide) (by decide) dX6_tick_58 ?_
              refine z_top (((upd (T9 3) 0 (((T9 3) 0) - 1)) 1) - 1) (rf_up_s _ _ _) ?_
              refine lv_if_ne (tgt := 71) hx hb dX6_tick_59 (by decide) (fun c59_1 => ?_) (fun c59_1 => ?_)
              · refine lv_iinc (v := 2) (lv' := [(4, .int 2), (0, .ref (ad 100)), (1, .int v), (2, .int n9), (3, .int (nI k))]) hx hb dX6_tick_71 hl (k := 0) rfl (by decide) (by decide) rfl (fun ls hl => ?_)
                refine lv_goto (tgt := 25) hx hb dX6_tick_74 (by decide) ?_
                refine lv_iload hx hb dX6_tick_25 (lv_at hl 0 rfl) ?_
                refine lv_iconst (v := 2) hx hb dX6_tick_27 (by decide) ?_
                refine lv_icmp_ge (tgt := 77) hx hb dX6_tick_28 (by decide) (fun c28_2 => ?_) (fun c28_2 => absurd c28_2 (by decide))
                refine lv_iinc (v := nI (k + 1)) (lv' := [(3, .int (nI (k + 1))), (4, .int 2), (0, .ref (ad 100)), (1, .int v), (2, .int n9)]) hx hb dX6_tick_77 hl (k := 4) rfl (nI_1 k) (by decide) rfl (fun ls hl => ?_)
                refine lv_goto (tgt := 17) hx hb dX6_tick_80 (by decide) ?_
                have hst : rf_tks M (k + 1) (0, T, Q) = (n9, va_up T9 3 (upd (upd (T9 3) 0 (((T9 3) 0) - 1)) 1 (((upd (T9 3) 0 (((T9 3) 0) - 1)) 1) - 1)), Q9) := by rw [rf_tks, hgk]; show sp_tk1 M n9 T9 Q9 = _; unfold sp_tk1; rw [if_neg c38, if_neg c59, if_neg c38_1, if_neg c59_1]
                exact ih17 (k + 1) _ _ _ _ (by omega) ⟨by rw [hst]; exact lv_sub hl [2, 3, 4, 0] rfl, by rw [hst]; exact ⟨_, _, _, _, ⟨h100, h101, h102, h103, h104, h105, h106, h107, h108, h109, h110, h111⟩, hQ, hM⟩, hF, by omega⟩ hw hS
              · refine lv_iinc (v := n9 + 1) (lv' := [(2, .int (n9 + 1)), (4, .int 1), (0, .ref (ad 100)), (1, .int v), (3, .int (nI k))]) hx hb dX6_tick_62 hl (k := 3) rfl (rfl) (by decide) rfl (fun ls hl => ?_)
                refine lv_aload_n hx hb dX6_tick_65 rfl (lv_at hl 2 rfl) ?_
                refine lv_iload hx hb dX6_tick_66 (lv_at hl 1 rfl) ?_
                have hV : rfV G ad ce6 (va_up T9 3 (upd (upd (T9 3) 0 (((T9 3) 0) - 1)) 1 (((upd (T9 3) 0 (((T9 3) 0) - 1)) 1) - 1))) Q9 M := ⟨_, _, _, _, ⟨h100, h101, h102, h103, h104, h105, h106, h107, h108, h109, h110, h111⟩, hQ, hM⟩
                refine z_invV F (rest := []) (r_out1 l (va_up T9 3 (upd (upd (T9 3) 0 (((T9 3) 0) - 1)) 1 (((upd (T9 3) 0 (((T9 3) 0) - 1)) 1) - 1))) Q9 M hV) yv_X6_138 ⟨Nat.le_of_ble_eq_true rfl, Nat.le_of_ble_eq_true rfl⟩ hw hA hS hl h100 rfl rfl rfl (Nat.le_of_ble_eq_true rfl) dX6_tick_68 ⟨Nat.le_of_ble_eq_true rfl, Nat.le_of_ble_eq_true rfl⟩ (fun r ad1 ce8 H locs hp hw hS => ?_)
                obtain ⟨rfl, rfl, hV, hF2⟩ := hp
                have hF : ∀ j, j < 100 → ce8 j = ce j := fun j hj => (hF2 j hj).trans (hF j hj)
                obtain ⟨cn, zs, bs, hh, ⟨h100, h101, h102, h103, h104, h105, h106, h107, h108, h109, h110, h111⟩, hQ, hM⟩ := hV
                refine W.eq (g2 := F0 m 71 ls []) rfl ?_
                refine lv_iinc (v := 2) (lv' := [(4, .int 2), (2, .int (n9 + 1)), (0, .ref (ad 100)), (1, .int v), (3, .int (nI k))]) hx hb dX6_tick_71 hl (k := 1) rfl (by decide) (by decide) rfl (fun ls hl => ?_)
                refine lv_goto (tgt := 25) hx hb dX6_tick_74 (by decide) ?_
                refine lv_iload hx hb dX6_tick_25 (lv_at hl 0 rfl) ?_
                refine lv_iconst (v := 2) hx hb dX6_tick_27 (by decide) ?_
                refine lv_icmp_ge (tgt := 77) hx hb dX6_tick_28 (by decide) (fun c28_2 => ?_) (fun c28_2 => absurd c28_2 (by decide))
                refine lv_iinc (v := nI (k + 1)) (lv' := [(3, .int (nI (k + 1))), (4, .int 2), (2, .int (n9 + 1)), (0, .ref (ad 100)), (1, .int v)]) hx hb dX6_tick_77 hl (k := 4) rfl (nI_1 k) (by decide) rfl (fun ls hl => ?_)
                refine lv_goto (tgt := 17) hx hb dX6_tick_80 (by decide) ?_
                have hst : rf_tks M (k + 1) (0, T, Q) = ((n9 + 1), ((sp_out1 (va_up T9 3 (upd (upd (T9 3) 0 (((T9 3) 0) - 1)) 1 (((upd (T9 3) 0 (((T9 3) 0) - 1)) 1) - 1))) Q9 M).2.1), (sp_out1 (va_up T9 3 (upd (upd (T9 3) 0 (((T9 3) 0) - 1)) 1 (((upd (T9 3) 0 (((T9 3) 0) - 1)) 1) - 1))) Q9 M).2.2) := by rw [rf_tks, hgk]; show sp_tk1 M n9 T9 Q9 = _; unfold sp_tk1; rw [if_neg c38, if_neg c59, if_neg c38_1, if_pos c59_1]
                exact ih17 (k + 1) _ _ _ _ (by omega) ⟨by rw [hst]; exact lv_sub hl [3, 4, 2, 0] rfl, by rw [hst]; exact ⟨_, _, _, _, ⟨h100, h101, h102, h103, h104, h105, h106, h107, h108, h109, h110, h111⟩, hQ, hM⟩, hF, by omega⟩ hw hS
          · refine lv_iinc (v := n9 + 1) (lv' := [(2, .int (n9 + 1)), (4, .int 0), (0, .ref (ad 100)), (1, .int v), (3, .int (nI k))]) hx hb dX6_tick_62 hl (k := 3) rfl (rfl) (by decide) rfl (fun ls hl => ?_)
            refine lv_aload_n hx hb dX6_tick_65 rfl (lv_at hl 2 rfl) ?_
            refine lv_iload hx hb dX6_tick_66 (lv_at hl 1 rfl) ?_
            have hV : rfV G ad ce4 (va_up T9 3 (upd (T9 3) 0 (((T9 3) 0) - 1))) Q9 M := ⟨_, _, _, _, ⟨h100, h101, h102, h103, h104, h105, h106, h107, h108, h109, h110, h111⟩, hQ, hM⟩
            refine z_invV F (rest := []) (r_out0 l (va_up T9 3 (upd (T9 3) 0 (((T9 3) 0) - 1))) Q9 M hV) yv_X6_138 ⟨Nat.le_of_ble_eq_true rfl, Nat.le_of_ble_eq_true rfl⟩ hw hA hS hl h100 rfl rfl rfl (Nat.le_of_ble_eq_true rfl) dX6_tick_68 ⟨Nat.le_of_ble_eq_true rfl, Nat.le_of_ble_eq_true rfl⟩ (fun r ad1 ce9 H locs hp hw hS => ?_)
            obtain ⟨rfl, rfl, hV, hF2⟩ := hp
            have hF : ∀ j, j < 100 → ce9 j = ce j := fun j hj => (hF2 j hj).trans (hF j hj)
            obtain ⟨cn, zs, bs, hh, ⟨h100, h101, h102, h103, h104, h105, h106, h107, h108, h109, h110, h111⟩, hQ, hM⟩ := hV
            refine W.eq (g2 := F0 m 71 ls []) rfl ?_
            refine lv_iinc (v := 1) (lv' := [(4, .int 1), (2, .int (n9 + 1)), (0, .ref (ad 100)), (1, .int v), (3, .int (nI k))]) hx hb dX6_tick_71 hl (k := 1) rfl (by decide) (by decide) rfl (fun ls hl => ?_)
            refine lv_goto (tgt := 25) hx hb dX6_tick_74 (by decide) ?_
            refine lv_iload hx hb dX6_tick_25 (lv_at hl 0 rfl) ?_
            refine lv_iconst (v := 2) hx hb dX6_tick_27 (by decide) ?_
            refine lv_icmp_ge (tgt := 77) hx hb dX6_tick_28 (by decide) (fun c28_1 => absurd c28_1 (by decide)) (fun c28_1 => ?_)
            refine lv_aload_n hx hb dX6_tick_31 rfl (lv_at hl 2 rfl) ?_
            refine z_get F hw h100 fd_X6_29_X6 rfl dX6_tick_32 ?_
            refine lv_iload hx hb dX6_tick_35 (lv_at hl 0 rfl) ?_
            refine z_ld F hw h106 (1) (rfl) (by decide) (by decide) dX6_tick_37 ?_
            refine lv_if_le (tgt := 71) hx hb dX6_tick_38 (by decide) (fun c38_1 => ?_) (fun c38_1 => ?_)
            · refine lv_iinc (v := 2) (lv' := [(4, .int 2), (2, .int (n9 + 1)), (0, .ref (ad 100)), (1, .int v), (3, .int (nI k))]) hx hb dX6_tick_71 hl (k := 0) rfl (by decide) (by decide) rfl (fun ls hl => ?_)
              refine lv_goto (tgt := 25) hx hb dX6_tick_74 (by decide) ?_
              refine lv_iload hx hb dX6_tick_25 (lv_at hl 0 rfl) ?_
              refine lv_iconst (v := 2) hx hb dX6_tick_27 (by decide) ?_
              refine lv_icmp_ge (tgt := 77) hx hb dX6_tick_28 (by decide) (fun c28_2 => ?_) (fun c28_2 => absurd c28_2 (by decide))
              refine lv_iinc (v := nI (k + 1)) (lv' := [(3, .int (nI (k + 1))), (4, .int 2), (2, .int (n9 + 1)), (0, .ref (ad 100)), (1, .int v)]) hx hb dX6_tick_77 hl (k := 4) rfl (nI_1 k) (by decide) rfl (fun ls hl => ?_)
              refine lv_goto (tgt := 17) hx hb dX6_tick_80 (by decide) ?_
              have hst : rf_tks M (k + 1) (0, T, Q) = ((n9 + 1), ((sp_out0 (va_up T9 3 (upd (T9 3) 0 (((T9 3) 0) - 1))) Q9 M).2.1), (sp_out0 (va_up T9 3 (upd (T9 3) 0 (((T9 3) 0) - 1))) Q9 M).2.2) := by rw [rf_tks, hgk]; show sp_tk1 M n9 T9 Q9 = _; unfold sp_tk1; rw [if_neg c38, if_pos c59, if_pos c38_1]
              exact ih17 (k + 1) _ _ _ _ (by omega) ⟨by rw [hst]; exact lv_sub hl [3, 4, 2, 0] rfl, by rw [hst]; exact ⟨_, _, _, _, ⟨h100, h101, h102, h103, h104, h105, h106, h107, h108, h109, h110, h111⟩, hQ, hM⟩, hF, by omega⟩ hw hS
            · refine lv_aload_n hx hb dX6_tick_41 rfl (lv_at hl 2 rfl) ?_
              refine z_get F hw h100 fd_X6_29_X6 rfl dX6_tick_42 ?_
              refine lv_iload hx hb dX6_tick_45 (lv_at hl 0 rfl) ?_
              refine lv_dup2_11 hx hb dX6_tick_47 rfl rfl ?_
              refine z_ld F hw h106 (1) (rfl) (by decide) (by decide) dX6_tick_48 ?_
              refine lv_iconst (v := 1) hx hb dX6_tick_49 (by decide) ?_
              refine lv_isub hx hb dX6_tick_50 ?_
              refine z_st F hw hS h106 (1) (rfl) (by decide) (by decide) dX6_tick_51 (fun ce10 H locs h106 fr11 hw hS => ?_)
              have h100 := (fr11 100 (by decide)).trans h100
              have h101 := (fr11 101 (by decide)).trans h101
              have h102 := (fr11 102 (by decide)).trans h102
              have h103 := (fr11 103 (by decide)).trans h103
              have h104 := (fr11 104 (by decide)).trans h104
              have h105 := (fr11 105 (by decide)).trans h105
              have h107 := (fr11 107 (by decide)).trans h107
              have h108 := (fr11 108 (by decide)).trans h108
              have h109 := (fr11 109 (by decide)).trans h109
              have h110 := (fr11 110 (by decide)).trans h110
              have h111 := (fr11 111 (by decide)).trans h111
              have hF : ∀ j, j < 100 → _ = ce j := fun j hj => (fr11 j (by omega)).trans (hF j hj)
              refine lv_aload_n hx hb dX6_tick_52 rfl (lv_at hl 2 rfl) ?_
              refine z_get F hw h100 fd_X6_29_X6 rfl dX6_tick_53 ?_
              refine lv_iload hx hb dX6_tick_56 (lv_at hl 0 rfl) ?_
              refine z_ld F hw h106 (1) (rfl) (by decide) (by decide) dX6_tick_58 ?_
              refine z_top (((((sp_out0 (va_up T9 3 (upd (T9 3) 0 (((T9 3) 0) - 1))) Q9 M).2.1) 3) 1) - 1) (rf_up_s _ _ _) ?_
              refine lv_if_ne (tgt := 71) hx hb dX6_tick_59 (by decide) (fun c59_1 => ?_) (fun c59_1 => ?_)
              · refine lv_iinc (v := 2) (lv' := [(4, .int 2), (2, .int (n9 + 1)), (0, .ref (ad 100)), (1, .int v), (3, .int (nI k))]) hx hb dX6_tick_71 hl (k := 0) rfl (by decide) (by decide) rfl (fun ls hl => ?_)
                refine lv_goto (tgt := 25) hx hb dX6_tick_74 (by decide) ?_
                refine lv_iload hx hb dX6_tick_25 (lv_at hl 0 rfl) ?_
                refine lv_iconst (v := 2) hx hb dX6_tick_27 (by decide) ?_
                refine lv_icmp_ge (tgt := 77) hx hb dX6_tick_28 (by decide) (fun c28_2 => ?_) (fun c28_2 => absurd c28_2 (by decide))
                refine lv_iinc (v := nI (k + 1)) (lv' := [(3, .int (nI (k + 1))), (4, .int 2), (2, .int (n9 + 1)), (0, .ref (ad 100)), (1, .int v)]) hx hb dX6_tick_77 hl (k := 4) rfl (nI_1 k) (by decide) rfl (fun ls hl => ?_)
                refine lv_goto (tgt := 17) hx hb dX6_tick_80 (by decide) ?_
                have hst : rf_tks M (k + 1) (0, T, Q) = ((n9 + 1), va_up ((sp_out0 (va_up T9 3 (upd (T9 3) 0 (((T9 3) 0) - 1))) Q9 M).2.1) 3 (upd (((sp_out0 (va_up T9 3 (upd (T9 3) 0 (((T9 3) 0) - 1))) Q9 M).2.1) 3) 1 (((((sp_out0 (va_up T9 3 (upd (T9 3) 0 (((T9 3) 0) - 1))) Q9 M).2.1) 3) 1) - 1)), (sp_out0 (va_up T9 3 (upd (T9 3) 0 (((T9 3) 0) - 1))) Q9 M).2.2) := by rw [rf_tks, hgk]; show sp_tk1 M n9 T9 Q9 = _; unfold sp_tk1; rw [if_neg c38, if_pos c59, if_neg c38_1, if_neg c59_1]
                exact ih17 (k + 1) _ _ _ _ (by omega) ⟨by rw [hst]; exact lv_sub hl [3, 4, 2, 0] rfl, by rw [hst]; exact ⟨_, _, _, _, ⟨h100, h101, h102, h103, h104, h105, h106, h107, h108, h109, h110, h111⟩, hQ, hM⟩, hF, by omega⟩ hw hS
              · refine lv_iinc (v := (n9 + 1) + 1) (lv' := [(2, .int ((n9 + 1) + 1)), (4, .int 1), (0, .ref (ad 100)), (1, .int v), (3, .int (nI k))]) hx hb dX6_tick_62 hl (k := 1) rfl (rfl) (by decide) rfl (fun ls hl => ?_)
                refine lv_aload_n hx hb dX6_tick_65 rfl (lv_at hl 2 rfl) ?_
                refine lv_iload hx hb dX6_tick_66 (lv_at hl 1 rfl) ?_
                have hV : rfV G ad ce10 (va_up ((sp_out0 (va_up T9 3 (upd (T9 3) 0 (((T9 3) 0) - 1))) Q9 M).2.1) 3 (upd (((sp_out0 (va_up T9 3 (upd (T9 3) 0 (((T9 3) 0) - 1))) Q9 M).2.1) 3) 1 (((((sp_out0 (va_up T9 3 (upd (T9 3) 0 (((T9 3) 0) - 1))) Q9 M).2.1) 3) 1) - 1))) ((sp_out0 (va_up T9 3 (upd (T9 3) 0 (((T9 3) 0) - 1))) Q9 M).2.2) M := ⟨_, _, _, _, ⟨h100, h101, h102, h103, h104, h105, h106, h107, h108, h109, h110, h111⟩, hQ, hM⟩
                refine z_invV F (rest := []) (r_out1 l (va_up ((sp_out0 (va_up T9 3 (upd (T9 3) 0 (((T9 3) 0) - 1))) Q9 M).2.1) 3 (upd (((sp_out0 (va_up T9 3 (upd (T9 3) 0 (((T9 3) 0) - 1))) Q9 M).2.1) 3) 1 (((((sp_out0 (va_up T9 3 (upd (T9 3) 0 (((T9 3) 0) - 1))) Q9 M).2.1) 3) 1) - 1))) ((sp_out0 (va_up T9 3 (upd (T9 3) 0 (((T9 3) 0) - 1))) Q9 M).2.2) M hV) yv_X6_138 ⟨Nat.le_of_ble_eq_true rfl, Nat.le_of_ble_eq_true rfl⟩ hw hA hS hl h100 rfl rfl rfl (Nat.le_of_ble_eq_true rfl) dX6_tick_68 ⟨Nat.le_of_ble_eq_true rfl, Nat.le_of_ble_eq_true rfl⟩ (fun r ad1 ce12 H locs hp hw hS => ?_)
                obtain ⟨rfl, rfl, hV, hF2⟩ := hp
                have hF : ∀ j, j < 100 → ce12 j = ce j := fun j hj => (hF2 j hj).trans (hF j hj)
                obtain ⟨cn, zs, bs, hh, ⟨h100, h101, h102, h103, h104, h105, h106, h107, h108, h109, h110, h111⟩, hQ, hM⟩ := hV
                refine W.eq (g2 := F0 m 71 ls []) rfl ?_
                refine lv_iinc (v := 2) (lv' := [(4, .int 2), (2, .int ((n9 + 1) + 1)), (0, .ref (ad 100)), (1, .int v), (3, .int (nI k))]) hx hb dX6_tick_71 hl (k := 1) rfl (by decide) (by decide) rfl (fun ls hl => ?_)
                refine lv_goto (tgt := 25) hx hb dX6_tick_74 (by decide) ?_
                refine lv_iload hx hb dX6_tick_25 (lv_at hl 0 rfl) ?_
                refine lv_iconst (v := 2) hx hb dX6_tick_27 (by decide) ?_
                refine lv_icmp_ge (tgt := 77) hx hb dX6_tick_28 (by decide) (fun c28_2 => ?_) (fun c28_2 => absurd c28_2 (by decide))
                refine lv_iinc (v := nI (k + 1)) (lv' := [(3, .int (nI (k + 1))), (4, .int 2), (2, .int ((n9 + 1) + 1)), (0, .ref (ad 100)), (1, .int v)]) hx hb dX6_tick_77 hl (k := 4) rfl (nI_1 k) (by decide) rfl (fun ls hl => ?_)
                refine lv_goto (tgt := 17) hx hb dX6_tick_80 (by decide) ?_
                have hst : rf_tks M (k + 1) (0, T, Q) = (((n9 + 1) + 1), ((sp_out1 (va_up ((sp_out0 (va_up T9 3 (upd (T9 3) 0 (((T9 3) 0) - 1))) Q9 M).2.1) 3 (upd (((sp_out0 (va_up T9 3 (upd (T9 3) 0 (((T9 3) 0) - 1))) Q9 M).2.1) 3) 1 (((((sp_out0 (va_up T9 3 (upd (T9 3) 0 (((T9 3) 0) - 1))) Q9 M).2.1) 3) 1) - 1))) ((sp_out0 (va_up T9 3 (upd (T9 3) 0 (((T9 3) 0) - 1))) Q9 M).2.2) M).2.1), (sp_out1 (va_up ((sp_out0 (va_up T9 3 (upd (T9 3) 0 (((T9 3) 0) - 1))) Q9 M).2.1) 3 (upd (((sp_out0 (va_up T9 3 (upd (T9 3) 0 (((T9 3) 0) - 1))) Q9 M).2.1) 3) 1 (((((sp_out0 (va_up T9 3 (upd (T9 3) 0 (((T9 3) 0) - 1))) Q9 M).2.1) 3) 1) - 1))) ((sp_out0 (va_up T9 3 (upd (T9 3) 0 (((T9 3) 0) - 1))) Q9 M).2.2) M).2.2) := by rw [rf_tks, hgk]; show sp_tk1 M n9 T9 Q9 = _; unfold sp_tk1; rw [if_neg c38, if_pos c59, if_neg c38_1, if_pos c59_1]
                exact ih17 (k + 1) _ _ _ _ (by omega) ⟨by rw [hst]; exact lv_sub hl [3, 4, 2, 0] rfl, by rw [hst]; exact ⟨_, _, _, _, ⟨h100, h101, h102, h103, h104, h105, h106, h107, h108, h109, h110, h111⟩, hQ, hM⟩, hF, by omega⟩ hw hS
    · refine lv_iconst (v := -1) hx hb dX6_tick_11 (by decide) ?_
      exact z_iret F (rfl) hw hS (by unfold sp_tick; rw [if_neg c2, if_neg c8]; exact ⟨rfl, rfl, ⟨_, _, _, _, ⟨h100, h101, h102, h103, h104, h105, h106, h107, h108, h109, h110, h111⟩, hQ, hM⟩, hF⟩) dX6_tick_12
