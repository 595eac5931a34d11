set_option maxHeartbeats 4000000 in
set_option maxRecDepth 100000 in
theorem r_way0 (l : Launch) {G : zz_G} {ad : Nat → Nat} {ce : zz_C} {sz : Nat} (T : rf_T) (Q : rf_Q) (M : List Nat) (hV : rfV G ad ce T Q M) : zz_M l yX6_way cX6_way 2 (some .int) 0 0 0 0 G [.ref (ad 100), .int 0] ad ce sz (fun r ad1 ce1 => r = some (.int 0) ∧ ad = ad1 ∧ ce = ce1) := by
  refine zz_enter (by decide) (Nat.le_of_ble_eq_true rfl) ?_
  intro p e s m below meth c ls F hl hw hS hA
  obtain ⟨hx, hb, hr, hml, hown, hts, hlocks, hK, hnm⟩ := id F
  have hl : lv_has ls 2 [(0, .ref (ad 100)), (1, .int 0)] := hl
  obtain ⟨cn, zs, bs, hh, ⟨h100, h101, h102, h103, h104, h105, h106, h107, h108, h109, h110, h111⟩, hQ, hM⟩ := hV
  have hF : ∀ j, j < 100 → ce j = ce j := fun _ _ => rfl
  refine lv_iload_n hx hb dX6_way_0 rfl (lv_at hl 1 rfl) ?_
  refine lv_if_ne (tgt := 8) hx hb dX6_way_1 (by decide) (fun c1 => absurd c1 (by decide)) (fun c1 => ?_)
  refine lv_iconst (v := 0) hx hb dX6_way_4 (by decide) ?_
  refine lv_goto (tgt := 9) hx hb dX6_way_5 (by decide) ?_
  exact z_iret F (rfl) hw hS (⟨rfl, rfl, rfl⟩) dX6_way_9
set_option maxHeartbeats 4000000 in
set_option maxRecDepth 100000 in
theorem r_rest0 (l : Launch) {G : zz_G} {ad : Nat → Nat} {ce : zz_C} {sz : Nat} (T : rf_T) (Q : rf_Q) (M : List Nat) (hV : rfV G ad ce T Q M) : zz_M l yX6_rest cX6_rest 2 (some .int) 0 0 0 0 G [.ref (ad 100), .int 0] ad ce sz (fun r ad1 ce1 => r = some (.int 3) ∧ ad = ad1 ∧ ce = ce1) := by
  refine zz_enter (by decide) (Nat.le_of_ble_eq_true rfl) ?_
  intro p e s m below meth c ls F hl hw hS hA
  obtain ⟨hx, hb, hr, hml, hown, hts, hlocks, hK, hnm⟩ := id F
  have hl : lv_has ls 2 [(0, .ref (ad 100)), (1, .int 0)] := hl
  obtain ⟨cn, zs, bs, hh, ⟨h100, h101, h102, h103, h104, h105, h106, h107, h108, h109, h110, h111⟩, hQ, hM⟩ := hV
  have hF : ∀ j, j < 100 → ce j = ce j := fun _ _ => rfl
  refine lv_iload_n hx hb dX6_rest_0 rfl (lv_at hl 1 rfl) ?_
  refine lv_if_ne (tgt := 8) hx hb dX6_rest_1 (by decide) (fun c1 => absurd c1 (by decide)) (fun c1 => ?_)
  refine lv_iconst (v := 3) hx hb dX6_rest_4 (by decide) ?_
  refine lv_goto (tgt := 9) hx hb dX6_rest_5 (by decide) ?_
  exact z_iret F (rfl) hw hS (⟨rfl, rfl, rfl⟩) dX6_rest_9
set_option maxHeartbeats 4000000 in
set_option maxRecDepth 100000 in
theorem r_become0 (l : Launch) {G : zz_G} {ad : Nat → Nat} {ce : zz_C} {sz : Nat} (T : rf_T) (Q : rf_Q) (M : List Nat) (hV : rfV G ad ce T Q M) (vs vc vt : Int32) : zz_M l yX6_become cX6_become 5 none 0 0 0 0 G [.ref (ad 100), .int 0, .int vs, .int vc, .int vt] ad ce sz (fun r ad1 ce1 => r = none ∧ ad = ad1 ∧ rfV G ad ce1 (rf_become T 0 vs vc vt) Q M ∧ (∀ j, j < 100 → ce1 j = ce j)) := by
  refine zz_enter (by decide) (Nat.le_of_ble_eq_true rfl) ?_
  intro p e s m below meth c ls F hl hw hS hA
  obtain ⟨hx, hb, hr, hml, hown, hts, hlocks, hK, hnm⟩ := id F
  have hl : lv_has ls 5 [(0, .ref (ad 100)), (1, .int 0), (2, .int vs), (3, .int vc), (4, .int vt)] := hl
  obtain ⟨cn, zs, bs, hh, ⟨h100, h101, h102, h103, h104, h105, h106, h107, h108, h109, h110, h111⟩, hQ, hM⟩ := hV
  have hF : ∀ j, j < 100 → ce j = ce j := fun _ _ => rfl
  refine lv_aload_n hx hb dX6_become_0 rfl (lv_at hl 0 rfl) ?_
  refine z_get F hw h100 fd_X6_23_X6 rfl dX6_become_1 ?_
  refine lv_iload_n hx hb dX6_become_4 rfl (lv_at hl 1 rfl) ?_
  refine lv_iload_n hx hb dX6_become_5 rfl (lv_at hl 2 rfl) ?_
  refine z_st F hw hS h104 (0) (rfl) (by decide) (by decide) dX6_become_6 (fun ce1 H locs h104 fr2 hw hS => ?_)
  have h100 := (fr2 100 (by decide)).trans h100
  have h101 := (fr2 101 (by decide)).trans h101
  have h102 := (fr2 102 (by decide)).trans h102
  have h103 := (fr2 103 (by decide)).trans h103
  have h105 := (fr2 105 (by decide)).trans h105
  have h106 := (fr2 106 (by decide)).trans h106
  have h107 := (fr2 107 (by decide)).trans h107
  have h108 := (fr2 108 (by decide)).trans h108
  have h109 := (fr2 109 (by decide)).trans h109
  have h110 := (fr2 110 (by decide)).trans h110
  have h111 := (fr2 111 (by decide)).trans h111
  have hF : ∀ j, j < 100 → _ = ce j := fun j hj => (fr2 j (by omega)).trans (hF j hj)
  refine lv_aload_n hx hb dX6_become_7 rfl (lv_at hl 0 rfl) ?_
  refine z_get F hw h100 fd_X6_26_X6 rfl dX6_become_8 ?_
  refine lv_iload_n hx hb dX6_become_11 rfl (lv_at hl 1 rfl) ?_
  refine lv_iload_n hx hb dX6_become_12 rfl (lv_at hl 3 rfl) ?_
  refine z_st F hw hS h105 (0) (rfl) (by decide) (by decide) dX6_become_13 (fun ce3 H locs h105 fr4 hw hS => ?_)
  have h100 := (fr4 100 (by decide)).trans h100
  have h101 := (fr4 101 (by decide)).trans h101
  have h102 := (fr4 102 (by decide)).trans h102
  have h103 := (fr4 103 (by decide)).trans h103
  have h104 := (fr4 104 (by decide)).trans h104
  have h106 := (fr4 106 (by decide)).trans h106
  have h107 := (fr4 107 (by decide)).trans h107
  have h108 := (fr4 108 (by decide)).trans h108
  have h109 := (fr4 109 (by decide)).trans h109
  have h110 := (fr4 110 (by decide)).trans h110
  have h111 := (fr4 111 (by decide)).trans h111
  have hF : ∀ j, j < 100 → _ = ce j := fun j hj => (fr4 j (by omega)).trans (hF j hj)
  refine lv_aload_n hx hb dX6_become_14 rfl (lv_at hl 0 rfl) ?_
  refine z_get F hw h100 fd_X6_29_X6 rfl dX6_become_15 ?_
  refine lv_iload_n hx hb dX6_become_18 rfl (lv_at hl 1 rfl) ?_
  refine lv_iload hx hb dX6_become_19 (lv_at hl 4 rfl) ?_
  refine z_st F hw hS h106 (0) (rfl) (by decide) (by decide) dX6_become_21 (fun ce5 H locs h106 fr6 hw hS => ?_)
  have h100 := (fr6 100 (by decide)).trans h100
  have h101 := (fr6 101 (by decide)).trans h101
  have h102 := (fr6 102 (by decide)).trans h102
  have h103 := (fr6 103 (by decide)).trans h103
  have h104 := (fr6 104 (by decide)).trans h104
  have h105 := (fr6 105 (by decide)).trans h105
  have h107 := (fr6 107 (by decide)).trans h107
  have h108 := (fr6 108 (by decide)).trans h108
  have h109 := (fr6 109 (by decide)).trans h109
  have h110 := (fr6 110 (by decide)).trans h110
  have h111 := (fr6 111 (by decide)).trans h111
  have hF : ∀ j, j < 100 → _ = ce j := fun j hj => (fr6 j (by omega)).trans (hF j hj)
  refine lv_aload_n hx hb dX6_become_22 rfl (lv_at hl 0 rfl) ?_
  refine z_get F hw h100 fd_X6_32_X6 rfl dX6_become_23 ?_
  refine lv_iload_n hx hb dX6_become_26 rfl (lv_at hl 1 rfl) ?_
  refine lv_iconst (v := 0) hx hb dX6_become_27 (by decide) ?_
  refine z_zst F hw hS h107 (0) (rfl) (by decide) (by decide) (rfl) dX6_become_28 (fun ce7 H locs h107 fr8 hw hS => ?_)
  have h100 := (fr8 100 (by decide)).trans h100
  have h101 := (fr8 101 (by decide)).trans h101
  have h102 := (fr8 102 (by decide)).trans h102
  have h103 := (fr8 103 (by decide)).trans h103
  have h104 := (fr8 104 (by decide)).trans h104
  have h105 := (fr8 105 (by decide)).trans h105
  have h106 := (fr8 106 (by decide)).trans h106
  have h108 := (fr8 108 (by decide)).trans h108
  have h109 := (fr8 109 (by decide)).trans h109
  have h110 := (fr8 110 (by decide)).trans h110
  have h111 := (fr8 111 (by decide)).trans h111
  have hF : ∀ j, j < 100 → _ = ce j := fun j hj => (fr8 j (by omega)).trans (hF j hj)
  exact z_vret F hw hS (⟨rfl, rfl, ⟨_, _, _, _, ⟨h100, h101, h102, h103, h104, h105, h106, h107, h108, h109, h110, h111⟩, hQ, hM⟩, hF⟩) dX6_become_29
set_option maxHeartbeats 4000000 in
set_option maxRecDepth 100000 in
theorem r_isCall0 (l : Launch) {G : zz_G} {ad : Nat → Nat} {ce : zz_C} {sz : Nat} (T : rf_T) (Q : rf_Q) (M : List Nat) (hV : rfV G ad ce T Q M) (lo hi : Int32) : zz_M l yX6_isCall cX6_isCall 4 (some .boolean) 0 0 0 0 G [.ref (ad 100), .int 0, .int lo, .int hi] ad ce sz (fun r ad1 ce1 => ((rf_inC T 0 lo hi ∧ r = some (.int 1)) ∨ (¬ rf_inC T 0 lo hi ∧ r = some (.int 0))) ∧ ad = ad1 ∧ ce = ce1) := by
  refine zz_enter (by decide) (Nat.le_of_ble_eq_true rfl) ?_
  intro p e s m below meth c ls F hl hw hS hA
  obtain ⟨hx, hb, hr, hml, hown, hts, hlocks, hK, hnm⟩ := id F
  have hl : lv_has ls 4 [(0, .ref (ad 100)), (1, .int 0), (2, .int lo), (3, .int hi)] := hl
  obtain ⟨cn, zs, bs, hh, ⟨h100, h101, h102, h103, h104, h105, h106, h107, h108, h109, h110, h111⟩, hQ, hM⟩ := hV
  have hF : ∀ j, j < 100 → ce j = ce j := fun _ _ => rfl
  refine lv_aload_n hx hb dX6_isCall_0 rfl (lv_at hl 0 rfl) ?_
  refine z_get F hw h100 fd_X6_26_X6 rfl dX6_isCall_1 ?_
  refine lv_iload_n hx hb dX6_isCall_4 rfl (lv_at hl 1 rfl) ?_
  refine z_ld F hw h105 (0) (rfl) (by decide) (by decide) dX6_isCall_5 ?_
  refine lv_iload_n hx hb dX6_isCall_6 rfl (lv_at hl 2 rfl) ?_
  refine lv_icmp_lt (tgt := 24) hx hb dX6_isCall_7 (by decide) (fun c7 => ?_) (fun c7 => ?_)
  · refine lv_iconst (v := 0) hx hb dX6_isCall_24 (by decide) ?_
    exact z_iret F (rfl) hw hS (⟨Or.inr ⟨fun q => q.1 c7, rfl⟩, rfl, rfl⟩) dX6_isCall_25
  · refine lv_aload_n hx hb dX6_isCall_10 rfl (lv_at hl 0 rfl) ?_
    refine z_get F hw h100 fd_X6_26_X6 rfl dX6_isCall_11 ?_
    refine lv_iload_n hx hb dX6_isCall_14 rfl (lv_at hl 1 rfl) ?_
    refine z_ld F hw h105 (0) (rfl) (by decide) (by decide) dX6_isCall_15 ?_
    refine lv_iload_n hx hb dX6_isCall_16 rfl (lv_at hl 3 rfl) ?_
    refine lv_icmp_gt (tgt := 24) hx hb dX6_isCall_17 (by decide) (fun c17 => ?_) (fun c17 => ?_)
    · refine lv_iconst (v := 0) hx hb dX6_isCall_24 (by decide) ?_
      exact z_iret F (rfl) hw hS (⟨Or.inr ⟨fun q => q.2 c17, rfl⟩, rfl, rfl⟩) dX6_isCall_25
    · refine lv_iconst (v := 1) hx hb dX6_isCall_20 (by decide) ?_
      refine lv_goto (tgt := 25) hx hb dX6_isCall_21 (by decide) ?_
      exact z_iret F (rfl) hw hS (⟨Or.inl ⟨⟨c7, c17⟩, rfl⟩, rfl, rfl⟩) dX6_isCall_25
set_option maxHeartbeats 4000000 in
set_option maxRecDepth 100000 in
theorem r_way1 (l : Launch) {G : zz_G} {ad : Nat → Nat} {ce : zz_C} {sz : Nat} (T : rf_T) (Q : rf_Q) (M : List Nat) (hV : rfV G ad ce T Q M) : zz_M l yX6_way cX6_way 2 (some .int) 0 0 0 0 G [.ref (ad 100), .int 1] ad ce sz (fun r ad1 ce1 => r = some (.int 1) ∧ ad = ad1 ∧ ce = ce1) := by
  refine zz_enter (by decide) (Nat.le_of_ble_eq_true rfl) ?_
  intro p e s m below meth c ls F hl hw hS hA
  obtain ⟨hx, hb, hr, hml, hown, hts, hlocks, hK, hnm⟩ := id F
  have hl : lv_has ls 2 [(0, .ref (ad 100)), (1, .int 1)] := hl
  obtain ⟨cn, zs, bs, hh, ⟨h100, h101, h102, h103, h104, h105, h106, h107, h108, h109, h110, h111⟩, hQ, hM⟩ := hV
  have hF : ∀ j, j < 100 → ce j = ce j := fun _ _ => rfl
  refine lv_iload_n hx hb dX6_way_0 rfl (lv_at hl 1 rfl) ?_
  refine lv_if_ne (tgt := 8) hx hb dX6_way_1 (by decide) (fun c1 => ?_) (fun c1 => absurd c1 (by decide))
  refine lv_iconst (v := 1) hx hb dX6_way_8 (by decide) ?_
  exact z_iret F (rfl) hw hS (⟨rfl, rfl, rfl⟩) dX6_way_9
set_option maxHeartbeats 4000000 in
set_option maxRecDepth 100000 in
theorem r_rest1 (l : Launch) {G : zz_G} {ad : Nat → Nat} {ce : zz_C} {sz : Nat} (T : rf_T) (Q : rf_Q) (M : List Nat) (hV : rfV G ad ce T Q M) : zz_M l yX6_rest cX6_rest 2 (some .int) 0 0 0 0 G [.ref (ad 100), .int 1] ad ce sz (fun r ad1 ce1 => r = some (.int 0) ∧ ad = ad1 ∧ ce = ce1) := by
  refine zz_enter (by decide) (Nat.le_of_ble_eq_true rfl) ?_
  intro p e s m below meth c ls F hl hw hS hA
  obtain ⟨hx, hb, hr, hml, hown, hts, hlocks, hK, hnm⟩ := id F
  have hl : lv_has ls 2 [(0, .ref (ad 100)), (1, .int 1)] := hl
  obtain ⟨cn, zs, bs, hh, ⟨h100, h101, h102, h103, h104, h105, h106, h107, h108, h109, h110, h111⟩, hQ, hM⟩ := hV
  have hF : ∀ j, j < 100 → ce j = ce j := fun _ _ => rfl
  refine lv_iload_n hx hb dX6_rest_0 rfl (lv_at hl 1 rfl) ?_
  refine lv_if_ne (tgt := 8) hx hb dX6_rest_1 (by decide) (fun c1 => ?_) (fun c1 => absurd c1 (by decide))
  refine lv_iconst (v := 0) hx hb dX6_rest_8 (by decide) ?_
  exact z_iret F (rfl) hw hS (⟨rfl, rfl, rfl⟩) dX6_rest_9
set_option maxHeartbeats 4000000 in
set_option maxRecDepth 100000 in
theorem r_become1 (l : Launch) {G : zz_G} {ad : Nat → Nat} {ce : zz_C} {sz : Nat} (T : rf_T) (Q : rf_Q) (M : List Nat) (hV : rfV G ad ce T Q M) (vs vc vt : Int32) : zz_M l yX6_become cX6_become 5 none 0 0 0 0 G [.ref (ad 100), .int 1, .int vs, .int vc, .int vt] ad ce sz (fun r ad1 ce1 => r = none ∧ ad = ad1 ∧ rfV G ad ce1 (rf_become T 1 vs vc vt) Q M ∧ (∀ j, j < 100 → ce1 j = ce j)) := by
  refine zz_enter (by decide) (Nat.le_of_ble_eq_true rfl) ?_
  intro p e s m below meth c ls F hl hw hS hA
  obtain ⟨hx, hb, hr, hml, hown, hts, hlocks, hK, hnm⟩ := id F
  have hl : lv_has ls 5 [(0, .ref (ad 100)), (1, .int 1), (2, .int vs), (3, .int vc), (4, .int vt)] := hl
  obtain ⟨cn, zs, bs, hh, ⟨h100, h101, h102, h103, h104, h105, h106, h107, h108, h109, h110, h111⟩, hQ, hM⟩ := hV
  have hF : ∀ j, j < 100 → ce j = ce j := fun _ _ => rfl
  refine lv_aload_n hx hb dX6_become_0 rfl (lv_at hl 0 rfl) ?_
  refine z_get F hw h100 fd_X6_23_X6 rfl dX6_become_1 ?_
  refine lv_iload_n hx hb dX6_become_4 rfl (lv_at hl 1 rfl) ?_
  refine lv_iload_n hx hb dX6_become_5 rfl (lv_at hl 2 rfl) ?_
  refine z_st F hw hS h104 (1) (rfl) (by decide) (by decide) dX6_become_6 (fun ce1 H locs h104 fr2 hw hS => ?_)
  have h100 := (fr2 100 (by decide)).trans h100
  have h101 := (fr2 101 (by decide)).trans h101
  have h102 := (fr2 102 (by decide)).trans h102
  have h103 := (fr2 103 (by decide)).trans h103
  have h105 := (fr2 105 (by decide)).trans h105
  have h106 := (fr2 106 (by decide)).trans h106
  have h107 := (fr2 107 (by decide)).trans h107
  have h108 := (fr2 108 (by decide)).trans h108
  have h109 := (fr2 109 (by decide)).trans h109
  have h110 := (fr2 110 (by decide)).trans h110
  have h111 := (fr2 111 (by decide)).trans h111
  have hF : ∀ j, j < 100 → _ = ce j := fun j hj => (fr2 j (by omega)).trans (hF j hj)
  refine lv_aload_n hx hb dX6_become_7 rfl (lv_at hl 0 rfl) ?_
  refine z_get F hw h100 fd_X6_26_X6 rfl dX6_become_8 ?_
  refine lv_iload_n hx hb dX6_become_11 rfl (lv_at hl 1 rfl) ?_
  refine lv_iload_n hx hb dX6_become_12 rfl (lv_at hl 3 rfl) ?_
  refine z_st F hw hS h105 (1) (rfl) (by decide) (by decide) dX6_become_13 (fun ce3 H locs h105 fr4 hw hS => ?_)
  have h100 := (fr4 100 (by decide)).trans h100
  have h101 := (fr4 101 (by decide)).trans h101
  have h102 := (fr4 102 (by decide)).trans h102
  have h103 := (fr4 103 (by decide)).trans h103
  have h104 := (fr4 104 (by decide)).trans h104
  have h106 := (fr4 106 (by decide)).trans h106
  have h107 := (fr4 107 (by decide)).trans h107
  have h108 := (fr4 108 (by decide)).trans h108
  have h109 := (fr4 109 (by decide)).trans h109
  have h110 := (fr4 110 (by decide)).trans h110
  have h111 := (fr4 111 (by decide)).trans h111
  have hF : ∀ j, j < 100 → _ = ce j := fun j hj => (fr4 j (by omega)).trans (hF j hj)
  refine lv_aload_n hx hb dX6_become_14 rfl (lv_at hl 0 rfl) ?_
  refine z_get F hw h100 fd_X6_29_X6 rfl dX6_become_15 ?_
  refine lv_iload_n hx hb dX6_become_18 rfl (lv_at hl 1 rfl) ?_
  refine lv_iload hx hb dX6_become_19 (lv_at hl 4 rfl) ?_
  refine z_st F hw hS h106 (1) (rfl) (by decide) (by decide) dX6_become_21 (fun ce5 H locs h106 fr6 hw hS => ?_)
  have h100 := (fr6 100 (by decide)).trans h100
  have h101 := (fr6 101 (by decide)).trans h101
  have h102 := (fr6 102 (by decide)).trans h102
  have h103 := (fr6 103 (by decide)).trans h103
  have h104 := (fr6 104 (by decide)).trans h104
  have h105 := (fr6 105 (by decide)).trans h105
  have h107 := (fr6 107 (by decide)).trans h107
  have h108 := (fr6 108 (by decide)).trans h108
  have h109 := (fr6 109 (by decide)).trans h109
  have h110 := (fr6 110 (by decide)).trans h110
  have h111 := (fr6 111 (by decide)).trans h111
  have hF : ∀ j, j < 100 → _ = ce j := fun j hj => (fr6 j (by omega)).trans (hF j hj)
  refine lv_aload_n hx hb dX6_become_22 rfl (lv_at hl 0 rfl) ?_
  refine z_get F hw h100 fd_X6_32_X6 rfl dX6_become_23 ?_
  refine lv_iload_n hx hb dX6_become_26 rfl (lv_at hl 1 rfl) ?_
  refine lv_iconst (v := 0) hx hb dX6_become_27 (by decide) ?_
  refine z_zst F hw hS h107 (1) (rfl) (by decide) (by decide) (rfl) dX6_become_28 (fun ce7 H locs h107 fr8 hw hS => ?_)
  have h100 := (fr8 100 (by decide)).trans h100
  have h101 := (fr8 101 (by decide)).trans h101
  have h102 := (fr8 102 (by decide)).trans h102
  have h103 := (fr8 103 (by decide)).trans h103
  have h104 := (fr8 104 (by decide)).trans h104
  have h105 := (fr8 105 (by decide)).trans h105
  have h106 := (fr8 106 (by decide)).trans h106
  have h108 := (fr8 108 (by decide)).trans h108
  have h109 := (fr8 109 (by decide)).trans h109
  have h110 := (fr8 110 (by decide)).trans h110
  have h111 := (fr8 111 (by decide)).trans h111
  have hF : ∀ j, j < 100 → _ = ce j := fun j hj => (fr8 j (by omega)).trans (hF j hj)
  exact z_vret F hw hS (⟨rfl, rfl, ⟨_, _, _, _, ⟨h100, h101, h102, h103, h104, h105, h106, h107, h108, h109, h110, h111⟩, hQ, hM⟩, hF⟩) dX6_become_29
set_option maxHeartbeats 4000000 in
set_option maxRecDepth 100000 in
theorem r_isCall1 (l : Launch) {G : zz_G} {ad : Nat → Nat} {ce : zz_C} {sz : Nat} (T : rf_T) (Q : rf_Q) (M : List Nat) (hV : rfV G ad ce T Q M) (lo hi : Int32) : zz_M l yX6_isCall cX6_isCall 4 (some .boolean) 0 0 0 0 G [.ref (ad 100), .int 1, .int lo, .int hi] ad ce sz (fun r ad1 ce1 => ((rf_inC T 1 lo hi ∧ r = some (.int 1)) ∨ (¬ rf_inC T 1 lo hi ∧ r = some (.int 0))) ∧ ad = ad1 ∧ ce = ce1) := by
  refine zz_enter (by decide) (Nat.le_of_ble_eq_true rfl) ?_
  intro p e s m below meth c ls F hl hw hS hA
  obtain ⟨hx, hb, hr, hml, hown, hts, hlocks, hK, hnm⟩ := id F
  have hl : lv_has ls 4 [(0, .ref (ad 100)), (1, .int 1), (2, .int lo), (3, .int hi)] := hl
  obtain ⟨cn, zs, bs, hh, ⟨h100, h101, h102, h103, h104, h105, h106, h107, h108, h109, h110, h111⟩, hQ, hM⟩ := hV
  have hF : ∀ j, j < 100 → ce j = ce j := fun _ _ => rfl
  refine lv_aload_n hx hb dX6_isCall_0 rfl (lv_at hl 0 rfl) ?_
  refine z_get F hw h100 fd_X6_26_X6 rfl dX6_isCall_1 ?_
  refine lv_iload_n hx hb dX6_isCall_4 rfl (lv_at hl 1 rfl) ?_
  refine z_ld F hw h105 (1) (rfl) (by decide) (by decide) dX6_isCall_5 ?_
  refine lv_iload_n hx hb dX6_isCall_6 rfl (lv_at hl 2 rfl) ?_
  refine lv_icmp_lt (tgt := 24) hx hb dX6_isCall_7 (by decide) (fun c7 => ?_) (fun c7 => ?_)
  · refine lv_iconst (v := 0) hx hb dX6_isCall_24 (by decide) ?_
    exact z_iret F (rfl) hw hS (⟨Or.inr ⟨fun q => q.1 c7, rfl⟩, rfl, rfl⟩) dX6_isCall_25
  · refine lv_aload_n hx hb dX6_isCall_10 rfl (lv_at hl 0 rfl) ?_
    refine z_get F hw h100 fd_X6_26_X6 rfl dX6_isCall_11 ?_
    refine lv_iload_n hx hb dX6_isCall_14 rfl (lv_at hl 1 rfl) ?_
    refine z_ld F hw h105 (1) (rfl) (by decide) (by decide) dX6_isCall_15 ?_
    refine lv_iload_n hx hb dX6_isCall_16 rfl (lv_at hl 3 rfl) ?_
    refine lv_icmp_gt (tgt := 24) hx hb dX6_isCall_17 (by decide) (fun c17 => ?_) (fun c17 => ?_)
    · refine lv_iconst (v := 0) hx hb dX6_isCall_24 (by decide) ?_
      exact z_iret F (rfl) hw hS (⟨Or.inr ⟨fun q => q.2 c17, rfl⟩, rfl, rfl⟩) dX6_isCall_25
    · refine lv_iconst (v := 1) hx hb dX6_isCall_20 (by decide) ?_
      refine lv_goto (tgt := 25) hx hb dX6_isCall_21 (by decide) ?_
      exact z_iret F (rfl) hw hS (⟨Or.inl ⟨⟨c7, c17⟩, rfl⟩, rfl, rfl⟩) dX6_isCall_25
set_option maxHeartbeats 4000000 in
set_option maxRecDepth 100000 in
theorem r_turned (l : Launch) {G : zz_G} {ad : Nat → Nat} {ce : zz_C} {sz : Nat} (a b : Int32) : zz_M l yX6_turned cX6_turned 3 (some .int) 0 0 0 0 G [.int a, .int b] ad ce sz (fun r ad1 ce1 => r = some (.int (rf_turned a b)) ∧ ad = ad1 ∧ ce = ce1) := by
  refine zz_enter (by decide) (Nat.le_of_ble_eq_true rfl) ?_
  intro p e s m below meth c ls F hl hw hS hA
  obtain ⟨hx, hb, hr, hml, hown, hts, hlocks, hK, hnm⟩ := id F
  have hl : lv_has ls 3 [(0, .int a), (1, .int b)] := hl
  refine lv_iload_n hx hb dX6_turned_0 rfl (lv_at hl 0 rfl) ?_
  refine lv_iload_n hx hb dX6_turned_1 rfl (lv_at hl 1 rfl) ?_
  refine lv_ixor hx hb dX6_turned_2 ?_
  refine lv_ldc (v := 16777619) hx hb hown (hts _ wd_830) dX6_turned_3 ?_
  refine lv_imul hx hb dX6_turned_5 ?_
  refine lv_istore_n (lv' := [(2, .int ((a ^^^ b) * 16777619)), (0, .int a), (1, .int b)]) hx hb dX6_turned_6 rfl hl (by decide) rfl (fun ls hl => ?_)
  refine lv_iload_n hx hb dX6_turned_7 rfl (lv_at hl 0 rfl) ?_
  refine lv_iconst (v := 5) hx hb dX6_turned_8 (by decide) ?_
  refine lv_ishl hx hb dX6_turned_9 ?_
  refine lv_iload_n hx hb dX6_turned_10 rfl (lv_at hl 0 rfl) ?_
  refine lv_bipush (v := 27) hx hb dX6_turned_11 (by decide) ?_
  refine lv_iushr hx hb dX6_turned_13 rfl ?_
  refine lv_ior hx hb dX6_turned_14 ?_
  exact z_iret F (rfl) hw hS (⟨rfl, rfl, rfl⟩) dX6_turned_15
set_option maxHeartbeats 4000000 in
set_option maxRecDepth 100000 in
theorem r_isWay (l : Launch) {G : zz_G} {ad : Nat → Nat} {ce : zz_C} {sz : Nat} (a : Int32) : zz_M l yX6_isWay cX6_isWay 1 (some .boolean) 0 0 0 0 G [.int a] ad ce sz (fun r ad1 ce1 => (((a = 0 ∨ a = 1) ∧ r = some (.int 1)) ∨ (¬ (a = 0 ∨ a = 1) ∧ r = some (.int 0))) ∧ ad = ad1 ∧ ce = ce1) := by
  refine zz_enter (by decide) (Nat.le_of_ble_eq_true rfl) ?_
  intro p e s m below meth c ls F hl hw hS hA
  obtain ⟨hx, hb, hr, hml, hown, hts, hlocks, hK, hnm⟩ := id F
  have hl : lv_has ls 1 [(0, .int a)] := hl
  refine lv_iload_n hx hb dX6_isWay_0 rfl (lv_at hl 0 rfl) ?_
  refine lv_if_eq (tgt := 9) hx hb dX6_isWay_1 (by decide) (fun c1 => ?_) (fun c1 => ?_)
  · refine lv_iconst (v := 1) hx hb dX6_isWay_9 (by decide) ?_
    refine lv_goto (tgt := 14) hx hb dX6_isWay_10 (by decide) ?_
    exact z_iret F (rfl) hw hS (⟨Or.inl ⟨Or.inl c1, rfl⟩, rfl, rfl⟩) dX6_isWay_14
  · refine lv_iload_n hx hb dX6_isWay_4 rfl (lv_at hl 0 rfl) ?_
    refine lv_iconst (v := 1) hx hb dX6_isWay_5 (by decide) ?_
    refine lv_icmp_ne (tgt := 13) hx hb dX6_isWay_6 (by decide) (fun c6 => ?_) (fun c6 => ?_)
    · refine lv_iconst (v := 0) hx hb dX6_isWay_13 (by decide) ?_
      exact z_iret F (rfl) hw hS (⟨Or.inr ⟨fun q => q.elim c1 c6, rfl⟩, rfl, rfl⟩) dX6_isWay_14
    · refine lv_iconst (v := 1) hx hb dX6_isWay_9 (by decide) ?_
      refine lv_goto (tgt := 14) hx hb dX6_isWay_10 (by decide) ?_
      exact z_iret F (rfl) hw hS (⟨Or.inl ⟨Or.inr c6, rfl⟩, rfl, rfl⟩) dX6_isWay_14
set_option maxHeartbeats 4000000 in
set_option maxRecDepth 100000 in
theorem r_put0 (l : Launch) {G : zz_G} {ad : Nat → Nat} {ce : zz_C} {sz : Nat} (T : rf_T) (Q : rf_Q) (M : List Nat) (hV : rfV G ad ce T Q M) (a b : Nat) (ha : a < 256) (hb0 : b < 256) : zz_M l yX6_put cX6_put 5 (some .int) 0 0 0 0 G [.ref (ad 100), .int 0, .int (nI a), .int (nI b)] ad ce sz (fun r ad1 ce1 => r = some (.int (rf_hd T Q 0)) ∧ ad = ad1 ∧ rfV G ad ce1 T (rf_put T Q 0 [a, b]) M ∧ (∀ j, j < 100 → ce1 j = ce j)) := by
  refine zz_enter (by decide) (Nat.le_of_ble_eq_true rfl) ?_
  intro p e s m below meth c ls F hl hw hS hA
  obtain ⟨hx, hb, hr, hml, hown, hts, hlocks, hK, hnm⟩ := id F
  have hl : lv_has ls 5 [(0, .ref (ad 100)), (1, .int 0), (2, .int (nI a)), (3, .int (nI b))] := hl
  obtain ⟨cn, zs, bs, hh, ⟨h100, h101, h102, h103, h104, h105, h106, h107, h108, h109, h110, h111⟩, hQ, hM⟩ := hV
  have hF : ∀ j, j < 100 → ce j = ce j := fun _ _ => rfl
  obtain ⟨hle, hcn, -⟩ := hQ 0 (by decide)
  refine lv_aload_n hx hb dX6_put_0 rfl (lv_at hl 0 rfl) ?_
  refine z_get F hw h100 fd_X6_60_X6 rfl dX6_put_1 ?_
  refine lv_if_ne (tgt := 18) hx hb dX6_put_4 (by decide) (fun c4 => ?_) (fun c4 => ?_)
  · refine lv_bipush (v := -3) hx hb dX6_put_18 (by decide) ?_
    exact z_iret F (rfl) hw hS (by unfold rf_hd rf_put; rw [if_neg (fun q => c4 q.1), if_neg (fun q => c4 q.1)]; exact ⟨rfl, rfl, ⟨_, _, _, _, ⟨h100, h101, h102, h103, h104, h105, h106, h107, h108, h109, h110, h111⟩, hQ, hM⟩, hF⟩) dX6_put_20
  · refine lv_aload_n hx hb dX6_put_7 rfl (lv_at hl 0 rfl) ?_
    refine z_get F hw h100 fd_X6_13_X6 rfl dX6_put_8 ?_
    refine lv_iload_n hx hb dX6_put_11 rfl (lv_at hl 1 rfl) ?_
    refine z_ld F hw h101 (0) (rfl) (by decide) (by decide) dX6_put_12 ?_
    refine lv_bipush (v := 8) hx hb dX6_put_13 (by decide) ?_
    refine lv_icmp_ne (tgt := 21) hx hb dX6_put_15 (by decide) (fun c15 => ?_) (fun c15 => ?_)
    · have hL : (Q 0).length < 8 := Nat.lt_of_le_of_ne hle (fun q => c15 (by rw [hcn, q]; rfl))
      refine lv_bipush (v := 8) hx hb dX6_put_21 (by decide) ?_
      refine lv_iload_n hx hb dX6_put_23 rfl (lv_at hl 1 rfl) ?_
      refine lv_imul hx hb dX6_put_24 ?_
      refine z_top 0 (by decide) ?_
      refine lv_aload_n hx hb dX6_put_25 rfl (lv_at hl 0 rfl) ?_
      refine z_get F hw h100 fd_X6_13_X6 rfl dX6_put_26 ?_
      refine lv_iload_n hx hb dX6_put_29 rfl (lv_at hl 1 rfl) ?_
      refine z_ld F hw h101 (0) (rfl) (by decide) (by decide) dX6_put_30 ?_
      refine lv_iadd hx hb dX6_put_31 ?_
      refine z_top (nI (8 * 0 + (Q 0).length)) (by rw [hcn, show (0 : Int32) = nI (8 * 0) from rfl, nI_add]) ?_
      refine lv_istore (lv' := [(4, .int (nI (8 * 0 + (Q 0).length))), (0, .ref (ad 100)), (1, .int 0), (2, .int (nI a)), (3, .int (nI b))]) hx hb dX6_put_32 hl (by decide) rfl (fun ls hl => ?_)
      refine lv_aload_n hx hb dX6_put_34 rfl (lv_at hl 1 rfl) ?_
      refine z_get F hw h100 fd_X6_13_X6 rfl dX6_put_35 ?_
      refine lv_iload_n hx hb dX6_put_38 rfl (lv_at hl 2 rfl) ?_
      refine lv_dup2_11 hx hb dX6_put_39 rfl rfl ?_
      refine z_ld F hw h101 (0) (rfl) (by decide) (by decide) dX6_put_40 ?_
      refine lv_iconst (v := 1) hx hb dX6_put_41 (by decide) ?_
      refine lv_iadd hx hb dX6_put_42 ?_
      refine z_st F hw hS h101 (0) (rfl) (by decide) (by decide) dX6_put_43 (fun ce1 H locs h101 fr2 hw hS => ?_)
      have h100 := (fr2 100 (by decide)).trans h100
      have h102 := (fr2 102 (by decide)).trans h102
      have h103 := (fr2 103 (by decide)).trans h103
      have h104 := (fr2 104 (by decide)).trans h104
      have h105 := (fr2 105 (by decide)).trans h105
      have h106 := (fr2 106 (by decide)).trans h106
      have h107 := (fr2 107 (by decide)).trans h107
      have h108 := (fr2 108 (by decide)).trans h108
      have h109 := (fr2 109 (by decide)).trans h109
      have h110 := (fr2 110 (by decide)).trans h110
      have h111 := (fr2 111 (by decide)).trans h111
      have hF : ∀ j, j < 100 → _ = ce j := fun j hj => (fr2 j (by omega)).trans (hF j hj)
      refine lv_aload_n hx hb dX6_put_44 rfl (lv_at hl 1 rfl) ?_
      refine z_get F hw h100 fd_X6_17_X6 rfl dX6_put_45 ?_
      refine lv_iload hx hb dX6_put_48 (lv_at hl 0 rfl) ?_
      refine lv_iconst (v := 2) hx hb dX6_put_50 (by decide) ?_
      refine z_st F hw hS h102 (8 * 0 + (Q 0).length) (rfl) (by omega) (by decide) dX6_put_51 (fun ce3 H locs h102 fr4 hw hS => ?_)
      have h100 := (fr4 100 (by decide)).trans h100
      have h101 := (fr4 101 (by decide)).trans h101
      have h103 := (fr4 103 (by decide)).trans h103
      have h104 := (fr4 104 (by decide)).trans h104
      have h105 := (fr4 105 (by decide)).trans h105
      have h106 := (fr4 106 (by decide)).trans h106
      have h107 := (fr4 107 (by decide)).trans h107
      have h108 := (fr4 108 (by decide)).trans h108
      have h109 := (fr4 109 (by decide)).trans h109
      have h110 := (fr4 110 (by decide)).trans h110
      have h111 := (fr4 111 (by decide)).trans h111
      have hF : ∀ j, j < 100 → _ = ce j := fun j hj => (fr4 j (by omega)).trans (hF j hj)
      refine lv_aload_n hx hb dX6_put_52 rfl (lv_at hl 1 rfl) ?_
      refine z_get F hw h100 fd_X6_20_X6 rfl dX6_put_53 ?_
      refine lv_bipush (v := 24) hx hb dX6_put_56 (by decide) ?_
      refine lv_iload hx hb dX6_put_58 (lv_at hl 0 rfl) ?_
      refine lv_imul hx hb dX6_put_60 ?_
      refine z_top (nI (24 * (8 * 0 + (Q 0).length))) (by rw [show (24 : Int32) = nI 24 from rfl, pk_mul]) ?_
      refine lv_iload_n hx hb dX6_put_61 rfl (lv_at hl 3 rfl) ?_
      refine z_st F hw hS h103 (24 * (8 * 0 + (Q 0).length)) (rfl) (by omega) (by decide) dX6_put_62 (fun ce5 H locs h103 fr6 hw hS => ?_)
      have h100 := (fr6 100 (by decide)).trans h100
      have h101 := (fr6 101 (by decide)).trans h101
      have h102 := (fr6 102 (by decide)).trans h102
      have h104 := (fr6 104 (by decide)).trans h104
      have h105 := (fr6 105 (by decide)).trans h105
      have h106 := (fr6 106 (by decide)).trans h106
      have h107 := (fr6 107 (by decide)).trans h107
      have h108 := (fr6 108 (by decide)).trans h108
      have h109 := (fr6 109 (by decide)).trans h109
      have h110 := (fr6 110 (by decide)).trans h110
      have h111 := (fr6 111 (by decide)).trans h111
      have hF : ∀ j, j < 100 → _ = ce j := fun j hj => (fr6 j (by omega)).trans (hF j hj)
      refine lv_aload_n hx hb dX6_put_63 rfl (lv_at hl 1 rfl) ?_
      refine z_get F hw h100 fd_X6_20_X6 rfl dX6_put_64 ?_
      refine lv_bipush (v := 24) hx hb dX6_put_67 (by decide) ?_
      refine lv_iload hx hb dX6_put_69 (lv_at hl 0 rfl) ?_
      refine lv_imul hx hb dX6_put_71 ?_
      refine z_top (nI (24 * (8 * 0 + (Q 0).length))) (by rw [show (24 : Int32) = nI 24 from rfl, pk_mul]) ?_
      refine lv_iconst (v := 1) hx hb dX6_put_72 (by decide) ?_
      refine lv_iadd hx hb dX6_put_73 ?_
      refine z_top (nI (24 * (8 * 0 + (Q 0).length) + 1)) (nI_1 _) ?_
      refine lv_iload_n hx hb dX6_put_74 rfl (lv_at hl 4 rfl) ?_
      refine z_st F hw hS h103 (24 * (8 * 0 + (Q 0).length) + 1) (rfl) (by omega) (by decide) dX6_put_75 (fun ce7 H locs h103 fr8 hw hS => ?_)
      have h100 := (fr8 100 (by decide)).trans h100
      have h101 := (fr8 101 (by decide)).trans h101
      have h102 := (fr8 102 (by decide)).trans h102
      have h104 := (fr8 104 (by decide)).trans h104
      have h105 := (fr8 105 (by decide)).trans h105
      have h106 := (fr8 106 (by decide)).trans h106
      have h107 := (fr8 107 (by decide)).trans h107
      have h108 := (fr8 108 (by decide)).trans h108
      have h109 := (fr8 109 (by decide)).trans h109
      have h110 := (fr8 110 (by decide)).trans h110
      have h111 := (fr8 111 (by decide)).trans h111
      have hF : ∀ j, j < 100 → _ = ce j := fun j hj => (fr8 j (by omega)).trans (hF j hj)
      refine lv_iload hx hb dX6_put_76 (lv_at hl 0 rfl) ?_
      exact z_iret F (rfl) hw hS (by unfold rf_hd rf_put; rw [if_pos ⟨c4, hL⟩, if_pos ⟨c4, hL⟩]; exact ⟨rfl, rfl, ⟨_, _, _, _, ⟨h100, h101, h102, h103, h104, h105, h106, h107, h108, h109, h110, h111⟩, rfQ_put hQ (by decide) hL ha hb0, hM⟩, hF⟩) dX6_put_78
    · refine lv_bipush (v := -3) hx hb dX6_put_18 (by decide) ?_
      exact z_iret F (rfl) hw hS (by unfold rf_hd rf_put; rw [if_neg (fun q => (by have h1 := q.2; rw [hcn] at c15; exact (Nat.ne_of_lt h1) ((nI_eq (by omega) (by decide)).mp c15))), if_neg (fun q => (by have h1 := q.2; rw [hcn] at c15; exact (Nat.ne_of_lt h1) ((nI_eq (by omega) (by decide)).mp c15)))]; exact ⟨rfl, rfl, ⟨_, _, _, _, ⟨h100, h101, h102, h103, h104, h105, h106, h107, h108, h109, h110, h111⟩, hQ, hM⟩, hF⟩) dX6_put_20
set_option maxHeartbeats 4000000 in
set_option maxRecDepth 100000 in
theorem r_put1 (l : Launch) {G : zz_G} {ad : Nat → Nat} {ce : zz_C} {sz : Nat} (T : rf_T) (Q : rf_Q) (M : List Nat) (hV : rfV G ad ce T Q M) (a b : Nat) (ha : a < 256) (hb0 : b < 256) : zz_M l yX6_put cX6_put 5 (some .int) 0 0 0 0 G [.ref (ad 100), .int 1, .int (nI a), .int (nI b)] ad ce sz (fun r ad1 ce1 => r = some (.int (rf_hd T Q 1)) ∧ ad = ad1 ∧ rfV G ad ce1 T (rf_put T Q 1 [a, b]) M ∧ (∀ j, j < 100 → ce1 j = ce j)) := by
  refine zz_enter (by decide) (Nat.le_of_ble_eq_true rfl) ?_
  intro p e s m below meth c ls F hl hw hS hA
  obtain ⟨hx, hb, hr, hml, hown, hts, hlocks, hK, hnm⟩ := id F
  have hl : lv_has ls 5 [(0, .ref (ad 100)), (1, .int 1), (2, .int (nI a)), (3, .int (nI b))] := hl
  obtain ⟨cn, zs, bs, hh, ⟨h100, h101, h102, h103, h104, h105, h106, h107, h108, h109, h110, h111⟩, hQ, hM⟩ := hV
  have hF : ∀ j, j < 100 → ce j = ce j := fun _ _ => rfl
  obtain ⟨hle, hcn, -⟩ := hQ 1 (by decide)
  refine lv_aload_n hx hb dX6_put_0 rfl (lv_at hl 0 rfl) ?_
  refine z_get F hw h100 fd_X6_60_X6 rfl dX6_put_1 ?_
  refine lv_if_ne (tgt := 18) hx hb dX6_put_4 (by decide) (fun c4 => ?_) (fun c4 => ?_)
  · refine lv_bipush (v := -3) hx hb dX6_put_18 (by decide) ?_
    exact z_iret F (rfl) hw hS (by unfold rf_hd rf_put; rw [if_neg (fun q => c4 q.1), if_neg (fun q => c4 q.1)]; exact ⟨rfl, rfl, ⟨_, _, _, _, ⟨h100, h101, h102, h103, h104, h105, h106, h107, h108, h109, h110, h111⟩, hQ, hM⟩, hF⟩) dX6_put_20
  · refine lv_aload_n hx hb dX6_put_7 rfl (lv_at hl 0 rfl) ?_
    refine z_get F hw h100 fd_X6_13_X6 rfl dX6_put_8 ?_
    refine lv_iload_n hx hb dX6_put_11 rfl (lv_at hl 1 rfl) ?_
    refine z_ld F hw h101 (1) (rfl) (by decide) (by decide) dX6_put_12 ?_
    refine lv_bipush (v := 8) hx hb dX6_put_13 (by decide) ?_
    refine lv_icmp_ne (tgt := 21) hx hb dX6_put_15 (by decide) (fun c15 => ?_) (fun c15 => ?_)
    · have hL : (Q 1).length < 8 := Nat.lt_of_le_of_ne hle (fun q => c15 (by rw [hcn, q]; rfl))
      refine lv_bipush (v := 8) hx hb dX6_put_21 (by decide) ?_
      refine lv_iload_n hx hb dX6_put_23 rfl (lv_at hl 1 rfl) ?_
      refine lv_imul hx hb dX6_put_24 ?_
      refine z_top 8 (by decide) ?_
      refine lv_aload_n hx hb dX6_put_25 rfl (lv_at hl 0 rfl) ?_
      refine z_get F hw h100 fd_X6_13_X6 rfl dX6_put_26 ?_
      refine lv_iload_n hx hb dX6_put_29 rfl (lv_at hl 1 rfl) ?_
      refine z_ld F hw h101 (1) (rfl) (by decide) (by decide) dX6_put_30 ?_
      refine lv_iadd hx hb dX6_put_31 ?_
      refine z_top (nI (8 * 1 + (Q 1).length)) (by rw [hcn, show (8 : Int32) = nI (8 * 1) from rfl, nI_add]) ?_
      refine lv_istore (lv' := [(4, .int (nI (8 * 1 + (Q 1).length))), (0, .ref (ad 100)), (1, .int 1), (2, .int (nI a)), (3, .int (nI b))]) hx hb dX6_put_32 hl (by decide) rfl (fun ls hl => ?_)
      refine lv_aload_n hx hb dX6_put_34 rfl (lv_at hl 1 rfl) ?_
      refine z_get F hw h100 fd_X6_13_X6 rfl dX6_put_35 ?_
      refine lv_iload_n hx hb dX6_put_38 rfl (lv_at hl 2 rfl) ?_
      refine lv_dup2_11 hx hb dX6_put_39 rfl rfl ?_
      refine z_ld F hw h101 (1) (rfl) (by decide) (by decide) dX6_put_40 ?_
      refine lv_iconst (v := 1) hx hb dX6_put_41 (by decide) ?_
      refine lv_iadd hx hb dX6_put_42 ?_
      refine z_st F hw hS h101 (1) (rfl) (by decide) (by decide) dX6_put_43 (fun ce1 H locs h101 fr2 hw hS => ?_)
      have h100 := (fr2 100 (by decide)).trans h100
      have h102 := (fr2 102 (by decide)).trans h102
      have h103 := (fr2 103 (by decide)).trans h103
      have h104 := (fr2 104 (by decide)).trans h104
      have h105 := (fr2 105 (by decide)).trans h105
      have h106 := (fr2 106 (by decide)).trans h106
      have h107 := (fr2 107 (by decide)).trans h107
      have h108 := (fr2 108 (by decide)).trans h108
      have h109 := (fr2 109 (by decide)).trans h109
      have h110 := (fr2 110 (by decide)).trans h110
      have h111 := (fr2 111 (by decide)).trans h111
      have hF : ∀ j, j < 100 → _ = ce j := fun j hj => (fr2 j (by omega)).trans (hF j hj)
      refine lv_aload_n hx hb dX6_put_44 rfl (lv_at hl 1 rfl) ?_
      refine z_get F hw h100 fd_X6_17_X6 rfl dX6_put_45 ?_
      refine lv_iload hx hb dX6_put_48 (lv_at hl 0 rfl) ?_
      refine lv_iconst (v := 2) hx hb dX6_put_50 (by decide) ?_
      refine z_st F hw hS h102 (8 * 1 + (Q 1).length) (rfl) (by omega) (by decide) dX6_put_51 (fun ce3 H locs h102 fr4 hw hS => ?_)
      have h100 := (fr4 100 (by decide)).trans h100
      have h101 := (fr4 101 (by decide)).trans h101
      have h103 := (fr4 103 (by decide)).trans h103
      have h104 := (fr4 104 (by decide)).trans h104
      have h105 := (fr4 105 (by decide)).trans h105
      have h106 := (fr4 106 (by decide)).trans h106
      have h107 := (fr4 107 (by decide)).trans h107
      have h108 := (fr4 108 (by decide)).trans h108
      have h109 := (fr4 109 (by decide)).trans h109
      have h110 := (fr4 110 (by decide)).trans h110
      have h111 := (fr4 111 (by decide)).trans h111
      have hF : ∀ j, j < 100 → _ = ce j := fun j hj => (fr4 j (by omega)).trans (hF j hj)
      refine lv_aload_n hx hb dX6_put_52 rfl (lv_at hl 1 rfl) ?_
      refine z_get F hw h100 fd_X6_20_X6 rfl dX6_put_53 ?_
      refine lv_bipush (v := 24) hx hb dX6_put_56 (by decide) ?_
      refine lv_iload hx hb dX6_put_58 (lv_at hl 0 rfl) ?_
      refine lv_imul hx hb dX6_put_60 ?_
      refine z_top (nI (24 * (8 * 1 + (Q 1).length))) (by rw [show (24 : Int32) = nI 24 from rfl, pk_mul]) ?_
      refine lv_iload_n hx hb dX6_put_61 rfl (lv_at hl 3 rfl) ?_
      refine z_st F hw hS h103 (24 * (8 * 1 + (Q 1).length)) (rfl) (by omega) (by decide) dX6_put_62 (fun ce5 H locs h103 fr6 hw hS => ?_)
      have h100 := (fr6 100 (by decide)).trans h100
      have h101 := (fr6 101 (by decide)).trans h101
      have h102 := (fr6 102 (by decide)).trans h102
      have h104 := (fr6 104 (by decide)).trans h104
      have h105 := (fr6 105 (by decide)).trans h105
      have h106 := (fr6 106 (by decide)).trans h106
      have h107 := (fr6 107 (by decide)).trans h107
      have h108 := (fr6 108 (by decide)).trans h108
      have h109 := (fr6 109 (by decide)).trans h109
      have h110 := (fr6 110 (by decide)).trans h110
      have h111 := (fr6 111 (by decide)).trans h111
      have hF : ∀ j, j < 100 → _ = ce j := fun j hj => (fr6 j (by omega)).trans (hF j hj)
      refine lv_aload_n hx hb dX6_put_63 rfl (lv_at hl 1 rfl) ?_
      refine z_get F hw h100 fd_X6_20_X6 rfl dX6_put_64 ?_
      refine lv_bipush (v := 24) hx hb dX6_put_67 (by decide) ?_
      refine lv_iload hx hb dX6_put_69 (lv_at hl 0 rfl) ?_
      refine lv_imul hx hb dX6_put_71 ?_
      refine z_top (nI (24 * (8 * 1 + (Q 1).length))) (by rw [show (24 : Int32) = nI 24 from rfl, pk_mul]) ?_
      refine lv_iconst (v := 1) hx hb dX6_put_72 (by decide) ?_
      refine lv_iadd hx hb dX6_put_73 ?_
      refine z_top (nI (24 * (8 * 1 + (Q 1).length) + 1)) (nI_1 _) ?_
      refine lv_iload_n hx hb dX6_put_74 rfl (lv_at hl 4 rfl) ?_
      refine z_st F hw hS h103 (24 * (8 * 1 + (Q 1).length) + 1) (rfl) (by omega) (by decide) dX6_put_75 (fun ce7 H locs h103 fr8 hw hS => ?_)
      have h100 := (fr8 100 (by decide)).trans h100
      have h101 := (fr8 101 (by decide)).trans h101
      have h102 := (fr8 102 (by decide)).trans h102
      have h104 := (fr8 104 (by decide)).trans h104
      have h105 := (fr8 105 (by decide)).trans h105
      have h106 := (fr8 106 (by decide)).trans h106
      have h107 := (fr8 107 (by decide)).trans h107
      have h108 := (fr8 108 (by decide)).trans h108
      have h109 := (fr8 109 (by decide)).trans h109
      have h110 := (fr8 110 (by decide)).trans h110
      have h111 := (fr8 111 (by decide)).trans h111
      have hF : ∀ j, j < 100 → _ = ce j := fun j hj => (fr8 j (by omega)).trans (hF j hj)
      refine lv_iload hx hb dX6_put_76 (lv_at hl 0 rfl) ?_
      exact z_iret F (rfl) hw hS (by unfold rf_hd rf_put; rw [if_pos ⟨c4, hL⟩, if_pos ⟨c4, hL⟩]; exact ⟨rfl, rfl, ⟨_, _, _, _, ⟨h100, h101, h102, h103, h104, h105, h106, h107, h108, h109, h110, h111⟩, rfQ_put hQ (by decide) hL ha hb0, hM⟩, hF⟩) dX6_put_78
    · refine lv_bipush (v := -3) hx hb dX6_put_18 (by decide) ?_
      exact z_iret F (rfl) hw hS (by unfold rf_hd rf_put; rw [if_neg (fun q => (by have h1 := q.2; rw [hcn] at c15; exact (Nat.ne_of_lt h1) ((nI_eq (by omega) (by decide)).mp c15))), if_neg (fun q => (by have h1 := q.2; rw [hcn] at c15; exact (Nat.ne_of_lt h1) ((nI_eq (by omega) (by decide)).mp c15)))]; exact ⟨rfl, rfl, ⟨_, _, _, _, ⟨h100, h101, h102, h103, h104, h105, h106, h107, h108, h109, h110, h111⟩, hQ, hM⟩, hF⟩) dX6_put_20
set_option maxHeartbeats 4000000 in
set_option maxRecDepth 100000 in
theorem r_more_n (l : Launch) {G : zz_G} {ad : Nat → Nat} {ce : zz_C} {sz : Nat} (T : rf_T) (Q : rf_Q) (M : List Nat) (hV : rfV G ad ce T Q M) (b : Int32) : zz_M l yX6_more cX6_more 3 none 0 0 0 0 G [.ref (ad 100), .int (-3), .int b] ad ce sz (fun r ad1 ce1 => r = none ∧ ad = ad1 ∧ rfV G ad ce1 T Q M ∧ (∀ j, j < 100 → ce1 j = ce j)) := by
  refine zz_enter (by decide) (Nat.le_of_ble_eq_true rfl) ?_
  intro p e s m below meth c ls F hl hw hS hA
  obtain ⟨hx, hb, hr, hml, hown, hts, hlocks, hK, hnm⟩ := id F
  have hl : lv_has ls 3 [(0, .ref (ad 100)), (1, .int (-3)), (2, .int b)] := hl
  obtain ⟨cn, zs, bs, hh, ⟨h100, h101, h102, h103, h104, h105, h106, h107, h108, h109, h110, h111⟩, hQ, hM⟩ := hV
  have hF : ∀ j, j < 100 → ce j = ce j := fun _ _ => rfl
  refine lv_iload_n hx hb dX6_more_0 rfl (lv_at hl 1 rfl) ?_
  refine lv_bipush (v := -3) hx hb dX6_more_1 (by decide) ?_
  refine lv_icmp_eq (tgt := 37) hx hb dX6_more_3 (by decide) (fun c3 => ?_) (fun c3 => absurd c3 (by decide))
  exact z_vret F hw hS (⟨rfl, rfl, ⟨_, _, _, _, ⟨h100, h101, h102, h103, h104, h105, h106, h107, h108, h109, h110, h111⟩, hQ, hM⟩, hF⟩) dX6_more_37
set_option maxHeartbeats 4000000 in
set_option maxRecDepth 100000 in
theorem r_more_s (l : Launch) {G : zz_G} {ad : Nat → Nat} {ce : zz_C} {sz : Nat} (T : rf_T) (Q : rf_Q) (M : List Nat) (w : Nat) (x : List Nat) (hV : rfV G ad ce T (va_up Q w (Q w ++ [x])) M) (hw2 : w < 2) (hx24 : x.length < 24) (b : Int32) : zz_M l yX6_more cX6_more 3 none 0 0 0 0 G [.ref (ad 100), .int (nI (8 * w + (Q w).length)), .int b] ad ce sz (fun r ad1 ce1 => r = none ∧ ad = ad1 ∧ rfV G ad ce1 T (va_up Q w (Q w ++ [x ++ [rf_zb b]])) M ∧ (∀ j, j < 100 → ce1 j = ce j)) := by
  refine zz_enter (by decide) (Nat.le_of_ble_eq_true rfl) ?_
  intro p e s m below meth c ls F hl hw hS hA
  obtain ⟨hx, hb, hr, hml, hown, hts, hlocks, hK, hnm⟩ := id F
  have hl : lv_has ls 3 [(0, .ref (ad 100)), (1, .int (nI (8 * w + (Q w).length))), (2, .int b)] := hl
  obtain ⟨cn, zs, bs, hh, ⟨h100, h101, h102, h103, h104, h105, h106, h107, h108, h109, h110, h111⟩, hQ, hM⟩ := hV
  have hF : ∀ j, j < 100 → ce j = ce j := fun _ _ => rfl
  obtain ⟨hL, -, -, hz, -⟩ := rfQ_at hQ hw2
  refine lv_iload_n hx hb dX6_more_0 rfl (lv_at hl 1 rfl) ?_
  refine lv_bipush (v := -3) hx hb dX6_more_1 (by decide) ?_
  refine lv_icmp_eq (tgt := 37) hx hb dX6_more_3 (by decide) (fun c3 => absurd c3 (fun q => nI_pos (n := 8 * w + (Q w).length) (by omega) (by rw [q]; decide))) (fun c3 => ?_)
  refine lv_aload_n hx hb dX6_more_6 rfl (lv_at hl 0 rfl) ?_
  refine z_get F hw h100 fd_X6_20_X6 rfl dX6_more_7 ?_
  refine lv_bipush (v := 24) hx hb dX6_more_10 (by decide) ?_
  refine lv_iload_n hx hb dX6_more_12 rfl (lv_at hl 1 rfl) ?_
  refine lv_imul hx hb dX6_more_13 ?_
  refine z_top (nI (24 * (8 * w + (Q w).length))) (by rw [show (24 : Int32) = nI 24 from rfl, pk_mul]) ?_
  refine lv_aload_n hx hb dX6_more_14 rfl (lv_at hl 0 rfl) ?_
  refine z_get F hw h100 fd_X6_17_X6 rfl dX6_more_15 ?_
  refine lv_iload_n hx hb dX6_more_18 rfl (lv_at hl 1 rfl) ?_
  refine z_ld F hw h102 (8 * w + (Q w).length) (rfl) (by omega) (by decide) dX6_more_19 ?_
  refine lv_iadd hx hb dX6_more_20 ?_
  refine z_top (nI (24 * (8 * w + (Q w).length) + x.length)) (by rw [hz, nI_add]) ?_
  refine lv_iload_n hx hb dX6_more_21 rfl (lv_at hl 2 rfl) ?_
  refine lv_sipush (v := 255) hx hb dX6_more_22 (by decide) ?_
  refine lv_iand hx hb dX6_more_25 ?_
  refine z_top (nI (rf_zb b)) (rf_and b) ?_
  refine z_st F hw hS h103 (24 * (8 * w + (Q w).length) + x.length) (rfl) (by omega) (by decide) dX6_more_26 (fun ce1 H locs h103 fr2 hw hS => ?_)
  have h100 := (fr2 100 (by decide)).trans h100
  have h101 := (fr2 101 (by decide)).trans h101
  have h102 := (fr2 102 (by decide)).trans h102
  have h104 := (fr2 104 (by decide)).trans h104
  have h105 := (fr2 105 (by decide)).trans h105
  have h106 := (fr2 106 (by decide)).trans h106
  have h107 := (fr2 107 (by decide)).trans h107
  have h108 := (fr2 108 (by decide)).trans h108
  have h109 := (fr2 109 (by decide)).trans h109
  have h110 := (fr2 110 (by decide)).trans h110
  have h111 := (fr2 111 (by decide)).trans h111
  have hF : ∀ j, j < 100 → _ = ce j := fun j hj => (fr2 j (by omega)).trans (hF j hj)
  refine lv_aload_n hx hb dX6_more_27 rfl (lv_at hl 0 rfl) ?_
  refine z_get F hw h100 fd_X6_17_X6 rfl dX6_more_28 ?_
  refine lv_iload_n hx hb dX6_more_31 rfl (lv_at hl 1 rfl) ?_
  refine lv_dup2_11 hx hb dX6_more_32 rfl rfl ?_
  refine z_ld F hw h102 (8 * w + (Q w).length) (rfl) (by omega) (by decide) dX6_more_33 ?_
  refine lv_iconst (v := 1) hx hb dX6_more_34 (by decide) ?_
  refine lv_iadd hx hb dX6_more_35 ?_
  refine z_st F hw hS h102 (8 * w + (Q w).length) (rfl) (by omega) (by decide) dX6_more_36 (fun ce3 H locs h102 fr4 hw hS => ?_)
  have h100 := (fr4 100 (by decide)).trans h100
  have h101 := (fr4 101 (by decide)).trans h101
  have h103 := (fr4 103 (by decide)).trans h103
  have h104 := (fr4 104 (by decide)).trans h104
  have h105 := (fr4 105 (by decide)).trans h105
  have h106 := (fr4 106 (by decide)).trans h106
  have h107 := (fr4 107 (by decide)).trans h107
  have h108 := (fr4 108 (by decide)).trans h108
  have h109 := (fr4 109 (by decide)).trans h109
  have h110 := (fr4 110 (by decide)).trans h110
  have h111 := (fr4 111 (by decide)).trans h111
  have hF : ∀ j, j < 100 → _ = ce j := fun j hj => (fr4 j (by omega)).trans (hF j hj)
  exact z_vret F hw hS (⟨rfl, rfl, ⟨_, _, _, _, ⟨h100, h101, h102, h103, h104, h105, h106, h107, h108, h109, h110, h111⟩, rfQ_byte hQ hw2 hx24 (rf_zb_lt b), hM⟩, hF⟩) dX6_more_37
theorem r_more (l : Launch) {G : zz_G} {ad : Nat → Nat} {ce : zz_C} {sz : Nat} (T : rf_T) (Q : rf_Q) (M : List Nat) (w : Nat) (x : List Nat) (hV : rfV G ad ce T (rf_put T Q w x) M) (hw2 : w < 2) (hx24 : x.length < 24) (b : Int32) : zz_M l yX6_more cX6_more 3 none 0 0 0 0 G [.ref (ad 100), .int (rf_hd T Q w), .int b] ad ce sz (fun r ad1 ce1 => r = none ∧ ad = ad1 ∧ rfV G ad ce1 T (rf_put T Q w (x ++ [rf_zb b])) M ∧ (∀ j, j < 100 → ce1 j = ce j)) := by
  by_cases h : T 0 4 = 0 ∧ (Q w).length < 8
  · unfold rf_put rf_hd at *
    rw [if_pos h] at hV
    simp only [if_pos h]
    exact r_more_s l T Q M w x hV hw2 hx24 b
  · unfold rf_put rf_hd at *
    rw [if_neg h] at hV
    simp only [if_neg h]
    exact r_more_n l T Q M hV b
set_option maxHeartbeats 4000000 in
set_option maxRecDepth 100000 in
theorem r_tell0_1 (l : Launch) {G : zz_G} {ad : Nat → Nat} {ce : zz_C} {sz : Nat} (T : rf_T) (Q : rf_Q) (M : List Nat) (hV : rfV G ad ce T Q M) (a b tg : Nat) (ha : a < 256) (hb0 : b < 256) (htg : tg < 256) (v : Int32) : zz_M l yX6_tell cX6_tell 9 none 1 24 0 0 G [.ref (ad 100), .int 0, .int (nI a), .int (nI b), .int (nI tg), .int 1, .int v] ad ce sz (fun r ad1 ce1 => r = none ∧ ad = ad1 ∧ rfV G ad ce1 T (rf_put T Q 0 ([a, b, tg, 1] ++ rf_bytes 1 v)) M ∧ (∀ j, j < 100 → ce1 j = ce j)) := by
  refine zz_enter (by decide) (Nat.le_of_ble_eq_true rfl) ?_
  intro p e s m below meth c ls F hl hw hS hA
  obtain ⟨hx, hb, hr, hml, hown, hts, hlocks, hK, hnm⟩ := id F
  have hl : lv_has ls 9 [(0, .ref (ad 100)), (1, .int 0), (2, .int (nI a)), (3, .int (nI b)), (4, .int (nI tg)), (5, .int 1), (6, .int v)] := hl
  obtain ⟨cn, zs, bs, hh, ⟨h100, h101, h102, h103, h104, h105, h106, h107, h108, h109, h110, h111⟩, hQ, hM⟩ := hV
  have hF : ∀ j, j < 100 → ce j = ce j := fun _ _ => rfl
  refine lv_aload_n hx hb dX6_tell_0 rfl (lv_at hl 0 rfl) ?_
  refine lv_iload_n hx hb dX6_tell_1 rfl (lv_at hl 1 rfl) ?_
  refine lv_iload_n hx hb dX6_tell_2 rfl (lv_at hl 2 rfl) ?_
  refine lv_iload_n hx hb dX6_tell_3 rfl (lv_at hl 3 rfl) ?_
  have hV : rfV G ad ce T Q M := ⟨_, _, _, _, ⟨h100, h101, h102, h103, h104, h105, h106, h107, h108, h109, h110, h111⟩, hQ, hM⟩
  refine z_invV F (rest := []) (r_put0 l T Q M hV a b ha hb0) yv_X6_64 ⟨Nat.le_of_ble_eq_true rfl, Nat.le_of_ble_eq_true rfl⟩ hw hA hS hl h100 rfl rfl rfl (Nat.le_of_ble_eq_true rfl) dX6_tell_4 ⟨Nat.le_of_ble_eq_true rfl, Nat.le_of_ble_eq_true rfl⟩ (fun r ad1 ce1 H locs hp hw hS => ?_)
  obtain ⟨rfl, rfl, hV, hF2⟩ := hp
  have hF : ∀ j, j < 100 → ce1 j = ce j := fun j hj => (hF2 j hj).trans (hF j hj)
  obtain ⟨cn, zs, bs, hh, ⟨h100, h101, h102, h103, h104, h105, h106, h107, h108, h109, h110, h111⟩, hQ, hM⟩ := hV
  refine W.eq (g2 := F0 m 7 ls [.int (rf_hd T Q 0)]) rfl ?_
  refine lv_istore (lv' := [(7, .int (rf_hd T Q 0)), (0, .ref (ad 100)), (1, .int 0), (2, .int (nI a)), (3, .int (nI b)), (4, .int (nI tg)), (5, .int 1), (6, .int v)]) hx hb dX6_tell_7 hl (by decide) rfl (fun ls hl => ?_)
  refine lv_aload_n hx hb dX6_tell_9 rfl (lv_at hl 1 rfl) ?_
  refine lv_iload hx hb dX6_tell_10 (lv_at hl 0 rfl) ?_
  refine lv_iload hx hb dX6_tell_12 (lv_at hl 5 rfl) ?_
  have hV : rfV G ad ce1 T (rf_put T Q 0 [a, b]) M := ⟨_, _, _, _, ⟨h100, h101, h102, h103, h104, h105, h106, h107, h108, h109, h110, h111⟩, hQ, hM⟩
  refine z_invV F (rest := []) (r_more l T Q M 0 ([a, b]) hV (by decide) (by simp) (nI tg)) yv_X6_68 ⟨Nat.le_of_ble_eq_true rfl, Nat.le_of_ble_eq_true rfl⟩ hw hA hS hl h100 rfl rfl rfl (Nat.le_of_ble_eq_true rfl) dX6_tell_14 ⟨Nat.le_of_ble_eq_true rfl, Nat.le_of_ble_eq_true rfl⟩ (fun r ad1 ce2 H locs hp hw hS => ?_)
  obtain ⟨rfl, rfl, hV, hF2⟩ := hp
  have hF : ∀ j, j < 100 → ce2 j = ce j := fun j hj => (hF2 j hj).trans (hF j hj)
  obtain ⟨cn, zs, bs, hh, ⟨h100, h101, h102, h103, h104, h105, h106, h107, h108, h109, h110, h111⟩, hQ, hM⟩ := hV
  refine W.eq (g2 := F0 m 17 ls []) rfl ?_
  refine lv_aload_n hx hb dX6_tell_17 rfl (lv_at hl 1 rfl) ?_
  refine lv_iload hx hb dX6_tell_18 (lv_at hl 0 rfl) ?_
  refine lv_iload hx hb dX6_tell_20 (lv_at hl 6 rfl) ?_
  have hV : rfV G ad ce2 T (rf_put T Q 0 (([a, b]) ++ [rf_zb (nI tg)])) M := ⟨_, _, _, _, ⟨h100, h101, h102, h103, h104, h105, h106, h107, h108, h109, h110, h111⟩, hQ, hM⟩
  refine z_invV F (rest := []) (r_more l T Q M 0 (([a, b]) ++ [rf_zb (nI tg)]) hV (by decide) (by simp) 1) yv_X6_68 ⟨Nat.le_of_ble_eq_true rfl, Nat.le_of_ble_eq_true rfl⟩ hw hA hS hl h100 rfl rfl rfl (Nat.le_of_ble_eq_true rfl) dX6_tell_22 ⟨Nat.le_of_ble_eq_true rfl, Nat.le_of_ble_eq_true rfl⟩ (fun r ad1 ce3 H locs hp hw hS => ?_)
  obtain ⟨rfl, rfl, hV, hF2⟩ := hp
  have hF : ∀ j, j < 100 → ce3 j = ce j := fun j hj => (hF2 j hj).trans (hF j hj)
  obtain ⟨cn, zs, bs, hh, ⟨h100, h101, h102, h103, h104, h105, h106, h107, h108, h109, h110, h111⟩, hQ, hM⟩ := hV
  refine W.eq (g2 := F0 m 25 ls []) rfl ?_
  refine lv_iload hx hb dX6_tell_25 (lv_at hl 6 rfl) ?_
  refine lv_iconst (v := 1) hx hb dX6_tell_27 (by decide) ?_
  refine lv_isub hx hb dX6_tell_28 ?_
  refine z_top 0 (by decide) ?_
  refine lv_istore (lv' := [(8, .int 0), (7, .int (rf_hd T Q 0)), (0, .ref (ad 100)), (1, .int 0), (2, .int (nI a)), (3, .int (nI b)), (4, .int (nI tg)), (5, .int 1), (6, .int v)]) hx hb dX6_tell_29 hl (by decide) rfl (fun ls hl => ?_)
  refine lv_iload hx hb dX6_tell_31 (lv_at hl 0 rfl) ?_
  refine lv_if_lt (tgt := 56) hx hb dX6_tell_33 (by decide) (fun c33 => absurd c33 (by decide)) (fun c33 => ?_)
  refine lv_aload_n hx hb dX6_tell_36 rfl (lv_at hl 2 rfl) ?_
  refine lv_iload hx hb dX6_tell_37 (lv_at hl 1 rfl) ?_
  refine lv_iload hx hb dX6_tell_39 (lv_at hl 8 rfl) ?_
  refine lv_bipush (v := 8) hx hb dX6_tell_41 (by decide) ?_
  refine lv_iload hx hb dX6_tell_43 (lv_at hl 0 rfl) ?_
  refine lv_imul hx hb dX6_tell_45 ?_
  refine z_top 0 (by decide) ?_
  refine lv_ishr hx hb dX6_tell_46 ?_
  have hV : rfV G ad ce3 T (rf_put T Q 0 ((([a, b]) ++ [rf_zb (nI tg)]) ++ [rf_zb 1])) M := ⟨_, _, _, _, ⟨h100, h101, h102, h103, h104, h105, h106, h107, h108, h109, h110, h111⟩, hQ, hM⟩
  refine z_invV F (rest := []) (r_more l T Q M 0 ((([a, b]) ++ [rf_zb (nI tg)]) ++ [rf_zb 1]) hV (by decide) (by simp) (v >>> (0 &&& 31))) yv_X6_68 ⟨Nat.le_of_ble_eq_true rfl, Nat.le_of_ble_eq_true rfl⟩ hw hA hS hl h100 rfl rfl rfl (Nat.le_of_ble_eq_true rfl) dX6_tell_47 ⟨Nat.le_of_ble_eq_true rfl, Nat.le_of_ble_eq_true rfl⟩ (fun r ad1 ce4 H locs hp hw hS => ?_)
  obtain ⟨rfl, rfl, hV, hF2⟩ := hp
  have hF : ∀ j, j < 100 → ce4 j = ce j := fun j hj => (hF2 j hj).trans (hF j hj)
  obtain ⟨cn, zs, bs, hh, ⟨h100, h101, h102, h103, h104, h105, h106, h107, h108, h109, h110, h111⟩, hQ, hM⟩ := hV
  refine W.eq (g2 := F0 m 50 ls []) rfl ?_
  refine lv_iinc (v := (-1)) (lv' := [(8, .int (-1)), (7, .int (rf_hd T Q 0)), (0, .ref (ad 100)), (1, .int 0), (2, .int (nI a)), (3, .int (nI b)), (4, .int (nI tg)), (5, .int 1), (6, .int v)]) hx hb dX6_tell_50 hl (k := 0) rfl (by decide) (by decide) rfl (fun ls hl => ?_)
  refine lv_goto (tgt := 31) hx hb dX6_tell_53 (by decide) ?_
  refine lv_iload hx hb dX6_tell_31 (lv_at hl 0 rfl) ?_
  refine lv_if_lt (tgt := 56) hx hb dX6_tell_33 (by decide) (fun c33_1 => ?_) (fun c33_1 => absurd c33_1 (by decide))
  exact z_vret F hw hS (by have hV : rfV G ad ce4 T (rf_put T Q 0 (((([a, b]) ++ [rf_zb (nI tg)]) ++ [rf_zb 1]) ++ [rf_zb (v >>> (0 &&& 31))])) M := ⟨_, _, _, _, ⟨h100, h101, h102, h103, h104, h105, h106, h107, h108, h109, h110, h111⟩, hQ, hM⟩; rw [rf_zb_nI htg, rf_sh0] at hV; exact ⟨rfl, rfl, hV, hF⟩) dX6_tell_56
set_option maxHeartbeats 4000000 in
set_option maxRecDepth 100000 in
theorem r_tell0_2 (l : Launch) {G : zz_G} {ad : Nat → Nat} {ce : zz_C} {sz : Nat} (T : rf_T) (Q : rf_Q) (M : List Nat) (hV : rfV G ad ce T Q M) (a b tg : Nat) (ha : a < 256) (hb0 : b < 256) (htg : tg < 256) (v : Int32) : zz_M l yX6_tell cX6_tell 9 none 1 24 0 0 G [.ref (ad 100), .int 0, .int (nI a), .int (nI b), .int (nI tg), .int 2, .int v] ad ce sz (fun r ad1 ce1 => r = none ∧ ad = ad1 ∧ rfV G ad ce1 T (rf_put T Q 0 ([a, b, tg, 2] ++ rf_bytes 2 v)) M ∧ (∀ j, j < 100 → ce1 j = ce j)) := by
  refine zz_enter (by decide) (Nat.le_of_ble_eq_true rfl) ?_
  intro p e s m below meth c ls F hl hw hS hA
  obtain ⟨hx, hb, hr, hml, hown, hts, hlocks, hK, hnm⟩ := id F
  have hl : lv_has ls 9 [(0, .ref (ad 100)), (1, .int 0), (2, .int (nI a)), (3, .int (nI b)), (4, .int (nI tg)), (5, .int 2), (6, .int v)] := hl
  obtain ⟨cn, zs, bs, hh, ⟨h100, h101, h102, h103, h104, h105, h106, h107, h108, h109, h110, h111⟩, hQ, hM⟩ := hV
  have hF : ∀ j, j < 100 → ce j = ce j := fun _ _ => rfl
  refine lv_aload_n hx hb dX6_tell_0 rfl (lv_at hl 0 rfl) ?_
  refine lv_iload_n hx hb dX6_tell_1 rfl (lv_at hl 1 rfl) ?_
  refine lv_iload_n hx hb dX6_tell_2 rfl (lv_at hl 2 rfl) ?_
  refine lv_iload_n hx hb dX6_tell_3 rfl (lv_at hl 3 rfl) ?_
  have hV : rfV G ad ce T Q M := ⟨_, _, _, _, ⟨h100, h101, h102, h103, h104, h105, h106, h107, h108, h109, h110, h111⟩, hQ, hM⟩
  refine z_invV F (rest := []) (r_put0 l T Q M hV a b ha hb0) yv_X6_64 ⟨Nat.le_of_ble_eq_true rfl, Nat.le_of_ble_eq_true rfl⟩ hw hA hS hl h100 rfl rfl rfl (Nat.le_of_ble_eq_true rfl) dX6_tell_4 ⟨Nat.le_of_ble_eq_true rfl, Nat.le_of_ble_eq_true rfl⟩ (fun r ad1 ce1 H locs hp hw hS => ?_)
  obtain ⟨rfl, rfl, hV, hF2⟩ := hp
  have hF : ∀ j, j < 100 → ce1 j = ce j := fun j hj => (hF2 j hj).trans (hF j hj)
  obtain ⟨cn, zs, bs, hh, ⟨h100, h101, h102, h103, h104, h105, h106, h107, h108, h109, h110, h111⟩, hQ, hM⟩ := hV
  refine W.eq (g2 := F0 m 7 ls [.int (rf_hd T Q 0)]) rfl ?_
  refine lv_istore (lv' := [(7, .int (rf_hd T Q 0)), (0, .ref (ad 100)), (1, .int 0), (2, .int (nI a)), (3, .int (nI b)), (4, .int (nI tg)), (5, .int 2), (6, .int v)]) hx hb dX6_tell_7 hl (by decide) rfl (fun ls hl => ?_)
  refine lv_aload_n hx hb dX6_tell_9 rfl (lv_at hl 1 rfl) ?_
  refine lv_iload hx hb dX6_tell_10 (lv_at hl 0 rfl) ?_
  refine lv_iload hx hb dX6_tell_12 (lv_at hl 5 rfl) ?_
  have hV : rfV G ad ce1 T (rf_put T Q 0 [a, b]) M := ⟨_, _, _, _, ⟨h100, h101, h102, h103, h104, h105, h106, h107, h108, h109, h110, h111⟩, hQ, hM⟩
  refine z_invV F (rest := []) (r_more l T Q M 0 ([a, b]) hV (by decide) (by simp) (nI tg)) yv_X6_68 ⟨Nat.le_of_ble_eq_true rfl, Nat.le_of_ble_eq_true rfl⟩ hw hA hS hl h100 rfl rfl rfl (Nat.le_of_ble_eq_true rfl) dX6_tell_14 ⟨Nat.le_of_ble_eq_true rfl, Nat.le_of_ble_eq_true rfl⟩ (fun r ad1 ce2 H locs hp hw hS => ?_)
  obtain ⟨rfl, rfl, hV, hF2⟩ := hp
  have hF : ∀ j, j < 100 → ce2 j = ce j := fun j hj => (hF2 j hj).trans (hF j hj)
  obtain ⟨cn, zs, bs, hh, ⟨h100, h101, h102, h103, h104, h105, h106, h107, h108, h109, h110, h111⟩, hQ, hM⟩ := hV
  refine W.eq (g2 := F0 m 17 ls []) rfl ?_
  refine lv_aload_n hx hb dX6_tell_17 rfl (lv_at hl 1 rfl) ?_
  refine lv_iload hx hb dX6_tell_18 (lv_at hl 0 rfl) ?_
  refine lv_iload hx hb dX6_tell_20 (lv_at hl 6 rfl) ?_
  have hV : rfV G ad ce2 T (rf_put T Q 0 (([a, b]) ++ [rf_zb (nI tg)])) M := ⟨_, _, _, _, ⟨h100, h101, h102, h103, h104, h105, h106, h107, h108, h109, h110, h111⟩, hQ, hM⟩
  refine z_invV F (rest := []) (r_more l T Q M 0 (([a, b]) ++ [rf_zb (nI tg)]) hV (by decide) (by simp) 2) yv_X6_68 ⟨Nat.le_of_ble_eq_true rfl, Nat.le_of_ble_eq_true rfl⟩ hw hA hS hl h100 rfl rfl rfl (Nat.le_of_ble_eq_true rfl) dX6_tell_22 ⟨Nat.le_of_ble_eq_true rfl, Nat.le_of_ble_eq_true rfl⟩ (fun r ad1 ce3 H locs hp hw hS => ?_)
  obtain ⟨rfl, rfl, hV, hF2⟩ := hp
  have hF : ∀ j, j < 100 → ce3 j = ce j := fun j hj => (hF2 j hj).trans (hF j hj)
  obtain ⟨cn, zs, bs, hh, ⟨h100, h101, h102, h103, h104, h105, h106, h107, h108, h109, h110, h111⟩, hQ, hM⟩ := hV
  refine W.eq (g2 := F0 m 25 ls []) rfl ?_
  refine lv_iload hx hb dX6_tell_25 (lv_at hl 6 rfl) ?_
  refine lv_iconst (v := 1) hx hb dX6_tell_27 (by decide) ?_
  refine lv_isub hx hb dX6_tell_28 ?_
  refine z_top 1 (by decide) ?_
  refine lv_istore (lv' := [(8, .int 1), (7, .int (rf_hd T Q 0)), (0, .ref (ad 100)), (1, .int 0), (2, .int (nI a)), (3, .int (nI b)), (4, .int (nI tg)), (5, .int 2), (6, .int v)]) hx hb dX6_tell_29 hl (by decide) rfl (fun ls hl => ?_)
  refine lv_iload hx hb dX6_tell_31 (lv_at hl 0 rfl) ?_
  refine lv_if_lt (tgt := 56) hx hb dX6_tell_33 (by decide) (fun c33 => absurd c33 (by decide)) (fun c33 => ?_)
  refine lv_aload_n hx hb dX6_tell_36 rfl (lv_at hl 2 rfl) ?_
  refine lv_iload hx hb dX6_tell_37 (lv_at hl 1 rfl) ?_
  refine lv_iload hx hb dX6_tell_39 (lv_at hl 8 rfl) ?_
  refine lv_bipush (v := 8) hx hb dX6_tell_41 (by decide) ?_
  refine lv_iload hx hb dX6_tell_43 (lv_at hl 0 rfl) ?_
  refine lv_imul hx hb dX6_tell_45 ?_
  refine z_top 8 (by decide) ?_
  refine lv_ishr hx hb dX6_tell_46 ?_
  have hV : rfV G ad ce3 T (rf_put T Q 0 ((([a, b]) ++ [rf_zb (nI tg)]) ++ [rf_zb 2])) M := ⟨_, _, _, _, ⟨h100, h101, h102, h103, h104, h105, h106, h107, h108, h109, h110, h111⟩, hQ, hM⟩
  refine z_invV F (rest := []) (r_more l T Q M 0 ((([a, b]) ++ [rf_zb (nI tg)]) ++ [rf_zb 2]) hV (by decide) (by simp) (v >>> (8 &&& 31))) yv_X6_68 ⟨Nat.le_of_ble_eq_true rfl, Nat.le_of_ble_eq_true rfl⟩ hw hA hS hl h100 rfl rfl rfl (Nat.le_of_ble_eq_true rfl) dX6_tell_47 ⟨Nat.le_of_ble_eq_true rfl, Nat.le_of_ble_eq_true rfl⟩ (fun r ad1 ce4 H locs hp hw hS => ?_)
  obtain ⟨rfl, rfl, hV, hF2⟩ := hp
  have hF : ∀ j, j < 100 → ce4 j = ce j := fun j hj => (hF2 j hj).trans (hF j hj)
  obtain ⟨cn, zs, bs, hh, ⟨h100, h101, h102, h103, h104, h105, h106, h107, h108, h109, h110, h111⟩, hQ, hM⟩ := hV
  refine W.eq (g2 := F0 m 50 ls []) rfl ?_
  refine lv_iinc (v := 0) (lv' := [(8, .int 0), (7, .int (rf_hd T Q 0)), (0, .ref (ad 100)), (1, .int 0), (2, .int (nI a)), (3, .int (nI b)), (4, .int (nI tg)), (5, .int 2), (6, .int v)]) hx hb dX6_tell_50 hl (k := 0) rfl (by decide) (by decide) rfl (fun ls hl => ?_)
  refine lv_goto (tgt := 31) hx hb dX6_tell_53 (by decide) ?_
  refine lv_iload hx hb dX6_tell_31 (lv_at hl 0 rfl) ?_
  refine lv_if_lt (tgt := 56) hx hb dX6_tell_33 (by decide) (fun c33_1 => absurd c33_1 (by decide)) (fun c33_1 => ?_)
  refine lv_aload_n hx hb dX6_tell_36 rfl (lv_at hl 2 rfl) ?_
  refine lv_iload hx hb dX6_tell_37 (lv_at hl 1 rfl) ?_
  refine lv_iload hx hb dX6_tell_39 (lv_at hl 8 rfl) ?_
  refine lv_bipush (v := 8) hx hb dX6_tell_41 (by decide) ?_
  refine lv_iload hx hb dX6_tell_43 (lv_at hl 0 rfl) ?_
  refine lv_imul hx hb dX6_tell_45 ?_
  refine z_top 0 (by decide) ?_
  refine lv_ishr hx hb dX6_tell_46 ?_
  have hV : rfV G ad ce4 T (rf_put T Q 0 (((([a, b]) ++ [rf_zb (nI tg)]) ++ [rf_zb 2]) ++ [rf_zb (v >>> (8 &&& 31))])) M := ⟨_, _, _, _, ⟨h100, h101, h102, h103, h104, h105, h106, h107, h108, h109, h110, h111⟩, hQ, hM⟩
  refine z_invV F (rest := []) (r_more l T Q M 0 (((([a, b]) ++ [rf_zb (nI tg)]) ++ [rf_zb 2]) ++ [rf_zb (v >>> (8 &&& 31))]) hV (by decide) (by simp) (v >>> (0 &&& 31))) yv_X6_68 ⟨Nat.le_of_ble_eq_true rfl, Nat.le_of_ble_eq_true rfl⟩ hw hA hS hl h100 rfl rfl rfl (Nat.le_of_ble_eq_true rfl) dX6_tell_47 ⟨Nat.le_of_ble_eq_true rfl, Nat.le_of_ble_eq_true rfl⟩ (fun r ad1 ce5 H locs hp hw hS => ?_)
  obtain ⟨rfl, rfl, hV, hF2⟩ := hp
  have hF : ∀ j, j < 100 → ce5 j = ce j := fun j hj => (hF2 j hj).trans (hF j hj)
  obtain ⟨cn, zs, bs, hh, ⟨h100, h101, h102, h103, h104, h105, h106, h107, h108, h109, h110, h111⟩, hQ, hM⟩ := hV
  refine W.eq (g2 := F0 m 50 ls []) rfl ?_
  refine lv_iinc (v := (-1)) (lv' := [(8, .int (-1)), (7, .int (rf_hd T Q 0)), (0, .ref (ad 100)), (1, .int 0), (2, .int (nI a)), (3, .int (nI b)), (4, .int (nI tg)), (5, .int 2), (6, .int v)]) hx hb dX6_tell_50 hl (k := 0) rfl (by decide) (by decide) rfl (fun ls hl => ?_)
  refine lv_goto (tgt := 31) hx hb dX6_tell_53 (by decide) ?_
  refine lv_iload hx hb dX6_tell_31 (lv_at hl 0 rfl) ?_
  refine lv_if_lt (tgt := 56) hx hb dX6_tell_33 (by decide) (fun c33_2 => ?_) (fun c33_2 => absurd c33_2 (by decide))
  exact z_vret F hw hS (by have hV : rfV G ad ce5 T (rf_put T Q 0 ((((([a, b]) ++ [rf_zb (nI tg)]) ++ [rf_zb 2]) ++ [rf_zb (v >>> (8 &&& 31))]) ++ [rf_zb (v >>> (0 &&& 31))])) M := ⟨_, _, _, _, ⟨h100, h101, h102, h103, h104, h105, h106, h107, h108, h109, h110, h111⟩, hQ, hM⟩; rw [rf_zb_nI htg, rf_sh8, rf_sh0] at hV; exact ⟨rfl, rfl, hV, hF⟩) dX6_tell_56
set_option maxHeartbeats 4000000 in
set_option maxRecDepth 100000 in
theorem r_tell0_4 (l : Launch) {G : zz_G} {ad : Nat → Nat} {ce : zz_C} {sz : Nat} (T : rf_T) (Q : rf_Q) (M : List Nat) (hV : rfV G ad ce T Q M) (a b tg : Nat) (ha : a < 256) (hb0 : b < 256) (htg : tg < 256) (v : Int32) : zz_M l yX6_tell cX6_tell 9 none 1 24 0 0 G [.ref (ad 100), .int 0, .int (nI a), .int (nI b), .int (nI tg), .int 4, .int v] ad ce sz (fun r ad1 ce1 => r = none ∧ ad = ad1 ∧ rfV G ad ce1 T (rf_put T Q 0 ([a, b, tg, 4] ++ rf_bytes 4 v)) M ∧ (∀ j, j < 100 → ce1 j = ce j)) := by
  refine zz_enter (by decide) (Nat.le_of_ble_eq_true rfl) ?_
  intro p e s m below meth c ls F hl hw hS hA
  obtain ⟨hx, hb, hr, hml, hown, hts, hlocks, hK, hnm⟩ := id F
  have hl : lv_has ls 9 [(0, .ref (ad 100)), (1, .int 0), (2, .int (nI a)), (3, .int (nI b)), (4, .int (nI tg)), (5, .int 4), (6, .int v)] := hl
  obtain ⟨cn, zs, bs, hh, ⟨h100, h101, h102, h103, h104, h105, h106, h107, h108, h109, h110, h111⟩, hQ, hM⟩ := hV
  have hF : ∀ j, j < 100 → ce j = ce j := fun _ _ => rfl
  refine lv_aload_n hx hb dX6_tell_0 rfl (lv_at hl 0 rfl) ?_
  refine lv_iload_n hx hb dX6_tell_1 rfl (lv_at hl 1 rfl) ?_
  refine lv_iload_n hx hb dX6_tell_2 rfl (lv_at hl 2 rfl) ?_
  refine lv_iload_n hx hb dX6_tell_3 rfl (lv_at hl 3 rfl) ?_
  have hV : rfV G ad ce T Q M := ⟨_, _, _, _, ⟨h100, h101, h102, h103, h104, h105, h106, h107, h108, h109, h110, h111⟩, hQ, hM⟩
  refine z_invV F (rest := []) (r_put0 l T Q M hV a b ha hb0) yv_X6_64 ⟨Nat.le_of_ble_eq_true rfl, Nat.le_of_ble_eq_true rfl⟩ hw hA hS hl h100 rfl rfl rfl (Nat.le_of_ble_eq_true rfl) dX6_tell_4 ⟨Nat.le_of_ble_eq_true rfl, Nat.le_of_ble_eq_true rfl⟩ (fun r ad1 ce1 H locs hp hw hS => ?_)
  obtain ⟨rfl, rfl, hV, hF2⟩ := hp
  have hF : ∀ j, j < 100 → ce1 j = ce j := fun j hj => (hF2 j hj).trans (hF j hj)
  obtain ⟨cn, zs, bs, hh, ⟨h100, h101, h102, h103, h104, h105, h106, h107, h108, h109, h110, h111⟩, hQ, hM⟩ := hV
  refine W.eq (g2 := F0 m 7 ls [.int (rf_hd T Q 0)]) rfl ?_
  refine lv_istore (lv' := [(7, .int (rf_hd T Q 0)), (0, .ref (ad 100)), (1, .int 0), (2, .int (nI a)), (3, .int (nI b)), (4, .int (nI tg)), (5, .int 4), (6, .int v)]) hx hb dX6_tell_7 hl (by decide) rfl (fun ls hl => ?_)
  refine lv_aload_n hx hb dX6_tell_9 rfl (lv_at hl 1 rfl) ?_
  refine lv_iload hx hb dX6_tell_10 (lv_at hl 0 rfl) ?_
  refine lv_iload hx hb dX6_tell_12 (lv_at hl 5 rfl) ?_
  have hV : rfV G ad ce1 T (rf_put T Q 0 [a, b]) M := ⟨_, _, _, _, ⟨h100, h101, h102, h103, h104, h105, h106, h107, h108, h109, h110, h111⟩, hQ, hM⟩
  refine z_invV F (rest := []) (r_more l T Q M 0 ([a, b]) hV (by decide) (by simp) (nI tg)) yv_X6_68 ⟨Nat.le_of_ble_eq_true rfl, Nat.le_of_ble_eq_true rfl⟩ hw hA hS hl h100 rfl rfl rfl (Nat.le_of_ble_eq_true rfl) dX6_tell_14 ⟨Nat.le_of_ble_eq_true rfl, Nat.le_of_ble_eq_true rfl⟩ (fun r ad1 ce2 H locs hp hw hS => ?_)
  obtain ⟨rfl, rfl, hV, hF2⟩ := hp
  have hF : ∀ j, j < 100 → ce2 j = ce j := fun j hj => (hF2 j hj).trans (hF j hj)
  obtain ⟨cn, zs, bs, hh, ⟨h100, h101, h102, h103, h104, h105, h106, h107, h108, h109, h110, h111⟩, hQ, hM⟩ := hV
  refine W.eq (g2 := F0 m 17 ls []) rfl ?_
  refine lv_aload_n hx hb dX6_tell_17 rfl (lv_at hl 1 rfl) ?_
  refine lv_iload hx hb dX6_tell_18 (lv_at hl 0 rfl) ?_
  refine lv_iload hx hb dX6_tell_20 (lv_at hl 6 rfl) ?_
  have hV : rfV G ad ce2 T (rf_put T Q 0 (([a, b]) ++ [rf_zb (nI tg)])) M := ⟨_, _, _, _, ⟨h100, h101, h102, h103, h104, h105, h106, h107, h108, h109, h110, h111⟩, hQ, hM⟩
  refine z_invV F (rest := []) (r_more l T Q M 0 (([a, b]) ++ [rf_zb (nI tg)]) hV (by decide) (by simp) 4) yv_X6_68 ⟨Nat.le_of_ble_eq_true rfl, Nat.le_of_ble_eq_true rfl⟩ hw hA hS hl h100 rfl rfl rfl (Nat.le_of_ble_eq_true rfl) dX6_tell_22 ⟨Nat.le_of_ble_eq_true rfl, Nat.le_of_ble_eq_true rfl⟩ (fun r ad1 ce3 H locs hp hw hS => ?_)
  obtain ⟨rfl, rfl, hV, hF2⟩ := hp
  have hF : ∀ j, j < 100 → ce3 j = ce j := fun j hj => (hF2 j hj).trans (hF j hj)
  obtain ⟨cn, zs, bs, hh, ⟨h100, h101, h102, h103, h104, h105, h106, h107, h108, h109, h110, h111⟩, hQ, hM⟩ := hV
  refine W.eq (g2 := F0 m 25 ls []) rfl ?_
  refine lv_iload hx hb dX6_tell_25 (lv_at hl 6 rfl) ?_
  refine lv_iconst (v := 1) hx hb dX6_tell_27 (by decide) ?_
  refine lv_isub hx hb dX6_tell_28 ?_
  refine z_top 3 (by decide) ?_
  refine lv_istore (lv' := [(8, .int 3), (7, .int (rf_hd T Q 0)), (0, .ref (ad 100)), (1, .int 0), (2, .int (nI a)), (3, .int (nI b)), (4, .int (nI tg)), (5, .int 4), (6, .int v)]) hx hb dX6_tell_29 hl (by decide) rfl (fun ls hl => ?_)
  refine lv_iload hx hb dX6_tell_31 (lv_at hl 0 rfl) ?_
  refine lv_if_lt (tgt := 56) hx hb dX6_tell_33 (by decide) (fun c33 => absurd c33 (by decide)) (fun c33 => ?_)
  refine lv_aload_n hx hb dX6_tell_36 rfl (lv_at hl 2 rfl) ?_
  refine lv_iload hx hb dX6_tell_37 (lv_at hl 1 rfl) ?_
  refine lv_iload hx hb dX6_tell_39 (lv_at hl 8 rfl) ?_
  refine lv_bipush (v := 8) hx hb dX6_tell_41 (by decide) ?_
  refine lv_iload hx hb dX6_tell_43 (lv_at hl 0 rfl) ?_
  refine lv_imul hx hb dX6_tell_45 ?_
  refine z_top 24 (by decide) ?_
  refine lv_ishr hx hb dX6_tell_46 ?_
  have hV : rfV G ad ce3 T (rf_put T Q 0 ((([a, b]) ++ [rf_zb (nI tg)]) ++ [rf_zb 4])) M := ⟨_, _, _, _, ⟨h100, h101, h102, h103, h104, h105, h106, h107, h108, h109, h110, h111⟩, hQ, hM⟩
  refine z_invV F (rest := []) (r_more l T Q M 0 ((([a, b]) ++ [rf_zb (nI tg)]) ++ [rf_zb 4]) hV (by decide) (by simp) (v >>> (24 &&& 31))) yv_X6_68 ⟨Nat.le_of_ble_eq_true rfl, Nat.le_of_ble_eq_true rfl⟩ hw hA hS hl h100 rfl rfl rfl (Nat.le_of_ble_eq_true rfl) dX6_tell_47 ⟨Nat.le_of_ble_eq_true rfl, Nat.le_of_ble_eq_true rfl⟩ (fun r ad1 ce4 H locs hp hw hS => ?_)
  obtain ⟨rfl, rfl, hV, hF2⟩ := hp
  have hF : ∀ j, j < 100 → ce4 j = ce j := fun j hj => (hF2 j hj).trans (hF j hj)
  obtain ⟨cn, zs, bs, hh, ⟨h100, h101, h102, h103, h104, h105, h106, h107, h108, h109, h110, h111⟩, hQ, hM⟩ := hV
  refine W.eq (g2 := F0 m 50 ls []) rfl ?_
  refine lv_iinc (v := 2) (lv' := [(8, .int 2), (7, .int (rf_hd T Q 0)), (0, .ref (ad 100)), (1, .int 0), (2, .int (nI a)), (3, .int (nI b)), (4, .int (nI tg)), (5, .int 4), (6, .int v)]) hx hb dX6_tell_50 hl (k := 0) rfl (by decide) (by decide) rfl (fun ls hl => ?_)
  refine lv_goto (tgt := 31) hx hb dX6_tell_53 (by decide) ?_
  refine lv_iload hx hb dX6_tell_31 (lv_at hl 0 rfl) ?_
  refine lv_if_lt (tgt := 56) hx hb dX6_tell_33 (by decide) (fun c33_1 => absurd c33_1 (by decide)) (fun c33_1 => ?_)
  refine lv_aload_n hx hb dX6_tell_36 rfl (lv_at hl 2 rfl) ?_
  refine lv_iload hx hb dX6_tell_37 (lv_at hl 1 rfl) ?_
  refine lv_iload hx hb dX6_tell_39 (lv_at hl 8 rfl) ?_
  refine lv_bipush (v := 8) hx hb dX6_tell_41 (by decide) ?_
  refine lv_iload hx hb dX6_tell_43 (lv_at hl 0 rfl) ?_
  refine lv_imul hx hb dX6_tell_45 ?_
  refine z_top 16 (by decide) ?_
  refine lv_ishr hx hb dX6_tell_46 ?_
  have hV : rfV G ad ce4 T (rf_put T Q 0 (((([a, b]) ++ [rf_zb (nI tg)]) ++ [rf_zb 4]) ++ [rf_zb (v >>> (24 &&& 31))])) M := ⟨_, _, _, _, ⟨h100, h101, h102, h103, h104, h105, h106, h107, h108, h109, h110, h111⟩, hQ, hM⟩
  refine z_invV F (rest := []) (r_more l T Q M 0 (((([a, b]) ++ [rf_zb (nI tg)]) ++ [rf_zb 4]) ++ [rf_zb (v >>> (24 &&& 31))]) hV (by decide) (by simp) (v >>> (16 &&& 31))) yv_X6_68 ⟨Nat.le_of_ble_eq_true rfl, Nat.le_of_ble_eq_true rfl⟩ hw hA hS hl h100 rfl rfl rfl (Nat.le_of_ble_eq_true rfl) dX6_tell_47 ⟨Nat.le_of_ble_eq_true rfl, Nat.le_of_ble_eq_true rfl⟩ (fun r ad1 ce5 H locs hp hw hS => ?_)
  obtain ⟨rfl, rfl, hV, hF2⟩ := hp
  have hF : ∀ j, j < 100 → ce5 j = ce j := fun j hj => (hF2 j hj).trans (hF j hj)
  obtain ⟨cn, zs, bs, hh, ⟨h100, h101, h102, h103, h104, h105, h106, h107, h108, h109, h110, h111⟩, hQ, hM⟩ := hV
  refine W.eq (g2 := F0 m 50 ls []) rfl ?_
  refine lv_iinc (v := 1) (lv' := [(8, .int 1), (7, .int (rf_hd T Q 0)), (0, .ref (ad 100)), (1, .int 0), (2, .int (nI a)), (3, .int (nI b)), (4, .int (nI tg)), (5, .int 4), (6, .int v)]) hx hb dX6_tell_50 hl (k := 0) rfl (by decide) (by decide) rfl (fun ls hl => ?_)
  refine lv_goto (tgt := 31) hx hb dX6_tell_53 (by decide) ?_
  refine lv_iload hx hb dX6_tell_31 (lv_at hl 0 rfl) ?_
  refine lv_if_lt (tgt := 56) hx hb dX6_tell_33 (by decide) (fun c33_2 => absurd c33_2 (by decide)) (fun c33_2 => ?_)
  refine lv_aload_n hx hb dX6_tell_36 rfl (lv_at hl 2 rfl) ?_
  refine lv_iload hx hb dX6_tell_37 (lv_at hl 1 rfl) ?_
  refine lv_iload hx hb dX6_tell_39 (lv_at hl 8 rfl) ?_
  refine lv_bipush (v := 8) hx hb dX6_tell_41 (by decide) ?_
  refine lv_iload hx hb dX6_tell_43 (lv_at hl 0 rfl) ?_
  refine lv_imul hx hb dX6_tell_45 ?_
  refine z_top 8 (by decide) ?_
  refine lv_ishr hx hb dX6_tell_46 ?_
  have hV : rfV G ad ce5 T (rf_put T Q 0 ((((([a, b]) ++ [rf_zb (nI tg)]) ++ [rf_zb 4]) ++ [rf_zb (v >>> (24 &&& 31))]) ++ [rf_zb (v >>> (16 &&& 31))])) M := ⟨_, _, _, _, ⟨h100, h101, h102, h103, h104, h105, h106, h107, h108, h109, h110, h111⟩, hQ, hM⟩
  refine z_invV F (rest := []) (r_more l T Q M 0 ((((([a, b]) ++ [rf_zb (nI tg)]) ++ [rf_zb 4]) ++ [rf_zb (v >>> (24 &&& 31))]) ++ [rf_zb (v >>> (16 &&& 31))]) hV (by decide) (by simp) (v >>> (8 &&& 31))) yv_X6_68 ⟨Nat.le_of_ble_eq_true rfl, Nat.le_of_ble_eq_true rfl⟩ hw hA hS hl h100 rfl rfl rfl (Nat.le_of_ble_eq_true rfl) dX6_tell_47 ⟨Nat.le_of_ble_eq_true rfl, Nat.le_of_ble_eq_true rfl⟩ (fun r ad1 ce6 H locs hp hw hS => ?_)
  obtain ⟨rfl, rfl, hV, hF2⟩ := hp
  have hF : ∀ j, j < 100 → ce6 j = ce j := fun j hj => (hF2 j hj).trans (hF j hj)
  obtain ⟨cn, zs, bs, hh, ⟨h100, h101, h102, h103, h104, h105, h106, h107, h108, h109, h110, h111⟩, hQ, hM⟩ := hV
  refine W.eq (g2 := F0 m 50 ls []) rfl ?_
  refine lv_iinc (v := 0) (lv' := [(8, .int 0), (7, .int (rf_hd T Q 0)), (0, .ref (ad 100)), (1, .int 0), (2, .int (nI a)), (3, .int (nI b)), (4, .int (nI tg)), (5, .int 4), (6, .int v)]) hx hb dX6_tell_50 hl (k := 0) rfl (by decide) (by decide) rfl (fun ls hl => ?_)
  refine lv_goto (tgt := 31) hx hb dX6_tell_53 (by decide) ?_
  refine lv_iload hx hb dX6_tell_31 (lv_at hl 0 rfl) ?_
  refine lv_if_lt (tgt := 56) hx hb dX6_tell_33 (by decide) (fun c33_3 => absurd c33_3 (by decide)) (fun c33_3 => ?_)
  refine lv_aload_n hx hb dX6_tell_36 rfl (lv_at hl 2 rfl) ?_
  refine lv_iload hx hb dX6_tell_37 (lv_at hl 1 rfl) ?_
  refine lv_iload hx hb dX6_tell_39 (lv_at hl 8 rfl) ?_
  refine lv_bipush (v := 8) hx hb dX6_tell_41 (by decide) ?_
  refine lv_iload hx hb dX6_tell_43 (lv_at hl 0 rfl) ?_
  refine lv_imul hx hb dX6_tell_45 ?_
  refine z_top 0 (by decide) ?_
  refine lv_ishr hx hb dX6_tell_46 ?_
  have hV : rfV G ad ce6 T (rf_put T Q 0 (((((([a, b]) ++ [rf_zb (nI tg)]) ++ [rf_zb 4]) ++ [rf_zb (v >>> (24 &&& 31))]) ++ [rf_zb (v >>> (16 &&& 31))]) ++ [rf_zb (v >>> (8 &&& 31))])) M := ⟨_, _, _, _, ⟨h100, h101, h102, h103, h104, h105, h106, h107, h108, h109, h110, h111⟩, hQ, hM⟩
  refine z_invV F (rest := []) (r_more l T Q M 0 (((((([a, b]) ++ [rf_zb (nI tg)]) ++ [rf_zb 4]) ++ [rf_zb (v >>> (24 &&& 31))]) ++ [rf_zb (v >>> (16 &&& 31))]) ++ [rf_zb (v >>> (8 &&& 31))]) hV (by decide) (by simp) (v >>> (0 &&& 31))) yv_X6_68 ⟨Nat.le_of_ble_eq_true rfl, Nat.le_of_ble_eq_true rfl⟩ hw hA hS hl h100 rfl rfl rfl (Nat.le_of_ble_eq_true rfl) dX6_tell_47 ⟨Nat.le_of_ble_eq_true rfl, Nat.le_of_ble_eq_true rfl⟩ (fun r ad1 ce7 H locs hp hw hS => ?_)
  obtain ⟨rfl, rfl, hV, hF2⟩ := hp
  have hF : ∀ j, j < 100 → ce7 j = ce j := fun j hj => (hF2 j hj).trans (hF j hj)
  obtain ⟨cn, zs, bs, hh, ⟨h100, h101, h102, h103, h104, h105, h106, h107, h108, h109, h110, h111⟩, hQ, hM⟩ := hV
  refine W.eq (g2 := F0 m 50 ls []) rfl ?_
  refine lv_iinc (v := (-1)) (lv' := [(8, .int (-1)), (7, .int (rf_hd T Q 0)), (0, .ref (ad 100)), (1, .int 0), (2, .int (nI a)), (3, .int (nI b)), (4, .int (nI tg)), (5, .int 4), (6, .int v)]) hx hb dX6_tell_50 hl (k := 0) rfl (by decide) (by decide) rfl (fun ls hl => ?_)
  refine lv_goto (tgt := 31) hx hb dX6_tell_53 (by decide) ?_
  refine lv_iload hx hb dX6_tell_31 (lv_at hl 0 rfl) ?_
  refine lv_if_lt (tgt := 56) hx hb dX6_tell_33 (by decide) (fun c33_4 => ?_) (fun c33_4 => absurd c33_4 (by decide))
  exact z_vret F hw hS (by have hV : rfV G ad ce7 T (rf_put T Q 0 ((((((([a, b]) ++ [rf_zb (nI tg)]) ++ [rf_zb 4]) ++ [rf_zb (v >>> (24 &&& 31))]) ++ [rf_zb (v >>> (16 &&& 31))]) ++ [rf_zb (v >>> (8 &&& 31))]) ++ [rf_zb (v >>> (0 &&& 31))])) M := ⟨_, _, _, _, ⟨h100, h101, h102, h103, h104, h105, h106, h107, h108, h109, h110, h111⟩, hQ, hM⟩; rw [rf_zb_nI htg, rf_sh24, rf_sh16, rf_sh8, rf_sh0] at hV; exact ⟨rfl, rfl, hV, hF⟩) dX6_tell_56
set_option maxHeartbeats 4000000 in
set_option maxRecDepth 100000 in
theorem r_tell1_1 (l : Launch) {G : zz_G} {ad : Nat → Nat} {ce : zz_C} {sz : Nat} (T : rf_T) (Q : rf_Q) (M : List Nat) (hV : rfV G ad ce T Q M) (a b tg : Nat) (ha : a < 256) (hb0 : b < 256) (htg : tg < 256) (v : Int32) : zz_M l yX6_tell cX6_tell 9 none 1 24 0 0 G [.ref (ad 100), .int 1, .int (nI a), .int (nI b), .int (nI tg), .int 1, .int v] ad ce sz (fun r ad1 ce1 => r = none ∧ ad = ad1 ∧ rfV G ad ce1 T (rf_put T Q 1 ([a, b, tg, 1] ++ rf_bytes 1 v)) M ∧ (∀ j, j < 100 → ce1 j = ce j)) := by
  refine zz_enter (by decide) (Nat.le_of_ble_eq_true rfl) ?_
  intro p e s m below meth c ls F hl hw hS hA
  obtain ⟨hx, hb, hr, hml, hown, hts, hlocks, hK, hnm⟩ := id F
  have hl : lv_has ls 9 [(0, .ref (ad 100)), (1, .int 1), (2, .int (nI a)), (3, .int (nI b)), (4, .int (nI tg)), (5, .int 1), (6, .int v)] := hl
  obtain ⟨cn, zs, bs, hh, ⟨h100, h101, h102, h103, h104, h105, h106, h107, h108, h109, h110, h111⟩, hQ, hM⟩ := hV
  have hF : ∀ j, j < 100 → ce j = ce j := fun _ _ => rfl
  refine lv_aload_n hx hb dX6_tell_0 rfl (lv_at hl 0 rfl) ?_
  refine lv_iload_n hx hb dX6_tell_1 rfl (lv_at hl 1 rfl) ?_
  refine lv_iload_n hx hb dX6_tell_2 rfl (lv_at hl 2 rfl) ?_
  refine lv_iload_n hx hb dX6_tell_3 rfl (lv_at hl 3 rfl) ?_
  have hV : rfV G ad ce T Q M := ⟨_, _, _, _, ⟨h100, h101, h102, h103, h104, h105, h106, h107, h108, h109, h110, h111⟩, hQ, hM⟩
  refine z_invV F (rest := []) (r_put1 l T Q M hV a b ha hb0) yv_X6_64 ⟨Nat.le_of_ble_eq_true rfl, Nat.le_of_ble_eq_true rfl⟩ hw hA hS hl h100 rfl rfl rfl (Nat.le_of_ble_eq_true rfl) dX6_tell_4 ⟨Nat.le_of_ble_eq_true rfl, Nat.le_of_ble_eq_true rfl⟩ (fun r ad1 ce1 H locs hp hw hS => ?_)
  obtain ⟨rfl, rfl, hV, hF2⟩ := hp
  have hF : ∀ j, j < 100 → ce1 j = ce j := fun j hj => (hF2 j hj).trans (hF j hj)
  obtain ⟨cn, zs, bs, hh, ⟨h100, h101, h102, h103, h104, h105, h106, h107, h108, h109, h110, h111⟩, hQ, hM⟩ := hV
  refine W.eq (g2 := F0 m 7 ls [.int (rf_hd T Q 1)]) rfl ?_
  refine lv_istore (lv' := [(7, .int (rf_hd T Q 1)), (0, .ref (ad 100)), (1, .int 1), (2, .int (nI a)), (3, .int (nI b)), (4, .int (nI tg)), (5, .int 1), (6, .int v)]) hx hb dX6_tell_7 hl (by decide) rfl (fun ls hl => ?_)
  refine lv_aload_n hx hb dX6_tell_9 rfl (lv_at hl 1 rfl) ?_
  refine lv_iload hx hb dX6_tell_10 (lv_at hl 0 rfl) ?_
  refine lv_iload hx hb dX6_tell_12 (lv_at hl 5 rfl) ?_
  have hV : rfV G ad ce1 T (rf_put T Q 1 [a, b]) M := ⟨_, _, _, _, ⟨h100, h101, h102, h103, h104, h105, h106, h107, h108, h109, h110, h111⟩, hQ, hM⟩
  refine z_invV F (rest := []) (r_more l T Q M 1 ([a, b]) hV (by decide) (by simp) (nI tg)) yv_X6_68 ⟨Nat.le_of_ble_eq_true rfl, Nat.le_of_ble_eq_true rfl⟩ hw hA hS hl h100 rfl rfl rfl (Nat.le_of_ble_eq_true rfl) dX6_tell_14 ⟨Nat.le_of_ble_eq_true rfl, Nat.le_of_ble_eq_true rfl⟩ (fun r ad1 ce2 H locs hp hw hS => ?_)
  obtain ⟨rfl, rfl, hV, hF2⟩ := hp
  have hF : ∀ j, j < 100 → ce2 j = ce j := fun j hj => (hF2 j hj).trans (hF j hj)
  obtain ⟨cn, zs, bs, hh, ⟨h100, h101, h102, h103, h104, h105, h106, h107, h108, h109, h110, h111⟩, hQ, hM⟩ := hV
  refine W.eq (g2 := F0 m 17 ls []) rfl ?_
  refine lv_aload_n hx hb dX6_tell_17 rfl (lv_at hl 1 rfl) ?_
  refine lv_iload hx hb dX6_tell_18 (lv_at hl 0 rfl) ?_
  refine lv_iload hx hb dX6_tell_20 (lv_at hl 6 rfl) ?_
  have hV : rfV G ad ce2 T (rf_put T Q 1 (([a, b]) ++ [rf_zb (nI tg)])) M := ⟨_, _, _, _, ⟨h100, h101, h102, h103, h104, h105, h106, h107, h108, h109, h110, h111⟩, hQ, hM⟩
  refine z_invV F (rest := []) (r_more l T Q M 1 (([a, b]) ++ [rf_zb (nI tg)]) hV (by decide) (by simp) 1) yv_X6_68 ⟨Nat.le_of_ble_eq_true rfl, Nat.le_of_ble_eq_true rfl⟩ hw hA hS hl h100 rfl rfl rfl (Nat.le_of_ble_eq_true rfl) dX6_tell_22 ⟨Nat.le_of_ble_eq_true rfl, Nat.le_of_ble_eq_true rfl⟩ (fun r ad1 ce3 H locs hp hw hS => ?_)
  obtain ⟨rfl, rfl, hV, hF2⟩ := hp
  have hF : ∀ j, j < 100 → ce3 j = ce j := fun j hj => (hF2 j hj).trans (hF j hj)
  obtain ⟨cn, zs, bs, hh, ⟨h100, h101, h102, h103, h104, h105, h106, h107, h108, h109, h110, h111⟩, hQ, hM⟩ := hV
  refine W.eq (g2 := F0 m 25 ls []) rfl ?_
  refine lv_iload hx hb dX6_tell_25 (lv_at hl 6 rfl) ?_
  refine lv_iconst (v := 1) hx hb dX6_tell_27 (by decide) ?_
  refine lv_isub hx hb dX6_tell_28 ?_
  refine z_top 0 (by decide) ?_
  refine lv_istore (lv' := [(8, .int 0), (7, .int (rf_hd T Q 1)), (0, .ref (ad 100)), (1, .int 1), (2, .int (nI a)), (3, .int (nI b)), (4, .int (nI tg)), (5, .int 1), (6, .int v)]) hx hb dX6_tell_29 hl (by decide) rfl (fun ls hl => ?_)
  refine lv_iload hx hb dX6_tell_31 (lv_at hl 0 rfl) ?_
  refine lv_if_lt (tgt := 56) hx hb dX6_tell_33 (by decide) (fun c33 => absurd c33 (by decide)) (fun c33 => ?_)
  refine lv_aload_n hx hb dX6_tell_36 rfl (lv_at hl 2 rfl) ?_
  refine lv_iload hx hb dX6_tell_37 (lv_at hl 1 rfl) ?_
  refine lv_iload hx hb dX6_tell_39 (lv_at hl 8 rfl) ?_
  refine lv_bipush (v := 8) hx hb dX6_tell_41 (by decide) ?_
  refine lv_iload hx hb dX6_tell_43 (lv_at hl 0 rfl) ?_
  refine lv_imul hx hb dX6_tell_45 ?_
  refine z_top 0 (by decide) ?_
  refine lv_ishr hx hb dX6_tell_46 ?_
  have hV : rfV G ad ce3 T (rf_put T Q 1 ((([a, b]) ++ [rf_zb (nI tg)]) ++ [rf_zb 1])) M := ⟨_, _, _, _, ⟨h100, h101, h102, h103, h104, h105, h106, h107, h108, h109, h110, h111⟩, hQ, hM⟩
  refine z_invV F (rest := []) (r_more l T Q M 1 ((([a, b]) ++ [rf_zb (nI tg)]) ++ [rf_zb 1]) hV (by decide) (by simp) (v >>> (0 &&& 31))) yv_X6_68 ⟨Nat.le_of_ble_eq_true rfl, Nat.le_of_ble_eq_true rfl⟩ hw hA hS hl h100 rfl rfl rfl (Nat.le_of_ble_eq_true rfl) dX6_tell_47 ⟨Nat.le_of_ble_eq_true rfl, Nat.le_of_ble_eq_true rfl⟩ (fun r ad1 ce4 H locs hp hw hS => ?_)
  obtain ⟨rfl, rfl, hV, hF2⟩ := hp
  have hF : ∀ j, j < 100 → ce4 j = ce j := fun j hj => (hF2 j hj).trans (hF j hj)
  obtain ⟨cn, zs, bs, hh, ⟨h100, h101, h102, h103, h104, h105, h106, h107, h108, h109, h110, h111⟩, hQ, hM⟩ := hV
  refine W.eq (g2 := F0 m 50 ls []) rfl ?_
  refine lv_iinc (v := (-1)) (lv' := [(8, .int (-1)), (7, .int (rf_hd T Q 1)), (0, .ref (ad 100)), (1, .int 1), (2, .int (nI a)), (3, .int (nI b)), (4, .int (nI tg)), (5, .int 1), (6, .int v)]) hx hb dX6_tell_50 hl (k := 0) rfl (by decide) (by decide) rfl (fun ls hl => ?_)
  refine lv_goto (tgt := 31) hx hb dX6_tell_53 (by decide) ?_
  refine lv_iload hx hb dX6_tell_31 (lv_at hl 0 rfl) ?_
  refine lv_if_lt (tgt := 56) hx hb dX6_tell_33 (by decide) (fun c33_1 => ?_) (fun c33_1 => absurd c33_1 (by decide))
  exact z_vret F hw hS (by have hV : rfV G ad ce4 T (rf_put T Q 1 (((([a, b]) ++ [rf_zb (nI tg)]) ++ [rf_zb 1]) ++ [rf_zb (v >>> (0 &&& 31))])) M := ⟨_, _, _, _, ⟨h100, h101, h102, h103, h104, h105, h106, h107, h108, h109, h110, h111⟩, hQ, hM⟩; rw [rf_zb_nI htg, rf_sh0] at hV; exact ⟨rfl, rfl, hV, hF⟩) dX6_tell_56
set_option maxHeartbeats 4000000 in
set_option maxRecDepth 100000 in
theorem r_tell1_2 (l : Launch) {G : zz_G} {ad : Nat → Nat} {ce : zz_C} {sz : Nat} (T : rf_T) (Q : rf_Q) (M : List Nat) (hV : rfV G ad ce T Q M) (a b tg : Nat) (ha : a < 256) (hb0 : b < 256) (htg : tg < 256) (v : Int32) : zz_M l yX6_tell cX6_tell 9 none 1 24 0 0 G [.ref (ad 100), .int 1, .int (nI a), .int (nI b), .int (nI tg), .int 2, .int v] ad ce sz (fun r ad1 ce1 => r = none ∧ ad = ad1 ∧ rfV G ad ce1 T (rf_put T Q 1 ([a, b, tg, 2] ++ rf_bytes 2 v)) M ∧ (∀ j, j < 100 → ce1 j = ce j)) := by
  refine zz_enter (by decide) (Nat.le_of_ble_eq_true rfl) ?_
  intro p e s m below meth c ls F hl hw hS hA
  obtain ⟨hx, hb, hr, hml, hown, hts, hlocks, hK, hnm⟩ := id F
  have hl : lv_has ls 9 [(0, .ref (ad 100)), (1, .int 1), (2, .int (nI a)), (3, .int (nI b)), (4, .int (nI tg)), (5, .int 2), (6, .int v)] := hl
  obtain ⟨cn, zs, bs, hh, ⟨h100, h101, h102, h103, h104, h105, h106, h107, h108, h109, h110, h111⟩, hQ, hM⟩ := hV
  have hF : ∀ j, j < 100 → ce j = ce j := fun _ _ => rfl
  refine lv_aload_n hx hb dX6_tell_0 rfl (lv_at hl 0 rfl) ?_
  refine lv_iload_n hx hb dX6_tell_1 rfl (lv_at hl 1 rfl) ?_
  refine lv_iload_n hx hb dX6_tell_2 rfl (lv_at hl 2 rfl) ?_
  refine lv_iload_n hx hb dX6_tell_3 rfl (lv_at hl 3 rfl) ?_
  have hV : rfV G ad ce T Q M := ⟨_, _, _, _, ⟨h100, h101, h102, h103, h104, h105, h106, h107, h108, h109, h110, h111⟩, hQ, hM⟩
  refine z_invV F (rest := []) (r_put1 l T Q M hV a b ha hb0) yv_X6_64 ⟨Nat.le_of_ble_eq_true rfl, Nat.le_of_ble_eq_true rfl⟩ hw hA hS hl h100 rfl rfl rfl (Nat.le_of_ble_eq_true rfl) dX6_tell_4 ⟨Nat.le_of_ble_eq_true rfl, Nat.le_of_ble_eq_true rfl⟩ (fun r ad1 ce1 H locs hp hw hS => ?_)
  obtain ⟨rfl, rfl, hV, hF2⟩ := hp
  have hF : ∀ j, j < 100 → ce1 j = ce j := fun j hj => (hF2 j hj).trans (hF j hj)
  obtain ⟨cn, zs, bs, hh, ⟨h100, h101, h102, h103, h104, h105, h106, h107, h108, h109, h110, h111⟩, hQ, hM⟩ := hV
  refine W.eq (g2 := F0 m 7 ls [.int (rf_hd T Q 1)]) rfl ?_
  refine lv_istore (lv' := [(7, .int (rf_hd T Q 1)), (0, .ref (ad 100)), (1, .int 1), (2, .int (nI a)), (3, .int (nI b)), (4, .int (nI tg)), (5, .int 2), (6, .int v)]) hx hb dX6_tell_7 hl (by decide) rfl (fun ls hl => ?_)
  refine lv_aload_n hx hb dX6_tell_9 rfl (lv_at hl 1 rfl) ?_
  refine lv_iload hx hb dX6_tell_10 (lv_at hl 0 rfl) ?_
  refine lv_iload hx hb dX6_tell_12 (lv_at hl 5 rfl) ?_
  have hV : rfV G ad ce1 T (rf_put T Q 1 [a, b]) M := ⟨_, _, _, _, ⟨h100, h101, h102, h103, h104, h105, h106, h107, h108, h109, h110, h111⟩, hQ, hM⟩
  refine z_invV F (rest := []) (r_more l T Q M 1 ([a, b]) hV (by decide) (by simp) (nI tg)) yv_X6_68 ⟨Nat.le_of_ble_eq_true rfl, Nat.le_of_ble_eq_true rfl⟩ hw hA hS hl h100 rfl rfl rfl (Nat.le_of_ble_eq_true rfl) dX6_tell_14 ⟨Nat.le_of_ble_eq_true rfl, Nat.le_of_ble_eq_true rfl⟩ (fun r ad1 ce2 H locs hp hw hS => ?_)
  obtain ⟨rfl, rfl, hV, hF2⟩ := hp
  have hF : ∀ j, j < 100 → ce2 j = ce j := fun j hj => (hF2 j hj).trans (hF j hj)
  obtain ⟨cn, zs, bs, hh, ⟨h100, h101, h102, h103, h104, h105, h106, h107, h108, h109, h110, h111⟩, hQ, hM⟩ := hV
  refine W.eq (g2 := F0 m 17 ls []) rfl ?_
  refine lv_aload_n hx hb dX6_tell_17 rfl (lv_at hl 1 rfl) ?_
  refine lv_iload hx hb dX6_tell_18 (lv_at hl 0 rfl) ?_
  refine lv_iload hx hb dX6_tell_20 (lv_at hl 6 rfl) ?_
  have hV : rfV G ad ce2 T (rf_put T Q 1 (([a, b]) ++ [rf_zb (nI tg)])) M := ⟨_, _, _, _, ⟨h100, h101, h102, h103, h104, h105, h106, h107, h108, h109, h110, h111⟩, hQ, hM⟩
  refine z_invV F (rest := []) (r_more l T Q M 1 (([a, b]) ++ [rf_zb (nI tg)]) hV (by decide) (by simp) 2) yv_X6_68 ⟨Nat.le_of_ble_eq_true rfl, Nat.le_of_ble_eq_true rfl⟩ hw hA hS hl h100 rfl rfl rfl (Nat.le_of_ble_eq_true rfl) dX6_tell_22 ⟨Nat.le_of_ble_eq_true rfl, Nat.le_of_ble_eq_true rfl⟩ (fun r ad1 ce3 H locs hp hw hS => ?_)
  obtain ⟨rfl, rfl, hV, hF2⟩ := hp
  have hF : ∀ j, j < 100 → ce3 j = ce j := fun j hj => (hF2 j hj).trans (hF j hj)
  obtain ⟨cn, zs, bs, hh, ⟨h100, h101, h102, h103, h104, h105, h106, h107, h108, h109, h110, h111⟩, hQ, hM⟩ := hV
  refine W.eq (g2 := F0 m 25 ls []) rfl ?_
  refine lv_iload hx hb dX6_tell_25 (lv_at hl 6 rfl) ?_
  refine lv_iconst (v := 1) hx hb dX6_tell_27 (by decide) ?_
  refine lv_isub hx hb dX6_tell_28 ?_
  refine z_top 1 (by decide) ?_
  refine lv_istore (lv' := [(8, .int 1), (7, .int (rf_hd T Q 1)), (0, .ref (ad 100)), (1, .int 1), (2, .int (nI a)), (3, .int (nI b)), (4, .int (nI tg)), (5, .int 2), (6, .int v)]) hx hb dX6_tell_29 hl (by decide) rfl (fun ls hl => ?_)
  refine lv_iload hx hb dX6_tell_31 (lv_at hl 0 rfl) ?_
  refine lv_if_lt (tgt := 56) hx hb dX6_tell_33 (by decide) (fun c33 => absurd c33 (by decide)) (fun c33 => ?_)
  refine lv_aload_n hx hb dX6_tell_36 rfl (lv_at hl 2 rfl) ?_
  refine lv_iload hx hb dX6_tell_37 (lv_at hl 1 rfl) ?_
  refine lv_iload hx hb dX6_tell_39 (lv_at hl 8 rfl) ?_
  refine lv_bipush (v := 8) hx hb dX6_tell_41 (by decide) ?_
  refine lv_iload hx hb dX6_tell_43 (lv_at hl 0 rfl) ?_
  refine lv_imul hx hb dX6_tell_45 ?_
  refine z_top 8 (by decide) ?_
  refine lv_ishr hx hb dX6_tell_46 ?_
  have hV : rfV G ad ce3 T (rf_put T Q 1 ((([a, b]) ++ [rf_zb (nI tg)]) ++ [rf_zb 2])) M := ⟨_, _, _, _, ⟨h100, h101, h102, h103, h104, h105, h106, h107, h108, h109, h110, h111⟩, hQ, hM⟩
  refine z_invV F (rest := []) (r_more l T Q M 1 ((([a, b]) ++ [rf_zb (nI tg)]) ++ [rf_zb 2]) hV (by decide) (by simp) (v >>> (8 &&& 31))) yv_X6_68 ⟨Nat.le_of_ble_eq_true rfl, Nat.le_of_ble_eq_true rfl⟩ hw hA hS hl h100 rfl rfl rfl (Nat.le_of_ble_eq_true rfl) dX6_tell_47 ⟨Nat.le_of_ble_eq_true rfl, Nat.le_of_ble_eq_true rfl⟩ (fun r ad1 ce4 H locs hp hw hS => ?_)
  obtain ⟨rfl, rfl, hV, hF2⟩ := hp
  have hF : ∀ j, j < 100 → ce4 j = ce j := fun j hj => (hF2 j hj).trans (hF j hj)
  obtain ⟨cn, zs, bs, hh, ⟨h100, h101, h102, h103, h104, h105, h106, h107, h108, h109, h110, h111⟩, hQ, hM⟩ := hV
  refine W.eq (g2 := F0 m 50 ls []) rfl ?_
  refine lv_iinc (v := 0) (lv' := [(8, .int 0), (7, .int (rf_hd T Q 1)), (0, .ref (ad 100)), (1, .int 1), (2, .int (nI a)), (3, .int (nI b)), (4, .int (nI tg)), (5, .int 2), (6, .int v)]) hx hb dX6_tell_50 hl (k := 0) rfl (by decide) (by decide) rfl (fun ls hl => ?_)
  refine lv_goto (tgt := 31) hx hb dX6_tell_53 (by decide) ?_
  refine lv_iload hx hb dX6_tell_31 (lv_at hl 0 rfl) ?_
  refine lv_if_lt (tgt := 56) hx hb dX6_tell_33 (by decide) (fun c33_1 => absurd c33_1 (by decide)) (fun c33_1 => ?_)
  refine lv_aload_n hx hb dX6_tell_36 rfl (lv_at hl 2 rfl) ?_
  refine lv_iload hx hb dX6_tell_37 (lv_at hl 1 rfl) ?_
  refine lv_iload hx hb dX6_tell_39 (lv_at hl 8 rfl) ?_
  refine lv_bipush (v := 8) hx hb dX6_tell_41 (by decide) ?_
  refine lv_iload hx hb dX6_tell_43 (lv_at hl 0 rfl) ?_
  refine lv_imul hx hb dX6_tell_45 ?_
  refine z_top 0 (by decide) ?_
  refine lv_ishr hx hb dX6_tell_46 ?_
  have hV : rfV G ad ce4 T (rf_put T Q 1 (((([a, b]) ++ [rf_zb (nI tg)]) ++ [rf_zb 2]) ++ [rf_zb (v >>> (8 &&& 31))])) M := ⟨_, _, _, _, ⟨h100, h101, h102, h103, h104, h105, h106, h107, h108, h109, h110, h111⟩, hQ, hM⟩
  refine z_invV F (rest := []) (r_more l T Q M 1 (((([a, b]) ++ [rf_zb (nI tg)]) ++ [rf_zb 2]) ++ [rf_zb (v >>> (8 &&& 31))]) hV (by decide) (by simp) (v >>> (0 &&& 31))) yv_X6_68 ⟨Nat.le_of_ble_eq_true rfl, Nat.le_of_ble_eq_true rfl⟩ hw hA hS hl h100 rfl rfl rfl (Nat.le_of_ble_eq_true rfl) dX6_tell_47 ⟨Nat.le_of_ble_eq_true rfl, Nat.le_of_ble_eq_true rfl⟩ (fun r ad1 ce5 H locs hp hw hS => ?_)
  obtain ⟨rfl, rfl, hV, hF2⟩ := hp
  have hF : ∀ j, j < 100 → ce5 j = ce j := fun j hj => (hF2 j hj).trans (hF j hj)
  obtain ⟨cn, zs, bs, hh, ⟨h100, h101, h102, h103, h104, h105, h106, h107, h108, h109, h110, h111⟩, hQ, hM⟩ := hV
  refine W.eq (g2 := F0 m 50 ls []) rfl ?_
  refine lv_iinc (v := (-1)) (lv' := [(8, .int (-1)), (7, .int (rf_hd T Q 1)), (0, .ref (ad 100)), (1, .int 1), (2, .int (nI a)), (3, .int (nI b)), (4, .int (nI tg)), (5, .int 2), (6, .int v)]) hx hb dX6_tell_50 hl (k := 0) rfl (by decide) (by decide) rfl (fun ls hl => ?_)
  refine lv_goto (tgt := 31) hx hb dX6_tell_53 (by decide) ?_
  refine lv_iload hx hb dX6_tell_31 (lv_at hl 0 rfl) ?_
  refine lv_if_lt (tgt := 56) hx hb dX6_tell_33 (by decide) (fun c33_2 => ?_) (fun c33_2 => absurd c33_2 (by decide))
  exact z_vret F hw hS (by have hV : rfV G ad ce5 T (rf_put T Q 1 ((((([a, b]) ++ [rf_zb (nI tg)]) ++ [rf_zb 2]) ++ [rf_zb (v >>> (8 &&& 31))]) ++ [rf_zb (v >>> (0 &&& 31))])) M := ⟨_, _, _, _, ⟨h100, h101, h102, h103, h104, h105, h106, h107, h108, h109, h110, h111⟩, hQ, hM⟩; rw [rf_zb_nI htg, rf_sh8, rf_sh0] at hV; exact ⟨rfl, rfl, hV, hF⟩) dX6_tell_56
set_option maxHeartbeats 4000000 in
set_option maxRecDepth 100000 in
theorem r_tell1_4 (l : Launch) {G : zz_G} {ad : Nat → Nat} {ce : zz_C} {sz : Nat} (T : rf_T) (Q : rf_Q) (M : List Nat) (hV : rfV G ad ce T Q M) (a b tg : Nat) (ha : a < 256) (hb0 : b < 256) (htg : tg < 256) (v : Int32) : zz_M l yX6_tell cX6_tell 9 none 1 24 0 0 G [.ref (ad 100), .int 1, .int (nI a), .int (nI b), .int (nI tg), .int 4, .int v] ad ce sz (fun r ad1 ce1 => r = none ∧ ad = ad1 ∧ rfV G ad ce1 T (rf_put T Q 1 ([a, b, tg, 4] ++ rf_bytes 4 v)) M ∧ (∀ j, j < 100 → ce1 j = ce j)) := by
  refine zz_enter (by decide) (Nat.le_of_ble_eq_true rfl) ?_
  intro p e s m below meth c ls F hl hw hS hA
  obtain ⟨hx, hb, hr, hml, hown, hts, hlocks, hK, hnm⟩ := id F
  have hl : lv_has ls 9 [(0, .ref (ad 100)), (1, .int 1), (2, .int (nI a)), (3, .int (nI b)), (4, .int (nI tg)), (5, .int 4), (6, .int v)] := hl
  obtain ⟨cn, zs, bs, hh, ⟨h100, h101, h102, h103, h104, h105, h106, h107, h108, h109, h110, h111⟩, hQ, hM⟩ := hV
  have hF : ∀ j, j < 100 → ce j = ce j := fun _ _ => rfl
  refine lv_aload_n hx hb dX6_tell_0 rfl (lv_at hl 0 rfl) ?_
  refine lv_iload_n hx hb dX6_tell_1 rfl (lv_at hl 1 rfl) ?_
  refine lv_iload_n hx hb dX6_tell_2 rfl (lv_at hl 2 rfl) ?_
  refine lv_iload_n hx hb dX6_tell_3 rfl (lv_at hl 3 rfl) ?_
  have hV : rfV G ad ce T Q M := ⟨_, _, _, _, ⟨h100, h101, h102, h103, h104, h105, h106, h107, h108, h109, h110, h111⟩, hQ, hM⟩
  refine z_invV F (rest := []) (r_put1 l T Q M hV a b ha hb0) yv_X6_64 ⟨Nat.le_of_ble_eq_true rfl, Nat.le_of_ble_eq_true rfl⟩ hw hA hS hl h100 rfl rfl rfl (Nat.le_of_ble_eq_true rfl) dX6_tell_4 ⟨Nat.le_of_ble_eq_true rfl, Nat.le_of_ble_eq_true rfl⟩ (fun r ad1 ce1 H locs hp hw hS => ?_)
  obtain ⟨rfl, rfl, hV, hF2⟩ := hp
  have hF : ∀ j, j < 100 → ce1 j = ce j := fun j hj => (hF2 j hj).trans (hF j hj)
  obtain ⟨cn, zs, bs, hh, ⟨h100, h101, h102, h103, h104, h105, h106, h107, h108, h109, h110, h111⟩, hQ, hM⟩ := hV
  refine W.eq (g2 := F0 m 7 ls [.int (rf_hd T Q 1)]) rfl ?_
  refine lv_istore (lv' := [(7, .int (rf_hd T Q 1)), (0, .ref (ad 100)), (1, .int 1), (2, .int (nI a)), (3, .int (nI b)), (4, .int (nI tg)), (5, .int 4), (6, .int v)]) hx hb dX6_tell_7 hl (by decide) rfl (fun ls hl => ?_)
  refine lv_aload_n hx hb dX6_tell_9 rfl (lv_at hl 1 rfl) ?_
  refine lv_iload hx hb dX6_tell_10 (lv_at hl 0 rfl) ?_
  refine lv_iload hx hb dX6_tell_12 (lv_at hl 5 rfl) ?_
  have hV : rfV G ad ce1 T (rf_put T Q 1 [a, b]) M := ⟨_, _, _, _, ⟨h100, h101, h102, h103, h104, h105, h106, h107, h108, h109, h110, h111⟩, hQ, hM⟩
  refine z_invV F (rest := []) (r_more l T Q M 1 ([a, b]) hV (by decide) (by simp) (nI tg)) yv_X6_68 ⟨Nat.le_of_ble_eq_true rfl, Nat.le_of_ble_eq_true rfl⟩ hw hA hS hl h100 rfl rfl rfl (Nat.le_of_ble_eq_true rfl) dX6_tell_14 ⟨Nat.le_of_ble_eq_true rfl, Nat.le_of_ble_eq_true rfl⟩ (fun r ad1 ce2 H locs hp hw hS => ?_)
  obtain ⟨rfl, rfl, hV, hF2⟩ := hp
  have hF : ∀ j, j < 100 → ce2 j = ce j := fun j hj => (hF2 j hj).trans (hF j hj)
  obtain ⟨cn, zs, bs, hh, ⟨h100, h101, h102, h103, h104, h105, h106, h107, h108, h109, h110, h111⟩, hQ, hM⟩ := hV
  refine W.eq (g2 := F0 m 17 ls []) rfl ?_
  refine lv_aload_n hx hb dX6_tell_17 rfl (lv_at hl 1 rfl) ?_
  refine lv_iload hx hb dX6_tell_18 (lv_at hl 0 rfl) ?_
  refine lv_iload hx hb dX6_tell_20 (lv_at hl 6 rfl) ?_
  have hV : rfV G ad ce2 T (rf_put T Q 1 (([a, b]) ++ [rf_zb (nI tg)])) M := ⟨_, _, _, _, ⟨h100, h101, h102, h103, h104, h105, h106, h107, h108, h109, h110, h111⟩, hQ, hM⟩
  refine z_invV F (rest := []) (r_more l T Q M 1 (([a, b]) ++ [rf_zb (nI tg)]) hV (by decide) (by simp) 4) yv_X6_68 ⟨Nat.le_of_ble_eq_true rfl, Nat.le_of_ble_eq_true rfl⟩ hw hA hS hl h100 rfl rfl rfl (Nat.le_of_ble_eq_true rfl) dX6_tell_22 ⟨Nat.le_of_ble_eq_true rfl, Nat.le_of_ble_eq_true rfl⟩ (fun r ad1 ce3 H locs hp hw hS => ?_)
  obtain ⟨rfl, rfl, hV, hF2⟩ := hp
  have hF : ∀ j, j < 100 → ce3 j = ce j := fun j hj => (hF2 j hj).trans (hF j hj)
  obtain ⟨cn, zs, bs, hh, ⟨h100, h101, h102, h103, h104, h105, h106, h107, h108, h109, h110, h111⟩, hQ, hM⟩ := hV
  refine W.eq (g2 := F0 m 25 ls []) rfl ?_
  refine lv_iload hx hb dX6_tell_25 (lv_at hl 6 rfl) ?_
  refine lv_iconst (v := 1) hx hb dX6_tell_27 (by decide) ?_
  refine lv_isub hx hb dX6_tell_28 ?_
  refine z_top 3 (by decide) ?_
  refine lv_istore (lv' := [(8, .int 3), (7, .int (rf_hd T Q 1)), (0, .ref (ad 100)), (1, .int 1), (2, .int (nI a)), (3, .int (nI b)), (4, .int (nI tg)), (5, .int 4), (6, .int v)]) hx hb dX6_tell_29 hl (by decide) rfl (fun ls hl => ?_)
  refine lv_iload hx hb dX6_tell_31 (lv_at hl 0 rfl) ?_
  refine lv_if_lt (tgt := 56) hx hb dX6_tell_33 (by decide) (fun c33 => absurd c33 (by decide)) (fun c33 => ?_)
  refine lv_aload_n hx hb dX6_tell_36 rfl (lv_at hl 2 rfl) ?_
  refine lv_iload hx hb dX6_tell_37 (lv_at hl 1 rfl) ?_
  refine lv_iload hx hb dX6_tell_39 (lv_at hl 8 rfl) ?_
  refine lv_bipush (v := 8) hx hb dX6_tell_41 (by decide) ?_
  refine lv_iload hx hb dX6_tell_43 (lv_at hl 0 rfl) ?_
  refine lv_imul hx hb dX6_tell_45 ?_
  refine z_top 24 (by decide) ?_
  refine lv_ishr hx hb dX6_tell_46 ?_
  have hV : rfV G ad ce3 T (rf_put T Q 1 ((([a, b]) ++ [rf_zb (nI tg)]) ++ [rf_zb 4])) M := ⟨_, _, _, _, ⟨h100, h101, h102, h103, h104, h105, h106, h107, h108, h109, h110, h111⟩, hQ, hM⟩
  refine z_invV F (rest := []) (r_more l T Q M 1 ((([a, b]) ++ [rf_zb (nI tg)]) ++ [rf_zb 4]) hV (by decide) (by simp) (v >>> (24 &&& 31))) yv_X6_68 ⟨Nat.le_of_ble_eq_true rfl, Nat.le_of_ble_eq_true rfl⟩ hw hA hS hl h100 rfl rfl rfl (Nat.le_of_ble_eq_true rfl) dX6_tell_47 ⟨Nat.le_of_ble_eq_true rfl, Nat.le_of_ble_eq_true rfl⟩ (fun r ad1 ce4 H locs hp hw hS => ?_)
  obtain ⟨rfl, rfl, hV, hF2⟩ := hp
  have hF : ∀ j, j < 100 → ce4 j = ce j := fun j hj => (hF2 j hj).trans (hF j hj)
  obtain ⟨cn, zs, bs, hh, ⟨h100, h101, h102, h103, h104, h105, h106, h107, h108, h109, h110, h111⟩, hQ, hM⟩ := hV
  refine W.eq (g2 := F0 m 50 ls []) rfl ?_
  refine lv_iinc (v := 2) (lv' := [(8, .int 2), (7, .int (rf_hd T Q 1)), (0, .ref (ad 100)), (1, .int 1), (2, .int (nI a)), (3, .int (nI b)), (4, .int (nI tg)), (5, .int 4), (6, .int v)]) hx hb dX6_tell_50 hl (k := 0) rfl (by decide) (by decide) rfl (fun ls hl => ?_)
  refine lv_goto (tgt := 31) hx hb dX6_tell_53 (by decide) ?_
  refine lv_iload hx hb dX6_tell_31 (lv_at hl 0 rfl) ?_
  refine lv_if_lt (tgt := 56) hx hb dX6_tell_33 (by decide) (fun c33_1 => absurd c33_1 (by decide)) (fun c33_1 => ?_)
  refine lv_aload_n hx hb dX6_tell_36 rfl (lv_at hl 2 rfl) ?_
  refine lv_iload hx hb dX6_tell_37 (lv_at hl 1 rfl) ?_
  refine lv_iload hx hb dX6_tell_39 (lv_at hl 8 rfl) ?_
  refine lv_bipush (v := 8) hx hb dX6_tell_41 (by decide) ?_
  refine lv_iload hx hb dX6_tell_43 (lv_at hl 0 rfl) ?_
  refine lv_imul hx hb dX6_tell_45 ?_
  refine z_top 16 (by decide) ?_
  refine lv_ishr hx hb dX6_tell_46 ?_
  have hV : rfV G ad ce4 T (rf_put T Q 1 (((([a, b]) ++ [rf_zb (nI tg)]) ++ [rf_zb 4]) ++ [rf_zb (v >>> (24 &&& 31))])) M := ⟨_, _, _, _, ⟨h100, h101, h102, h103, h104, h105, h106, h107, h108, h109, h110, h111⟩, hQ, hM⟩
  refine z_invV F (rest := []) (r_more l T Q M 1 (((([a, b]) ++ [rf_zb (nI tg)]) ++ [rf_zb 4]) ++ [rf_zb (v >>> (24 &&& 31))]) hV (by decide) (by simp) (v >>> (16 &&& 31))) yv_X6_68 ⟨Nat.le_of_ble_eq_true rfl, Nat.le_of_ble_eq_true rfl⟩ hw hA hS hl h100 rfl rfl rfl (Nat.le_of_ble_eq_true rfl) dX6_tell_47 ⟨Nat.le_of_ble_eq_true rfl, Nat.le_of_ble_eq_true rfl⟩ (fun r ad1 ce5 H locs hp hw hS => ?_)
  obtain ⟨rfl, rfl, hV, hF2⟩ := hp
  have hF : ∀ j, j < 100 → ce5 j = ce j := fun j hj => (hF2 j hj).trans (hF j hj)
  obtain ⟨cn, zs, bs, hh, ⟨h100, h101, h102, h103, h104, h105, h106, h107, h108, h109, h110, h111⟩, hQ, hM⟩ := hV
  refine W.eq (g2 := F0 m 50 ls []) rfl ?_
  refine lv_iinc (v := 1) (lv' := [(8, .int 1), (7, .int (rf_hd T Q 1)), (0, .ref (ad 100)), (1, .int 1), (2, .int (nI a)), (3, .int (nI b)), (4, .int (nI tg)), (5, .int 4), (6, .int v)]) hx hb dX6_tell_50 hl (k := 0) rfl (by decide) (by decide) rfl (fun ls hl => ?_)
  refine lv_goto (tgt := 31) hx hb dX6_tell_53 (by decide) ?_
  refine lv_iload hx hb dX6_tell_31 (lv_at hl 0 rfl) ?_
  refine lv_if_lt (tgt := 56) hx hb dX6_tell_33 (by decide) (fun c33_2 => absurd c33_2 (by decide)) (fun c33_2 => ?_)
  refine lv_aload_n hx hb dX6_tell_36 rfl (lv_at hl 2 rfl) ?_
  refine lv_iload hx hb dX6_tell_37 (lv_at hl 1 rfl) ?_
  refine lv_iload hx hb dX6_tell_39 (lv_at hl 8 rfl) ?_
  refine lv_bipush (v := 8) hx hb dX6_tell_41 (by decide) ?_
  refine lv_iload hx hb dX6_tell_43 (lv_at hl 0 rfl) ?_
  refine lv_imul hx hb dX6_tell_45 ?_
  refine z_top 8 (by decide) ?_
  refine lv_ishr hx hb dX6_tell_46 ?_
  have hV : rfV G ad ce5 T (rf_put T Q 1 ((((([a, b]) ++ [rf_zb (nI tg)]) ++ [rf_zb 4]) ++ [rf_zb (v >>> (24 &&& 31))]) ++ [rf_zb (v >>> (16 &&& 31))])) M := ⟨_, _, _, _, ⟨h100, h101, h102, h103, h104, h105, h106, h107, h108, h109, h110, h111⟩, hQ, hM⟩
  refine z_invV F (rest := []) (r_more l T Q M 1 ((((([a, b]) ++ [rf_zb (nI tg)]) ++ [rf_zb 4]) ++ [rf_zb (v >>> (24 &&& 31))]) ++ [rf_zb (v >>> (16 &&& 31))]) hV (by decide) (by simp) (v >>> (8 &&& 31))) yv_X6_68 ⟨Nat.le_of_ble_eq_true rfl, Nat.le_of_ble_eq_true rfl⟩ hw hA hS hl h100 rfl rfl rfl (Nat.le_of_ble_eq_true rfl) dX6_tell_47 ⟨Nat.le_of_ble_eq_true rfl, Nat.le_of_ble_eq_true rfl⟩ (fun r ad1 ce6 H locs hp hw hS => ?_)
  obtain ⟨rfl, rfl, hV, hF2⟩ := hp
  have hF : ∀ j, j < 100 → ce6 j = ce j := fun j hj => (hF2 j hj).trans (hF j hj)
  obtain ⟨cn, zs, bs, hh, ⟨h100, h101, h102, h103, h104, h105, h106, h107, h108, h109, h110, h111⟩, hQ, hM⟩ := hV
  refine W.eq (g2 := F0 m 50 ls []) rfl ?_
  refine lv_iinc (v := 0) (lv' := [(8, .int 0), (7, .int (rf_hd T Q 1)), (0, .ref (ad 100)), (1, .int 1), (2, .int (nI a)), (3, .int (nI b)), (4, .int (nI tg)), (5, .int 4), (6, .int v)]) hx hb dX6_tell_50 hl (k := 0) rfl (by decide) (by decide) rfl (fun ls hl => ?_)
  refine lv_goto (tgt := 31) hx hb dX6_tell_53 (by decide) ?_
  refine lv_iload hx hb dX6_tell_31 (lv_at hl 0 rfl) ?_
  refine lv_if_lt (tgt := 56) hx hb dX6_tell_33 (by decide) (fun c33_3 => absurd c33_3 (by decide)) (fun c33_3 => ?_)
  refine lv_aload_n hx hb dX6_tell_36 rfl (lv_at hl 2 rfl) ?_
  refine lv_iload hx hb dX6_tell_37 (lv_at hl 1 rfl) ?_
  refine lv_iload hx hb dX6_tell_39 (lv_at hl 8 rfl) ?_
  refine lv_bipush (v := 8) hx hb dX6_tell_41 (by decide) ?_
  refine lv_iload hx hb dX6_tell_43 (lv_at hl 0 rfl) ?_
  refine lv_imul hx hb dX6_tell_45 ?_
  refine z_top 0 (by decide) ?_
  refine lv_ishr hx hb dX6_tell_46 ?_
  have hV : rfV G ad ce6 T (rf_put T Q 1 (((((([a, b]) ++ [rf_zb (nI tg)]) ++ [rf_zb 4]) ++ [rf_zb (v >>> (24 &&& 31))]) ++ [rf_zb (v >>> (16 &&& 31))]) ++ [rf_zb (v >>> (8 &&& 31))])) M := ⟨_, _, _, _, ⟨h100, h101, h102, h103, h104, h105, h106, h107, h108, h109, h110, h111⟩, hQ, hM⟩
  refine z_invV F (rest := []) (r_more l T Q M 1 (((((([a, b]) ++ [rf_zb (nI tg)]) ++ [rf_zb 4]) ++ [rf_zb (v >>> (24 &&& 31))]) ++ [rf_zb (v >>> (16 &&& 31))]) ++ [rf_zb (v >>> (8 &&& 31))]) hV (by decide) (by simp) (v >>> (0 &&& 31))) yv_X6_68 ⟨Nat.le_of_ble_eq_true rfl, Nat.le_of_ble_eq_true rfl⟩ hw hA hS hl h100 rfl rfl rfl (Nat.le_of_ble_eq_true rfl) dX6_tell_47 ⟨Nat.le_of_ble_eq_true rfl, Nat.le_of_ble_eq_true rfl⟩ (fun r ad1 ce7 H locs hp hw hS => ?_)
  obtain ⟨rfl, rfl, hV, hF2⟩ := hp
  have hF : ∀ j, j < 100 → ce7 j = ce j := fun j hj => (hF2 j hj).trans (hF j hj)
  obtain ⟨cn, zs, bs, hh, ⟨h100, h101, h102, h103, h104, h105, h106, h107, h108, h109, h110, h111⟩, hQ, hM⟩ := hV
  refine W.eq (g2 := F0 m 50 ls []) rfl ?_
  refine lv_iinc (v := (-1)) (lv' := [(8, .int (-1)), (7, .int (rf_hd T Q 1)), (0, .ref (ad 100)), (1, .int 1), (2, .int (nI a)), (3, .int (nI b)), (4, .int (nI tg)), (5, .int 4), (6, .int v)]) hx hb dX6_tell_50 hl (k := 0) rfl (by decide) (by decide) rfl (fun ls hl => ?_)
  refine lv_goto (tgt := 31) hx hb dX6_tell_53 (by decide) ?_
  refine lv_iload hx hb dX6_tell_31 (lv_at hl 0 rfl) ?_
  refine lv_if_lt (tgt := 56) hx hb dX6_tell_33 (by decide) (fun c33_4 => ?_) (fun c33_4 => absurd c33_4 (by decide))
  exact z_vret F hw hS (by have hV : rfV G ad ce7 T (rf_put T Q 1 ((((((([a, b]) ++ [rf_zb (nI tg)]) ++ [rf_zb 4]) ++ [rf_zb (v >>> (24 &&& 31))]) ++ [rf_zb (v >>> (16 &&& 31))]) ++ [rf_zb (v >>> (8 &&& 31))]) ++ [rf_zb (v >>> (0 &&& 31))])) M := ⟨_, _, _, _, ⟨h100, h101, h102, h103, h104, h105, h106, h107, h108, h109, h110, h111⟩, hQ, hM⟩; rw [rf_zb_nI htg, rf_sh24, rf_sh16, rf_sh8, rf_sh0] at hV; exact ⟨rfl, rfl, hV, hF⟩) dX6_tell_56
