set_option maxHeartbeats 4000000 in
set_option maxRecDepth 100000 in
theorem r_way0 (l : Launch) {G : zz_G} {ad : Nat → Nat} {ce : zz_C} {sz : Nat} (T : rf_T) (Q : rf_Q) (hV : rfV G ad ce T Q) : zz_M l yX6_way cX6_way 2 (some .int) 0 0 0 0 G [.ref (ad 100), .int 0] ad ce sz (fun r ad1 ce1 => r = some (.int 0) ∧ ad1 = ad ∧ ce1 = ce) := by
  refine zz_enter (by decide) (Nat.le_of_ble_eq_true rfl) ?_
  intro p e s m below meth c ls F hl hw hS hA
  obtain ⟨hx, hb, hr, hml, hown, hts, hlocks, hK, hnm⟩ := id F
  have hl : lv_has ls 2 [(0, .ref (ad 100)), (1, .int 0)] := hl
  obtain ⟨cn, zs, bs, ⟨h100, h101, h102, h103, h104, h105, h106, h107, h108, h109, h110, h111⟩, hQ⟩ := hV
  refine lv_iload_n hx hb dX6_way_0 rfl (lv_at hl 1 rfl) ?_
  refine lv_if_ne (tgt := 8) hx hb dX6_way_1 (by decide) (fun c1 => absurd c1 (by decide)) (fun c1 => ?_)
  refine lv_iconst (v := 0) hx hb dX6_way_4 (by decide) ?_
  refine lv_goto (tgt := 9) hx hb dX6_way_5 (by decide) ?_
  exact z_iret F (rfl) hw hS (⟨rfl, rfl, rfl⟩) dX6_way_9
set_option maxHeartbeats 4000000 in
set_option maxRecDepth 100000 in
theorem r_rest0 (l : Launch) {G : zz_G} {ad : Nat → Nat} {ce : zz_C} {sz : Nat} (T : rf_T) (Q : rf_Q) (hV : rfV G ad ce T Q) : zz_M l yX6_rest cX6_rest 2 (some .int) 0 0 0 0 G [.ref (ad 100), .int 0] ad ce sz (fun r ad1 ce1 => r = some (.int 3) ∧ ad1 = ad ∧ ce1 = ce) := by
  refine zz_enter (by decide) (Nat.le_of_ble_eq_true rfl) ?_
  intro p e s m below meth c ls F hl hw hS hA
  obtain ⟨hx, hb, hr, hml, hown, hts, hlocks, hK, hnm⟩ := id F
  have hl : lv_has ls 2 [(0, .ref (ad 100)), (1, .int 0)] := hl
  obtain ⟨cn, zs, bs, ⟨h100, h101, h102, h103, h104, h105, h106, h107, h108, h109, h110, h111⟩, hQ⟩ := hV
  refine lv_iload_n hx hb dX6_rest_0 rfl (lv_at hl 1 rfl) ?_
  refine lv_if_ne (tgt := 8) hx hb dX6_rest_1 (by decide) (fun c1 => absurd c1 (by decide)) (fun c1 => ?_)
  refine lv_iconst (v := 3) hx hb dX6_rest_4 (by decide) ?_
  refine lv_goto (tgt := 9) hx hb dX6_rest_5 (by decide) ?_
  exact z_iret F (rfl) hw hS (⟨rfl, rfl, rfl⟩) dX6_rest_9
set_option maxHeartbeats 4000000 in
set_option maxRecDepth 100000 in
theorem r_become0 (l : Launch) {G : zz_G} {ad : Nat → Nat} {ce : zz_C} {sz : Nat} (T : rf_T) (Q : rf_Q) (hV : rfV G ad ce T Q) (vs vc vt : Int32) : zz_M l yX6_become cX6_become 5 none 0 0 0 0 G [.ref (ad 100), .int 0, .int vs, .int vc, .int vt] ad ce sz (fun r ad1 ce1 => r = none ∧ ad1 = ad ∧ rfV G ad ce1 (rf_become T 0 vs vc vt) Q ∧ (∀ j, j < 100 → ce1 j = ce j)) := by
  refine zz_enter (by decide) (Nat.le_of_ble_eq_true rfl) ?_
  intro p e s m below meth c ls F hl hw hS hA
  obtain ⟨hx, hb, hr, hml, hown, hts, hlocks, hK, hnm⟩ := id F
  have hl : lv_has ls 5 [(0, .ref (ad 100)), (1, .int 0), (2, .int vs), (3, .int vc), (4, .int vt)] := hl
  obtain ⟨cn, zs, bs, ⟨h100, h101, h102, h103, h104, h105, h106, h107, h108, h109, h110, h111⟩, hQ⟩ := hV
  have hF : ∀ j, j < 100 → ce j = ce j := fun _ _ => rfl
  refine lv_aload_n hx hb dX6_become_0 rfl (lv_at hl 0 rfl) ?_
  refine z_get F hw h100 fd_X6_23_X6 rfl dX6_become_1 ?_
  refine lv_iload_n hx hb dX6_become_4 rfl (lv_at hl 1 rfl) ?_
  refine lv_iload_n hx hb dX6_become_5 rfl (lv_at hl 2 rfl) ?_
  refine z_st F hw hS h104 (0) (rfl) (by decide) (by decide) dX6_become_6 (fun ce1 H locs h104 fr2 hw hS => ?_)
  have h100 := (fr2 100 (by decide)).trans h100
  have h101 := (fr2 101 (by decide)).trans h101
  have h102 := (fr2 102 (by decide)).trans h102
  have h103 := (fr2 103 (by decide)).trans h103
  have h105 := (fr2 105 (by decide)).trans h105
  have h106 := (fr2 106 (by decide)).trans h106
  have h107 := (fr2 107 (by decide)).trans h107
  have h108 := (fr2 108 (by decide)).trans h108
  have h109 := (fr2 109 (by decide)).trans h109
  have h110 := (fr2 110 (by decide)).trans h110
  have h111 := (fr2 111 (by decide)).trans h111
  have hF : ∀ j, j < 100 → _ = ce j := fun j hj => (fr2 j (by omega)).trans (hF j hj)
  refine lv_aload_n hx hb dX6_become_7 rfl (lv_at hl 0 rfl) ?_
  refine z_get F hw h100 fd_X6_26_X6 rfl dX6_become_8 ?_
  refine lv_iload_n hx hb dX6_become_11 rfl (lv_at hl 1 rfl) ?_
  refine lv_iload_n hx hb dX6_become_12 rfl (lv_at hl 3 rfl) ?_
  refine z_st F hw hS h105 (0) (rfl) (by decide) (by decide) dX6_become_13 (fun ce3 H locs h105 fr4 hw hS => ?_)
  have h100 := (fr4 100 (by decide)).trans h100
  have h101 := (fr4 101 (by decide)).trans h101
  have h102 := (fr4 102 (by decide)).trans h102
  have h103 := (fr4 103 (by decide)).trans h103
  have h104 := (fr4 104 (by decide)).trans h104
  have h106 := (fr4 106 (by decide)).trans h106
  have h107 := (fr4 107 (by decide)).trans h107
  have h108 := (fr4 108 (by decide)).trans h108
  have h109 := (fr4 109 (by decide)).trans h109
  have h110 := (fr4 110 (by decide)).trans h110
  have h111 := (fr4 111 (by decide)).trans h111
  have hF : ∀ j, j < 100 → _ = ce j := fun j hj => (fr4 j (by omega)).trans (hF j hj)
  refine lv_aload_n hx hb dX6_become_14 rfl (lv_at hl 0 rfl) ?_
  refine z_get F hw h100 fd_X6_29_X6 rfl dX6_become_15 ?_
  refine lv_iload_n hx hb dX6_become_18 rfl (lv_at hl 1 rfl) ?_
  refine lv_iload hx hb dX6_become_19 (lv_at hl 4 rfl) ?_
  refine z_st F hw hS h106 (0) (rfl) (by decide) (by decide) dX6_become_21 (fun ce5 H locs h106 fr6 hw hS => ?_)
  have h100 := (fr6 100 (by decide)).trans h100
  have h101 := (fr6 101 (by decide)).trans h101
  have h102 := (fr6 102 (by decide)).trans h102
  have h103 := (fr6 103 (by decide)).trans h103
  have h104 := (fr6 104 (by decide)).trans h104
  have h105 := (fr6 105 (by decide)).trans h105
  have h107 := (fr6 107 (by decide)).trans h107
  have h108 := (fr6 108 (by decide)).trans h108
  have h109 := (fr6 109 (by decide)).trans h109
  have h110 := (fr6 110 (by decide)).trans h110
  have h111 := (fr6 111 (by decide)).trans h111
  have hF : ∀ j, j < 100 → _ = ce j := fun j hj => (fr6 j (by omega)).trans (hF j hj)
  refine lv_aload_n hx hb dX6_become_22 rfl (lv_at hl 0 rfl) ?_
  refine z_get F hw h100 fd_X6_32_X6 rfl dX6_become_23 ?_
  refine lv_iload_n hx hb dX6_become_26 rfl (lv_at hl 1 rfl) ?_
  refine lv_iconst (v := 0) hx hb dX6_become_27 (by decide) ?_
  refine z_zst F hw hS h107 (0) (rfl) (by decide) (by decide) (rfl) dX6_become_28 (fun ce7 H locs h107 fr8 hw hS => ?_)
  have h100 := (fr8 100 (by decide)).trans h100
  have h101 := (fr8 101 (by decide)).trans h101
  have h102 := (fr8 102 (by decide)).trans h102
  have h103 := (fr8 103 (by decide)).trans h103
  have h104 := (fr8 104 (by decide)).trans h104
  have h105 := (fr8 105 (by decide)).trans h105
  have h106 := (fr8 106 (by decide)).trans h106
  have h108 := (fr8 108 (by decide)).trans h108
  have h109 := (fr8 109 (by decide)).trans h109
  have h110 := (fr8 110 (by decide)).trans h110
  have h111 := (fr8 111 (by decide)).trans h111
  have hF : ∀ j, j < 100 → _ = ce j := fun j hj => (fr8 j (by omega)).trans (hF j hj)
  exact z_vret F hw hS (⟨rfl, rfl, ⟨cn, zs, bs, ⟨h100, h101, h102, h103, h104, h105, h106, h107, h108, h109, h110, h111⟩, hQ⟩, hF⟩) dX6_become_29
set_option maxHeartbeats 4000000 in
set_option maxRecDepth 100000 in
theorem r_isCall0 (l : Launch) {G : zz_G} {ad : Nat → Nat} {ce : zz_C} {sz : Nat} (T : rf_T) (Q : rf_Q) (hV : rfV G ad ce T Q) (lo hi : Int32) : zz_M l yX6_isCall cX6_isCall 4 (some .boolean) 0 0 0 0 G [.ref (ad 100), .int 0, .int lo, .int hi] ad ce sz (fun r ad1 ce1 => ((rf_inC T 0 lo hi ∧ r = some (.int 1)) ∨ (¬ rf_inC T 0 lo hi ∧ r = some (.int 0))) ∧ ad1 = ad ∧ ce1 = ce) := by
  refine zz_enter (by decide) (Nat.le_of_ble_eq_true rfl) ?_
  intro p e s m below meth c ls F hl hw hS hA
  obtain ⟨hx, hb, hr, hml, hown, hts, hlocks, hK, hnm⟩ := id F
  have hl : lv_has ls 4 [(0, .ref (ad 100)), (1, .int 0), (2, .int lo), (3, .int hi)] := hl
  obtain ⟨cn, zs, bs, ⟨h100, h101, h102, h103, h104, h105, h106, h107, h108, h109, h110, h111⟩, hQ⟩ := hV
  refine lv_aload_n hx hb dX6_isCall_0 rfl (lv_at hl 0 rfl) ?_
  refine z_get F hw h100 fd_X6_26_X6 rfl dX6_isCall_1 ?_
  refine lv_iload_n hx hb dX6_isCall_4 rfl (lv_at hl 1 rfl) ?_
  refine z_ld F hw h105 (0) (rfl) (by decide) (by decide) dX6_isCall_5 ?_
  refine lv_iload_n hx hb dX6_isCall_6 rfl (lv_at hl 2 rfl) ?_
  refine lv_icmp_lt (tgt := 24) hx hb dX6_isCall_7 (by decide) (fun c7 => ?_) (fun c7 => ?_)
  · refine lv_iconst (v := 0) hx hb dX6_isCall_24 (by decide) ?_
    exact z_iret F (rfl) hw hS (⟨Or.inr ⟨fun q => q.1 c7, rfl⟩, rfl, rfl⟩) dX6_isCall_25
  · refine lv_aload_n hx hb dX6_isCall_10 rfl (lv_at hl 0 rfl) ?_
    refine z_get F hw h100 fd_X6_26_X6 rfl dX6_isCall_11 ?_
    refine lv_iload_n hx hb dX6_isCall_14 rfl (lv_at hl 1 rfl) ?_
    refine z_ld F hw h105 (0) (rfl) (by decide) (by decide) dX6_isCall_15 ?_
    refine lv_iload_n hx hb dX6_isCall_16 rfl (lv_at hl 3 rfl) ?_
    refine lv_icmp_gt (tgt := 24) hx hb dX6_isCall_17 (by decide) (fun c17 => ?_) (fun c17 => ?_)
    · refine lv_iconst (v := 0) hx hb dX6_isCall_24 (by decide) ?_
      exact z_iret F (rfl) hw hS (⟨Or.inr ⟨fun q => q.2 c17, rfl⟩, rfl, rfl⟩) dX6_isCall_25
    · refine lv_iconst (v := 1) hx hb dX6_isCall_20 (by decide) ?_
      refine lv_goto (tgt := 25) hx hb dX6_isCall_21 (by decide) ?_
      exact z_iret F (rfl) hw hS (⟨Or.inl ⟨⟨c7, c17⟩, rfl⟩, rfl, rfl⟩) dX6_isCall_25
set_option maxHeartbeats 4000000 in
set_option maxRecDepth 100000 in
theorem r_way1 (l : Launch) {G : zz_G} {ad : Nat → Nat} {ce : zz_C} {sz : Nat} (T : rf_T) (Q : rf_Q) (hV : rfV G ad ce T Q) : zz_M l yX6_way cX6_way 2 (some .int) 0 0 0 0 G [.ref (ad 100), .int 1] ad ce sz (fun r ad1 ce1 => r = some (.int 1) ∧ ad1 = ad ∧ ce1 = ce) := by
  refine zz_enter (by decide) (Nat.le_of_ble_eq_true rfl) ?_
  intro p e s m below meth c ls F hl hw hS hA
  obtain ⟨hx, hb, hr, hml, hown, hts, hlocks, hK, hnm⟩ := id F
  have hl : lv_has ls 2 [(0, .ref (ad 100)), (1, .int 1)] := hl
  obtain ⟨cn, zs, bs, ⟨h100, h101, h102, h103, h104, h105, h106, h107, h108, h109, h110, h111⟩, hQ⟩ := hV
  refine lv_iload_n hx hb dX6_way_0 rfl (lv_at hl 1 rfl) ?_
  refine lv_if_ne (tgt := 8) hx hb dX6_way_1 (by decide) (fun c1 => ?_) (fun c1 => absurd c1 (by decide))
  refine lv_iconst (v := 1) hx hb dX6_way_8 (by decide) ?_
  exact z_iret F (rfl) hw hS (⟨rfl, rfl, rfl⟩) dX6_way_9
set_option maxHeartbeats 4000000 in
set_option maxRecDepth 100000 in
theorem r_rest1 (l : Launch) {G : zz_G} {ad : Nat → Nat} {ce : zz_C} {sz : Nat} (T : rf_T) (Q : rf_Q) (hV : rfV G ad ce T Q) : zz_M l yX6_rest cX6_rest 2 (some .int) 0 0 0 0 G [.ref (ad 100), .int 1] ad ce sz (fun r ad1 ce1 => r = some (.int 0) ∧ ad1 = ad ∧ ce1 = ce) := by
  refine zz_enter (by decide) (Nat.le_of_ble_eq_true rfl) ?_
  intro p e s m below meth c ls F hl hw hS hA
  obtain ⟨hx, hb, hr, hml, hown, hts, hlocks, hK, hnm⟩ := id F
  have hl : lv_has ls 2 [(0, .ref (ad 100)), (1, .int 1)] := hl
  obtain ⟨cn, zs, bs, ⟨h100, h101, h102, h103, h104, h105, h106, h107, h108, h109, h110, h111⟩, hQ⟩ := hV
  refine lv_iload_n hx hb dX6_rest_0 rfl (lv_at hl 1 rfl) ?_
  refine lv_if_ne (tgt := 8) hx hb dX6_rest_1 (by decide) (fun c1 => ?_) (fun c1 => absurd c1 (by decide))
  refine lv_iconst (v := 0) hx hb dX6_rest_8 (by decide) ?_
  exact z_iret F (rfl) hw hS (⟨rfl, rfl, rfl⟩) dX6_rest_9
set_option maxHeartbeats 4000000 in
set_option maxRecDepth 100000 in
theorem r_become1 (l : Launch) {G : zz_G} {ad : Nat → Nat} {ce : zz_C} {sz : Nat} (T : rf_T) (Q : rf_Q) (hV : rfV G ad ce T Q) (vs vc vt : Int32) : zz_M l yX6_become cX6_become 5 none 0 0 0 0 G [.ref (ad 100), .int 1, .int vs, .int vc, .int vt] ad ce sz (fun r ad1 ce1 => r = none ∧ ad1 = ad ∧ rfV G ad ce1 (rf_become T 1 vs vc vt) Q ∧ (∀ j, j < 100 → ce1 j = ce j)) := by
  refine zz_enter (by decide) (Nat.le_of_ble_eq_true rfl) ?_
  intro p e s m below meth c ls F hl hw hS hA
  obtain ⟨hx, hb, hr, hml, hown, hts, hlocks, hK, hnm⟩ := id F
  have hl : lv_has ls 5 [(0, .ref (ad 100)), (1, .int 1), (2, .int vs), (3, .int vc), (4, .int vt)] := hl
  obtain ⟨cn, zs, bs, ⟨h100, h101, h102, h103, h104, h105, h106, h107, h108, h109, h110, h111⟩, hQ⟩ := hV
  have hF : ∀ j, j < 100 → ce j = ce j := fun _ _ => rfl
  refine lv_aload_n hx hb dX6_become_0 rfl (lv_at hl 0 rfl) ?_
  refine z_get F hw h100 fd_X6_23_X6 rfl dX6_become_1 ?_
  refine lv_iload_n hx hb dX6_become_4 rfl (lv_at hl 1 rfl) ?_
  refine lv_iload_n hx hb dX6_become_5 rfl (lv_at hl 2 rfl) ?_
  refine z_st F hw hS h104 (1) (rfl) (by decide) (by decide) dX6_become_6 (fun ce1 H locs h104 fr2 hw hS => ?_)
  have h100 := (fr2 100 (by decide)).trans h100
  have h101 := (fr2 101 (by decide)).trans h101
  have h102 := (fr2 102 (by decide)).trans h102
  have h103 := (fr2 103 (by decide)).trans h103
  have h105 := (fr2 105 (by decide)).trans h105
  have h106 := (fr2 106 (by decide)).trans h106
  have h107 := (fr2 107 (by decide)).trans h107
  have h108 := (fr2 108 (by decide)).trans h108
  have h109 := (fr2 109 (by decide)).trans h109
  have h110 := (fr2 110 (by decide)).trans h110
  have h111 := (fr2 111 (by decide)).trans h111
  have hF : ∀ j, j < 100 → _ = ce j := fun j hj => (fr2 j (by omega)).trans (hF j hj)
  refine lv_aload_n hx hb dX6_become_7 rfl (lv_at hl 0 rfl) ?_
  refine z_get F hw h100 fd_X6_26_X6 rfl dX6_become_8 ?_
  refine lv_iload_n hx hb dX6_become_11 rfl (lv_at hl 1 rfl) ?_
  refine lv_iload_n hx hb dX6_become_12 rfl (lv_at hl 3 rfl) ?_
  refine z_st F hw hS h105 (1) (rfl) (by decide) (by decide) dX6_become_13 (fun ce3 H locs h105 fr4 hw hS => ?_)
  have h100 := (fr4 100 (by decide)).trans h100
  have h101 := (fr4 101 (by decide)).trans h101
  have h102 := (fr4 102 (by decide)).trans h102
  have h103 := (fr4 103 (by decide)).trans h103
  have h104 := (fr4 104 (by decide)).trans h104
  have h106 := (fr4 106 (by decide)).trans h106
  have h107 := (fr4 107 (by decide)).trans h107
  have h108 := (fr4 108 (by decide)).trans h108
  have h109 := (fr4 109 (by decide)).trans h109
  have h110 := (fr4 110 (by decide)).trans h110
  have h111 := (fr4 111 (by decide)).trans h111
  have hF : ∀ j, j < 100 → _ = ce j := fun j hj => (fr4 j (by omega)).trans (hF j hj)
  refine lv_aload_n hx hb dX6_become_14 rfl (lv_at hl 0 rfl) ?_
  refine z_get F hw h100 fd_X6_29_X6 rfl dX6_become_15 ?_
  refine lv_iload_n hx hb dX6_become_18 rfl (lv_at hl 1 rfl) ?_
  refine lv_iload hx hb dX6_become_19 (lv_at hl 4 rfl) ?_
  refine z_st F hw hS h106 (1) (rfl) (by decide) (by decide) dX6_become_21 (fun ce5 H locs h106 fr6 hw hS => ?_)
  have h100 := (fr6 100 (by decide)).trans h100
  have h101 := (fr6 101 (by decide)).trans h101
  have h102 := (fr6 102 (by decide)).trans h102
  have h103 := (fr6 103 (by decide)).trans h103
  have h104 := (fr6 104 (by decide)).trans h104
  have h105 := (fr6 105 (by decide)).trans h105
  have h107 := (fr6 107 (by decide)).trans h107
  have h108 := (fr6 108 (by decide)).trans h108
  have h109 := (fr6 109 (by decide)).trans h109
  have h110 := (fr6 110 (by decide)).trans h110
  have h111 := (fr6 111 (by decide)).trans h111
  have hF : ∀ j, j < 100 → _ = ce j := fun j hj => (fr6 j (by omega)).trans (hF j hj)
  refine lv_aload_n hx hb dX6_become_22 rfl (lv_at hl 0 rfl) ?_
  refine z_get F hw h100 fd_X6_32_X6 rfl dX6_become_23 ?_
  refine lv_iload_n hx hb dX6_become_26 rfl (lv_at hl 1 rfl) ?_
  refine lv_iconst (v := 0) hx hb dX6_become_27 (by decide) ?_
  refine z_zst F hw hS h107 (1) (rfl) (by decide) (by decide) (rfl) dX6_become_28 (fun ce7 H locs h107 fr8 hw hS => ?_)
  have h100 := (fr8 100 (by decide)).trans h100
  have h101 := (fr8 101 (by decide)).trans h101
  have h102 := (fr8 102 (by decide)).trans h102
  have h103 := (fr8 103 (by decide)).trans h103
  have h104 := (fr8 104 (by decide)).trans h104
  have h105 := (fr8 105 (by decide)).trans h105
  have h106 := (fr8 106 (by decide)).trans h106
  have h108 := (fr8 108 (by decide)).trans h108
  have h109 := (fr8 109 (by decide)).trans h109
  have h110 := (fr8 110 (by decide)).trans h110
  have h111 := (fr8 111 (by decide)).trans h111
  have hF : ∀ j, j < 100 → _ = ce j := fun j hj => (fr8 j (by omega)).trans (hF j hj)
  exact z_vret F hw hS (⟨rfl, rfl, ⟨cn, zs, bs, ⟨h100, h101, h102, h103, h104, h105, h106, h107, h108, h109, h110, h111⟩, hQ⟩, hF⟩) dX6_become_29
set_option maxHeartbeats 4000000 in
set_option maxRecDepth 100000 in
theorem r_isCall1 (l : Launch) {G : zz_G} {ad : Nat → Nat} {ce : zz_C} {sz : Nat} (T : rf_T) (Q : rf_Q) (hV : rfV G ad ce T Q) (lo hi : Int32) : zz_M l yX6_isCall cX6_isCall 4 (some .boolean) 0 0 0 0 G [.ref (ad 100), .int 1, .int lo, .int hi] ad ce sz (fun r ad1 ce1 => ((rf_inC T 1 lo hi ∧ r = some (.int 1)) ∨ (¬ rf_inC T 1 lo hi ∧ r = some (.int 0))) ∧ ad1 = ad ∧ ce1 = ce) := by
  refine zz_enter (by decide) (Nat.le_of_ble_eq_true rfl) ?_
  intro p e s m below meth c ls F hl hw hS hA
  obtain ⟨hx, hb, hr, hml, hown, hts, hlocks, hK, hnm⟩ := id F
  have hl : lv_has ls 4 [(0, .ref (ad 100)), (1, .int 1), (2, .int lo), (3, .int hi)] := hl
  obtain ⟨cn, zs, bs, ⟨h100, h101, h102, h103, h104, h105, h106, h107, h108, h109, h110, h111⟩, hQ⟩ := hV
  refine lv_aload_n hx hb dX6_isCall_0 rfl (lv_at hl 0 rfl) ?_
  refine z_get F hw h100 fd_X6_26_X6 rfl dX6_isCall_1 ?_
  refine lv_iload_n hx hb dX6_isCall_4 rfl (lv_at hl 1 rfl) ?_
  refine z_ld F hw h105 (1) (rfl) (by decide) (by decide) dX6_isCall_5 ?_
  refine lv_iload_n hx hb dX6_isCall_6 rfl (lv_at hl 2 rfl) ?_
  refine lv_icmp_lt (tgt := 24) hx hb dX6_isCall_7 (by decide) (fun c7 => ?_) (fun c7 => ?_)
  · refine lv_iconst (v := 0) hx hb dX6_isCall_24 (by decide) ?_
    exact z_iret F (rfl) hw hS (⟨Or.inr ⟨fun q => q.1 c7, rfl⟩, rfl, rfl⟩) dX6_isCall_25
  · refine lv_aload_n hx hb dX6_isCall_10 rfl (lv_at hl 0 rfl) ?_
    refine z_get F hw h100 fd_X6_26_X6 rfl dX6_isCall_11 ?_
    refine lv_iload_n hx hb dX6_isCall_14 rfl (lv_at hl 1 rfl) ?_
    refine z_ld F hw h105 (1) (rfl) (by decide) (by decide) dX6_isCall_15 ?_
    refine lv_iload_n hx hb dX6_isCall_16 rfl (lv_at hl 3 rfl) ?_
    refine lv_icmp_gt (tgt := 24) hx hb dX6_isCall_17 (by decide) (fun c17 => ?_) (fun c17 => ?_)
    · refine lv_iconst (v := 0) hx hb dX6_isCall_24 (by decide) ?_
      exact z_iret F (rfl) hw hS (⟨Or.inr ⟨fun q => q.2 c17, rfl⟩, rfl, rfl⟩) dX6_isCall_25
    · refine lv_iconst (v := 1) hx hb dX6_isCall_20 (by decide) ?_
      refine lv_goto (tgt := 25) hx hb dX6_isCall_21 (by decide) ?_
      exact z_iret F (rfl) hw hS (⟨Or.inl ⟨⟨c7, c17⟩, rfl⟩, rfl, rfl⟩) dX6_isCall_25
set_option maxHeartbeats 4000000 in
set_option maxRecDepth 100000 in
theorem r_turned (l : Launch) {G : zz_G} {ad : Nat → Nat} {ce : zz_C} {sz : Nat} (a b : Int32) : zz_M l yX6_turned cX6_turned 3 (some .int) 0 0 0 0 G [.int a, .int b] ad ce sz (fun r ad1 ce1 => r = some (.int (rf_turned a b)) ∧ ad1 = ad ∧ ce1 = ce) := by
  refine zz_enter (by decide) (Nat.le_of_ble_eq_true rfl) ?_
  intro p e s m below meth c ls F hl hw hS hA
  obtain ⟨hx, hb, hr, hml, hown, hts, hlocks, hK, hnm⟩ := id F
  have hl : lv_has ls 3 [(0, .int a), (1, .int b)] := hl
  refine lv_iload_n hx hb dX6_turned_0 rfl (lv_at hl 0 rfl) ?_
  refine lv_iload_n hx hb dX6_turned_1 rfl (lv_at hl 1 rfl) ?_
  refine lv_ixor hx hb dX6_turned_2 ?_
  refine lv_ldc (v := 16777619) hx hb hown (hts _ wd_828) dX6_turned_3 ?_
  refine lv_imul hx hb dX6_turned_5 ?_
  refine lv_istore_n (lv' := [(2, .int ((a ^^^ b) * 16777619)), (0, .int a), (1, .int b)]) hx hb dX6_turned_6 rfl hl (by decide) rfl (fun ls hl => ?_)
  refine lv_iload_n hx hb dX6_turned_7 rfl (lv_at hl 0 rfl) ?_
  refine lv_iconst (v := 5) hx hb dX6_turned_8 (by decide) ?_
  refine lv_ishl hx hb dX6_turned_9 ?_
  refine lv_iload_n hx hb dX6_turned_10 rfl (lv_at hl 0 rfl) ?_
  refine lv_bipush (v := 27) hx hb dX6_turned_11 (by decide) ?_
  refine lv_iushr hx hb dX6_turned_13 rfl ?_
  refine lv_ior hx hb dX6_turned_14 ?_
  exact z_iret F (rfl) hw hS (⟨rfl, rfl, rfl⟩) dX6_turned_15
set_option maxHeartbeats 4000000 in
set_option maxRecDepth 100000 in
theorem r_isWay (l : Launch) {G : zz_G} {ad : Nat → Nat} {ce : zz_C} {sz : Nat} (a : Int32) : zz_M l yX6_isWay cX6_isWay 1 (some .boolean) 0 0 0 0 G [.int a] ad ce sz (fun r ad1 ce1 => (((a = 0 ∨ a = 1) ∧ r = some (.int 1)) ∨ (¬ (a = 0 ∨ a = 1) ∧ r = some (.int 0))) ∧ ad1 = ad ∧ ce1 = ce) := by
  refine zz_enter (by decide) (Nat.le_of_ble_eq_true rfl) ?_
  intro p e s m below meth c ls F hl hw hS hA
  obtain ⟨hx, hb, hr, hml, hown, hts, hlocks, hK, hnm⟩ := id F
  have hl : lv_has ls 1 [(0, .int a)] := hl
  refine lv_iload_n hx hb dX6_isWay_0 rfl (lv_at hl 0 rfl) ?_
  refine lv_if_eq (tgt := 9) hx hb dX6_isWay_1 (by decide) (fun c1 => ?_) (fun c1 => ?_)
  · refine lv_iconst (v := 1) hx hb dX6_isWay_9 (by decide) ?_
    refine lv_goto (tgt := 14) hx hb dX6_isWay_10 (by decide) ?_
    exact z_iret F (rfl) hw hS (⟨Or.inl ⟨Or.inl c1, rfl⟩, rfl, rfl⟩) dX6_isWay_14
  · refine lv_iload_n hx hb dX6_isWay_4 rfl (lv_at hl 0 rfl) ?_
    refine lv_iconst (v := 1) hx hb dX6_isWay_5 (by decide) ?_
    refine lv_icmp_ne (tgt := 13) hx hb dX6_isWay_6 (by decide) (fun c6 => ?_) (fun c6 => ?_)
    · refine lv_iconst (v := 0) hx hb dX6_isWay_13 (by decide) ?_
      exact z_iret F (rfl) hw hS (⟨Or.inr ⟨fun q => q.elim c1 c6, rfl⟩, rfl, rfl⟩) dX6_isWay_14
    · refine lv_iconst (v := 1) hx hb dX6_isWay_9 (by decide) ?_
      refine lv_goto (tgt := 14) hx hb dX6_isWay_10 (by decide) ?_
      exact z_iret F (rfl) hw hS (⟨Or.inl ⟨Or.inr c6, rfl⟩, rfl, rfl⟩) dX6_isWay_14
