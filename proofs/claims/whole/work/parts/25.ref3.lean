set_option maxHeartbeats 4000000 in
set_option maxRecDepth 100000 in
theorem r_release0 (l : Launch) {G : zz_G} {ad : Nat → Nat} {ce : zz_C} {sz : Nat} (T : rf_T) (Q : rf_Q) (M : List Nat) (hV : rfV G ad ce T Q M) : zz_M l yX6_release cX6_release 2 none 1 24 0 0 G [.ref (ad 100), .int 0] ad ce sz (fun r ad1 ce1 => r = none ∧ ad = ad1 ∧ rfV G ad ce1 (rf_rel T 0) (rf_put T Q 0 [3, 45]) M ∧ (∀ j, j < 100 → ce1 j = ce j)) := by
  refine zz_enter (by decide) (Nat.le_of_ble_eq_true rfl) ?_
  intro p e s m below meth c ls F hl hw hS hA
  obtain ⟨hx, hb, hr, hml, hown, hts, hlocks, hK, hnm⟩ := id F
  have hl : lv_has ls 2 [(0, .ref (ad 100)), (1, .int 0)] := hl
  obtain ⟨cn, zs, bs, hh, ⟨h100, h101, h102, h103, h104, h105, h106, h107, h108, h109, h110, h111⟩, hQ, hM⟩ := hV
  have hF : ∀ j, j < 100 → ce j = ce j := fun _ _ => rfl
  refine lv_aload_n hx hb dX6_release_0 rfl (lv_at hl 0 rfl) ?_
  refine lv_aload_n hx hb dX6_release_1 rfl (lv_at hl 0 rfl) ?_
  refine lv_iload_n hx hb dX6_release_2 rfl (lv_at hl 1 rfl) ?_
  have hV : rfV G ad ce T Q M := ⟨_, _, _, _, ⟨h100, h101, h102, h103, h104, h105, h106, h107, h108, h109, h110, h111⟩, hQ, hM⟩
  refine z_invV F (rest := [.ref (ad 100)]) (r_way0 l T Q M hV) yv_X6_80 ⟨Nat.le_of_ble_eq_true rfl, Nat.le_of_ble_eq_true rfl⟩ hw hA hS hl h100 rfl rfl rfl (Nat.le_of_ble_eq_true rfl) dX6_release_3 ⟨Nat.le_of_ble_eq_true rfl, Nat.le_of_ble_eq_true rfl⟩ (fun r ad1 ce1 H locs hp hw hS => ?_)
  obtain ⟨rfl, rfl, rfl⟩ := hp
  refine W.eq (g2 := F0 m 6 ls [.int 0, .ref (ad 100)]) rfl ?_
  refine lv_iconst (v := 3) hx hb dX6_release_6 (by decide) ?_
  refine lv_bipush (v := 45) hx hb dX6_release_7 (by decide) ?_
  have hV : rfV G ad ce T Q M := ⟨_, _, _, _, ⟨h100, h101, h102, h103, h104, h105, h106, h107, h108, h109, h110, h111⟩, hQ, hM⟩
  refine z_invV F (rest := []) (r_put0 l T Q M hV 3 45 (by decide) (by decide)) yv_X6_64 ⟨Nat.le_of_ble_eq_true rfl, Nat.le_of_ble_eq_true rfl⟩ hw hA hS hl h100 rfl rfl rfl (Nat.le_of_ble_eq_true rfl) dX6_release_9 ⟨Nat.le_of_ble_eq_true rfl, Nat.le_of_ble_eq_true rfl⟩ (fun r ad1 ce2 H locs hp hw hS => ?_)
  obtain ⟨rfl, rfl, hV, hF2⟩ := hp
  have hF : ∀ j, j < 100 → ce2 j = ce j := fun j hj => (hF2 j hj).trans (hF j hj)
  obtain ⟨cn, zs, bs, hh, ⟨h100, h101, h102, h103, h104, h105, h106, h107, h108, h109, h110, h111⟩, hQ, hM⟩ := hV
  refine W.eq (g2 := F0 m 12 ls [.int (rf_hd T Q 0)]) rfl ?_
  refine lv_pop hx hb dX6_release_12 rfl ?_
  refine lv_aload_n hx hb dX6_release_13 rfl (lv_at hl 0 rfl) ?_
  refine lv_iload_n hx hb dX6_release_14 rfl (lv_at hl 1 rfl) ?_
  refine lv_aload_n hx hb dX6_release_15 rfl (lv_at hl 0 rfl) ?_
  refine z_get F hw h100 fd_X6_23_X6 rfl dX6_release_16 ?_
  refine lv_iload_n hx hb dX6_release_19 rfl (lv_at hl 1 rfl) ?_
  refine z_ld F hw h104 (0) (rfl) (by decide) (by decide) dX6_release_20 ?_
  refine lv_bipush (v := 6) hx hb dX6_release_21 (by decide) ?_
  refine lv_bipush (v := 30) hx hb dX6_release_23 (by decide) ?_
  have hV : rfV G ad ce2 T (rf_put T Q 0 [3, 45]) M := ⟨_, _, _, _, ⟨h100, h101, h102, h103, h104, h105, h106, h107, h108, h109, h110, h111⟩, hQ, hM⟩
  refine z_invV F (rest := []) (r_become0 l T (rf_put T Q 0 [3, 45]) M hV ((T 1) 0) 6 30) yv_X6_83 ⟨Nat.le_of_ble_eq_true rfl, Nat.le_of_ble_eq_true rfl⟩ hw hA hS hl h100 rfl rfl rfl (Nat.le_of_ble_eq_true rfl) dX6_release_25 ⟨Nat.le_of_ble_eq_true rfl, Nat.le_of_ble_eq_true rfl⟩ (fun r ad1 ce3 H locs hp hw hS => ?_)
  obtain ⟨rfl, rfl, hV, hF2⟩ := hp
  have hF : ∀ j, j < 100 → ce3 j = ce j := fun j hj => (hF2 j hj).trans (hF j hj)
  obtain ⟨cn, zs, bs, hh, ⟨h100, h101, h102, h103, h104, h105, h106, h107, h108, h109, h110, h111⟩, hQ, hM⟩ := hV
  refine W.eq (g2 := F0 m 28 ls []) rfl ?_
  exact z_vret F hw hS (⟨rfl, rfl, ⟨_, _, _, _, ⟨h100, h101, h102, h103, h104, h105, h106, h107, h108, h109, h110, h111⟩, hQ, hM⟩, hF⟩) dX6_release_28
set_option maxHeartbeats 4000000 in
set_option maxRecDepth 100000 in
theorem r_end0 (l : Launch) {G : zz_G} {ad : Nat → Nat} {ce : zz_C} {sz : Nat} (T : rf_T) (Q : rf_Q) (M : List Nat) (hV : rfV G ad ce T Q M) (v : Int32) : zz_M l yX6_end cX6_end 3 none 2 52 0 0 G [.ref (ad 100), .int 0, .int v] ad ce sz (fun r ad1 ce1 => r = none ∧ ad = ad1 ∧ rfV G ad ce1 (rf_become T 0 (T 1 0) 5 30) (rf_put T Q 0 ([3, 37, 8, 1] ++ rf_bytes 1 v)) M ∧ (∀ j, j < 100 → ce1 j = ce j)) := by
  refine zz_enter (by decide) (Nat.le_of_ble_eq_true rfl) ?_
  intro p e s m below meth c ls F hl hw hS hA
  obtain ⟨hx, hb, hr, hml, hown, hts, hlocks, hK, hnm⟩ := id F
  have hl : lv_has ls 3 [(0, .ref (ad 100)), (1, .int 0), (2, .int v)] := hl
  obtain ⟨cn, zs, bs, hh, ⟨h100, h101, h102, h103, h104, h105, h106, h107, h108, h109, h110, h111⟩, hQ, hM⟩ := hV
  have hF : ∀ j, j < 100 → ce j = ce j := fun _ _ => rfl
  refine lv_aload_n hx hb dX6_end_0 rfl (lv_at hl 0 rfl) ?_
  refine lv_aload_n hx hb dX6_end_1 rfl (lv_at hl 0 rfl) ?_
  refine lv_iload_n hx hb dX6_end_2 rfl (lv_at hl 1 rfl) ?_
  have hV : rfV G ad ce T Q M := ⟨_, _, _, _, ⟨h100, h101, h102, h103, h104, h105, h106, h107, h108, h109, h110, h111⟩, hQ, hM⟩
  refine z_invV F (rest := [.ref (ad 100)]) (r_way0 l T Q M hV) yv_X6_80 ⟨Nat.le_of_ble_eq_true rfl, Nat.le_of_ble_eq_true rfl⟩ hw hA hS hl h100 rfl rfl rfl (Nat.le_of_ble_eq_true rfl) dX6_end_3 ⟨Nat.le_of_ble_eq_true rfl, Nat.le_of_ble_eq_true rfl⟩ (fun r ad1 ce1 H locs hp hw hS => ?_)
  obtain ⟨rfl, rfl, rfl⟩ := hp
  refine W.eq (g2 := F0 m 6 ls [.int 0, .ref (ad 100)]) rfl ?_
  refine lv_iconst (v := 3) hx hb dX6_end_6 (by decide) ?_
  refine lv_bipush (v := 37) hx hb dX6_end_7 (by decide) ?_
  refine lv_bipush (v := 8) hx hb dX6_end_9 (by decide) ?_
  refine lv_iconst (v := 1) hx hb dX6_end_11 (by decide) ?_
  refine lv_iload_n hx hb dX6_end_12 rfl (lv_at hl 2 rfl) ?_
  have hV : rfV G ad ce T Q M := ⟨_, _, _, _, ⟨h100, h101, h102, h103, h104, h105, h106, h107, h108, h109, h110, h111⟩, hQ, hM⟩
  refine z_invV F (rest := []) (r_tell0_1 l T Q M hV 3 37 8 (by decide) (by decide) (by decide) v) yv_X6_112 ⟨Nat.le_of_ble_eq_true rfl, Nat.le_of_ble_eq_true rfl⟩ hw hA hS hl h100 rfl rfl rfl (Nat.le_of_ble_eq_true rfl) dX6_end_13 ⟨Nat.le_of_ble_eq_true rfl, Nat.le_of_ble_eq_true rfl⟩ (fun r ad1 ce2 H locs hp hw hS => ?_)
  obtain ⟨rfl, rfl, hV, hF2⟩ := hp
  have hF : ∀ j, j < 100 → ce2 j = ce j := fun j hj => (hF2 j hj).trans (hF j hj)
  obtain ⟨cn, zs, bs, hh, ⟨h100, h101, h102, h103, h104, h105, h106, h107, h108, h109, h110, h111⟩, hQ, hM⟩ := hV
  refine W.eq (g2 := F0 m 16 ls []) rfl ?_
  refine lv_aload_n hx hb dX6_end_16 rfl (lv_at hl 0 rfl) ?_
  refine lv_iload_n hx hb dX6_end_17 rfl (lv_at hl 1 rfl) ?_
  refine lv_aload_n hx hb dX6_end_18 rfl (lv_at hl 0 rfl) ?_
  refine z_get F hw h100 fd_X6_23_X6 rfl dX6_end_19 ?_
  refine lv_iload_n hx hb dX6_end_22 rfl (lv_at hl 1 rfl) ?_
  refine z_ld F hw h104 (0) (rfl) (by decide) (by decide) dX6_end_23 ?_
  refine lv_iconst (v := 5) hx hb dX6_end_24 (by decide) ?_
  refine lv_bipush (v := 30) hx hb dX6_end_25 (by decide) ?_
  have hV : rfV G ad ce2 T (rf_put T Q 0 ([3, 37, 8, 1] ++ rf_bytes 1 v)) M := ⟨_, _, _, _, ⟨h100, h101, h102, h103, h104, h105, h106, h107, h108, h109, h110, h111⟩, hQ, hM⟩
  refine z_invV F (rest := []) (r_become0 l T (rf_put T Q 0 ([3, 37, 8, 1] ++ rf_bytes 1 v)) M hV ((T 1) 0) 5 30) yv_X6_83 ⟨Nat.le_of_ble_eq_true rfl, Nat.le_of_ble_eq_true rfl⟩ hw hA hS hl h100 rfl rfl rfl (Nat.le_of_ble_eq_true rfl) dX6_end_27 ⟨Nat.le_of_ble_eq_true rfl, Nat.le_of_ble_eq_true rfl⟩ (fun r ad1 ce3 H locs hp hw hS => ?_)
  obtain ⟨rfl, rfl, hV, hF2⟩ := hp
  have hF : ∀ j, j < 100 → ce3 j = ce j := fun j hj => (hF2 j hj).trans (hF j hj)
  obtain ⟨cn, zs, bs, hh, ⟨h100, h101, h102, h103, h104, h105, h106, h107, h108, h109, h110, h111⟩, hQ, hM⟩ := hV
  refine W.eq (g2 := F0 m 30 ls []) rfl ?_
  exact z_vret F hw hS (⟨rfl, rfl, ⟨_, _, _, _, ⟨h100, h101, h102, h103, h104, h105, h106, h107, h108, h109, h110, h111⟩, hQ, hM⟩, hF⟩) dX6_end_30
set_option maxHeartbeats 4000000 in
set_option maxRecDepth 100000 in
theorem r_release1 (l : Launch) {G : zz_G} {ad : Nat → Nat} {ce : zz_C} {sz : Nat} (T : rf_T) (Q : rf_Q) (M : List Nat) (hV : rfV G ad ce T Q M) : zz_M l yX6_release cX6_release 2 none 1 24 0 0 G [.ref (ad 100), .int 1] ad ce sz (fun r ad1 ce1 => r = none ∧ ad = ad1 ∧ rfV G ad ce1 (rf_rel T 1) (rf_put T Q 1 [3, 45]) M ∧ (∀ j, j < 100 → ce1 j = ce j)) := by
  refine zz_enter (by decide) (Nat.le_of_ble_eq_true rfl) ?_
  intro p e s m below meth c ls F hl hw hS hA
  obtain ⟨hx, hb, hr, hml, hown, hts, hlocks, hK, hnm⟩ := id F
  have hl : lv_has ls 2 [(0, .ref (ad 100)), (1, .int 1)] := hl
  obtain ⟨cn, zs, bs, hh, ⟨h100, h101, h102, h103, h104, h105, h106, h107, h108, h109, h110, h111⟩, hQ, hM⟩ := hV
  have hF : ∀ j, j < 100 → ce j = ce j := fun _ _ => rfl
  refine lv_aload_n hx hb dX6_release_0 rfl (lv_at hl 0 rfl) ?_
  refine lv_aload_n hx hb dX6_release_1 rfl (lv_at hl 0 rfl) ?_
  refine lv_iload_n hx hb dX6_release_2 rfl (lv_at hl 1 rfl) ?_
  have hV : rfV G ad ce T Q M := ⟨_, _, _, _, ⟨h100, h101, h102, h103, h104, h105, h106, h107, h108, h109, h110, h111⟩, hQ, hM⟩
  refine z_invV F (rest := [.ref (ad 100)]) (r_way1 l T Q M hV) yv_X6_80 ⟨Nat.le_of_ble_eq_true rfl, Nat.le_of_ble_eq_true rfl⟩ hw hA hS hl h100 rfl rfl rfl (Nat.le_of_ble_eq_true rfl) dX6_release_3 ⟨Nat.le_of_ble_eq_true rfl, Nat.le_of_ble_eq_true rfl⟩ (fun r ad1 ce1 H locs hp hw hS => ?_)
  obtain ⟨rfl, rfl, rfl⟩ := hp
  refine W.eq (g2 := F0 m 6 ls [.int 1, .ref (ad 100)]) rfl ?_
  refine lv_iconst (v := 3) hx hb dX6_release_6 (by decide) ?_
  refine lv_bipush (v := 45) hx hb dX6_release_7 (by decide) ?_
  have hV : rfV G ad ce T Q M := ⟨_, _, _, _, ⟨h100, h101, h102, h103, h104, h105, h106, h107, h108, h109, h110, h111⟩, hQ, hM⟩
  refine z_invV F (rest := []) (r_put1 l T Q M hV 3 45 (by decide) (by decide)) yv_X6_64 ⟨Nat.le_of_ble_eq_true rfl, Nat.le_of_ble_eq_true rfl⟩ hw hA hS hl h100 rfl rfl rfl (Nat.le_of_ble_eq_true rfl) dX6_release_9 ⟨Nat.le_of_ble_eq_true rfl, Nat.le_of_ble_eq_true rfl⟩ (fun r ad1 ce2 H locs hp hw hS => ?_)
  obtain ⟨rfl, rfl, hV, hF2⟩ := hp
  have hF : ∀ j, j < 100 → ce2 j = ce j := fun j hj => (hF2 j hj).trans (hF j hj)
  obtain ⟨cn, zs, bs, hh, ⟨h100, h101, h102, h103, h104, h105, h106, h107, h108, h109, h110, h111⟩, hQ, hM⟩ := hV
  refine W.eq (g2 := F0 m 12 ls [.int (rf_hd T Q 1)]) rfl ?_
  refine lv_pop hx hb dX6_release_12 rfl ?_
  refine lv_aload_n hx hb dX6_release_13 rfl (lv_at hl 0 rfl) ?_
  refine lv_iload_n hx hb dX6_release_14 rfl (lv_at hl 1 rfl) ?_
  refine lv_aload_n hx hb dX6_release_15 rfl (lv_at hl 0 rfl) ?_
  refine z_get F hw h100 fd_X6_23_X6 rfl dX6_release_16 ?_
  refine lv_iload_n hx hb dX6_release_19 rfl (lv_at hl 1 rfl) ?_
  refine z_ld F hw h104 (1) (rfl) (by decide) (by decide) dX6_release_20 ?_
  refine lv_bipush (v := 6) hx hb dX6_release_21 (by decide) ?_
  refine lv_bipush (v := 30) hx hb dX6_release_23 (by decide) ?_
  have hV : rfV G ad ce2 T (rf_put T Q 1 [3, 45]) M := ⟨_, _, _, _, ⟨h100, h101, h102, h103, h104, h105, h106, h107, h108, h109, h110, h111⟩, hQ, hM⟩
  refine z_invV F (rest := []) (r_become1 l T (rf_put T Q 1 [3, 45]) M hV ((T 1) 1) 6 30) yv_X6_83 ⟨Nat.le_of_ble_eq_true rfl, Nat.le_of_ble_eq_true rfl⟩ hw hA hS hl h100 rfl rfl rfl (Nat.le_of_ble_eq_true rfl) dX6_release_25 ⟨Nat.le_of_ble_eq_true rfl, Nat.le_of_ble_eq_true rfl⟩ (fun r ad1 ce3 H locs hp hw hS => ?_)
  obtain ⟨rfl, rfl, hV, hF2⟩ := hp
  have hF : ∀ j, j < 100 → ce3 j = ce j := fun j hj => (hF2 j hj).trans (hF j hj)
  obtain ⟨cn, zs, bs, hh, ⟨h100, h101, h102, h103, h104, h105, h106, h107, h108, h109, h110, h111⟩, hQ, hM⟩ := hV
  refine W.eq (g2 := F0 m 28 ls []) rfl ?_
  exact z_vret F hw hS (⟨rfl, rfl, ⟨_, _, _, _, ⟨h100, h101, h102, h103, h104, h105, h106, h107, h108, h109, h110, h111⟩, hQ, hM⟩, hF⟩) dX6_release_28
set_option maxHeartbeats 4000000 in
set_option maxRecDepth 100000 in
theorem r_end1 (l : Launch) {G : zz_G} {ad : Nat → Nat} {ce : zz_C} {sz : Nat} (T : rf_T) (Q : rf_Q) (M : List Nat) (hV : rfV G ad ce T Q M) (v : Int32) : zz_M l yX6_end cX6_end 3 none 2 52 0 0 G [.ref (ad 100), .int 1, .int v] ad ce sz (fun r ad1 ce1 => r = none ∧ ad = ad1 ∧ rfV G ad ce1 (rf_become T 1 (T 1 1) 5 30) (rf_put T Q 1 ([3, 37, 8, 1] ++ rf_bytes 1 v)) M ∧ (∀ j, j < 100 → ce1 j = ce j)) := by
  refine zz_enter (by decide) (Nat.le_of_ble_eq_true rfl) ?_
  intro p e s m below meth c ls F hl hw hS hA
  obtain ⟨hx, hb, hr, hml, hown, hts, hlocks, hK, hnm⟩ := id F
  have hl : lv_has ls 3 [(0, .ref (ad 100)), (1, .int 1), (2, .int v)] := hl
  obtain ⟨cn, zs, bs, hh, ⟨h100, h101, h102, h103, h104, h105, h106, h107, h108, h109, h110, h111⟩, hQ, hM⟩ := hV
  have hF : ∀ j, j < 100 → ce j = ce j := fun _ _ => rfl
  refine lv_aload_n hx hb dX6_end_0 rfl (lv_at hl 0 rfl) ?_
  refine lv_aload_n hx hb dX6_end_1 rfl (lv_at hl 0 rfl) ?_
  refine lv_iload_n hx hb dX6_end_2 rfl (lv_at hl 1 rfl) ?_
  have hV : rfV G ad ce T Q M := ⟨_, _, _, _, ⟨h100, h101, h102, h103, h104, h105, h106, h107, h108, h109, h110, h111⟩, hQ, hM⟩
  refine z_invV F (rest := [.ref (ad 100)]) (r_way1 l T Q M hV) yv_X6_80 ⟨Nat.le_of_ble_eq_true rfl, Nat.le_of_ble_eq_true rfl⟩ hw hA hS hl h100 rfl rfl rfl (Nat.le_of_ble_eq_true rfl) dX6_end_3 ⟨Nat.le_of_ble_eq_true rfl, Nat.le_of_ble_eq_true rfl⟩ (fun r ad1 ce1 H locs hp hw hS => ?_)
  obtain ⟨rfl, rfl, rfl⟩ := hp
  refine W.eq (g2 := F0 m 6 ls [.int 1, .ref (ad 100)]) rfl ?_
  refine lv_iconst (v := 3) hx hb dX6_end_6 (by decide) ?_
  refine lv_bipush (v := 37) hx hb dX6_end_7 (by decide) ?_
  refine lv_bipush (v := 8) hx hb dX6_end_9 (by decide) ?_
  refine lv_iconst (v := 1) hx hb dX6_end_11 (by decide) ?_
  refine lv_iload_n hx hb dX6_end_12 rfl (lv_at hl 2 rfl) ?_
  have hV : rfV G ad ce T Q M := ⟨_, _, _, _, ⟨h100, h101, h102, h103, h104, h105, h106, h107, h108, h109, h110, h111⟩, hQ, hM⟩
  refine z_invV F (rest := []) (r_tell1_1 l T Q M hV 3 37 8 (by decide) (by decide) (by decide) v) yv_X6_112 ⟨Nat.le_of_ble_eq_true rfl, Nat.le_of_ble_eq_true rfl⟩ hw hA hS hl h100 rfl rfl rfl (Nat.le_of_ble_eq_true rfl) dX6_end_13 ⟨Nat.le_of_ble_eq_true rfl, Nat.le_of_ble_eq_true rfl⟩ (fun r ad1 ce2 H locs hp hw hS => ?_)
  obtain ⟨rfl, rfl, hV, hF2⟩ := hp
  have hF : ∀ j, j < 100 → ce2 j = ce j := fun j hj => (hF2 j hj).trans (hF j hj)
  obtain ⟨cn, zs, bs, hh, ⟨h100, h101, h102, h103, h104, h105, h106, h107, h108, h109, h110, h111⟩, hQ, hM⟩ := hV
  refine W.eq (g2 := F0 m 16 ls []) rfl ?_
  refine lv_aload_n hx hb dX6_end_16 rfl (lv_at hl 0 rfl) ?_
  refine lv_iload_n hx hb dX6_end_17 rfl (lv_at hl 1 rfl) ?_
  refine lv_aload_n hx hb dX6_end_18 rfl (lv_at hl 0 rfl) ?_
  refine z_get F hw h100 fd_X6_23_X6 rfl dX6_end_19 ?_
  refine lv_iload_n hx hb dX6_end_22 rfl (lv_at hl 1 rfl) ?_
  refine z_ld F hw h104 (1) (rfl) (by decide) (by decide) dX6_end_23 ?_
  refine lv_iconst (v := 5) hx hb dX6_end_24 (by decide) ?_
  refine lv_bipush (v := 30) hx hb dX6_end_25 (by decide) ?_
  have hV : rfV G ad ce2 T (rf_put T Q 1 ([3, 37, 8, 1] ++ rf_bytes 1 v)) M := ⟨_, _, _, _, ⟨h100, h101, h102, h103, h104, h105, h106, h107, h108, h109, h110, h111⟩, hQ, hM⟩
  refine z_invV F (rest := []) (r_become1 l T (rf_put T Q 1 ([3, 37, 8, 1] ++ rf_bytes 1 v)) M hV ((T 1) 1) 5 30) yv_X6_83 ⟨Nat.le_of_ble_eq_true rfl, Nat.le_of_ble_eq_true rfl⟩ hw hA hS hl h100 rfl rfl rfl (Nat.le_of_ble_eq_true rfl) dX6_end_27 ⟨Nat.le_of_ble_eq_true rfl, Nat.le_of_ble_eq_true rfl⟩ (fun r ad1 ce3 H locs hp hw hS => ?_)
  obtain ⟨rfl, rfl, hV, hF2⟩ := hp
  have hF : ∀ j, j < 100 → ce3 j = ce j := fun j hj => (hF2 j hj).trans (hF j hj)
  obtain ⟨cn, zs, bs, hh, ⟨h100, h101, h102, h103, h104, h105, h106, h107, h108, h109, h110, h111⟩, hQ, hM⟩ := hV
  refine W.eq (g2 := F0 m 30 ls []) rfl ?_
  exact z_vret F hw hS (⟨rfl, rfl, ⟨_, _, _, _, ⟨h100, h101, h102, h103, h104, h105, h106, h107, h108, h109, h110, h111⟩, hQ, hM⟩, hF⟩) dX6_end_30
set_option maxHeartbeats 4000000 in
set_option maxRecDepth 100000 in
theorem r_closes0 (l : Launch) {G : zz_G} {ad : Nat → Nat} {ce : zz_C} {sz : Nat} (T : rf_T) (Q : rf_Q) (M : List Nat) (hV : rfV G ad ce T Q M) (hg : rf_good M) (ty : Nat) (hty : ty < 256) : zz_M l yX6_closes cX6_closes 4 (some .boolean) 2 46 0 0 G [.ref (ad 100), .int 0, .int (nI ty)] ad ce sz (fun r ad1 ce1 => r = some (.int (sp_closes T Q M 0 ty).1) ∧ ad = ad1 ∧ rfV G ad ce1 (sp_closes T Q M 0 ty).2.1 (sp_closes T Q M 0 ty).2.2 M ∧ (∀ j, j < 100 → ce1 j = ce j)) := by
  refine zz_enter (by decide) (Nat.le_of_ble_eq_true rfl) ?_
  intro p e s m below meth c ls F hl hw hS hA
  obtain ⟨hx, hb, hr, hml, hown, hts, hlocks, hK, hnm⟩ := id F
  have hl : lv_has ls 4 [(0, .ref (ad 100)), (1, .int 0), (2, .int (nI ty))] := hl
  obtain ⟨cn, zs, bs, hh, ⟨h100, h101, h102, h103, h104, h105, h106, h107, h108, h109, h110, h111⟩, hQ, hM⟩ := hV
  have hF : ∀ j, j < 100 → ce j = ce j := fun _ _ => rfl
  refine lv_bipush (v := -3) hx hb dX6_closes_0 (by decide) ?_
  refine lv_istore_n (lv' := [(3, .int (-3)), (0, .ref (ad 100)), (1, .int 0), (2, .int (nI ty))]) hx hb dX6_closes_2 rfl hl (by decide) rfl (fun ls hl => ?_)
  refine lv_iload_n hx hb dX6_closes_3 rfl (lv_at hl 3 rfl) ?_
  refine lv_bipush (v := 37) hx hb dX6_closes_4 (by decide) ?_
  refine lv_icmp_ne (tgt := 48) hx hb dX6_closes_6 (by decide) (fun c6 => ?_) (fun c6 => ?_)
  · refine lv_iload_n hx hb dX6_closes_48 rfl (lv_at hl 3 rfl) ?_
    refine lv_bipush (v := 45) hx hb dX6_closes_49 (by decide) ?_
    refine lv_icmp_ne (tgt := 95) hx hb dX6_closes_51 (by decide) (fun c51 => ?_) (fun c51 => ?_)
    · refine lv_iload_n hx hb dX6_closes_95 rfl (lv_at hl 3 rfl) ?_
      refine lv_bipush (v := 42) hx hb dX6_closes_96 (by decide) ?_
      refine lv_icmp_ne (tgt := 129) hx hb dX6_closes_98 (by decide) (fun c98 => ?_) (fun c98 => ?_)
      · refine lv_iconst (v := 0) hx hb dX6_closes_129 (by decide) ?_
        exact z_iret F (rfl) hw hS (by unfold sp_closes; rw [if_neg (fun q => c6 (by rw [q.1]; rfl)), if_neg (fun q => c51 (by rw [q.1]; rfl)), if_neg (fun q => c98 (by rw [q.1]; rfl))]; exact ⟨rfl, rfl, ⟨_, _, _, _, ⟨h100, h101, h102, h103, h104, h105, h106, h107, h108, h109, h110, h111⟩, hQ, hM⟩, hF⟩) dX6_closes_130
      · refine lv_iload_n hx hb dX6_closes_101 rfl (lv_at hl 2 rfl) ?_
        refine lv_iconst (v := 1) hx hb dX6_closes_102 (by decide) ?_
        refine lv_icmp_eq (tgt := 115) hx hb dX6_closes_103 (by decide) (fun c103 => absurd c103 (by decide)) (fun c103 => ?_)
        refine lv_aload_n hx hb dX6_closes_106 rfl (lv_at hl 1 rfl) ?_
        refine z_get F hw h100 fd_X6_26_X6 rfl dX6_closes_107 ?_
        refine lv_iload_n hx hb dX6_closes_110 rfl (lv_at hl 2 rfl) ?_
        refine z_ld F hw h105 (0) (rfl) (by decide) (by decide) dX6_closes_111 ?_
        refine lv_if_le (tgt := 129) hx hb dX6_closes_112 (by decide) (fun c112 => ?_) (fun c112 => ?_)
        · refine lv_iconst (v := 0) hx hb dX6_closes_129 (by decide) ?_
          exact z_iret F (rfl) hw hS (by unfold sp_closes; rw [if_neg (fun q => c6 (by rw [q.1]; rfl)), if_neg (fun q => c51 (by rw [q.1]; rfl)), if_neg (fun q => q.2.elim (by decide) (rf_nl c112))]; exact ⟨rfl, rfl, ⟨_, _, _, _, ⟨h100, h101, h102, h103, h104, h105, h106, h107, h108, h109, h110, h111⟩, hQ, hM⟩, hF⟩) dX6_closes_130
        · refine lv_aload_n hx hb dX6_closes_115 rfl (lv_at hl 1 rfl) ?_
          refine lv_iload_n hx hb dX6_closes_116 rfl (lv_at hl 2 rfl) ?_
          refine lv_aload_n hx hb dX6_closes_117 rfl (lv_at hl 1 rfl) ?_
          refine lv_iload_n hx hb dX6_closes_118 rfl (lv_at hl 2 rfl) ?_
          have hV : rfV G ad ce T Q M := ⟨_, _, _, _, ⟨h100, h101, h102, h103, h104, h105, h106, h107, h108, h109, h110, h111⟩, hQ, hM⟩
          refine z_invV F (rest := [.int 0, .ref (ad 100)]) (r_rest0 l T Q M hV) yv_X6_102 ⟨Nat.le_of_ble_eq_true rfl, Nat.le_of_ble_eq_true rfl⟩ hw hA hS hl h100 rfl rfl rfl (Nat.le_of_ble_eq_true rfl) dX6_closes_119 ⟨Nat.le_of_ble_eq_true rfl, Nat.le_of_ble_eq_true rfl⟩ (fun r ad1 ce1 H locs hp hw hS => ?_)
          obtain ⟨rfl, rfl, rfl⟩ := hp
          refine W.eq (g2 := F0 m 122 ls [.int 3, .int 0, .ref (ad 100)]) rfl ?_
          refine lv_iconst (v := 0) hx hb dX6_closes_122 (by decide) ?_
          refine lv_iconst (v := 0) hx hb dX6_closes_123 (by decide) ?_
          have hV : rfV G ad ce T Q M := ⟨_, _, _, _, ⟨h100, h101, h102, h103, h104, h105, h106, h107, h108, h109, h110, h111⟩, hQ, hM⟩
          refine z_invV F (rest := []) (r_become0 l T Q M hV 3 0 0) yv_X6_83 ⟨Nat.le_of_ble_eq_true rfl, Nat.le_of_ble_eq_true rfl⟩ hw hA hS hl h100 rfl rfl rfl (Nat.le_of_ble_eq_true rfl) dX6_closes_124 ⟨Nat.le_of_ble_eq_true rfl, Nat.le_of_ble_eq_true rfl⟩ (fun r ad1 ce2 H locs hp hw hS => ?_)
          obtain ⟨rfl, rfl, hV, hF2⟩ := hp
          have hF : ∀ j, j < 100 → ce2 j = ce j := fun j hj => (hF2 j hj).trans (hF j hj)
          obtain ⟨cn, zs, bs, hh, ⟨h100, h101, h102, h103, h104, h105, h106, h107, h108, h109, h110, h111⟩, hQ, hM⟩ := hV
          refine W.eq (g2 := F0 m 127 ls []) rfl ?_
          refine lv_iconst (v := 1) hx hb dX6_closes_127 (by decide) ?_
          exact z_iret F (rfl) hw hS (by unfold sp_closes; rw [if_neg (fun q => c6 (by rw [q.1]; rfl)), if_neg (fun q => c51 (by rw [q.1]; rfl)), if_pos ⟨rf_ei hty (by decide) c98, Or.inr (rf_gt c112)⟩]; exact ⟨rfl, rfl, ⟨_, _, _, _, ⟨h100, h101, h102, h103, h104, h105, h106, h107, h108, h109, h110, h111⟩, hQ, hM⟩, hF⟩) dX6_closes_128
    · refine lv_iload_n hx hb dX6_closes_54 rfl (lv_at hl 2 rfl) ?_
      refine lv_iconst (v := 1) hx hb dX6_closes_55 (by decide) ?_
      refine lv_icmp_eq (tgt := 68) hx hb dX6_closes_56 (by decide) (fun c56 => absurd c56 (by decide)) (fun c56 => ?_)
      refine lv_aload_n hx hb dX6_closes_59 rfl (lv_at hl 1 rfl) ?_
      refine z_get F hw h100 fd_X6_26_X6 rfl dX6_closes_60 ?_
      refine lv_iload_n hx hb dX6_closes_63 rfl (lv_at hl 2 rfl) ?_
      refine z_ld F hw h105 (0) (rfl) (by decide) (by decide) dX6_closes_64 ?_
      refine lv_if_le (tgt := 95) hx hb dX6_closes_65 (by decide) (fun c65 => ?_) (fun c65 => ?_)
      · refine lv_iload_n hx hb dX6_closes_95 rfl (lv_at hl 3 rfl) ?_
        refine lv_bipush (v := 42) hx hb dX6_closes_96 (by decide) ?_
        refine lv_icmp_ne (tgt := 129) hx hb dX6_closes_98 (by decide) (fun c98 => ?_) (fun c98 => ?_)
        · refine lv_iconst (v := 0) hx hb dX6_closes_129 (by decide) ?_
          exact z_iret F (rfl) hw hS (by unfold sp_closes; rw [if_neg (fun q => c6 (by rw [q.1]; rfl)), if_neg (fun q => q.2.elim (by decide) (rf_nl c65)), if_neg (fun q => c98 (by rw [q.1]; rfl))]; exact ⟨rfl, rfl, ⟨_, _, _, _, ⟨h100, h101, h102, h103, h104, h105, h106, h107, h108, h109, h110, h111⟩, hQ, hM⟩, hF⟩) dX6_closes_130
        · refine lv_iload_n hx hb dX6_closes_101 rfl (lv_at hl 2 rfl) ?_
          refine lv_iconst (v := 1) hx hb dX6_closes_102 (by decide) ?_
          refine lv_icmp_eq (tgt := 115) hx hb dX6_closes_103 (by decide) (fun c103 => absurd c103 (by decide)) (fun c103 => ?_)
          refine lv_aload_n hx hb dX6_closes_106 rfl (lv_at hl 1 rfl) ?_
          refine z_get F hw h100 fd_X6_26_X6 rfl dX6_closes_107 ?_
          refine lv_iload_n hx hb dX6_closes_110 rfl (lv_at hl 2 rfl) ?_
          refine z_ld F hw h105 (0) (rfl) (by decide) (by decide) dX6_closes_111 ?_
          refine lv_if_le (tgt := 129) hx hb dX6_closes_112 (by decide) (fun c112 => ?_) (fun c112 => ?_)
          · refine lv_iconst (v := 0) hx hb dX6_closes_129 (by decide) ?_
            exact z_iret F (rfl) hw hS (by unfold sp_closes; rw [if_neg (fun q => c6 (by rw [q.1]; rfl)), if_neg (fun q => q.2.elim (by decide) (rf_nl c65)), if_neg (fun q => q.2.elim (by decide) (rf_nl c112))]; exact ⟨rfl, rfl, ⟨_, _, _, _, ⟨h100, h101, h102, h103, h104, h105, h106, h107, h108, h109, h110, h111⟩, hQ, hM⟩, hF⟩) dX6_closes_130
          · refine lv_aload_n hx hb dX6_closes_115 rfl (lv_at hl 1 rfl) ?_
            refine lv_iload_n hx hb dX6_closes_116 rfl (lv_at hl 2 rfl) ?_
            refine lv_aload_n hx hb dX6_closes_117 rfl (lv_at hl 1 rfl) ?_
            refine lv_iload_n hx hb dX6_closes_118 rfl (lv_at hl 2 rfl) ?_
            have hV : rfV G ad ce T Q M := ⟨_, _, _, _, ⟨h100, h101, h102, h103, h104, h105, h106, h107, h108, h109, h110, h111⟩, hQ, hM⟩
            refine z_invV F (rest := [.int 0, .ref (ad 100)]) (r_rest0 l T Q M hV) yv_X6_102 ⟨Nat.le_of_ble_eq_true rfl, Nat.le_of_ble_eq_true rfl⟩ hw hA hS hl h100 rfl rfl rfl (Nat.le_of_ble_eq_true rfl) dX6_closes_119 ⟨Nat.le_of_ble_eq_true rfl, Nat.le_of_ble_eq_true rfl⟩ (fun r ad1 ce3 H locs hp hw hS => ?_)
            obtain ⟨rfl, rfl, rfl⟩ := hp
            refine W.eq (g2 := F0 m 122 ls [.int 3, .int 0, .ref (ad 100)]) rfl ?_
            refine lv_iconst (v := 0) hx hb dX6_closes_122 (by decide) ?_
            refine lv_iconst (v := 0) hx hb dX6_closes_123 (by decide) ?_
            have hV : rfV G ad ce T Q M := ⟨_, _, _, _, ⟨h100, h101, h102, h103, h104, h105, h106, h107, h108, h109, h110, h111⟩, hQ, hM⟩
            refine z_invV F (rest := []) (r_become0 l T Q M hV 3 0 0) yv_X6_83 ⟨Nat.le_of_ble_eq_true rfl, Nat.le_of_ble_eq_true rfl⟩ hw hA hS hl h100 rfl rfl rfl (Nat.le_of_ble_eq_true rfl) dX6_closes_124 ⟨Nat.le_of_ble_eq_true rfl, Nat.le_of_ble_eq_true rfl⟩ (fun r ad1 ce4 H locs hp hw hS => ?_)
            obtain ⟨rfl, rfl, hV, hF2⟩ := hp
            have hF : ∀ j, j < 100 → ce4 j = ce j := fun j hj => (hF2 j hj).trans (hF j hj)
            obtain ⟨cn, zs, bs, hh, ⟨h100, h101, h102, h103, h104, h105, h106, h107, h108, h109, h110, h111⟩, hQ, hM⟩ := hV
            refine W.eq (g2 := F0 m 127 ls []) rfl ?_
            refine lv_iconst (v := 1) hx hb dX6_closes_127 (by decide) ?_
            exact z_iret F (rfl) hw hS (by unfold sp_closes; rw [if_neg (fun q => c6 (by rw [q.1]; rfl)), if_neg (fun q => q.2.elim (by decide) (rf_nl c65)), if_pos ⟨rf_ei hty (by decide) c98, Or.inr (rf_gt c112)⟩]; exact ⟨rfl, rfl, ⟨_, _, _, _, ⟨h100, h101, h102, h103, h104, h105, h106, h107, h108, h109, h110, h111⟩, hQ, hM⟩, hF⟩) dX6_closes_128
      · refine lv_aload_n hx hb dX6_closes_68 rfl (lv_at hl 1 rfl) ?_
        refine lv_aload_n hx hb dX6_closes_69 rfl (lv_at hl 1 rfl) ?_
        refine lv_iload_n hx hb dX6_closes_70 rfl (lv_at hl 2 rfl) ?_
        have hV : rfV G ad ce T Q M := ⟨_, _, _, _, ⟨h100, h101, h102, h103, h104, h105, h106, h107, h108, h109, h110, h111⟩, hQ, hM⟩
        refine z_invV F (rest := [.ref (ad 100)]) (r_way0 l T Q M hV) yv_X6_80 ⟨Nat.le_of_ble_eq_true rfl, Nat.le_of_ble_eq_true rfl⟩ hw hA hS hl h100 rfl rfl rfl (Nat.le_of_ble_eq_true rfl) dX6_closes_71 ⟨Nat.le_of_ble_eq_true rfl, Nat.le_of_ble_eq_true rfl⟩ (fun r ad1 ce5 H locs hp hw hS => ?_)
        obtain ⟨rfl, rfl, rfl⟩ := hp
        refine W.eq (g2 := F0 m 74 ls [.int 0, .ref (ad 100)]) rfl ?_
        refine lv_iconst (v := 3) hx hb dX6_closes_74 (by decide) ?_
        refine lv_bipush (v := 42) hx hb dX6_closes_75 (by decide) ?_
        have hV : rfV G ad ce T Q M := ⟨_, _, _, _, ⟨h100, h101, h102, h103, h104, h105, h106, h107, h108, h109, h110, h111⟩, hQ, hM⟩
        refine z_invV F (rest := []) (r_put0 l T Q M hV 3 42 (by decide) (by decide)) yv_X6_64 ⟨Nat.le_of_ble_eq_true rfl, Nat.le_of_ble_eq_true rfl⟩ hw hA hS hl h100 rfl rfl rfl (Nat.le_of_ble_eq_true rfl) dX6_closes_77 ⟨Nat.le_of_ble_eq_true rfl, Nat.le_of_ble_eq_true rfl⟩ (fun r ad1 ce6 H locs hp hw hS => ?_)
        obtain ⟨rfl, rfl, hV, hF2⟩ := hp
        have hF : ∀ j, j < 100 → ce6 j = ce j := fun j hj => (hF2 j hj).trans (hF j hj)
        obtain ⟨cn, zs, bs, hh, ⟨h100, h101, h102, h103, h104, h105, h106, h107, h108, h109, h110, h111⟩, hQ, hM⟩ := hV
        refine W.eq (g2 := F0 m 80 ls [.int (rf_hd T Q 0)]) rfl ?_
        refine lv_istore_n (lv' := [(3, .int (rf_hd T Q 0)), (0, .ref (ad 100)), (1, .int 0), (2, .int (nI ty))]) hx hb dX6_closes_80 rfl hl (by decide) rfl (fun ls hl => ?_)
        refine lv_aload_n hx hb dX6_closes_81 rfl (lv_at hl 1 rfl) ?_
        refine lv_iload_n hx hb dX6_closes_82 rfl (lv_at hl 2 rfl) ?_
        refine lv_aload_n hx hb dX6_closes_83 rfl (lv_at hl 1 rfl) ?_
        refine lv_iload_n hx hb dX6_closes_84 rfl (lv_at hl 2 rfl) ?_
        have hV : rfV G ad ce6 T (rf_put T Q 0 [3, 42]) M := ⟨_, _, _, _, ⟨h100, h101, h102, h103, h104, h105, h106, h107, h108, h109, h110, h111⟩, hQ, hM⟩
        refine z_invV F (rest := [.int 0, .ref (ad 100)]) (r_rest0 l T (rf_put T Q 0 [3, 42]) M hV) yv_X6_102 ⟨Nat.le_of_ble_eq_true rfl, Nat.le_of_ble_eq_true rfl⟩ hw hA hS hl h100 rfl rfl rfl (Nat.le_of_ble_eq_true rfl) dX6_closes_85 ⟨Nat.le_of_ble_eq_true rfl, Nat.le_of_ble_eq_true rfl⟩ (fun r ad1 ce7 H locs hp hw hS => ?_)
        obtain ⟨rfl, rfl, rfl⟩ := hp
        refine W.eq (g2 := F0 m 88 ls [.int 3, .int 0, .ref (ad 100)]) rfl ?_
        refine lv_iconst (v := 0) hx hb dX6_closes_88 (by decide) ?_
        refine lv_iconst (v := 0) hx hb dX6_closes_89 (by decide) ?_
        have hV : rfV G ad ce6 T (rf_put T Q 0 [3, 42]) M := ⟨_, _, _, _, ⟨h100, h101, h102, h103, h104, h105, h106, h107, h108, h109, h110, h111⟩, hQ, hM⟩
        refine z_invV F (rest := []) (r_become0 l T (rf_put T Q 0 [3, 42]) M hV 3 0 0) yv_X6_83 ⟨Nat.le_of_ble_eq_true rfl, Nat.le_of_ble_eq_true rfl⟩ hw hA hS hl h100 rfl rfl rfl (Nat.le_of_ble_eq_true rfl) dX6_closes_90 ⟨Nat.le_of_ble_eq_true rfl, Nat.le_of_ble_eq_true rfl⟩ (fun r ad1 ce8 H locs hp hw hS => ?_)
        obtain ⟨rfl, rfl, hV, hF2⟩ := hp
        have hF : ∀ j, j < 100 → ce8 j = ce j := fun j hj => (hF2 j hj).trans (hF j hj)
        obtain ⟨cn, zs, bs, hh, ⟨h100, h101, h102, h103, h104, h105, h106, h107, h108, h109, h110, h111⟩, hQ, hM⟩ := hV
        refine W.eq (g2 := F0 m 93 ls []) rfl ?_
        refine lv_iconst (v := 1) hx hb dX6_closes_93 (by decide) ?_
        exact z_iret F (rfl) hw hS (by unfold sp_closes; rw [if_neg (fun q => c6 (by rw [q.1]; rfl)), if_pos ⟨rf_ei hty (by decide) c51, Or.inr (rf_gt c65)⟩]; exact ⟨rfl, rfl, ⟨_, _, _, _, ⟨h100, h101, h102, h103, h104, h105, h106, h107, h108, h109, h110, h111⟩, hQ, hM⟩, hF⟩) dX6_closes_94
  · refine lv_aload_n hx hb dX6_closes_9 rfl (lv_at hl 1 rfl) ?_
    refine lv_bipush (v := 8) hx hb dX6_closes_10 (by decide) ?_
    refine lv_iconst (v := 1) hx hb dX6_closes_12 (by decide) ?_
    have hV : rfV G ad ce T Q M := ⟨_, _, _, _, ⟨h100, h101, h102, h103, h104, h105, h106, h107, h108, h109, h110, h111⟩, hQ, hM⟩
    refine z_invV F (rest := []) (r_has l T Q M hV hg 8 1 (by decide) (by decide)) yv_X6_87 ⟨Nat.le_of_ble_eq_true rfl, Nat.le_of_ble_eq_true rfl⟩ hw hA hS hl h100 rfl rfl rfl (Nat.le_of_ble_eq_true rfl) dX6_closes_13 ⟨Nat.le_of_ble_eq_true rfl, Nat.le_of_ble_eq_true rfl⟩ (fun r ad1 ce9 H locs hp hw hS => ?_)
    obtain ⟨hp, rfl, rfl⟩ := hp
    rcases hp with ⟨hs, rfl⟩ | ⟨hs, rfl⟩
    · refine W.eq (g2 := F0 m 16 ls [.int 1]) rfl ?_
      refine lv_if_eq (tgt := 48) hx hb dX6_closes_16 (by decide) (fun c16 => absurd c16 (by decide)) (fun c16 => ?_)
      refine lv_aload_n hx hb dX6_closes_19 rfl (lv_at hl 1 rfl) ?_
      refine lv_iload_n hx hb dX6_closes_20 rfl (lv_at hl 2 rfl) ?_
      refine lv_iconst (v := 1) hx hb dX6_closes_21 (by decide) ?_
      refine lv_iconst (v := 5) hx hb dX6_closes_22 (by decide) ?_
      have hV : rfV G ad ce T Q M := ⟨_, _, _, _, ⟨h100, h101, h102, h103, h104, h105, h106, h107, h108, h109, h110, h111⟩, hQ, hM⟩
      refine z_invV F (rest := []) (r_isCall0 l T Q M hV 1 5) yv_X6_91 ⟨Nat.le_of_ble_eq_true rfl, Nat.le_of_ble_eq_true rfl⟩ hw hA hS hl h100 rfl rfl rfl (Nat.le_of_ble_eq_true rfl) dX6_closes_23 ⟨Nat.le_of_ble_eq_true rfl, Nat.le_of_ble_eq_true rfl⟩ (fun r ad1 ce10 H locs hp hw hS => ?_)
      obtain ⟨hp, rfl, rfl⟩ := hp
      rcases hp with ⟨hc, rfl⟩ | ⟨hc, rfl⟩
      · refine W.eq (g2 := F0 m 26 ls [.int 1]) rfl ?_
        refine lv_if_eq (tgt := 48) hx hb dX6_closes_26 (by decide) (fun c26 => absurd c26 (by decide)) (fun c26 => ?_)
        refine lv_aload_n hx hb dX6_closes_29 rfl (lv_at hl 1 rfl) ?_
        refine z_get F hw h100 fd_X6_36_X6 rfl dX6_closes_30 ?_
        refine lv_iload_n hx hb dX6_closes_33 rfl (lv_at hl 2 rfl) ?_
        refine lv_aload_n hx hb dX6_closes_34 rfl (lv_at hl 1 rfl) ?_
        refine lv_bipush (v := 8) hx hb dX6_closes_35 (by decide) ?_
        have hV : rfV G ad ce T Q M := ⟨_, _, _, _, ⟨h100, h101, h102, h103, h104, h105, h106, h107, h108, h109, h110, h111⟩, hQ, hM⟩
        refine z_invV F (rest := [.int 0, .ref (ad 108)]) (r_number l T Q M hV hg 8 1 (by decide) hs) yv_X6_95 ⟨Nat.le_of_ble_eq_true rfl, Nat.le_of_ble_eq_true rfl⟩ hw hA hS hl h100 rfl rfl rfl (Nat.le_of_ble_eq_true rfl) dX6_closes_37 ⟨Nat.le_of_ble_eq_true rfl, Nat.le_of_ble_eq_true rfl⟩ (fun r ad1 ce11 H locs hp hw hS => ?_)
        obtain ⟨rfl, rfl, rfl⟩ := hp
        refine W.eq (g2 := F0 m 40 ls [.int (rf_val M 8), .int 0, .ref (ad 108)]) rfl ?_
        refine z_st F hw hS h108 (0) (rfl) (by decide) (by decide) dX6_closes_40 (fun ce12 H locs h108 fr13 hw hS => ?_)
        have h100 := (fr13 100 (by decide)).trans h100
        have h101 := (fr13 101 (by decide)).trans h101
        have h102 := (fr13 102 (by decide)).trans h102
        have h103 := (fr13 103 (by decide)).trans h103
        have h104 := (fr13 104 (by decide)).trans h104
        have h105 := (fr13 105 (by decide)).trans h105
        have h106 := (fr13 106 (by decide)).trans h106
        have h107 := (fr13 107 (by decide)).trans h107
        have h109 := (fr13 109 (by decide)).trans h109
        have h110 := (fr13 110 (by decide)).trans h110
        have h111 := (fr13 111 (by decide)).trans h111
        have hF : ∀ j, j < 100 → _ = ce j := fun j hj => (fr13 j (by omega)).trans (hF j hj)
        refine lv_aload_n hx hb dX6_closes_41 rfl (lv_at hl 1 rfl) ?_
        refine lv_iload_n hx hb dX6_closes_42 rfl (lv_at hl 2 rfl) ?_
        have hV : rfV G ad ce12 (va_up T 5 (upd (T 5) 0 (rf_val M 8))) Q M := ⟨_, _, _, _, ⟨h100, h101, h102, h103, h104, h105, h106, h107, h108, h109, h110, h111⟩, hQ, hM⟩
        refine z_invV F (rest := []) (r_release0 l (va_up T 5 (upd (T 5) 0 (rf_val M 8))) Q M hV) yv_X6_98 ⟨Nat.le_of_ble_eq_true rfl, Nat.le_of_ble_eq_true rfl⟩ hw hA hS hl h100 rfl rfl rfl (Nat.le_of_ble_eq_true rfl) dX6_closes_43 ⟨Nat.le_of_ble_eq_true rfl, Nat.le_of_ble_eq_true rfl⟩ (fun r ad1 ce14 H locs hp hw hS => ?_)
        obtain ⟨rfl, rfl, hV, hF2⟩ := hp
        have hF : ∀ j, j < 100 → ce14 j = ce j := fun j hj => (hF2 j hj).trans (hF j hj)
        obtain ⟨cn, zs, bs, hh, ⟨h100, h101, h102, h103, h104, h105, h106, h107, h108, h109, h110, h111⟩, hQ, hM⟩ := hV
        refine W.eq (g2 := F0 m 46 ls []) rfl ?_
        refine lv_iconst (v := 1) hx hb dX6_closes_46 (by decide) ?_
        exact z_iret F (rfl) hw hS (by unfold sp_closes; rw [if_pos ⟨rf_ei hty (by decide) c6, hs, hc⟩]; exact ⟨rfl, rfl, ⟨_, _, _, _, ⟨h100, h101, h102, h103, h104, h105, h106, h107, h108, h109, h110, h111⟩, hQ, hM⟩, hF⟩) dX6_closes_47
      · refine W.eq (g2 := F0 m 26 ls [.int 0]) rfl ?_
        refine lv_if_eq (tgt := 48) hx hb dX6_closes_26 (by decide) (fun c26 => ?_) (fun c26 => absurd c26 (by decide))
        refine lv_iload_n hx hb dX6_closes_48 rfl (lv_at hl 3 rfl) ?_
        refine lv_bipush (v := 45) hx hb dX6_closes_49 (by decide) ?_
        refine lv_icmp_ne (tgt := 95) hx hb dX6_closes_51 (by decide) (fun c51 => ?_) (fun c51 => ?_)
        · refine lv_iload_n hx hb dX6_closes_95 rfl (lv_at hl 3 rfl) ?_
          refine lv_bipush (v := 42) hx hb dX6_closes_96 (by decide) ?_
          refine lv_icmp_ne (tgt := 129) hx hb dX6_closes_98 (by decide) (fun c98 => ?_) (fun c98 => ?_)
          · refine lv_iconst (v := 0) hx hb dX6_closes_129 (by decide) ?_
            exact z_iret F (rfl) hw hS (by unfold sp_closes; rw [if_neg (fun q => hc q.2.2), if_neg (fun q => c51 (by rw [q.1]; rfl)), if_neg (fun q => c98 (by rw [q.1]; rfl))]; exact ⟨rfl, rfl, ⟨_, _, _, _, ⟨h100, h101, h102, h103, h104, h105, h106, h107, h108, h109, h110, h111⟩, hQ, hM⟩, hF⟩) dX6_closes_130
          · refine lv_iload_n hx hb dX6_closes_101 rfl (lv_at hl 2 rfl) ?_
            refine lv_iconst (v := 1) hx hb dX6_closes_102 (by decide) ?_
            refine lv_icmp_eq (tgt := 115) hx hb dX6_closes_103 (by decide) (fun c103 => absurd c103 (by decide)) (fun c103 => ?_)
            refine lv_aload_n hx hb dX6_closes_106 rfl (lv_at hl 1 rfl) ?_
            refine z_get F hw h100 fd_X6_26_X6 rfl dX6_closes_107 ?_
            refine lv_iload_n hx hb dX6_closes_110 rfl (lv_at hl 2 rfl) ?_
            refine z_ld F hw h105 (0) (rfl) (by decide) (by decide) dX6_closes_111 ?_
            refine lv_if_le (tgt := 129) hx hb dX6_closes_112 (by decide) (fun c112 => ?_) (fun c112 => ?_)
            · refine lv_iconst (v := 0) hx hb dX6_closes_129 (by decide) ?_
              exact z_iret F (rfl) hw hS (by unfold sp_closes; rw [if_neg (fun q => hc q.2.2), if_neg (fun q => c51 (by rw [q.1]; rfl)), if_neg (fun q => q.2.elim (by decide) (rf_nl c112))]; exact ⟨rfl, rfl, ⟨_, _, _, _, ⟨h100, h101, h102, h103, h104, h105, h106, h107, h108, h109, h110, h111⟩, hQ, hM⟩, hF⟩) dX6_closes_130
            · refine lv_aload_n hx hb dX6_closes_115 rfl (lv_at hl 1 rfl) ?_
              refine lv_iload_n hx hb dX6_closes_116 rfl (lv_at hl 2 rfl) ?_
              refine lv_aload_n hx hb dX6_closes_117 rfl (lv_at hl 1 rfl) ?_
              refine lv_iload_n hx hb dX6_closes_118 rfl (lv_at hl 2 rfl) ?_
              have hV : rfV G ad ce T Q M := ⟨_, _, _, _, ⟨h100, h101, h102, h103, h104, h105, h106, h107, h108, h109, h110, h111⟩, hQ, hM⟩
              refine z_invV F (rest := [.int 0, .ref (ad 100)]) (r_rest0 l T Q M hV) yv_X6_102 ⟨Nat.le_of_ble_eq_true rfl, Nat.le_of_ble_eq_true rfl⟩ hw hA hS hl h100 rfl rfl rfl (Nat.le_of_ble_eq_true rfl) dX6_closes_119 ⟨Nat.le_of_ble_eq_true rfl, Nat.le_of_ble_eq_true rfl⟩ (fun r ad1 ce15 H locs hp hw hS => ?_)
              obtain ⟨rfl, rfl, rfl⟩ := hp
              refine W.eq (g2 := F0 m 122 ls [.int 3, .int 0, .ref (ad 100)]) rfl ?_
              refine lv_iconst (v := 0) hx hb dX6_closes_122 (by decide) ?_
              refine lv_iconst (v := 0) hx hb dX6_closes_123 (by decide) ?_
              have hV : rfV G ad ce T Q M := ⟨_, _, _, _, ⟨h100, h101, h102, h103, h104, h105, h106, h107, h108, h109, h110, h111⟩, hQ, hM⟩
              refine z_invV F (rest := []) (r_become0 l T Q M hV 3 0 0) yv_X6_83 ⟨Nat.le_of_ble_eq_true rfl, Nat.le_of_ble_eq_true rfl⟩ hw hA hS hl h100 rfl rfl rfl (Nat.le_of_ble_eq_true rfl) dX6_closes_124 ⟨Nat.le_of_ble_eq_true rfl, Nat.le_of_ble_eq_true rfl⟩ (fun r ad1 ce16 H locs hp hw hS => ?_)
              obtain ⟨rfl, rfl, hV, hF2⟩ := hp
              have hF : ∀ j, j < 100 → ce16 j = ce j := fun j hj => (hF2 j hj).trans (hF j hj)
              obtain ⟨cn, zs, bs, hh, ⟨h100, h101, h102, h103, h104, h105, h106, h107, h108, h109, h110, h111⟩, hQ, hM⟩ := hV
              refine W.eq (g2 := F0 m 127 ls []) rfl ?_
              refine lv_iconst (v := 1) hx hb dX6_closes_127 (by decide) ?_
              exact z_iret F (rfl) hw hS (by unfold sp_closes; rw [if_neg (fun q => hc q.2.2), if_neg (fun q => c51 (by rw [q.1]; rfl)), if_pos ⟨rf_ei hty (by decide) c98, Or.inr (rf_gt c112)⟩]; exact ⟨rfl, rfl, ⟨_, _, _, _, ⟨h100, h101, h102, h103, h104, h105, h106, h107, h108, h109, h110, h111⟩, hQ, hM⟩, hF⟩) dX6_closes_128
        · refine lv_iload_n hx hb dX6_closes_54 rfl (lv_at hl 2 rfl) ?_
          refine lv_iconst (v := 1) hx hb dX6_closes_55 (by decide) ?_
          refine lv_icmp_eq (tgt := 68) hx hb dX6_closes_56 (by decide) (fun c56 => absurd c56 (by decide)) (fun c56 => ?_)
          refine lv_aload_n hx hb dX6_closes_59 rfl (lv_at hl 1 rfl) ?_
          refine z_get F hw h100 fd_X6_26_X6 rfl dX6_closes_60 ?_
          refine lv_iload_n hx hb dX6_closes_63 rfl (lv_at hl 2 rfl) ?_
          refine z_ld F hw h105 (0) (rfl) (by decide) (by decide) dX6_closes_64 ?_
          refine lv_if_le (tgt := 95) hx hb dX6_closes_65 (by decide) (fun c65 => ?_) (fun c65 => ?_)
          · refine lv_iload_n hx hb dX6_closes_95 rfl (lv_at hl 3 rfl) ?_
            refine lv_bipush (v := 42) hx hb dX6_closes_96 (by decide) ?_
            refine lv_icmp_ne (tgt := 129) hx hb dX6_closes_98 (by decide) (fun c98 => ?_) (fun c98 => ?_)
            · refine lv_iconst (v := 0) hx hb dX6_closes_129 (by decide) ?_
              exact z_iret F (rfl) hw hS (by unfold sp_closes; rw [if_neg (fun q => hc q.2.2), if_neg (fun q => q.2.elim (by decide) (rf_nl c65)), if_neg (fun q => c98 (by rw [q.1]; rfl))]; exact ⟨rfl, rfl, ⟨_, _, _, _, ⟨h100, h101, h102, h103, h104, h105, h106, h107, h108, h109, h110, h111⟩, hQ, hM⟩, hF⟩) dX6_closes_130
            · refine lv_iload_n hx hb dX6_closes_101 rfl (lv_at hl 2 rfl) ?_
              refine lv_iconst (v := 1) hx hb dX6_closes_102 (by decide) ?_
              refine lv_icmp_eq (tgt := 115) hx hb dX6_closes_103 (by decide) (fun c103 => absurd c103 (by decide)) (fun c103 => ?_)
              refine lv_aload_n hx hb dX6_closes_106 rfl (lv_at hl 1 rfl) ?_
              refine z_get F hw h100 fd_X6_26_X6 rfl dX6_closes_107 ?_
              refine lv_iload_n hx hb dX6_closes_110 rfl (lv_at hl 2 rfl) ?_
              refine z_ld F hw h105 (0) (rfl) (by decide) (by decide) dX6_closes_111 ?_
              refine lv_if_le (tgt := 129) hx hb dX6_closes_112 (by decide) (fun c112 => ?_) (fun c112 => ?_)
              · refine lv_iconst (v := 0) hx hb dX6_closes_129 (by decide) ?_
                exact z_iret F (rfl) hw hS (by unfold sp_closes; rw [if_neg (fun q => hc q.2.2), if_neg (fun q => q.2.elim (by decide) (rf_nl c65)), if_neg (fun q => q.2.elim (by decide) (rf_nl c112))]; exact ⟨rfl, rfl, ⟨_, _, _, _, ⟨h100, h101, h102, h103, h104, h105, h106, h107, h108, h109, h110, h111⟩, hQ, hM⟩, hF⟩) dX6_closes_130
              · refine lv_aload_n hx hb dX6_closes_115 rfl (lv_at hl 1 rfl) ?_
                refine lv_iload_n hx hb dX6_closes_116 rfl (lv_at hl 2 rfl) ?_
                refine lv_aload_n hx hb dX6_closes_117 rfl (lv_at hl 1 rfl) ?_
                refine lv_iload_n hx hb dX6_closes_118 rfl (lv_at hl 2 rfl) ?_
                have hV : rfV G ad ce T Q M := ⟨_, _, _, _, ⟨h100, h101, h102, h103, h104, h105, h106, h107, h108, h109, h110, h111⟩, hQ, hM⟩
                refine z_invV F (rest := [.int 0, .ref (ad 100)]) (r_rest0 l T Q M hV) yv_X6_102 ⟨Nat.le_of_ble_eq_true rfl, Nat.le_of_ble_eq_true rfl⟩ hw hA hS hl h100 rfl rfl rfl (Nat.le_of_ble_eq_true rfl) dX6_closes_119 ⟨Nat.le_of_ble_eq_true rfl, Nat.le_of_ble_eq_true rfl⟩ (fun r ad1 ce17 H locs hp hw hS => ?_)
                obtain ⟨rfl, rfl, rfl⟩ := hp
                refine W.eq (g2 := F0 m 122 ls [.int 3, .int 0, .ref (ad 100)]) rfl ?_
                refine lv_iconst (v := 0) hx hb dX6_closes_122 (by decide) ?_
                refine lv_iconst (v := 0) hx hb dX6_closes_123 (by decide) ?_
                have hV : rfV G ad ce T Q M := ⟨_, _, _, _, ⟨h100, h101, h102, h103, h104, h105, h106, h107, h108, h109, h110, h111⟩, hQ, hM⟩
                refine z_invV F (rest := []) (r_become0 l T Q M hV 3 0 0) yv_X6_83 ⟨Nat.le_of_ble_eq_true rfl, Nat.le_of_ble_eq_true rfl⟩ hw hA hS hl h100 rfl rfl rfl (Nat.le_of_ble_eq_true rfl) dX6_closes_124 ⟨Nat.le_of_ble_eq_true rfl, Nat.le_of_ble_eq_true rfl⟩ (fun r ad1 ce18 H locs hp hw hS => ?_)
                obtain ⟨rfl, rfl, hV, hF2⟩ := hp
                have hF : ∀ j, j < 100 → ce18 j = ce j := fun j hj => (hF2 j hj).trans (hF j hj)
                obtain ⟨cn, zs, bs, hh, ⟨h100, h101, h102, h103, h104, h105, h106, h107, h108, h109, h110, h111⟩, hQ, hM⟩ := hV
                refine W.eq (g2 := F0 m 127 ls []) rfl ?_
                refine lv_iconst (v := 1) hx hb dX6_closes_127 (by decide) ?_
                exact z_iret F (rfl) hw hS (by unfold sp_closes; rw [if_neg (fun q => hc q.2.2), if_neg (fun q => q.2.elim (by decide) (rf_nl c65)), if_pos ⟨rf_ei hty (by decide) c98, Or.inr (rf_gt c112)⟩]; exact ⟨rfl, rfl, ⟨_, _, _, _, ⟨h100, h101, h102, h103, h104, h105, h106, h107, h108, h109, h110, h111⟩, hQ, hM⟩, hF⟩) dX6_closes_128
          · refine lv_aload_n hx hb dX6_closes_68 rfl (lv_at hl 1 rfl) ?_
            refine lv_aload_n hx hb dX6_closes_69 rfl (lv_at hl 1 rfl) ?_
            refine lv_iload_n hx hb dX6_closes_70 rfl (lv_at hl 2 rfl) ?_
            have hV : rfV G ad ce T Q M := ⟨_, _, _, _, ⟨h100, h101, h102, h103, h104, h105, h106, h107, h108, h109, h110, h111⟩, hQ, hM⟩
            refine z_invV F (rest := [.ref (ad 100)]) (r_way0 l T Q M hV) yv_X6_80 ⟨Nat.le_of_ble_eq_true rfl, Nat.le_of_ble_eq_true rfl⟩ hw hA hS hl h100 rfl rfl rfl (Nat.le_of_ble_eq_true rfl) dX6_closes_71 ⟨Nat.le_of_ble_eq_true rfl, Nat.le_of_ble_eq_true rfl⟩ (fun r ad1 ce19 H locs hp hw hS => ?_)
            obtain ⟨rfl, rfl, rfl⟩ := hp
            refine W.eq (g2 := F0 m 74 ls [.int 0, .ref (ad 100)]) rfl ?_
            refine lv_iconst (v := 3) hx hb dX6_closes_74 (by decide) ?_
            refine lv_bipush (v := 42) hx hb dX6_closes_75 (by decide) ?_
            have hV : rfV G ad ce T Q M := ⟨_, _, _, _, ⟨h100, h101, h102, h103, h104, h105, h106, h107, h108, h109, h110, h111⟩, hQ, hM⟩
            refine z_invV F (rest := []) (r_put0 l T Q M hV 3 42 (by decide) (by decide)) yv_X6_64 ⟨Nat.le_of_ble_eq_true rfl, Nat.le_of_ble_eq_true rfl⟩ hw hA hS hl h100 rfl rfl rfl (Nat.le_of_ble_eq_true rfl) dX6_closes_77 ⟨Nat.le_of_ble_eq_true rfl, Nat.le_of_ble_eq_true rfl⟩ (fun r ad1 ce20 H locs hp hw hS => ?_)
            obtain ⟨rfl, rfl, hV, hF2⟩ := hp
            have hF : ∀ j, j < 100 → ce20 j = ce j := fun j hj => (hF2 j hj).trans (hF j hj)
            obtain ⟨cn, zs, bs, hh, ⟨h100, h101, h102, h103, h104, h105, h106, h107, h108, h109, h110, h111⟩, hQ, hM⟩ := hV
            refine W.eq (g2 := F0 m 80 ls [.int (rf_hd T Q 0)]) rfl ?_
            refine lv_istore_n (lv' := [(3, .int (rf_hd T Q 0)), (0, .ref (ad 100)), (1, .int 0), (2, .int (nI ty))]) hx hb dX6_closes_80 rfl hl (by decide) rfl (fun ls hl => ?_)
            refine lv_aload_n hx hb dX6_closes_81 rfl (lv_at hl 1 rfl) ?_
            refine lv_iload_n hx hb dX6_closes_82 rfl (lv_at hl 2 rfl) ?_
            refine lv_aload_n hx hb dX6_closes_83 rfl (lv_at hl 1 rfl) ?_
            refine lv_iload_n hx hb dX6_closes_84 rfl (lv_at hl 2 rfl) ?_
            have hV : rfV G ad ce20 T (rf_put T Q 0 [3, 42]) M := ⟨_, _, _, _, ⟨h100, h101, h102, h103, h104, h105, h106, h107, h108, h109, h110, h111⟩, hQ, hM⟩
            refine z_invV F (rest := [.int 0, .ref (ad 100)]) (r_rest0 l T (rf_put T Q 0 [3, 42]) M hV) yv_X6_102 ⟨Nat.le_of_ble_eq_true rfl, Nat.le_of_ble_eq_true rfl⟩ hw hA hS hl h100 rfl rfl rfl (Nat.le_of_ble_eq_true rfl) dX6_closes_85 ⟨Nat.le_of_ble_eq_true rfl, Nat.le_of_ble_eq_true rfl⟩ (fun r ad1 ce21 H locs hp hw hS => ?_)
            obtain ⟨rfl, rfl, rfl⟩ := hp
            refine W.eq (g2 := F0 m 88 ls [.int 3, .int 0, .ref (ad 100)]) rfl ?_
            refine lv_iconst (v := 0) hx hb dX6_closes_88 (by decide) ?_
            refine lv_iconst (v := 0) hx hb dX6_closes_89 (by decide) ?_
            have hV : rfV G ad ce20 T (rf_put T Q 0 [3, 42]) M := ⟨_, _, _, _, ⟨h100, h101, h102, h103, h104, h105, h106, h107, h108, h109, h110, h111⟩, hQ, hM⟩
            refine z_invV F (rest := []) (r_become0 l T (rf_put T Q 0 [3, 42]) M hV 3 0 0) yv_X6_83 ⟨Nat.le_of_ble_eq_true rfl, Nat.le_of_ble_eq_true rfl⟩ hw hA hS hl h100 rfl rfl rfl (Nat.le_of_ble_eq_true rfl) dX6_closes_90 ⟨Nat.le_of_ble_eq_true rfl, Nat.le_of_ble_eq_true rfl⟩ (fun r ad1 ce22 H locs hp hw hS => ?_)
            obtain ⟨rfl, rfl, hV, hF2⟩ := hp
            have hF : ∀ j, j < 100 → ce22 j = ce j := fun j hj => (hF2 j hj).trans (hF j hj)
            obtain ⟨cn, zs, bs, hh, ⟨h100, h101, h102, h103, h104, h105, h106, h107, h108, h109, h110, h111⟩, hQ, hM⟩ := hV
            refine W.eq (g2 := F0 m 93 ls []) rfl ?_
            refine lv_iconst (v := 1) hx hb dX6_closes_93 (by decide) ?_
            exact z_iret F (rfl) hw hS (by unfold sp_closes; rw [if_neg (fun q => hc q.2.2), if_pos ⟨rf_ei hty (by decide) c51, Or.inr (rf_gt c65)⟩]; exact ⟨rfl, rfl, ⟨_, _, _, _, ⟨h100, h101, h102, h103, h104, h105, h106, h107, h108, h109, h110, h111⟩, hQ, hM⟩, hF⟩) dX6_closes_94
    · refine W.eq (g2 := F0 m 16 ls [.int 0]) rfl ?_
      refine lv_if_eq (tgt := 48) hx hb dX6_closes_16 (by decide) (fun c16 => ?_) (fun c16 => absurd c16 (by decide))
      refine lv_iload_n hx hb dX6_closes_48 rfl (lv_at hl 3 rfl) ?_
      refine lv_bipush (v := 45) hx hb dX6_closes_49 (by decide) ?_
      refine lv_icmp_ne (tgt := 95) hx hb dX6_closes_51 (by decide) (fun c51 => ?_) (fun c51 => ?_)
      · refine lv_iload_n hx hb dX6_closes_95 rfl (lv_at hl 3 rfl) ?_
        refine lv_bipush (v := 42) hx hb dX6_closes_96 (by decide) ?_
        refine lv_icmp_ne (tgt := 129) hx hb dX6_closes_98 (by decide) (fun c98 => ?_) (fun c98 => ?_)
        · refine lv_iconst (v := 0) hx hb dX6_closes_129 (by decide) ?_
          exact z_iret F (rfl) hw hS (by unfold sp_closes; rw [if_neg (fun q => hs q.2.1), if_neg (fun q => c51 (by rw [q.1]; rfl)), if_neg (fun q => c98 (by rw [q.1]; rfl))]; exact ⟨rfl, rfl, ⟨_, _, _, _, ⟨h100, h101, h102, h103, h104, h105, h106, h107, h108, h109, h110, h111⟩, hQ, hM⟩, hF⟩) dX6_closes_130
        · refine lv_iload_n hx hb dX6_closes_101 rfl (lv_at hl 2 rfl) ?_
          refine lv_iconst (v := 1) hx hb dX6_closes_102 (by decide) ?_
          refine lv_icmp_eq (tgt := 115) hx hb dX6_closes_103 (by decide) (fun c103 => absurd c103 (by decide)) (fun c103 => ?_)
          refine lv_aload_n hx hb dX6_closes_106 rfl (lv_at hl 1 rfl) ?_
          refine z_get F hw h100 fd_X6_26_X6 rfl dX6_closes_107 ?_
          refine lv_iload_n hx hb dX6_closes_110 rfl (lv_at hl 2 rfl) ?_
          refine z_ld F hw h105 (0) (rfl) (by decide) (by decide) dX6_closes_111 ?_
          refine lv_if_le (tgt := 129) hx hb dX6_closes_112 (by decide) (fun c112 => ?_) (fun c112 => ?_)
          · refine lv_iconst (v := 0) hx hb dX6_closes_129 (by decide) ?_
            exact z_iret F (rfl) hw hS (by unfold sp_closes; rw [if_neg (fun q => hs q.2.1), if_neg (fun q => c51 (by rw [q.1]; rfl)), if_neg (fun q => q.2.elim (by decide) (rf_nl c112))]; exact ⟨rfl, rfl, ⟨_, _, _, _, ⟨h100, h101, h102, h103, h104, h105, h106, h107, h108, h109, h110, h111⟩, hQ, hM⟩, hF⟩) dX6_closes_130
          · refine lv_aload_n hx hb dX6_closes_115 rfl (lv_at hl 1 rfl) ?_
            refine lv_iload_n hx hb dX6_closes_116 rfl (lv_at hl 2 rfl) ?_
            refine lv_aload_n hx hb dX6_closes_117 rfl (lv_at hl 1 rfl) ?_
            refine lv_iload_n hx hb dX6_closes_118 rfl (lv_at hl 2 rfl) ?_
            have hV : rfV G ad ce T Q M := ⟨_, _, _, _, ⟨h100, h101, h102, h103, h104, h105, h106, h107, h108, h109, h110, h111⟩, hQ, hM⟩
            refine z_invV F (rest := [.int 0, .ref (ad 100)]) (r_rest0 l T Q M hV) yv_X6_102 ⟨Nat.le_of_ble_eq_true rfl, Nat.le_of_ble_eq_true rfl⟩ hw hA hS hl h100 rfl rfl rfl (Nat.le_of_ble_eq_true rfl) dX6_closes_119 ⟨Nat.le_of_ble_eq_true rfl, Nat.le_of_ble_eq_true rfl⟩ (fun r ad1 ce23 H locs hp hw hS => ?_)
            obtain ⟨rfl, rfl, rfl⟩ := hp
            refine W.eq (g2 := F0 m 122 ls [.int 3, .int 0, .ref (ad 100)]) rfl ?_
            refine lv_iconst (v := 0) hx hb dX6_closes_122 (by decide) ?_
            refine lv_iconst (v := 0) hx hb dX6_closes_123 (by decide) ?_
            have hV : rfV G ad ce T Q M := ⟨_, _, _, _, ⟨h100, h101, h102, h103, h104, h105, h106, h107, h108, h109, h110, h111⟩, hQ, hM⟩
            refine z_invV F (rest := []) (r_become0 l T Q M hV 3 0 0) yv_X6_83 ⟨Nat.le_of_ble_eq_true rfl, Nat.le_of_ble_eq_true rfl⟩ hw hA hS hl h100 rfl rfl rfl (Nat.le_of_ble_eq_true rfl) dX6_closes_124 ⟨Nat.le_of_ble_eq_true rfl, Nat.le_of_ble_eq_true rfl⟩ (fun r ad1 ce24 H locs hp hw hS => ?_)
            obtain ⟨rfl, rfl, hV, hF2⟩ := hp
            have hF : ∀ j, j < 100 → ce24 j = ce j := fun j hj => (hF2 j hj).trans (hF j hj)
            obtain ⟨cn, zs, bs, hh, ⟨h100, h101, h102, h103, h104, h105, h106, h107, h108, h109, h110, h111⟩, hQ, hM⟩ := hV
            refine W.eq (g2 := F0 m 127 ls []) rfl ?_
            refine lv_iconst (v := 1) hx hb dX6_closes_127 (by decide) ?_
            exact z_iret F (rfl) hw hS (by unfold sp_closes; rw [if_neg (fun q => hs q.2.1), if_neg (fun q => c51 (by rw [q.1]; rfl)), if_pos ⟨rf_ei hty (by decide) c98, Or.inr (rf_gt c112)⟩]; exact ⟨rfl, rfl, ⟨_, _, _, _, ⟨h100, h101, h102, h103, h104, h105, h106, h107, h108, h109, h110, h111⟩, hQ, hM⟩, hF⟩) dX6_closes_128
      · refine lv_iload_n hx hb dX6_closes_54 rfl (lv_at hl 2 rfl) ?_
        refine lv_iconst (v := 1) hx hb dX6_closes_55 (by decide) ?_
        refine lv_icmp_eq (tgt := 68) hx hb dX6_closes_56 (by decide) (fun c56 => absurd c56 (by decide)) (fun c56 => ?_)
        refine lv_aload_n hx hb dX6_closes_59 rfl (lv_at hl 1 rfl) ?_
        refine z_get F hw h100 fd_X6_26_X6 rfl dX6_closes_60 ?_
        refine lv_iload_n hx hb dX6_closes_63 rfl (lv_at hl 2 rfl) ?_
        refine z_ld F hw h105 (0) (rfl) (by decide) (by decide) dX6_closes_64 ?_
        refine lv_if_le (tgt := 95) hx hb dX6_closes_65 (by decide) (fun c65 => ?_) (fun c65 => ?_)
        · refine lv_iload_n hx hb dX6_closes_95 rfl (lv_at hl 3 rfl) ?_
          refine lv_bipush (v := 42) hx hb dX6_closes_96 (by decide) ?_
          refine lv_icmp_ne (tgt := 129) hx hb dX6_closes_98 (by decide) (fun c98 => ?_) (fun c98 => ?_)
          · refine lv_iconst (v := 0) hx hb dX6_closes_129 (by decide) ?_
            exact z_iret F (rfl) hw hS (by unfold sp_closes; rw [if_neg (fun q => hs q.2.1), if_neg (fun q => q.2.elim (by decide) (rf_nl c65)), if_neg (fun q => c98 (by rw [q.1]; rfl))]; exact ⟨rfl, rfl, ⟨_, _, _, _, ⟨h100, h101, h102, h103, h104, h105, h106, h107, h108, h109, h110, h111⟩, hQ, hM⟩, hF⟩) dX6_closes_130
          · refine lv_iload_n hx hb dX6_closes_101 rfl (lv_at hl 2 rfl) ?_
            refine lv_iconst (v := 1) hx hb dX6_closes_102 (by decide) ?_
            refine lv_icmp_eq (tgt := 115) hx hb dX6_closes_103 (by decide) (fun c103 => absurd c103 (by decide)) (fun c103 => ?_)
            refine lv_aload_n hx hb dX6_closes_106 rfl (lv_at hl 1 rfl) ?_
            refine z_get F hw h100 fd_X6_26_X6 rfl dX6_closes_107 ?_
            refine lv_iload_n hx hb dX6_closes_110 rfl (lv_at hl 2 rfl) ?_
            refine z_ld F hw h105 (0) (rfl) (by decide) (by decide) dX6_closes_111 ?_
            refine lv_if_le (tgt := 129) hx hb dX6_closes_112 (by decide) (fun c112 => ?_) (fun c112 => ?_)
            · refine lv_iconst (v := 0) hx hb dX6_closes_129 (by decide) ?_
              exact z_iret F (rfl) hw hS (by unfold sp_closes; rw [if_neg (fun q => hs q.2.1), if_neg (fun q => q.2.elim (by decide) (rf_nl c65)), if_neg (fun q => q.2.elim (by decide) (rf_nl c112))]; exact ⟨rfl, rfl, ⟨_, _, _, _, ⟨h100, h101, h102, h103, h104, h105, h106, h107, h108, h109, h110, h111⟩, hQ, hM⟩, hF⟩) dX6_closes_130
            · refine lv_aload_n hx hb dX6_closes_115 rfl (lv_at hl 1 rfl) ?_
              refine lv_iload_n hx hb dX6_closes_116 rfl (lv_at hl 2 rfl) ?_
              refine lv_aload_n hx hb dX6_closes_117 rfl (lv_at hl 1 rfl) ?_
              refine lv_iload_n hx hb dX6_closes_118 rfl (lv_at hl 2 rfl) ?_
              have hV : rfV G ad ce T Q M := ⟨_, _, _, _, ⟨h100, h101, h102, h103, h104, h105, h106, h107, h108, h109, h110, h111⟩, hQ, hM⟩
              refine z_invV F (rest := [.int 0, .ref (ad 100)]) (r_rest0 l T Q M hV) yv_X6_102 ⟨Nat.le_of_ble_eq_true rfl, Nat.le_of_ble_eq_true rfl⟩ hw hA hS hl h100 rfl rfl rfl (Nat.le_of_ble_eq_true rfl) dX6_closes_119 ⟨Nat.le_of_ble_eq_true rfl, Nat.le_of_ble_eq_true rfl⟩ (fun r ad1 ce25 H locs hp hw hS => ?_)
              obtain ⟨rfl, rfl, rfl⟩ := hp
              refine W.eq (g2 := F0 m 122 ls [.int 3, .int 0, .ref (ad 100)]) rfl ?_
              refine lv_iconst (v := 0) hx hb dX6_closes_122 (by decide) ?_
              refine lv_iconst (v := 0) hx hb dX6_closes_123 (by decide) ?_
              have hV : rfV G ad ce T Q M := ⟨_, _, _, _, ⟨h100, h101, h102, h103, h104, h105, h106, h107, h108, h109, h110, h111⟩, hQ, hM⟩
              refine z_invV F (rest := []) (r_become0 l T Q M hV 3 0 0) yv_X6_83 ⟨Nat.le_of_ble_eq_true rfl, Nat.le_of_ble_eq_true rfl⟩ hw hA hS hl h100 rfl rfl rfl (Nat.le_of_ble_eq_true rfl) dX6_closes_124 ⟨Nat.le_of_ble_eq_true rfl, Nat.le_of_ble_eq_true rfl⟩ (fun r ad1 ce26 H locs hp hw hS => ?_)
              obtain ⟨rfl, rfl, hV, hF2⟩ := hp
              have hF : ∀ j, j < 100 → ce26 j = ce j := fun j hj => (hF2 j hj).trans (hF j hj)
              obtain ⟨cn, zs, bs, hh, ⟨h100, h101, h102, h103, h104, h105, h106, h107, h108, h109, h110, h111⟩, hQ, hM⟩ := hV
              refine W.eq (g2 := F0 m 127 ls []) rfl ?_
              refine lv_iconst (v := 1) hx hb dX6_closes_127 (by decide) ?_
              exact z_iret F (rfl) hw hS (by unfold sp_closes; rw [if_neg (fun q => hs q.2.1), if_neg (fun q => q.2.elim (by decide) (rf_nl c65)), if_pos ⟨rf_ei hty (by decide) c98, Or.inr (rf_gt c112)⟩]; exact ⟨rfl, rfl, ⟨_, _, _, _, ⟨h100, h101, h102, h103, h104, h105, h106, h107, h108, h109, h110, h111⟩, hQ, hM⟩, hF⟩) dX6_closes_128
        · refine lv_aload_n hx hb dX6_closes_68 rfl (lv_at hl 1 rfl) ?_
          refine lv_aload_n hx hb dX6_closes_69 rfl (lv_at hl 1 rfl) ?_
          refine lv_iload_n hx hb dX6_closes_70 rfl (lv_at hl 2 rfl) ?_
          have hV : rfV G ad ce T Q M := ⟨_, _, _, _, ⟨h100, h101, h102, h103, h104, h105, h106, h107, h108, h109, h110, h111⟩, hQ, hM⟩
          refine z_invV F (rest := [.ref (ad 100)]) (r_way0 l T Q M hV) yv_X6_80 ⟨Nat.le_of_ble_eq_true rfl, Nat.le_of_ble_eq_true rfl⟩ hw hA hS hl h100 rfl rfl rfl (Nat.le_of_ble_eq_true rfl) dX6_closes_71 ⟨Nat.le_of_ble_eq_true rfl, Nat.le_of_ble_eq_true rfl⟩ (fun r ad1 ce27 H locs hp hw hS => ?_)
          obtain ⟨rfl, rfl, rfl⟩ := hp
          refine W.eq (g2 := F0 m 74 ls [.int 0, .ref (ad 100)]) rfl ?_
          refine lv_iconst (v := 3) hx hb dX6_closes_74 (by decide) ?_
          refine lv_bipush (v := 42) hx hb dX6_closes_75 (by decide) ?_
          have hV : rfV G ad ce T Q M := ⟨_, _, _, _, ⟨h100, h101, h102, h103, h104, h105, h106, h107, h108, h109, h110, h111⟩, hQ, hM⟩
          refine z_invV F (rest := []) (r_put0 l T Q M hV 3 42 (by decide) (by decide)) yv_X6_64 ⟨Nat.le_of_ble_eq_true rfl, Nat.le_of_ble_eq_true rfl⟩ hw hA hS hl h100 rfl rfl rfl (Nat.le_of_ble_eq_true rfl) dX6_closes_77 ⟨Nat.le_of_ble_eq_true rfl, Nat.le_of_ble_eq_true rfl⟩ (fun r ad1 ce28 H locs hp hw hS => ?_)
          obtain ⟨rfl, rfl, hV, hF2⟩ := hp
          have hF : ∀ j, j < 100 → ce28 j = ce j := fun j hj => (hF2 j hj).trans (hF j hj)
          obtain ⟨cn, zs, bs, hh, ⟨h100, h101, h102, h103, h104, h105, h106, h107, h108, h109, h110, h111⟩, hQ, hM⟩ := hV
          refine W.eq (g2 := F0 m 80 ls [.int (rf_hd T Q 0)]) rfl ?_
          refine lv_istore_n (lv' := [(3, .int (rf_hd T Q 0)), (0, .ref (ad 100)), (1, .int 0), (2, .int (nI ty))]) hx hb dX6_closes_80 rfl hl (by decide) rfl (fun ls hl => ?_)
          refine lv_aload_n hx hb dX6_closes_81 rfl (lv_at hl 1 rfl) ?_
          refine lv_iload_n hx hb dX6_closes_82 rfl (lv_at hl 2 rfl) ?_
          refine lv_aload_n hx hb dX6_closes_83 rfl (lv_at hl 1 rfl) ?_
          refine lv_iload_n hx hb dX6_closes_84 rfl (lv_at hl 2 rfl) ?_
          have hV : rfV G ad ce28 T (rf_put T Q 0 [3, 42]) M := ⟨_, _, _, _, ⟨h100, h101, h102, h103, h104, h105, h106, h107, h108, h109, h110, h111⟩, hQ, hM⟩
          refine z_invV F (rest := [.int 0, .ref (ad 100)]) (r_rest0 l T (rf_put T Q 0 [3, 42]) M hV) yv_X6_102 ⟨Nat.le_of_ble_eq_true rfl, Nat.le_of_ble_eq_true rfl⟩ hw hA hS hl h100 rfl rfl rfl (Nat.le_of_ble_eq_true rfl) dX6_closes_85 ⟨Nat.le_of_ble_eq_true rfl, Nat.le_of_ble_eq_true rfl⟩ (fun r ad1 ce29 H locs hp hw hS => ?_)
          obtain ⟨rfl, rfl, rfl⟩ := hp
          refine W.eq (g2 := F0 m 88 ls [.int 3, .int 0, .ref (ad 100)]) rfl ?_
          refine lv_iconst (v := 0) hx hb dX6_closes_88 (by decide) ?_
          refine lv_iconst (v := 0) hx hb dX6_closes_89 (by decide) ?_
          have hV : rfV G ad ce28 T (rf_put T Q 0 [3, 42]) M := ⟨_, _, _, _, ⟨h100, h101, h102, h103, h104, h105, h106, h107, h108, h109, h110, h111⟩, hQ, hM⟩
          refine z_invV F (rest := []) (r_become0 l T (rf_put T Q 0 [3, 42]) M hV 3 0 0) yv_X6_83 ⟨Nat.le_of_ble_eq_true rfl, Nat.le_of_ble_eq_true rfl⟩ hw hA hS hl h100 rfl rfl rfl (Nat.le_of_ble_eq_true rfl) dX6_closes_90 ⟨Nat.le_of_ble_eq_true rfl, Nat.le_of_ble_eq_true rfl⟩ (fun r ad1 ce30 H locs hp hw hS => ?_)
          obtain ⟨rfl, rfl, hV, hF2⟩ := hp
          have hF : ∀ j, j < 100 → ce30 j = ce j := fun j hj => (hF2 j hj).trans (hF j hj)
          obtain ⟨cn, zs, bs, hh, ⟨h100, h101, h102, h103, h104, h105, h106, h107, h108, h109, h110, h111⟩, hQ, hM⟩ := hV
          refine W.eq (g2 := F0 m 93 ls []) rfl ?_
          refine lv_iconst (v := 1) hx hb dX6_closes_93 (by decide) ?_
          exact z_iret F (rfl) hw hS (by unfold sp_closes; rw [if_neg (fun q => hs q.2.1), if_pos ⟨rf_ei hty (by decide) c51, Or.inr (rf_gt c65)⟩]; exact ⟨rfl, rfl, ⟨_, _, _, _, ⟨h100, h101, h102, h103, h104, h105, h106, h107, h108, h109, h110, h111⟩, hQ, hM⟩, hF⟩) dX6_closes_94
set_option maxHeartbeats 4000000 in
set_option maxRecDepth 100000 in
theorem r_closes1 (l : Launch) {G : zz_G} {ad : Nat → Nat} {ce : zz_C} {sz : Nat} (T : rf_T) (Q : rf_Q) (M : List Nat) (hV : rfV G ad ce T Q M) (hg : rf_good M) (ty : Nat) (hty : ty < 256) : zz_M l yX6_closes cX6_closes 4 (some .boolean) 2 46 0 0 G [.ref (ad 100), .int 1, .int (nI ty)] ad ce sz (fun r ad1 ce1 => r = some (.int (sp_closes T Q M 1 ty).1) ∧ ad = ad1 ∧ rfV G ad ce1 (sp_closes T Q M 1 ty).2.1 (sp_closes T Q M 1 ty).2.2 M ∧ (∀ j, j < 100 → ce1 j = ce j)) := by
  refine zz_enter (by decide) (Nat.le_of_ble_eq_true rfl) ?_
  intro p e s m below meth c ls F hl hw hS hA
  obtain ⟨hx, hb, hr, hml, hown, hts, hlocks, hK, hnm⟩ := id F
  have hl : lv_has ls 4 [(0, .ref (ad 100)), (1, .int 1), (2, .int (nI ty))] := hl
  obtain ⟨cn, zs, bs, hh, ⟨h100, h101, h102, h103, h104, h105, h106, h107, h108, h109, h110, h111⟩, hQ, hM⟩ := hV
  have hF : ∀ j, j < 100 → ce j = ce j := fun _ _ => rfl
  refine lv_bipush (v := -3) hx hb dX6_closes_0 (by decide) ?_
  refine lv_istore_n (lv' := [(3, .int (-3)), (0, .ref (ad 100)), (1, .int 1), (2, .int (nI ty))]) hx hb dX6_closes_2 rfl hl (by decide) rfl (fun ls hl => ?_)
  refine lv_iload_n hx hb dX6_closes_3 rfl (lv_at hl 3 rfl) ?_
  refine lv_bipush (v := 37) hx hb dX6_closes_4 (by decide) ?_
  refine lv_icmp_ne (tgt := 48) hx hb dX6_closes_6 (by decide) (fun c6 => ?_) (fun c6 => ?_)
  · refine lv_iload_n hx hb dX6_closes_48 rfl (lv_at hl 3 rfl) ?_
    refine lv_bipush (v := 45) hx hb dX6_closes_49 (by decide) ?_
    refine lv_icmp_ne (tgt := 95) hx hb dX6_closes_51 (by decide) (fun c51 => ?_) (fun c51 => ?_)
    · refine lv_iload_n hx hb dX6_closes_95 rfl (lv_at hl 3 rfl) ?_
      refine lv_bipush (v := 42) hx hb dX6_closes_96 (by decide) ?_
      refine lv_icmp_ne (tgt := 129) hx hb dX6_closes_98 (by decide) (fun c98 => ?_) (fun c98 => ?_)
      · refine lv_iconst (v := 0) hx hb dX6_closes_129 (by decide) ?_
        exact z_iret F (rfl) hw hS (by unfold sp_closes; rw [if_neg (fun q => c6 (by rw [q.1]; rfl)), if_neg (fun q => c51 (by rw [q.1]; rfl)), if_neg (fun q => c98 (by rw [q.1]; rfl))]; exact ⟨rfl, rfl, ⟨_, _, _, _, ⟨h100, h101, h102, h103, h104, h105, h106, h107, h108, h109, h110, h111⟩, hQ, hM⟩, hF⟩) dX6_closes_130
      · refine lv_iload_n hx hb dX6_closes_101 rfl (lv_at hl 2 rfl) ?_
        refine lv_iconst (v := 1) hx hb dX6_closes_102 (by decide) ?_
        refine lv_icmp_eq (tgt := 115) hx hb dX6_closes_103 (by decide) (fun c103 => ?_) (fun c103 => absurd c103 (by decide))
        refine lv_aload_n hx hb dX6_closes_115 rfl (lv_at hl 1 rfl) ?_
        refine lv_iload_n hx hb dX6_closes_116 rfl (lv_at hl 2 rfl) ?_
        refine lv_aload_n hx hb dX6_closes_117 rfl (lv_at hl 1 rfl) ?_
        refine lv_iload_n hx hb dX6_closes_118 rfl (lv_at hl 2 rfl) ?_
        have hV : rfV G ad ce T Q M := ⟨_, _, _, _, ⟨h100, h101, h102, h103, h104, h105, h106, h107, h108, h109, h110, h111⟩, hQ, hM⟩
        refine z_invV F (rest := [.int 1, .ref (ad 100)]) (r_rest1 l T Q M hV) yv_X6_102 ⟨Nat.le_of_ble_eq_true rfl, Nat.le_of_ble_eq_true rfl⟩ hw hA hS hl h100 rfl rfl rfl (Nat.le_of_ble_eq_true rfl) dX6_closes_119 ⟨Nat.le_of_ble_eq_true rfl, Nat.le_of_ble_eq_true rfl⟩ (fun r ad1 ce1 H locs hp hw hS => ?_)
        obtain ⟨rfl, rfl, rfl⟩ := hp
        refine W.eq (g2 := F0 m 122 ls [.int 0, .int 1, .ref (ad 100)]) rfl ?_
        refine lv_iconst (v := 0) hx hb dX6_closes_122 (by decide) ?_
        refine lv_iconst (v := 0) hx hb dX6_closes_123 (by decide) ?_
        have hV : rfV G ad ce T Q M := ⟨_, _, _, _, ⟨h100, h101, h102, h103, h104, h105, h106, h107, h108, h109, h110, h111⟩, hQ, hM⟩
        refine z_invV F (rest := []) (r_become1 l T Q M hV 0 0 0) yv_X6_83 ⟨Nat.le_of_ble_eq_true rfl, Nat.le_of_ble_eq_true rfl⟩ hw hA hS hl h100 rfl rfl rfl (Nat.le_of_ble_eq_true rfl) dX6_closes_124 ⟨Nat.le_of_ble_eq_true rfl, Nat.le_of_ble_eq_true rfl⟩ (fun r ad1 ce2 H locs hp hw hS => ?_)
        obtain ⟨rfl, rfl, hV, hF2⟩ := hp
        have hF : ∀ j, j < 100 → ce2 j = ce j := fun j hj => (hF2 j hj).trans (hF j hj)
        obtain ⟨cn, zs, bs, hh, ⟨h100, h101, h102, h103, h104, h105, h106, h107, h108, h109, h110, h111⟩, hQ, hM⟩ := hV
        refine W.eq (g2 := F0 m 127 ls []) rfl ?_
        refine lv_iconst (v := 1) hx hb dX6_closes_127 (by decide) ?_
        exact z_iret F (rfl) hw hS (by unfold sp_closes; rw [if_neg (fun q => c6 (by rw [q.1]; rfl)), if_neg (fun q => c51 (by rw [q.1]; rfl)), if_pos ⟨rf_ei hty (by decide) c98, Or.inl rfl⟩]; exact ⟨rfl, rfl, ⟨_, _, _, _, ⟨h100, h101, h102, h103, h104, h105, h106, h107, h108, h109, h110, h111⟩, hQ, hM⟩, hF⟩) dX6_closes_128
    · refine lv_iload_n hx hb dX6_closes_54 rfl (lv_at hl 2 rfl) ?_
      refine lv_iconst (v := 1) hx hb dX6_closes_55 (by decide) ?_
      refine lv_icmp_eq (tgt := 68) hx hb dX6_closes_56 (by decide) (fun c56 => ?_) (fun c56 => absurd c56 (by decide))
      refine lv_aload_n hx hb dX6_closes_68 rfl (lv_at hl 1 rfl) ?_
      refine lv_aload_n hx hb dX6_closes_69 rfl (lv_at hl 1 rfl) ?_
      refine lv_iload_n hx hb dX6_closes_70 rfl (lv_at hl 2 rfl) ?_
      have hV : rfV G ad ce T Q M := ⟨_, _, _, _, ⟨h100, h101, h102, h103, h104, h105, h106, h107, h108, h109, h110, h111⟩, hQ, hM⟩
      refine z_invV F (rest := [.ref (ad 100)]) (r_way1 l T Q M hV) yv_X6_80 ⟨Nat.le_of_ble_eq_true rfl, Nat.le_of_ble_eq_true rfl⟩ hw hA hS hl h100 rfl rfl rfl (Nat.le_of_ble_eq_true rfl) dX6_closes_71 ⟨Nat.le_of_ble_eq_true rfl, Nat.le_of_ble_eq_true rfl⟩ (fun r ad1 ce3 H locs hp hw hS => ?_)
      obtain ⟨rfl, rfl, rfl⟩ := hp
      refine W.eq (g2 := F0 m 74 ls [.int 1, .ref (ad 100)]) rfl ?_
      refine lv_iconst (v := 3) hx hb dX6_closes_74 (by decide) ?_
      refine lv_bipush (v := 42) hx hb dX6_closes_75 (by decide) ?_
      have hV : rfV G ad ce T Q M := ⟨_, _, _, _, ⟨h100, h101, h102, h103, h104, h105, h106, h107, h108, h109, h110, h111⟩, hQ, hM⟩
      refine z_invV F (rest := []) (r_put1 l T Q M hV 3 42 (by decide) (by decide)) yv_X6_64 ⟨Nat.le_of_ble_eq_true rfl, Nat.le_of_ble_eq_true rfl⟩ hw hA hS hl h100 rfl rfl rfl (Nat.le_of_ble_eq_true rfl) dX6_closes_77 ⟨Nat.le_of_ble_eq_true rfl, Nat.le_of_ble_eq_true rfl⟩ (fun r ad1 ce4 H locs hp hw hS => ?_)
      obtain ⟨rfl, rfl, hV, hF2⟩ := hp
      have hF : ∀ j, j < 100 → ce4 j = ce j := fun j hj => (hF2 j hj).trans (hF j hj)
      obtain ⟨cn, zs, bs, hh, ⟨h100, h101, h102, h103, h104, h105, h106, h107, h108, h109, h110, h111⟩, hQ, hM⟩ := hV
      refine W.eq (g2 := F0 m 80 ls [.int (rf_hd T Q 1)]) rfl ?_
      refine lv_istore_n (lv' := [(3, .int (rf_hd T Q 1)), (0, .ref (ad 100)), (1, .int 1), (2, .int (nI ty))]) hx hb dX6_closes_80 rfl hl (by decide) rfl (fun ls hl => ?_)
      refine lv_aload_n hx hb dX6_closes_81 rfl (lv_at hl 1 rfl) ?_
      refine lv_iload_n hx hb dX6_closes_82 rfl (lv_at hl 2 rfl) ?_
      refine lv_aload_n hx hb dX6_closes_83 rfl (lv_at hl 1 rfl) ?_
      refine lv_iload_n hx hb dX6_closes_84 rfl (lv_at hl 2 rfl) ?_
      have hV : rfV G ad ce4 T (rf_put T Q 1 [3, 42]) M := ⟨_, _, _, _, ⟨h100, h101, h102, h103, h104, h105, h106, h107, h108, h109, h110, h111⟩, hQ, hM⟩
      refine z_invV F (rest := [.int 1, .ref (ad 100)]) (r_rest1 l T (rf_put T Q 1 [3, 42]) M hV) yv_X6_102 ⟨Nat.le_of_ble_eq_true rfl, Nat.le_of_ble_eq_true rfl⟩ hw hA hS hl h100 rfl rfl rfl (Nat.le_of_ble_eq_true rfl) dX6_closes_85 ⟨Nat.le_of_ble_eq_true rfl, Nat.le_of_ble_eq_true rfl⟩ (fun r ad1 ce5 H locs hp hw hS => ?_)
      obtain ⟨rfl, rfl, rfl⟩ := hp
      refine W.eq (g2 := F0 m 88 ls [.int 0, .int 1, .ref (ad 100)]) rfl ?_
      refine lv_iconst (v := 0) hx hb dX6_closes_88 (by decide) ?_
      refine lv_iconst (v := 0) hx hb dX6_closes_89 (by decide) ?_
      have hV : rfV G ad ce4 T (rf_put T Q 1 [3, 42]) M := ⟨_, _, _, _, ⟨h100, h101, h102, h103, h104, h105, h106, h107, h108, h109, h110, h111⟩, hQ, hM⟩
      refine z_invV F (rest := []) (r_become1 l T (rf_put T Q 1 [3, 42]) M hV 0 0 0) yv_X6_83 ⟨Nat.le_of_ble_eq_true rfl, Nat.le_of_ble_eq_true rfl⟩ hw hA hS hl h100 rfl rfl rfl (Nat.le_of_ble_eq_true rfl) dX6_closes_90 ⟨Nat.le_of_ble_eq_true rfl, Nat.le_of_ble_eq_true rfl⟩ (fun r ad1 ce6 H locs hp hw hS => ?_)
      obtain ⟨rfl, rfl, hV, hF2⟩ := hp
      have hF : ∀ j, j < 100 → ce6 j = ce j := fun j hj => (hF2 j hj).trans (hF j hj)
      obtain ⟨cn, zs, bs, hh, ⟨h100, h101, h102, h103, h104, h105, h106, h107, h108, h109, h110, h111⟩, hQ, hM⟩ := hV
      refine W.eq (g2 := F0 m 93 ls []) rfl ?_
      refine lv_iconst (v := 1) hx hb dX6_closes_93 (by decide) ?_
      exact z_iret F (rfl) hw hS (by unfold sp_closes; rw [if_neg (fun q => c6 (by rw [q.1]; rfl)), if_pos ⟨rf_ei hty (by decide) c51, Or.inl rfl⟩]; exact ⟨rfl, rfl, ⟨_, _, _, _, ⟨h100, h101, h102, h103, h104, h105, h106, h107, h108, h109, h110, h111⟩, hQ, hM⟩, hF⟩) dX6_closes_94
  · refine lv_aload_n hx hb dX6_closes_9 rfl (lv_at hl 1 rfl) ?_
    refine lv_bipush (v := 8) hx hb dX6_closes_10 (by decide) ?_
    refine lv_iconst (v := 1) hx hb dX6_closes_12 (by decide) ?_
    have hV : rfV G ad ce T Q M := ⟨_, _, _, _, ⟨h100, h101, h102, h103, h104, h105, h106, h107, h108, h109, h110, h111⟩, hQ, hM⟩
    refine z_invV F (rest := []) (r_has l T Q M hV hg 8 1 (by decide) (by decide)) yv_X6_87 ⟨Nat.le_of_ble_eq_true rfl, Nat.le_of_ble_eq_true rfl⟩ hw hA hS hl h100 rfl rfl rfl (Nat.le_of_ble_eq_true rfl) dX6_closes_13 ⟨Nat.le_of_ble_eq_true rfl, Nat.le_of_ble_eq_true rfl⟩ (fun r ad1 ce7 H locs hp hw hS => ?_)
    obtain ⟨hp, rfl, rfl⟩ := hp
    rcases hp with ⟨hs, rfl⟩ | ⟨hs, rfl⟩
    · refine W.eq (g2 := F0 m 16 ls [.int 1]) rfl ?_
      refine lv_if_eq (tgt := 48) hx hb dX6_closes_16 (by decide) (fun c16 => absurd c16 (by decide)) (fun c16 => ?_)
      refine lv_aload_n hx hb dX6_closes_19 rfl (lv_at hl 1 rfl) ?_
      refine lv_iload_n hx hb dX6_closes_20 rfl (lv_at hl 2 rfl) ?_
      refine lv_iconst (v := 1) hx hb dX6_closes_21 (by decide) ?_
      refine lv_iconst (v := 5) hx hb dX6_closes_22 (by decide) ?_
      have hV : rfV G ad ce T Q M := ⟨_, _, _, _, ⟨h100, h101, h102, h103, h104, h105, h106, h107, h108, h109, h110, h111⟩, hQ, hM⟩
      refine z_invV F (rest := []) (r_isCall1 l T Q M hV 1 5) yv_X6_91 ⟨Nat.le_of_ble_eq_true rfl, Nat.le_of_ble_eq_true rfl⟩ hw hA hS hl h100 rfl rfl rfl (Nat.le_of_ble_eq_true rfl) dX6_closes_23 ⟨Nat.le_of_ble_eq_true rfl, Nat.le_of_ble_eq_true rfl⟩ (fun r ad1 ce8 H locs hp hw hS => ?_)
      obtain ⟨hp, rfl, rfl⟩ := hp
      rcases hp with ⟨hc, rfl⟩ | ⟨hc, rfl⟩
      · refine W.eq (g2 := F0 m 26 ls [.int 1]) rfl ?_
        refine lv_if_eq (tgt := 48) hx hb dX6_closes_26 (by decide) (fun c26 => absurd c26 (by decide)) (fun c26 => ?_)
        refine lv_aload_n hx hb dX6_closes_29 rfl (lv_at hl 1 rfl) ?_
        refine z_get F hw h100 fd_X6_36_X6 rfl dX6_closes_30 ?_
        refine lv_iload_n hx hb dX6_closes_33 rfl (lv_at hl 2 rfl) ?_
        refine lv_aload_n hx hb dX6_closes_34 rfl (lv_at hl 1 rfl) ?_
        refine lv_bipush (v := 8) hx hb dX6_closes_35 (by decide) ?_
        have hV : rfV G ad ce T Q M := ⟨_, _, _, _, ⟨h100, h101, h102, h103, h104, h105, h106, h107, h108, h109, h110, h111⟩, hQ, hM⟩
        refine z_invV F (rest := [.int 1, .ref (ad 108)]) (r_number l T Q M hV hg 8 1 (by decide) hs) yv_X6_95 ⟨Nat.le_of_ble_eq_true rfl, Nat.le_of_ble_eq_true rfl⟩ hw hA hS hl h100 rfl rfl rfl (Nat.le_of_ble_eq_true rfl) dX6_closes_37 ⟨Nat.le_of_ble_eq_true rfl, Nat.le_of_ble_eq_true rfl⟩ (fun r ad1 ce9 H locs hp hw hS => ?_)
        obtain ⟨rfl, rfl, rfl⟩ := hp
        refine W.eq (g2 := F0 m 40 ls [.int (rf_val M 8), .int 1, .ref (ad 108)]) rfl ?_
        refine z_st F hw hS h108 (1) (rfl) (by decide) (by decide) dX6_closes_40 (fun ce10 H locs h108 fr11 hw hS => ?_)
        have h100 := (fr11 100 (by decide)).trans h100
        have h101 := (fr11 101 (by decide)).trans h101
        have h102 := (fr11 102 (by decide)).trans h102
        have h103 := (fr11 103 (by decide)).trans h103
        have h104 := (fr11 104 (by decide)).trans h104
        have h105 := (fr11 105 (by decide)).trans h105
        have h106 := (fr11 106 (by decide)).trans h106
        have h107 := (fr11 107 (by decide)).trans h107
        have h109 := (fr11 109 (by decide)).trans h109
        have h110 := (fr11 110 (by decide)).trans h110
        have h111 := (fr11 111 (by decide)).trans h111
        have hF : ∀ j, j < 100 → _ = ce j := fun j hj => (fr11 j (by omega)).trans (hF j hj)
        refine lv_aload_n hx hb dX6_closes_41 rfl (lv_at hl 1 rfl) ?_
        refine lv_iload_n hx hb dX6_closes_42 rfl (lv_at hl 2 rfl) ?_
        have hV : rfV G ad ce10 (va_up T 5 (upd (T 5) 1 (rf_val M 8))) Q M := ⟨_, _, _, _, ⟨h100, h101, h102, h103, h104, h105, h106, h107, h108, h109, h110, h111⟩, hQ, hM⟩
        refine z_invV F (rest := []) (r_release1 l (va_up T 5 (upd (T 5) 1 (rf_val M 8))) Q M hV) yv_X6_98 ⟨Nat.le_of_ble_eq_true rfl, Nat.le_of_ble_eq_true rfl⟩ hw hA hS hl h100 rfl rfl rfl (Nat.le_of_ble_eq_true rfl) dX6_closes_43 ⟨Nat.le_of_ble_eq_true rfl, Nat.le_of_ble_eq_true rfl⟩ (fun r ad1 ce12 H locs hp hw hS => ?_)
        obtain ⟨rfl, rfl, hV, hF2⟩ := hp
        have hF : ∀ j, j < 100 → ce12 j = ce j := fun j hj => (hF2 j hj).trans (hF j hj)
        obtain ⟨cn, zs, bs, hh, ⟨h100, h101, h102, h103, h104, h105, h106, h107, h108, h109, h110, h111⟩, hQ, hM⟩ := hV
        refine W.eq (g2 := F0 m 46 ls []) rfl ?_
        refine lv_iconst (v := 1) hx hb dX6_closes_46 (by decide) ?_
        exact z_iret F (rfl) hw hS (by unfold sp_closes; rw [if_pos ⟨rf_ei hty (by decide) c6, hs, hc⟩]; exact ⟨rfl, rfl, ⟨_, _, _, _, ⟨h100, h101, h102, h103, h104, h105, h106, h107, h108, h109, h110, h111⟩, hQ, hM⟩, hF⟩) dX6_closes_47
      · refine W.eq (g2 := F0 m 26 ls [.int 0]) rfl ?_
        refine lv_if_eq (tgt := 48) hx hb dX6_closes_26 (by decide) (fun c26 => ?_) (fun c26 => absurd c26 (by decide))
        refine lv_iload_n hx hb dX6_closes_48 rfl (lv_at hl 3 rfl) ?_
        refine lv_bipush (v := 45) hx hb dX6_closes_49 (by decide) ?_
        refine lv_icmp_ne (tgt := 95) hx hb dX6_closes_51 (by decide) (fun c51 => ?_) (fun c51 => ?_)
        · refine lv_iload_n hx hb dX6_closes_95 rfl (lv_at hl 3 rfl) ?_
          refine lv_bipush (v := 42) hx hb dX6_closes_96 (by decide) ?_
          refine lv_icmp_ne (tgt := 129) hx hb dX6_closes_98 (by decide) (fun c98 => ?_) (fun c98 => ?_)
          · refine lv_iconst (v := 0) hx hb dX6_closes_129 (by decide) ?_
            exact z_iret F (rfl) hw hS (by unfold sp_closes; rw [if_neg (fun q => hc q.2.2), if_neg (fun q => c51 (by rw [q.1]; rfl)), if_neg (fun q => c98 (by rw [q.1]; rfl))]; exact ⟨rfl, rfl, ⟨_, _, _, _, ⟨h100, h101, h102, h103, h104, h105, h106, h107, h108, h109, h110, h111⟩, hQ, hM⟩, hF⟩) dX6_closes_130
          · refine lv_iload_n hx hb dX6_closes_101 rfl (lv_at hl 2 rfl) ?_
            refine lv_iconst (v := 1) hx hb dX6_closes_102 (by decide) ?_
            refine lv_icmp_eq (tgt := 115) hx hb dX6_closes_103 (by decide) (fun c103 => ?_) (fun c103 => absurd c103 (by decide))
            refine lv_aload_n hx hb dX6_closes_115 rfl (lv_at hl 1 rfl) ?_
            refine lv_iload_n hx hb dX6_closes_116 rfl (lv_at hl 2 rfl) ?_
            refine lv_aload_n hx hb dX6_closes_117 rfl (lv_at hl 1 rfl) ?_
            refine lv_iload_n hx hb dX6_closes_118 rfl (lv_at hl 2 rfl) ?_
            have hV : rfV G ad ce T Q M := ⟨_, _, _, _, ⟨h100, h101, h102, h103, h104, h105, h106, h107, h108, h109, h110, h111⟩, hQ, hM⟩
            refine z_invV F (rest := [.int 1, .ref (ad 100)]) (r_rest1 l T Q M hV) yv_X6_102 ⟨Nat.le_of_ble_eq_true rfl, Nat.le_of_ble_eq_true rfl⟩ hw hA hS hl h100 rfl rfl rfl (Nat.le_of_ble_eq_true rfl) dX6_closes_119 ⟨Nat.le_of_ble_eq_true rfl, Nat.le_of_ble_eq_true rfl⟩ (fun r ad1 ce13 H locs hp hw hS => ?_)
            obtain ⟨rfl, rfl, rfl⟩ := hp
            refine W.eq (g2 := F0 m 122 ls [.int 0, .int 1, .ref (ad 100)]) rfl ?_
            refine lv_iconst (v := 0) hx hb dX6_closes_122 (by decide) ?_
            refine lv_iconst (v := 0) hx hb dX6_closes_123 (by decide) ?_
            have hV : rfV G ad ce T Q M := ⟨_, _, _, _, ⟨h100, h101, h102, h103, h104, h105, h106, h107, h108, h109, h110, h111⟩, hQ, hM⟩
            refine z_invV F (rest := []) (r_become1 l T Q M hV 0 0 0) yv_X6_83 ⟨Nat.le_of_ble_eq_true rfl, Nat.le_of_ble_eq_true rfl⟩ hw hA hS hl h100 rfl rfl rfl (Nat.le_of_ble_eq_true rfl) dX6_closes_124 ⟨Nat.le_of_ble_eq_true rfl, Nat.le_of_ble_eq_true rfl⟩ (fun r ad1 ce14 H locs hp hw hS => ?_)
            obtain ⟨rfl, rfl, hV, hF2⟩ := hp
            have hF : ∀ j, j < 100 → ce14 j = ce j := fun j hj => (hF2 j hj).trans (hF j hj)
            obtain ⟨cn, zs, bs, hh, ⟨h100, h101, h102, h103, h104, h105, h106, h107, h108, h109, h110, h111⟩, hQ, hM⟩ := hV
            refine W.eq (g2 := F0 m 127 ls []) rfl ?_
            refine lv_iconst (v := 1) hx hb dX6_closes_127 (by decide) ?_
            exact z_iret F (rfl) hw hS (by unfold sp_closes; rw [if_neg (fun q => hc q.2.2), if_neg (fun q => c51 (by rw [q.1]; rfl)), if_pos ⟨rf_ei hty (by decide) c98, Or.inl rfl⟩]; exact ⟨rfl, rfl, ⟨_, _, _, _, ⟨h100, h101, h102, h103, h104, h105, h106, h107, h108, h109, h110, h111⟩, hQ, hM⟩, hF⟩) dX6_closes_128
        · refine lv_iload_n hx hb dX6_closes_54 rfl (lv_at hl 2 rfl) ?_
          refine lv_iconst (v := 1) hx hb dX6_closes_55 (by decide) ?_
          refine lv_icmp_eq (tgt := 68) hx hb dX6_closes_56 (by decide) (fun c56 => ?_) (fun c56 => absurd c56 (by decide))
          refine lv_aload_n hx hb dX6_closes_68 rfl (lv_at hl 1 rfl) ?_
          refine lv_aload_n hx hb dX6_closes_69 rfl (lv_at hl 1 rfl) ?_
          refine lv_iload_n hx hb dX6_closes_70 rfl (lv_at hl 2 rfl) ?_
          have hV : rfV G ad ce T Q M := ⟨_, _, _, _, ⟨h100, h101, h102, h103, h104, h105, h106, h107, h108, h109, h110, h111⟩, hQ, hM⟩
          refine z_invV F (rest := [.ref (ad 100)]) (r_way1 l T Q M hV) yv_X6_80 ⟨Nat.le_of_ble_eq_true rfl, Nat.le_of_ble_eq_true rfl⟩ hw hA hS hl h100 rfl rfl rfl (Nat.le_of_ble_eq_true rfl) dX6_closes_71 ⟨Nat.le_of_ble_eq_true rfl, Nat.le_of_ble_eq_true rfl⟩ (fun r ad1 ce15 H locs hp hw hS => ?_)
          obtain ⟨rfl, rfl, rfl⟩ := hp
          refine W.eq (g2 := F0 m 74 ls [.int 1, .ref (ad 100)]) rfl ?_
          refine lv_iconst (v := 3) hx hb dX6_closes_74 (by decide) ?_
          refine lv_bipush (v := 42) hx hb dX6_closes_75 (by decide) ?_
          have hV : rfV G ad ce T Q M := ⟨_, _, _, _, ⟨h100, h101, h102, h103, h104, h105, h106, h107, h108, h109, h110, h111⟩, hQ, hM⟩
          refine z_invV F (rest := []) (r_put1 l T Q M hV 3 42 (by decide) (by decide)) yv_X6_64 ⟨Nat.le_of_ble_eq_true rfl, Nat.le_of_ble_eq_true rfl⟩ hw hA hS hl h100 rfl rfl rfl (Nat.le_of_ble_eq_true rfl) dX6_closes_77 ⟨Nat.le_of_ble_eq_true rfl, Nat.le_of_ble_eq_true rfl⟩ (fun r ad1 ce16 H locs hp hw hS => ?_)
          obtain ⟨rfl, rfl, hV, hF2⟩ := hp
          have hF : ∀ j, j < 100 → ce16 j = ce j := fun j hj => (hF2 j hj).trans (hF j hj)
          obtain ⟨cn, zs, bs, hh, ⟨h100, h101, h102, h103, h104, h105, h106, h107, h108, h109, h110, h111⟩, hQ, hM⟩ := hV
          refine W.eq (g2 := F0 m 80 ls [.int (rf_hd T Q 1)]) rfl ?_
          refine lv_istore_n (lv' := [(3, .int (rf_hd T Q 1)), (0, .ref (ad 100)), (1, .int 1), (2, .int (nI ty))]) hx hb dX6_closes_80 rfl hl (by decide) rfl (fun ls hl => ?_)
          refine lv_aload_n hx hb dX6_closes_81 rfl (lv_at hl 1 rfl) ?_
          refine lv_iload_n hx hb dX6_closes_82 rfl (lv_at hl 2 rfl) ?_
          refine lv_aload_n hx hb dX6_closes_83 rfl (lv_at hl 1 rfl) ?_
          refine lv_iload_n hx hb dX6_closes_84 rfl (lv_at hl 2 rfl) ?_
          have hV : rfV G ad ce16 T (rf_put T Q 1 [3, 42]) M := ⟨_, _, _, _, ⟨h100, h101, h102, h103, h104, h105, h106, h107, h108, h109, h110, h111⟩, hQ, hM⟩
          refine z_invV F (rest := [.int 1, .ref (ad 100)]) (r_rest1 l T (rf_put T Q 1 [3, 42]) M hV) yv_X6_102 ⟨Nat.le_of_ble_eq_true rfl, Nat.le_of_ble_eq_true rfl⟩ hw hA hS hl h100 rfl rfl rfl (Nat.le_of_ble_eq_true rfl) dX6_closes_85 ⟨Nat.le_of_ble_eq_true rfl, Nat.le_of_ble_eq_true rfl⟩ (fun r ad1 ce17 H locs hp hw hS => ?_)
          obtain ⟨rfl, rfl, rfl⟩ := hp
          refine W.eq (g2 := F0 m 88 ls [.int 0, .int 1, .ref (ad 100)]) rfl ?_
          refine lv_iconst (v := 0) hx hb dX6_closes_88 (by decide) ?_
          refine lv_iconst (v := 0) hx hb dX6_closes_89 (by decide) ?_
          have hV : rfV G ad ce16 T (rf_put T Q 1 [3, 42]) M := ⟨_, _, _, _, ⟨h100, h101, h102, h103, h104, h105, h106, h107, h108, h109, h110, h111⟩, hQ, hM⟩
          refine z_invV F (rest := []) (r_become1 l T (rf_put T Q 1 [3, 42]) M hV 0 0 0) yv_X6_83 ⟨Nat.le_of_ble_eq_true rfl, Nat.le_of_ble_eq_true rfl⟩ hw hA hS hl h100 rfl rfl rfl (Nat.le_of_ble_eq_true rfl) dX6_closes_90 ⟨Nat.le_of_ble_eq_true rfl, Nat.le_of_ble_eq_true rfl⟩ (fun r ad1 ce18 H locs hp hw hS => ?_)
          obtain ⟨rfl, rfl, hV, hF2⟩ := hp
          have hF : ∀ j, j < 100 → ce18 j = ce j := fun j hj => (hF2 j hj).trans (hF j hj)
          obtain ⟨cn, zs, bs, hh, ⟨h100, h101, h102, h103, h104, h105, h106, h107, h108, h109, h110, h111⟩, hQ, hM⟩ := hV
          refine W.eq (g2 := F0 m 93 ls []) rfl ?_
          refine lv_iconst (v := 1) hx hb dX6_closes_93 (by decide) ?_
          exact z_iret F (rfl) hw hS (by unfold sp_closes; rw [if_neg (fun q => hc q.2.2), if_pos ⟨rf_ei hty (by decide) c51, Or.inl rfl⟩]; exact ⟨rfl, rfl, ⟨_, _, _, _, ⟨h100, h101, h102, h103, h104, h105, h106, h107, h108, h109, h110, h111⟩, hQ, hM⟩, hF⟩) dX6_closes_94
    · refine W.eq (g2 := F0 m 16 ls [.int 0]) rfl ?_
      refine lv_if_eq (tgt := 48) hx hb dX6_closes_16 (by decide) (fun c16 => ?_) (fun c16 => absurd c16 (by decide))
      refine lv_iload_n hx hb dX6_closes_48 rfl (lv_at hl 3 rfl) ?_
      refine lv_bipush (v := 45) hx hb dX6_closes_49 (by decide) ?_
      refine lv_icmp_ne (tgt := 95) hx hb dX6_closes_51 (by decide) (fun c51 => ?_) (fun c51 => ?_)
      · refine lv_iload_n hx hb dX6_closes_95 rfl (lv_at hl 3 rfl) ?_
        refine lv_bipush (v := 42) hx hb dX6_closes_96 (by decide) ?_
        refine lv_icmp_ne (tgt := 129) hx hb dX6_closes_98 (by decide) (fun c98 => ?_) (fun c98 => ?_)
        · refine lv_iconst (v := 0) hx hb dX6_closes_129 (by decide) ?_
          exact z_iret F (rfl) hw hS (by unfold sp_closes; rw [if_neg (fun q => hs q.2.1), if_neg (fun q => c51 (by rw [q.1]; rfl)), if_neg (fun q => c98 (by rw [q.1]; rfl))]; exact ⟨rfl, rfl, ⟨_, _, _, _, ⟨h100, h101, h102, h103, h104, h105, h106, h107, h108, h109, h110, h111⟩, hQ, hM⟩, hF⟩) dX6_closes_130
        · refine lv_iload_n hx hb dX6_closes_101 rfl (lv_at hl 2 rfl) ?_
          refine lv_iconst (v := 1) hx hb dX6_closes_102 (by decide) ?_
          refine lv_icmp_eq (tgt := 115) hx hb dX6_closes_103 (by decide) (fun c103 => ?_) (fun c103 => absurd c103 (by decide))
          refine lv_aload_n hx hb dX6_closes_115 rfl (lv_at hl 1 rfl) ?_
          refine lv_iload_n hx hb dX6_closes_116 rfl (lv_at hl 2 rfl) ?_
          refine lv_aload_n hx hb dX6_closes_117 rfl (lv_at hl 1 rfl) ?_
          refine lv_iload_n hx hb dX6_closes_118 rfl (lv_at hl 2 rfl) ?_
          have hV : rfV G ad ce T Q M := ⟨_, _, _, _, ⟨h100, h101, h102, h103, h104, h105, h106, h107, h108, h109, h110, h111⟩, hQ, hM⟩
          refine z_invV F (rest := [.int 1, .ref (ad 100)]) (r_rest1 l T Q M hV) yv_X6_102 ⟨Nat.le_of_ble_eq_true rfl, Nat.le_of_ble_eq_true rfl⟩ hw hA hS hl h100 rfl rfl rfl (Nat.le_of_ble_eq_true rfl) dX6_closes_119 ⟨Nat.le_of_ble_eq_true rfl, Nat.le_of_ble_eq_true rfl⟩ (fun r ad1 ce19 H locs hp hw hS => ?_)
          obtain ⟨rfl, rfl, rfl⟩ := hp
          refine W.eq (g2 := F0 m 122 ls [.int 0, .int 1, .ref (ad 100)]) rfl ?_
          refine lv_iconst (v := 0) hx hb dX6_closes_122 (by decide) ?_
          refine lv_iconst (v := 0) hx hb dX6_closes_123 (by decide) ?_
          have hV : rfV G ad ce T Q M := ⟨_, _, _, _, ⟨h100, h101, h102, h103, h104, h105, h106, h107, h108, h109, h110, h111⟩, hQ, hM⟩
          refine z_invV F (rest := []) (r_become1 l T Q M hV 0 0 0) yv_X6_83 ⟨Nat.le_of_ble_eq_true rfl, Nat.le_of_ble_eq_true rfl⟩ hw hA hS hl h100 rfl rfl rfl (Nat.le_of_ble_eq_true rfl) dX6_closes_124 ⟨Nat.le_of_ble_eq_true rfl, Nat.le_of_ble_eq_true rfl⟩ (fun r ad1 ce20 H locs hp hw hS => ?_)
          obtain ⟨rfl, rfl, hV, hF2⟩ := hp
          have hF : ∀ j, j < 100 → ce20 j = ce j := fun j hj => (hF2 j hj).trans (hF j hj)
          obtain ⟨cn, zs, bs, hh, ⟨h100, h101, h102, h103, h104, h105, h106, h107, h108, h109, h110, h111⟩, hQ, hM⟩ := hV
          refine W.eq (g2 := F0 m 127 ls []) rfl ?_
          refine lv_iconst (v := 1) hx hb dX6_closes_127 (by decide) ?_
          exact z_iret F (rfl) hw hS (by unfold sp_closes; rw [if_neg (fun q => hs q.2.1), if_neg (fun q => c51 (by rw [q.1]; rfl)), if_pos ⟨rf_ei hty (by decide) c98, Or.inl rfl⟩]; exact ⟨rfl, rfl, ⟨_, _, _, _, ⟨h100, h101, h102, h103, h104, h105, h106, h107, h108, h109, h110, h111⟩, hQ, hM⟩, hF⟩) dX6_closes_128
      · refine lv_iload_n hx hb dX6_closes_54 rfl (lv_at hl 2 rfl) ?_
        refine lv_iconst (v := 1) hx hb dX6_closes_55 (by decide) ?_
        refine lv_icmp_eq (tgt := 68) hx hb dX6_closes_56 (by decide) (fun c56 => ?_) (fun c56 => absurd c56 (by decide))
        refine lv_aload_n hx hb dX6_closes_68 rfl (lv_at hl 1 rfl) ?_
        refine lv_aload_n hx hb dX6_closes_69 rfl (lv_at hl 1 rfl) ?_
        refine lv_iload_n hx hb dX6_closes_70 rfl (lv_at hl 2 rfl) ?_
        have hV : rfV G ad ce T Q M := ⟨_, _, _, _, ⟨h100, h101, h102, h103, h104, h105, h106, h107, h108, h109, h110, h111⟩, hQ, hM⟩
        refine z_invV F (rest := [.ref (ad 100)]) (r_way1 l T Q M hV) yv_X6_80 ⟨Nat.le_of_ble_eq_true rfl, Nat.le_of_ble_eq_true rfl⟩ hw hA hS hl h100 rfl rfl rfl (Nat.le_of_ble_eq_true rfl) dX6_closes_71 ⟨Nat.le_of_ble_eq_true rfl, Nat.le_of_ble_eq_true rfl⟩ (fun r ad1 ce21 H locs hp hw hS => ?_)
        obtain ⟨rfl, rfl, rfl⟩ := hp
        refine W.eq (g2 := F0 m 74 ls [.int 1, .ref (ad 100)]) rfl ?_
        refine lv_iconst (v := 3) hx hb dX6_closes_74 (by decide) ?_
        refine lv_bipush (v := 42) hx hb dX6_closes_75 (by decide) ?_
        have hV : rfV G ad ce T Q M := ⟨_, _, _, _, ⟨h100, h101, h102, h103, h104, h105, h106, h107, h108, h109, h110, h111⟩, hQ, hM⟩
        refine z_invV F (rest := []) (r_put1 l T Q M hV 3 42 (by decide) (by decide)) yv_X6_64 ⟨Nat.le_of_ble_eq_true rfl, Nat.le_of_ble_eq_true rfl⟩ hw hA hS hl h100 rfl rfl rfl (Nat.le_of_ble_eq_true rfl) dX6_closes_77 ⟨Nat.le_of_ble_eq_true rfl, Nat.le_of_ble_eq_true rfl⟩ (fun r ad1 ce22 H locs hp hw hS => ?_)
        obtain ⟨rfl, rfl, hV, hF2⟩ := hp
        have hF : ∀ j, j < 100 → ce22 j = ce j := fun j hj => (hF2 j hj).trans (hF j hj)
        obtain ⟨cn, zs, bs, hh, ⟨h100, h101, h102, h103, h104, h105, h106, h107, h108, h109, h110, h111⟩, hQ, hM⟩ := hV
        refine W.eq (g2 := F0 m 80 ls [.int (rf_hd T Q 1)]) rfl ?_
        refine lv_istore_n (lv' := [(3, .int (rf_hd T Q 1)), (0, .ref (ad 100)), (1, .int 1), (2, .int (nI ty))]) hx hb dX6_closes_80 rfl hl (by decide) rfl (fun ls hl => ?_)
        refine lv_aload_n hx hb dX6_closes_81 rfl (lv_at hl 1 rfl) ?_
        refine lv_iload_n hx hb dX6_closes_82 rfl (lv_at hl 2 rfl) ?_
        refine lv_aload_n hx hb dX6_closes_83 rfl (lv_at hl 1 rfl) ?_
        refine lv_iload_n hx hb dX6_closes_84 rfl (lv_at hl 2 rfl) ?_
        have hV : rfV G ad ce22 T (rf_put T Q 1 [3, 42]) M := ⟨_, _, _, _, ⟨h100, h101, h102, h103, h104, h105, h106, h107, h108, h109, h110, h111⟩, hQ, hM⟩
        refine z_invV F (rest := [.int 1, .ref (ad 100)]) (r_rest1 l T (rf_put T Q 1 [3, 42]) M hV) yv_X6_102 ⟨Nat.le_of_ble_eq_true rfl, Nat.le_of_ble_eq_true rfl⟩ hw hA hS hl h100 rfl rfl rfl (Nat.le_of_ble_eq_true rfl) dX6_closes_85 ⟨Nat.le_of_ble_eq_true rfl, Nat.le_of_ble_eq_true rfl⟩ (fun r ad1 ce23 H locs hp hw hS => ?_)
        obtain ⟨rfl, rfl, rfl⟩ := hp
        refine W.eq (g2 := F0 m 88 ls [.int 0, .int 1, .ref (ad 100)]) rfl ?_
        refine lv_iconst (v := 0) hx hb dX6_closes_88 (by decide) ?_
        refine lv_iconst (v := 0) hx hb dX6_closes_89 (by decide) ?_
        have hV : rfV G ad ce22 T (rf_put T Q 1 [3, 42]) M := ⟨_, _, _, _, ⟨h100, h101, h102, h103, h104, h105, h106, h107, h108, h109, h110, h111⟩, hQ, hM⟩
        refine z_invV F (rest := []) (r_become1 l T (rf_put T Q 1 [3, 42]) M hV 0 0 0) yv_X6_83 ⟨Nat.le_of_ble_eq_true rfl, Nat.le_of_ble_eq_true rfl⟩ hw hA hS hl h100 rfl rfl rfl (Nat.le_of_ble_eq_true rfl) dX6_closes_90 ⟨Nat.le_of_ble_eq_true rfl, Nat.le_of_ble_eq_true rfl⟩ (fun r ad1 ce24 H locs hp hw hS => ?_)
        obtain ⟨rfl, rfl, hV, hF2⟩ := hp
        have hF : ∀ j, j < 100 → ce24 j = ce j := fun j hj => (hF2 j hj).trans (hF j hj)
        obtain ⟨cn, zs, bs, hh, ⟨h100, h101, h102, h103, h104, h105, h106, h107, h108, h109, h110, h111⟩, hQ, hM⟩ := hV
        refine W.eq (g2 := F0 m 93 ls []) rfl ?_
        refine lv_iconst (v := 1) hx hb dX6_closes_93 (by decide) ?_
        exact z_iret F (rfl) hw hS (by unfold sp_closes; rw [if_neg (fun q => hs q.2.1), if_pos ⟨rf_ei hty (by decide) c51, Or.inl rfl⟩]; exact ⟨rfl, rfl, ⟨_, _, _, _, ⟨h100, h101, h102, h103, h104, h105, h106, h107, h108, h109, h110, h111⟩, hQ, hM⟩, hF⟩) dX6_closes_94
