theorem cl_apx (a c tg n : Nat) (L : List Nat) : [a, c] ++ (tg :: n :: L) = [a, c, tg, n] ++ L := rfl
set_option maxHeartbeats 4000000 in
set_option maxRecDepth 100000 in
theorem c_setState0 (l : Launch) {G : zz_G} {ad : Nat → Nat} {ce : zz_C} {sz : Nat} (T : rf_T) (Q : rf_Q) (hV : clV G ad ce T Q) (vs vt : Int32) : zz_M l yX3_setState cX3_setState 3 none 0 0 0 0 G [.ref (ad 1), .int vs, .int vt] ad ce sz (fun r ad1 ce1 => r = none ∧ ad = ad1 ∧ clV G ad ce1 (rf_become T 0 vs 0 vt) (Q) ∧ (∀ j, 30 ≤ j → ce1 j = ce j)) := by
  refine zz_enter (by decide) (Nat.le_of_ble_eq_true rfl) ?_
  intro p e s m below meth c ls F hl hw hS hA
  obtain ⟨hx, hb, hr, hml, hown, hts, hlocks, hK, hnm⟩ := id F
  have hl : lv_has ls 3 [(0, .ref (ad 1)), (1, .int vs), (2, .int vt)] := hl
  obtain ⟨r0, r1, ⟨h0, h1, h2, h3, h4⟩, ht0, ht1, hR0, hR1⟩ := hV
  have hF : ∀ j, 30 ≤ j → ce j = ce j := fun _ _ => rfl
  refine lv_aload_n hx hb dX3_setState_0 rfl (lv_at hl 0 rfl) ?_
  refine lv_iload_n hx hb dX3_setState_1 rfl (lv_at hl 1 rfl) ?_
  refine z_put F hw hS (fs' := [.ref (ad 10), .int 3, .int vs, .int (T 2 0), .int (T 3 0), .int (T 5 0), .int r0, .int (T 0 0), .int (T 0 6), .ref (ad 3), .int (T 0 9)]) h1 fd_X3_22_X1 ptX1 rfl (rfl) (rfl) (Nat.le_of_ble_eq_true rfl) rfl dX3_setState_2 (fun ce1 H locs h1 fr2 hw hS => ?_)
  have h0 := (fr2 0 (by decide)).trans h0
  have h2 := (fr2 2 (by decide)).trans h2
  have h3 := (fr2 3 (by decide)).trans h3
  have h4 := (fr2 4 (by decide)).trans h4
  have hR0 := hR0.kept (fun j h1 h2 => fr2 j (by omega))
  have hR1 := hR1.kept (fun j h1 h2 => fr2 j (by omega))
  have hF : ∀ j, 30 ≤ j → _ = ce j := fun j hj => (fr2 j (by omega)).trans (hF j hj)
  refine lv_aload_n hx hb dX3_setState_5 rfl (lv_at hl 0 rfl) ?_
  refine lv_iconst (v := 0) hx hb dX3_setState_6 (by decide) ?_
  refine z_put F hw hS (fs' := [.ref (ad 10), .int 3, .int vs, .int 0, .int (T 3 0), .int (T 5 0), .int r0, .int (T 0 0), .int (T 0 6), .ref (ad 3), .int (T 0 9)]) h1 fd_X3_25_X1 ptX1 rfl (rfl) (rfl) (Nat.le_of_ble_eq_true rfl) rfl dX3_setState_7 (fun ce3 H locs h1 fr4 hw hS => ?_)
  have h0 := (fr4 0 (by decide)).trans h0
  have h2 := (fr4 2 (by decide)).trans h2
  have h3 := (fr4 3 (by decide)).trans h3
  have h4 := (fr4 4 (by decide)).trans h4
  have hR0 := hR0.kept (fun j h1 h2 => fr4 j (by omega))
  have hR1 := hR1.kept (fun j h1 h2 => fr4 j (by omega))
  have hF : ∀ j, 30 ≤ j → _ = ce j := fun j hj => (fr4 j (by omega)).trans (hF j hj)
  refine lv_aload_n hx hb dX3_setState_10 rfl (lv_at hl 0 rfl) ?_
  refine lv_iload_n hx hb dX3_setState_11 rfl (lv_at hl 2 rfl) ?_
  refine z_put F hw hS (fs' := [.ref (ad 10), .int 3, .int vs, .int 0, .int vt, .int (T 5 0), .int r0, .int (T 0 0), .int (T 0 6), .ref (ad 3), .int (T 0 9)]) h1 fd_X3_28_X1 ptX1 rfl (rfl) (rfl) (Nat.le_of_ble_eq_true rfl) rfl dX3_setState_12 (fun ce5 H locs h1 fr6 hw hS => ?_)
  have h0 := (fr6 0 (by decide)).trans h0
  have h2 := (fr6 2 (by decide)).trans h2
  have h3 := (fr6 3 (by decide)).trans h3
  have h4 := (fr6 4 (by decide)).trans h4
  have hR0 := hR0.kept (fun j h1 h2 => fr6 j (by omega))
  have hR1 := hR1.kept (fun j h1 h2 => fr6 j (by omega))
  have hF : ∀ j, 30 ≤ j → _ = ce j := fun j hj => (fr6 j (by omega)).trans (hF j hj)
  exact z_vret F hw hS (⟨rfl, rfl, ⟨r0, r1, ⟨h0, h1, h2, h3, h4⟩, ⟨ht0.1, fun h => absurd (show (0 : Int32) = 6 from h) (by decide)⟩, ht1, hR0, hR1⟩, hF⟩) dX3_setState_15
set_option maxHeartbeats 4000000 in
set_option maxRecDepth 100000 in
theorem c_setCall0 (l : Launch) {G : zz_G} {ad : Nat → Nat} {ce : zz_C} {sz : Nat} (T : rf_T) (Q : rf_Q) (hV : clV G ad ce T Q) (vc vt : Int32) : zz_M l yX3_setCall cX3_setCall 3 none 0 0 0 0 G [.ref (ad 1), .int vc, .int vt] ad ce sz (fun r ad1 ce1 => r = none ∧ ad = ad1 ∧ clV G ad ce1 (rf_become T 0 (T 1 0) vc vt) (Q) ∧ (∀ j, 30 ≤ j → ce1 j = ce j)) := by
  refine zz_enter (by decide) (Nat.le_of_ble_eq_true rfl) ?_
  intro p e s m below meth c ls F hl hw hS hA
  obtain ⟨hx, hb, hr, hml, hown, hts, hlocks, hK, hnm⟩ := id F
  have hl : lv_has ls 3 [(0, .ref (ad 1)), (1, .int vc), (2, .int vt)] := hl
  obtain ⟨r0, r1, ⟨h0, h1, h2, h3, h4⟩, ht0, ht1, hR0, hR1⟩ := hV
  have hF : ∀ j, 30 ≤ j → ce j = ce j := fun _ _ => rfl
  refine lv_aload_n hx hb dX3_setCall_0 rfl (lv_at hl 0 rfl) ?_
  refine lv_iload_n hx hb dX3_setCall_1 rfl (lv_at hl 1 rfl) ?_
  refine z_put F hw hS (fs' := [.ref (ad 10), .int 3, .int (T 1 0), .int vc, .int (T 3 0), .int (T 5 0), .int r0, .int (T 0 0), .int (T 0 6), .ref (ad 3), .int (T 0 9)]) h1 fd_X3_25_X1 ptX1 rfl (rfl) (rfl) (Nat.le_of_ble_eq_true rfl) rfl dX3_setCall_2 (fun ce1 H locs h1 fr2 hw hS => ?_)
  have h0 := (fr2 0 (by decide)).trans h0
  have h2 := (fr2 2 (by decide)).trans h2
  have h3 := (fr2 3 (by decide)).trans h3
  have h4 := (fr2 4 (by decide)).trans h4
  have hR0 := hR0.kept (fun j h1 h2 => fr2 j (by omega))
  have hR1 := hR1.kept (fun j h1 h2 => fr2 j (by omega))
  have hF : ∀ j, 30 ≤ j → _ = ce j := fun j hj => (fr2 j (by omega)).trans (hF j hj)
  refine lv_aload_n hx hb dX3_setCall_5 rfl (lv_at hl 0 rfl) ?_
  refine lv_iload_n hx hb dX3_setCall_6 rfl (lv_at hl 2 rfl) ?_
  refine z_put F hw hS (fs' := [.ref (ad 10), .int 3, .int (T 1 0), .int vc, .int vt, .int (T 5 0), .int r0, .int (T 0 0), .int (T 0 6), .ref (ad 3), .int (T 0 9)]) h1 fd_X3_28_X1 ptX1 rfl (rfl) (rfl) (Nat.le_of_ble_eq_true rfl) rfl dX3_setCall_7 (fun ce3 H locs h1 fr4 hw hS => ?_)
  have h0 := (fr4 0 (by decide)).trans h0
  have h2 := (fr4 2 (by decide)).trans h2
  have h3 := (fr4 3 (by decide)).trans h3
  have h4 := (fr4 4 (by decide)).trans h4
  have hR0 := hR0.kept (fun j h1 h2 => fr4 j (by omega))
  have hR1 := hR1.kept (fun j h1 h2 => fr4 j (by omega))
  have hF : ∀ j, 30 ≤ j → _ = ce j := fun j hj => (fr4 j (by omega)).trans (hF j hj)
  refine lv_aload_n hx hb dX3_setCall_10 rfl (lv_at hl 0 rfl) ?_
  refine lv_iconst (v := 0) hx hb dX3_setCall_11 (by decide) ?_
  refine z_put F hw hS (fs' := [.ref (ad 10), .int 3, .int (T 1 0), .int vc, .int vt, .int (T 5 0), .int 0, .int (T 0 0), .int (T 0 6), .ref (ad 3), .int (T 0 9)]) h1 fd_X3_34_X1 ptX1 rfl (rfl) (rfl) (Nat.le_of_ble_eq_true rfl) rfl dX3_setCall_12 (fun ce5 H locs h1 fr6 hw hS => ?_)
  have h0 := (fr6 0 (by decide)).trans h0
  have h2 := (fr6 2 (by decide)).trans h2
  have h3 := (fr6 3 (by decide)).trans h3
  have h4 := (fr6 4 (by decide)).trans h4
  have hR0 := hR0.kept (fun j h1 h2 => fr6 j (by omega))
  have hR1 := hR1.kept (fun j h1 h2 => fr6 j (by omega))
  have hF : ∀ j, 30 ≤ j → _ = ce j := fun j hj => (fr6 j (by omega)).trans (hF j hj)
  exact z_vret F hw hS (⟨rfl, rfl, ⟨_, _, ⟨h0, h1, h2, h3, h4⟩, ⟨Or.inl rfl, fun _ => rfl⟩, ht1, hR0, hR1⟩, hF⟩) dX3_setCall_15
set_option maxHeartbeats 4000000 in
set_option maxRecDepth 100000 in
theorem c_hasCall0 (l : Launch) {G : zz_G} {ad : Nat → Nat} {ce : zz_C} {sz : Nat} (T : rf_T) (Q : rf_Q) (hV : clV G ad ce T Q) (lo hi : Int32) : zz_M l yX3_hasCall cX3_hasCall 3 (some .boolean) 0 0 0 0 G [.ref (ad 1), .int lo, .int hi] ad ce sz (fun r ad1 ce1 => ((rf_inC T 0 lo hi ∧ r = some (.int 1)) ∨ (¬ rf_inC T 0 lo hi ∧ r = some (.int 0))) ∧ ad = ad1 ∧ ce = ce1) := by
  refine zz_enter (by decide) (Nat.le_of_ble_eq_true rfl) ?_
  intro p e s m below meth c ls F hl hw hS hA
  obtain ⟨hx, hb, hr, hml, hown, hts, hlocks, hK, hnm⟩ := id F
  have hl : lv_has ls 3 [(0, .ref (ad 1)), (1, .int lo), (2, .int hi)] := hl
  obtain ⟨r0, r1, ⟨h0, h1, h2, h3, h4⟩, ht0, ht1, hR0, hR1⟩ := hV
  have hF : ∀ j, 30 ≤ j → ce j = ce j := fun _ _ => rfl
  refine lv_aload_n hx hb dX3_hasCall_0 rfl (lv_at hl 0 rfl) ?_
  refine z_get F hw h1 fd_X3_25_X1 rfl dX3_hasCall_1 ?_
  refine lv_iload_n hx hb dX3_hasCall_4 rfl (lv_at hl 1 rfl) ?_
  refine lv_icmp_lt (tgt := 20) hx hb dX3_hasCall_5 (by decide) (fun c5 => ?_) (fun c5 => ?_)
  · refine lv_iconst (v := 0) hx hb dX3_hasCall_20 (by decide) ?_
    exact z_iret F (rfl) hw hS (⟨Or.inr ⟨fun q => q.1 c5, rfl⟩, rfl, rfl⟩) dX3_hasCall_21
  · refine lv_aload_n hx hb dX3_hasCall_8 rfl (lv_at hl 0 rfl) ?_
    refine z_get F hw h1 fd_X3_25_X1 rfl dX3_hasCall_9 ?_
    refine lv_iload_n hx hb dX3_hasCall_12 rfl (lv_at hl 2 rfl) ?_
    refine lv_icmp_gt (tgt := 20) hx hb dX3_hasCall_13 (by decide) (fun c13 => ?_) (fun c13 => ?_)
    · refine lv_iconst (v := 0) hx hb dX3_hasCall_20 (by decide) ?_
      exact z_iret F (rfl) hw hS (⟨Or.inr ⟨fun q => q.2 c13, rfl⟩, rfl, rfl⟩) dX3_hasCall_21
    · refine lv_iconst (v := 1) hx hb dX3_hasCall_16 (by decide) ?_
      refine lv_goto (tgt := 21) hx hb dX3_hasCall_17 (by decide) ?_
      exact z_iret F (rfl) hw hS (⟨Or.inl ⟨⟨c5, c13⟩, rfl⟩, rfl, rfl⟩) dX3_hasCall_21
set_option maxHeartbeats 4000000 in
set_option maxRecDepth 100000 in
theorem c_rest0 (l : Launch) {G : zz_G} {ad : Nat → Nat} {ce : zz_C} {sz : Nat} (T : rf_T) (Q : rf_Q) (hV : clV G ad ce T Q) : zz_M l yX3_rest cX3_rest 1 none 1 22 0 0 G [.ref (ad 1)] ad ce sz (fun r ad1 ce1 => r = none ∧ ad = ad1 ∧ clV G ad ce1 (rf_become T 0 3 0 0) (Q) ∧ (∀ j, 30 ≤ j → ce1 j = ce j)) := by
  refine zz_enter (by decide) (Nat.le_of_ble_eq_true rfl) ?_
  intro p e s m below meth c ls F hl hw hS hA
  obtain ⟨hx, hb, hr, hml, hown, hts, hlocks, hK, hnm⟩ := id F
  have hl : lv_has ls 1 [(0, .ref (ad 1))] := hl
  obtain ⟨r0, r1, ⟨h0, h1, h2, h3, h4⟩, ht0, ht1, hR0, hR1⟩ := hV
  have hF : ∀ j, 30 ≤ j → ce j = ce j := fun _ _ => rfl
  refine lv_aload_n hx hb dX3_rest_0 rfl (lv_at hl 0 rfl) ?_
  refine lv_aload_n hx hb dX3_rest_1 rfl (lv_at hl 0 rfl) ?_
  refine z_get F hw h1 fd_X3_18_X1 rfl dX3_rest_2 ?_
  refine lv_iconst (v := 0) hx hb dX3_rest_5 (by decide) ?_
  have hV : clV G ad ce T Q := ⟨_, _, ⟨h0, h1, h2, h3, h4⟩, ht0, ht1, hR0, hR1⟩
  refine z_invU F (rest := []) (c_setState0 l T Q hV 3 0) yu_X3_74_X1 ⟨Nat.le_of_ble_eq_true rfl, Nat.le_of_ble_eq_true rfl⟩ hw hA hS hl h1 rfl rfl rfl (Nat.le_of_ble_eq_true rfl) dX3_rest_6 ⟨Nat.le_of_ble_eq_true rfl, Nat.le_of_ble_eq_true rfl⟩ (fun r ad1 ce1 H locs hp hw hS => ?_)
  obtain ⟨rfl, rfl, hV, hF2⟩ := hp
  have hF : ∀ j, 30 ≤ j → ce1 j = ce j := fun j hj => (hF2 j (by omega)).trans (hF j hj)
  obtain ⟨r0, r1, ⟨h0, h1, h2, h3, h4⟩, ht0, ht1, hR0, hR1⟩ := hV
  refine W.eq (g2 := F0 m 9 ls []) rfl ?_
  exact z_vret F hw hS (⟨rfl, rfl, ⟨_, _, ⟨h0, h1, h2, h3, h4⟩, ht0, ht1, hR0, hR1⟩, hF⟩) dX3_rest_9
set_option maxHeartbeats 4000000 in
set_option maxRecDepth 100000 in
theorem c_startReleasing0 (l : Launch) {G : zz_G} {ad : Nat → Nat} {ce : zz_C} {sz : Nat} (T : rf_T) (Q : rf_Q) (hV : clV G ad ce T Q) : zz_M l yX3_startReleasing cX3_startReleasing 1 none 2 45 0 0 G [.ref (ad 1)] ad ce sz (fun r ad1 ce1 => r = none ∧ ad = ad1 ∧ clV G ad ce1 (rf_rel T 0) (rf_put T Q 0 [3, 45]) ∧ (∀ j, 30 ≤ j → ce1 j = ce j)) := by
  refine zz_enter (by decide) (Nat.le_of_ble_eq_true rfl) ?_
  intro p e s m below meth c ls F hl hw hS hA
  obtain ⟨hx, hb, hr, hml, hown, hts, hlocks, hK, hnm⟩ := id F
  have hl : lv_has ls 1 [(0, .ref (ad 1))] := hl
  obtain ⟨r0, r1, ⟨h0, h1, h2, h3, h4⟩, ht0, ht1, hR0, hR1⟩ := hV
  have hF : ∀ j, 30 ≤ j → ce j = ce j := fun _ _ => rfl
  refine lv_aload_n hx hb dX3_startReleasing_0 rfl (lv_at hl 0 rfl) ?_
  refine z_get F hw h1 fd_X3_12_X1 rfl dX3_startReleasing_1 ?_
  refine lv_iconst (v := 3) hx hb dX3_startReleasing_4 (by decide) ?_
  refine lv_bipush (v := 45) hx hb dX3_startReleasing_5 (by decide) ?_
  obtain ⟨vs9, ho9⟩ := hR0.obj
  refine z_invV F (rest := []) (c_send l 10 _ _ hR0 3 45 (by decide) (by decide)) yv_X3_62 ⟨Nat.le_of_ble_eq_true rfl, Nat.le_of_ble_eq_true rfl⟩ hw hA hS hl ho9 rfl rfl rfl (Nat.le_of_ble_eq_true rfl) dX3_startReleasing_7 ⟨Nat.le_of_ble_eq_true rfl, Nat.le_of_ble_eq_true rfl⟩ (fun r ad1 ce1 H locs hp hw hS => ?_)
  obtain ⟨rfl, ⟨h9, rfl, hp9⟩, hF2⟩ := hp
  have h0 := (hF2 0 (by decide)).trans h0
  have h1 := (hF2 1 (by decide)).trans h1
  have h2 := (hF2 2 (by decide)).trans h2
  have h3 := (hF2 3 (by decide)).trans h3
  have h4 := (hF2 4 (by decide)).trans h4
  have hR1 := hR1.kept (fun j h1 h2 => hF2 j (by omega))
  have hF : ∀ j, 30 ≤ j → ce1 j = ce j := fun j hj => (hF2 j (by omega)).trans (hF j hj)
  have hR0 : cl_r G ad ce1 10 ((rf_put T Q 0 ([3, 45])) 0) (cl_op T) := cl_put (x := [3, 45]) hp9.end
  have hR1 : cl_r G ad ce1 30 ((rf_put T Q 0 ([3, 45])) 1) (cl_op T) := by rw [cl_putn _ _ _ (by decide)]; exact hR1
  refine W.eq (g2 := F0 m 10 ls [.ref (ad h9)]) rfl ?_
  refine lv_pop hx hb dX3_startReleasing_10 rfl ?_
  refine lv_aload_n hx hb dX3_startReleasing_11 rfl (lv_at hl 0 rfl) ?_
  refine lv_bipush (v := 6) hx hb dX3_startReleasing_12 (by decide) ?_
  refine lv_bipush (v := 30) hx hb dX3_startReleasing_14 (by decide) ?_
  have hV : clV G ad ce1 T (rf_put T Q 0 ([3, 45])) := ⟨_, _, ⟨h0, h1, h2, h3, h4⟩, ht0, ht1, hR0, hR1⟩
  refine z_invU F (rest := []) (c_setCall0 l T (rf_put T Q 0 ([3, 45])) hV 6 30) yu_X3_70_X1 ⟨Nat.le_of_ble_eq_true rfl, Nat.le_of_ble_eq_true rfl⟩ hw hA hS hl h1 rfl rfl rfl (Nat.le_of_ble_eq_true rfl) dX3_startReleasing_16 ⟨Nat.le_of_ble_eq_true rfl, Nat.le_of_ble_eq_true rfl⟩ (fun r ad1 ce2 H locs hp hw hS => ?_)
  obtain ⟨rfl, rfl, hV, hF2⟩ := hp
  have hF : ∀ j, 30 ≤ j → ce2 j = ce j := fun j hj => (hF2 j (by omega)).trans (hF j hj)
  obtain ⟨r0, r1, ⟨h0, h1, h2, h3, h4⟩, ht0, ht1, hR0, hR1⟩ := hV
  refine W.eq (g2 := F0 m 19 ls []) rfl ?_
  exact z_vret F hw hS (⟨rfl, rfl, ⟨_, _, ⟨h0, h1, h2, h3, h4⟩, ht0, ht1, hR0, hR1⟩, hF⟩) dX3_startReleasing_19
set_option maxHeartbeats 4000000 in
set_option maxRecDepth 100000 in
theorem c_setState1 (l : Launch) {G : zz_G} {ad : Nat → Nat} {ce : zz_C} {sz : Nat} (T : rf_T) (Q : rf_Q) (hV : clV G ad ce T Q) (vs vt : Int32) : zz_M l yX3_setState cX3_setState 3 none 0 0 0 0 G [.ref (ad 2), .int vs, .int vt] ad ce sz (fun r ad1 ce1 => r = none ∧ ad = ad1 ∧ clV G ad ce1 (rf_become T 1 vs 0 vt) (Q) ∧ (∀ j, (10 ≤ j ∧ j < 30) ∨ 50 ≤ j → ce1 j = ce j)) := by
  refine zz_enter (by decide) (Nat.le_of_ble_eq_true rfl) ?_
  intro p e s m below meth c ls F hl hw hS hA
  obtain ⟨hx, hb, hr, hml, hown, hts, hlocks, hK, hnm⟩ := id F
  have hl : lv_has ls 3 [(0, .ref (ad 2)), (1, .int vs), (2, .int vt)] := hl
  obtain ⟨r0, r1, ⟨h0, h1, h2, h3, h4⟩, ht0, ht1, hR0, hR1⟩ := hV
  have hF : ∀ j, (10 ≤ j ∧ j < 30) ∨ 50 ≤ j → ce j = ce j := fun _ _ => rfl
  refine lv_aload_n hx hb dX3_setState_0 rfl (lv_at hl 0 rfl) ?_
  refine lv_iload_n hx hb dX3_setState_1 rfl (lv_at hl 1 rfl) ?_
  refine z_put F hw hS (fs' := [.ref (ad 30), .int 0, .int vs, .int (T 2 1), .int (T 3 1), .int (T 5 1), .int r1, .int (T 0 1), .int (T 0 7), .int (T 0 2), .int (T 0 8), .int (cl_b0 (T 0 3)), .int (cl_b1 (T 0 3)), .ref (ad 4), .int (T 0 10)]) h2 fd_X3_22_X2 ptX2 rfl (rfl) (rfl) (Nat.le_of_ble_eq_true rfl) rfl dX3_setState_2 (fun ce1 H locs h2 fr2 hw hS => ?_)
  have h0 := (fr2 0 (by decide)).trans h0
  have h1 := (fr2 1 (by decide)).trans h1
  have h3 := (fr2 3 (by decide)).trans h3
  have h4 := (fr2 4 (by decide)).trans h4
  have hR0 := hR0.kept (fun j h1 h2 => fr2 j (by omega))
  have hR1 := hR1.kept (fun j h1 h2 => fr2 j (by omega))
  have hF : ∀ j, (10 ≤ j ∧ j < 30) ∨ 50 ≤ j → _ = ce j := fun j hj => (fr2 j (by omega)).trans (hF j hj)
  refine lv_aload_n hx hb dX3_setState_5 rfl (lv_at hl 0 rfl) ?_
  refine lv_iconst (v := 0) hx hb dX3_setState_6 (by decide) ?_
  refine z_put F hw hS (fs' := [.ref (ad 30), .int 0, .int vs, .int 0, .int (T 3 1), .int (T 5 1), .int r1, .int (T 0 1), .int (T 0 7), .int (T 0 2), .int (T 0 8), .int (cl_b0 (T 0 3)), .int (cl_b1 (T 0 3)), .ref (ad 4), .int (T 0 10)]) h2 fd_X3_25_X2 ptX2 rfl (rfl) (rfl) (Nat.le_of_ble_eq_true rfl) rfl dX3_setState_7 (fun ce3 H locs h2 fr4 hw hS => ?_)
  have h0 := (fr4 0 (by decide)).trans h0
  have h1 := (fr4 1 (by decide)).trans h1
  have h3 := (fr4 3 (by decide)).trans h3
  have h4 := (fr4 4 (by decide)).trans h4
  have hR0 := hR0.kept (fun j h1 h2 => fr4 j (by omega))
  have hR1 := hR1.kept (fun j h1 h2 => fr4 j (by omega))
  have hF : ∀ j, (10 ≤ j ∧ j < 30) ∨ 50 ≤ j → _ = ce j := fun j hj => (fr4 j (by omega)).trans (hF j hj)
  refine lv_aload_n hx hb dX3_setState_10 rfl (lv_at hl 0 rfl) ?_
  refine lv_iload_n hx hb dX3_setState_11 rfl (lv_at hl 2 rfl) ?_
  refine z_put F hw hS (fs' := [.ref (ad 30), .int 0, .int vs, .int 0, .int vt, .int (T 5 1), .int r1, .int (T 0 1), .int (T 0 7), .int (T 0 2), .int (T 0 8), .int (cl_b0 (T 0 3)), .int (cl_b1 (T 0 3)), .ref (ad 4), .int (T 0 10)]) h2 fd_X3_28_X2 ptX2 rfl (rfl) (rfl) (Nat.le_of_ble_eq_true rfl) rfl dX3_setState_12 (fun ce5 H locs h2 fr6 hw hS => ?_)
  have h0 := (fr6 0 (by decide)).trans h0
  have h1 := (fr6 1 (by decide)).trans h1
  have h3 := (fr6 3 (by decide)).trans h3
  have h4 := (fr6 4 (by decide)).trans h4
  have hR0 := hR0.kept (fun j h1 h2 => fr6 j (by omega))
  have hR1 := hR1.kept (fun j h1 h2 => fr6 j (by omega))
  have hF : ∀ j, (10 ≤ j ∧ j < 30) ∨ 50 ≤ j → _ = ce j := fun j hj => (fr6 j (by omega)).trans (hF j hj)
  exact z_vret F hw hS (⟨rfl, rfl, ⟨r0, r1, ⟨h0, h1, h2, h3, h4⟩, ht0, ⟨ht1.1, fun h => absurd (show (0 : Int32) = 6 from h) (by decide)⟩, hR0, hR1⟩, hF⟩) dX3_setState_15
set_option maxHeartbeats 4000000 in
set_option maxRecDepth 100000 in
theorem c_setCall1 (l : Launch) {G : zz_G} {ad : Nat → Nat} {ce : zz_C} {sz : Nat} (T : rf_T) (Q : rf_Q) (hV : clV G ad ce T Q) (vc vt : Int32) : zz_M l yX3_setCall cX3_setCall 3 none 0 0 0 0 G [.ref (ad 2), .int vc, .int vt] ad ce sz (fun r ad1 ce1 => r = none ∧ ad = ad1 ∧ clV G ad ce1 (rf_become T 1 (T 1 1) vc vt) (Q) ∧ (∀ j, (10 ≤ j ∧ j < 30) ∨ 50 ≤ j → ce1 j = ce j)) := by
  refine zz_enter (by decide) (Nat.le_of_ble_eq_true rfl) ?_
  intro p e s m below meth c ls F hl hw hS hA
  obtain ⟨hx, hb, hr, hml, hown, hts, hlocks, hK, hnm⟩ := id F
  have hl : lv_has ls 3 [(0, .ref (ad 2)), (1, .int vc), (2, .int vt)] := hl
  obtain ⟨r0, r1, ⟨h0, h1, h2, h3, h4⟩, ht0, ht1, hR0, hR1⟩ := hV
  have hF : ∀ j, (10 ≤ j ∧ j < 30) ∨ 50 ≤ j → ce j = ce j := fun _ _ => rfl
  refine lv_aload_n hx hb dX3_setCall_0 rfl (lv_at hl 0 rfl) ?_
  refine lv_iload_n hx hb dX3_setCall_1 rfl (lv_at hl 1 rfl) ?_
  refine z_put F hw hS (fs' := [.ref (ad 30), .int 0, .int (T 1 1), .int vc, .int (T 3 1), .int (T 5 1), .int r1, .int (T 0 1), .int (T 0 7), .int (T 0 2), .int (T 0 8), .int (cl_b0 (T 0 3)), .int (cl_b1 (T 0 3)), .ref (ad 4), .int (T 0 10)]) h2 fd_X3_25_X2 ptX2 rfl (rfl) (rfl) (Nat.le_of_ble_eq_true rfl) rfl dX3_setCall_2 (fun ce1 H locs h2 fr2 hw hS => ?_)
  have h0 := (fr2 0 (by decide)).trans h0
  have h1 := (fr2 1 (by decide)).trans h1
  have h3 := (fr2 3 (by decide)).trans h3
  have h4 := (fr2 4 (by decide)).trans h4
  have hR0 := hR0.kept (fun j h1 h2 => fr2 j (by omega))
  have hR1 := hR1.kept (fun j h1 h2 => fr2 j (by omega))
  have hF : ∀ j, (10 ≤ j ∧ j < 30) ∨ 50 ≤ j → _ = ce j := fun j hj => (fr2 j (by omega)).trans (hF j hj)
  refine lv_aload_n hx hb dX3_setCall_5 rfl (lv_at hl 0 rfl) ?_
  refine lv_iload_n hx hb dX3_setCall_6 rfl (lv_at hl 2 rfl) ?_
  refine z_put F hw hS (fs' := [.ref (ad 30), .int 0, .int (T 1 1), .int vc, .int vt, .int (T 5 1), .int r1, .int (T 0 1), .int (T 0 7), .int (T 0 2), .int (T 0 8), .int (cl_b0 (T 0 3)), .int (cl_b1 (T 0 3)), .ref (ad 4), .int (T 0 10)]) h2 fd_X3_28_X2 ptX2 rfl (rfl) (rfl) (Nat.le_of_ble_eq_true rfl) rfl dX3_setCall_7 (fun ce3 H locs h2 fr4 hw hS => ?_)
  have h0 := (fr4 0 (by decide)).trans h0
  have h1 := (fr4 1 (by decide)).trans h1
  have h3 := (fr4 3 (by decide)).trans h3
  have h4 := (fr4 4 (by decide)).trans h4
  have hR0 := hR0.kept (fun j h1 h2 => fr4 j (by omega))
  have hR1 := hR1.kept (fun j h1 h2 => fr4 j (by omega))
  have hF : ∀ j, (10 ≤ j ∧ j < 30) ∨ 50 ≤ j → _ = ce j := fun j hj => (fr4 j (by omega)).trans (hF j hj)
  refine lv_aload_n hx hb dX3_setCall_10 rfl (lv_at hl 0 rfl) ?_
  refine lv_iconst (v := 0) hx hb dX3_setCall_11 (by decide) ?_
  refine z_put F hw hS (fs' := [.ref (ad 30), .int 0, .int (T 1 1), .int vc, .int vt, .int (T 5 1), .int 0, .int (T 0 1), .int (T 0 7), .int (T 0 2), .int (T 0 8), .int (cl_b0 (T 0 3)), .int (cl_b1 (T 0 3)), .ref (ad 4), .int (T 0 10)]) h2 fd_X3_34_X2 ptX2 rfl (rfl) (rfl) (Nat.le_of_ble_eq_true rfl) rfl dX3_setCall_12 (fun ce5 H locs h2 fr6 hw hS => ?_)
  have h0 := (fr6 0 (by decide)).trans h0
  have h1 := (fr6 1 (by decide)).trans h1
  have h3 := (fr6 3 (by decide)).trans h3
  have h4 := (fr6 4 (by decide)).trans h4
  have hR0 := hR0.kept (fun j h1 h2 => fr6 j (by omega))
  have hR1 := hR1.kept (fun j h1 h2 => fr6 j (by omega))
  have hF : ∀ j, (10 ≤ j ∧ j < 30) ∨ 50 ≤ j → _ = ce j := fun j hj => (fr6 j (by omega)).trans (hF j hj)
  exact z_vret F hw hS (⟨rfl, rfl, ⟨_, _, ⟨h0, h1, h2, h3, h4⟩, ht0, ⟨Or.inl rfl, fun _ => rfl⟩, hR0, hR1⟩, hF⟩) dX3_setCall_15
set_option maxHeartbeats 4000000 in
set_option maxRecDepth 100000 in
theorem c_hasCall1 (l : Launch) {G : zz_G} {ad : Nat → Nat} {ce : zz_C} {sz : Nat} (T : rf_T) (Q : rf_Q) (hV : clV G ad ce T Q) (lo hi : Int32) : zz_M l yX3_hasCall cX3_hasCall 3 (some .boolean) 0 0 0 0 G [.ref (ad 2), .int lo, .int hi] ad ce sz (fun r ad1 ce1 => ((rf_inC T 1 lo hi ∧ r = some (.int 1)) ∨ (¬ rf_inC T 1 lo hi ∧ r = some (.int 0))) ∧ ad = ad1 ∧ ce = ce1) := by
  refine zz_enter (by decide) (Nat.le_of_ble_eq_true rfl) ?_
  intro p e s m below meth c ls F hl hw hS hA
  obtain ⟨hx, hb, hr, hml, hown, hts, hlocks, hK, hnm⟩ := id F
  have hl : lv_has ls 3 [(0, .ref (ad 2)), (1, .int lo), (2, .int hi)] := hl
  obtain ⟨r0, r1, ⟨h0, h1, h2, h3, h4⟩, ht0, ht1, hR0, hR1⟩ := hV
  have hF : ∀ j, (10 ≤ j ∧ j < 30) ∨ 50 ≤ j → ce j = ce j := fun _ _ => rfl
  refine lv_aload_n hx hb dX3_hasCall_0 rfl (lv_at hl 0 rfl) ?_
  refine z_get F hw h2 fd_X3_25_X2 rfl dX3_hasCall_1 ?_
  refine lv_iload_n hx hb dX3_hasCall_4 rfl (lv_at hl 1 rfl) ?_
  refine lv_icmp_lt (tgt := 20) hx hb dX3_hasCall_5 (by decide) (fun c5 => ?_) (fun c5 => ?_)
  · refine lv_iconst (v := 0) hx hb dX3_hasCall_20 (by decide) ?_
    exact z_iret F (rfl) hw hS (⟨Or.inr ⟨fun q => q.1 c5, rfl⟩, rfl, rfl⟩) dX3_hasCall_21
  · refine lv_aload_n hx hb dX3_hasCall_8 rfl (lv_at hl 0 rfl) ?_
    refine z_get F hw h2 fd_X3_25_X2 rfl dX3_hasCall_9 ?_
    refine lv_iload_n hx hb dX3_hasCall_12 rfl (lv_at hl 2 rfl) ?_
    refine lv_icmp_gt (tgt := 20) hx hb dX3_hasCall_13 (by decide) (fun c13 => ?_) (fun c13 => ?_)
    · refine lv_iconst (v := 0) hx hb dX3_hasCall_20 (by decide) ?_
      exact z_iret F (rfl) hw hS (⟨Or.inr ⟨fun q => q.2 c13, rfl⟩, rfl, rfl⟩) dX3_hasCall_21
    · refine lv_iconst (v := 1) hx hb dX3_hasCall_16 (by decide) ?_
      refine lv_goto (tgt := 21) hx hb dX3_hasCall_17 (by decide) ?_
      exact z_iret F (rfl) hw hS (⟨Or.inl ⟨⟨c5, c13⟩, rfl⟩, rfl, rfl⟩) dX3_hasCall_21
set_option maxHeartbeats 4000000 in
set_option maxRecDepth 100000 in
theorem c_rest1 (l : Launch) {G : zz_G} {ad : Nat → Nat} {ce : zz_C} {sz : Nat} (T : rf_T) (Q : rf_Q) (hV : clV G ad ce T Q) : zz_M l yX3_rest cX3_rest 1 none 1 22 0 0 G [.ref (ad 2)] ad ce sz (fun r ad1 ce1 => r = none ∧ ad = ad1 ∧ clV G ad ce1 (rf_become T 1 0 0 0) (Q) ∧ (∀ j, (10 ≤ j ∧ j < 30) ∨ 50 ≤ j → ce1 j = ce j)) := by
  refine zz_enter (by decide) (Nat.le_of_ble_eq_true rfl) ?_
  intro p e s m below meth c ls F hl hw hS hA
  obtain ⟨hx, hb, hr, hml, hown, hts, hlocks, hK, hnm⟩ := id F
  have hl : lv_has ls 1 [(0, .ref (ad 2))] := hl
  obtain ⟨r0, r1, ⟨h0, h1, h2, h3, h4⟩, ht0, ht1, hR0, hR1⟩ := hV
  have hF : ∀ j, (10 ≤ j ∧ j < 30) ∨ 50 ≤ j → ce j = ce j := fun _ _ => rfl
  refine lv_aload_n hx hb dX3_rest_0 rfl (lv_at hl 0 rfl) ?_
  refine lv_aload_n hx hb dX3_rest_1 rfl (lv_at hl 0 rfl) ?_
  refine z_get F hw h2 fd_X3_18_X2 rfl dX3_rest_2 ?_
  refine lv_iconst (v := 0) hx hb dX3_rest_5 (by decide) ?_
  have hV : clV G ad ce T Q := ⟨_, _, ⟨h0, h1, h2, h3, h4⟩, ht0, ht1, hR0, hR1⟩
  refine z_invU F (rest := []) (c_setState1 l T Q hV 0 0) yu_X3_74_X2 ⟨Nat.le_of_ble_eq_true rfl, Nat.le_of_ble_eq_true rfl⟩ hw hA hS hl h2 rfl rfl rfl (Nat.le_of_ble_eq_true rfl) dX3_rest_6 ⟨Nat.le_of_ble_eq_true rfl, Nat.le_of_ble_eq_true rfl⟩ (fun r ad1 ce1 H locs hp hw hS => ?_)
  obtain ⟨rfl, rfl, hV, hF2⟩ := hp
  have hF : ∀ j, (10 ≤ j ∧ j < 30) ∨ 50 ≤ j → ce1 j = ce j := fun j hj => (hF2 j (by omega)).trans (hF j hj)
  obtain ⟨r0, r1, ⟨h0, h1, h2, h3, h4⟩, ht0, ht1, hR0, hR1⟩ := hV
  refine W.eq (g2 := F0 m 9 ls []) rfl ?_
  exact z_vret F hw hS (⟨rfl, rfl, ⟨_, _, ⟨h0, h1, h2, h3, h4⟩, ht0, ht1, hR0, hR1⟩, hF⟩) dX3_rest_9
set_option maxHeartbeats 4000000 in
set_option maxRecDepth 100000 in
theorem c_startReleasing1 (l : Launch) {G : zz_G} {ad : Nat → Nat} {ce : zz_C} {sz : Nat} (T : rf_T) (Q : rf_Q) (hV : clV G ad ce T Q) : zz_M l yX3_startReleasing cX3_startReleasing 1 none 2 45 0 0 G [.ref (ad 2)] ad ce sz (fun r ad1 ce1 => r = none ∧ ad = ad1 ∧ clV G ad ce1 (rf_rel T 1) (rf_put T Q 1 [3, 45]) ∧ (∀ j, (10 ≤ j ∧ j < 30) ∨ 50 ≤ j → ce1 j = ce j)) := by
  refine zz_enter (by decide) (Nat.le_of_ble_eq_true rfl) ?_
  intro p e s m below meth c ls F hl hw hS hA
  obtain ⟨hx, hb, hr, hml, hown, hts, hlocks, hK, hnm⟩ := id F
  have hl : lv_has ls 1 [(0, .ref (ad 2))] := hl
  obtain ⟨r0, r1, ⟨h0, h1, h2, h3, h4⟩, ht0, ht1, hR0, hR1⟩ := hV
  have hF : ∀ j, (10 ≤ j ∧ j < 30) ∨ 50 ≤ j → ce j = ce j := fun _ _ => rfl
  refine lv_aload_n hx hb dX3_startReleasing_0 rfl (lv_at hl 0 rfl) ?_
  refine z_get F hw h2 fd_X3_12_X2 rfl dX3_startReleasing_1 ?_
  refine lv_iconst (v := 3) hx hb dX3_startReleasing_4 (by decide) ?_
  refine lv_bipush (v := 45) hx hb dX3_startReleasing_5 (by decide) ?_
  obtain ⟨vs9, ho9⟩ := hR1.obj
  refine z_invV F (rest := []) (c_send l 30 _ _ hR1 3 45 (by decide) (by decide)) yv_X3_62 ⟨Nat.le_of_ble_eq_true rfl, Nat.le_of_ble_eq_true rfl⟩ hw hA hS hl ho9 rfl rfl rfl (Nat.le_of_ble_eq_true rfl) dX3_startReleasing_7 ⟨Nat.le_of_ble_eq_true rfl, Nat.le_of_ble_eq_true rfl⟩ (fun r ad1 ce1 H locs hp hw hS => ?_)
  obtain ⟨rfl, ⟨h9, rfl, hp9⟩, hF2⟩ := hp
  have h0 := (hF2 0 (by decide)).trans h0
  have h1 := (hF2 1 (by decide)).trans h1
  have h2 := (hF2 2 (by decide)).trans h2
  have h3 := (hF2 3 (by decide)).trans h3
  have h4 := (hF2 4 (by decide)).trans h4
  have hR0 := hR0.kept (fun j h1 h2 => hF2 j (by omega))
  have hF : ∀ j, (10 ≤ j ∧ j < 30) ∨ 50 ≤ j → ce1 j = ce j := fun j hj => (hF2 j (by omega)).trans (hF j hj)
  have hR1 : cl_r G ad ce1 30 ((rf_put T Q 1 ([3, 45])) 1) (cl_op T) := cl_put (x := [3, 45]) hp9.end
  have hR0 : cl_r G ad ce1 10 ((rf_put T Q 1 ([3, 45])) 0) (cl_op T) := by rw [cl_putn _ _ _ (by decide)]; exact hR0
  refine W.eq (g2 := F0 m 10 ls [.ref (ad h9)]) rfl ?_
  refine lv_pop hx hb dX3_startReleasing_10 rfl ?_
  refine lv_aload_n hx hb dX3_startReleasing_11 rfl (lv_at hl 0 rfl) ?_
  refine lv_bipush (v := 6) hx hb dX3_startReleasing_12 (by decide) ?_
  refine lv_bipush (v := 30) hx hb dX3_startReleasing_14 (by decide) ?_
  have hV : clV G ad ce1 T (rf_put T Q 1 ([3, 45])) := ⟨_, _, ⟨h0, h1, h2, h3, h4⟩, ht0, ht1, hR0, hR1⟩
  refine z_invU F (rest := []) (c_setCall1 l T (rf_put T Q 1 ([3, 45])) hV 6 30) yu_X3_70_X2 ⟨Nat.le_of_ble_eq_true rfl, Nat.le_of_ble_eq_true rfl⟩ hw hA hS hl h2 rfl rfl rfl (Nat.le_of_ble_eq_true rfl) dX3_startReleasing_16 ⟨Nat.le_of_ble_eq_true rfl, Nat.le_of_ble_eq_true rfl⟩ (fun r ad1 ce2 H locs hp hw hS => ?_)
  obtain ⟨rfl, rfl, hV, hF2⟩ := hp
  have hF : ∀ j, (10 ≤ j ∧ j < 30) ∨ 50 ≤ j → ce2 j = ce j := fun j hj => (hF2 j (by omega)).trans (hF j hj)
  obtain ⟨r0, r1, ⟨h0, h1, h2, h3, h4⟩, ht0, ht1, hR0, hR1⟩ := hV
  refine W.eq (g2 := F0 m 19 ls []) rfl ?_
  exact z_vret F hw hS (⟨rfl, rfl, ⟨_, _, ⟨h0, h1, h2, h3, h4⟩, ht0, ht1, hR0, hR1⟩, hF⟩) dX3_startReleasing_19
def cp_startEnding0 (T : rf_T) (Q : rf_Q) (v : Int32) : rf_R := (if rf_inC T 0 1 4 then (1, (rf_become T 0 (T 1 0) 5 30), rf_put T Q 0 ([3, 37, 8, 1] ++ rf_bytes 1 v)) else (0, T, Q))
theorem cp_startEnding0_b (T : rf_T) (Q : rf_Q) (v : Int32) : (cp_startEnding0 T Q v).1 = 0 ∨ (cp_startEnding0 T Q v).1 = 1 := by unfold cp_startEnding0; (repeat' split) <;> first | exact Or.inl rfl | exact Or.inr rfl
set_option maxHeartbeats 4000000 in
set_option maxRecDepth 100000 in
theorem c_startEnding0 (l : Launch) {G : zz_G} {ad : Nat → Nat} {ce : zz_C} {sz : Nat} (T : rf_T) (Q : rf_Q) (hV : clV G ad ce T Q) (v : Int32) : zz_M l yX3_startEnding cX3_startEnding 2 (some .boolean) 2 45 0 0 G [.ref (ad 1), .int v] ad ce sz (fun r ad1 ce1 => r = some (.int (cp_startEnding0 T Q v).1) ∧ ad = ad1 ∧ clV G ad ce1 (cp_startEnding0 T Q v).2.1 (cp_startEnding0 T Q v).2.2 ∧ (∀ j, 30 ≤ j → ce1 j = ce j)) := by
  refine zz_enter (by decide) (Nat.le_of_ble_eq_true rfl) ?_
  intro p e s m below meth c ls F hl hw hS hA
  obtain ⟨hx, hb, hr, hml, hown, hts, hlocks, hK, hnm⟩ := id F
  have hl : lv_has ls 2 [(0, .ref (ad 1)), (1, .int v)] := hl
  obtain ⟨r0, r1, ⟨h0, h1, h2, h3, h4⟩, ht0, ht1, hR0, hR1⟩ := hV
  have hF : ∀ j, 30 ≤ j → ce j = ce j := fun _ _ => rfl
  refine lv_aload_n hx hb dX3_startEnding_0 rfl (lv_at hl 0 rfl) ?_
  refine lv_iconst (v := 1) hx hb dX3_startEnding_1 (by decide) ?_
  refine lv_iconst (v := 4) hx hb dX3_startEnding_2 (by decide) ?_
  have hV : clV G ad ce T Q := ⟨_, _, ⟨h0, h1, h2, h3, h4⟩, ht0, ht1, hR0, hR1⟩
  refine z_invU F (rest := []) (c_hasCall0 l T Q hV 1 4) yu_X3_58_X1 ⟨Nat.le_of_ble_eq_true rfl, Nat.le_of_ble_eq_true rfl⟩ hw hA hS hl h1 rfl rfl rfl (Nat.le_of_ble_eq_true rfl) dX3_startEnding_3 ⟨Nat.le_of_ble_eq_true rfl, Nat.le_of_ble_eq_true rfl⟩ (fun r ad1 ce1 H locs hp hw hS => ?_)
  obtain ⟨hp, rfl, rfl⟩ := hp
  rcases hp with ⟨hc, rfl⟩ | ⟨hc, rfl⟩
  · refine W.eq (g2 := F0 m 6 ls [.int 1]) rfl ?_
    refine lv_if_ne (tgt := 11) hx hb dX3_startEnding_6 (by decide) (fun c6 => ?_) (fun c6 => absurd c6 (by decide))
    refine lv_aload_n hx hb dX3_startEnding_11 rfl (lv_at hl 0 rfl) ?_
    refine z_get F hw h1 fd_X3_12_X1 rfl dX3_startEnding_12 ?_
    refine lv_iconst (v := 3) hx hb dX3_startEnding_15 (by decide) ?_
    refine lv_bipush (v := 37) hx hb dX3_startEnding_16 (by decide) ?_
    obtain ⟨vs9, ho9⟩ := hR0.obj
    refine z_invV F (rest := []) (c_send l 10 _ _ hR0 3 37 (by decide) (by decide)) yv_X3_62 ⟨Nat.le_of_ble_eq_true rfl, Nat.le_of_ble_eq_true rfl⟩ hw hA hS hl ho9 rfl rfl rfl (Nat.le_of_ble_eq_true rfl) dX3_startEnding_18 ⟨Nat.le_of_ble_eq_true rfl, Nat.le_of_ble_eq_true rfl⟩ (fun r ad1 ce2 H locs hp hw hS => ?_)
    obtain ⟨rfl, ⟨h9, rfl, hp9⟩, hF2⟩ := hp
    have h0 := (hF2 0 (by decide)).trans h0
    have h1 := (hF2 1 (by decide)).trans h1
    have h2 := (hF2 2 (by decide)).trans h2
    have h3 := (hF2 3 (by decide)).trans h3
    have h4 := (hF2 4 (by decide)).trans h4
    have hR1 := hR1.kept (fun j h1 h2 => hF2 j (by omega))
    have hF : ∀ j, 30 ≤ j → ce2 j = ce j := fun j hj => (hF2 j (by omega)).trans (hF j hj)
    have hR0 : cl_r G ad ce2 10 ((rf_put T Q 0 ([3, 37])) 0) (cl_op T) := cl_put (x := [3, 37]) hp9.end
    have hR1 : cl_r G ad ce2 30 ((rf_put T Q 0 ([3, 37])) 1) (cl_op T) := by rw [cl_putn _ _ _ (by decide)]; exact hR1
    refine W.eq (g2 := F0 m 21 ls [.ref (ad h9)]) rfl ?_
    refine lv_bipush (v := 8) hx hb dX3_startEnding_21 (by decide) ?_
    refine lv_iconst (v := 1) hx hb dX3_startEnding_23 (by decide) ?_
    refine lv_iload_n hx hb dX3_startEnding_24 rfl (lv_at hl 1 rfl) ?_
    have hm9 := hp9.m
    refine z_invV F (rest := []) (c_addNumber1 l h9 [3, 37] hm9 rfl 8 (by decide) v) yv_X3_66 ⟨Nat.le_of_ble_eq_true rfl, Nat.le_of_ble_eq_true rfl⟩ hw hA hS hl hm9.obj rfl rfl rfl (Nat.le_of_ble_eq_true rfl) dX3_startEnding_25 ⟨Nat.le_of_ble_eq_true rfl, Nat.le_of_ble_eq_true rfl⟩ (fun r ad1 ce3 H locs hp hw hS => ?_)
    obtain ⟨rfl, rfl, hm9, hF2⟩ := hp
    have hat9 := hp9.at
    have h0 := (hF2 0 (by omega) (by omega)).trans h0
    have h1 := (hF2 1 (by omega) (by omega)).trans h1
    have h2 := (hF2 2 (by omega) (by omega)).trans h2
    have h3 := (hF2 3 (by omega) (by omega)).trans h3
    have h4 := (hF2 4 (by omega) (by omega)).trans h4
    have hR1 : cl_r G ad ce3 30 (Q 1) (cl_op T) := by rw [cl_putn _ _ _ (by decide)] at hR1; exact hR1.kept (fun j h1 h2 => hF2 j (by omega) (by omega))
    have hF : ∀ j, 30 ≤ j → ce3 j = ce j := fun j hj => (hF2 j (by omega) (by omega)).trans (hF j hj)
    have hp9 := hp9.step hF2 hm9 (by simp)
    rw [cl_apx] at hp9
    have hR0 : cl_r G ad ce3 10 ((rf_put T Q 0 ([3, 37, 8, 1] ++ rf_bytes 1 v)) 0) (cl_op T) := cl_put (x := [3, 37, 8, 1] ++ rf_bytes 1 v) hp9.end
    have hR1 : cl_r G ad ce3 30 ((rf_put T Q 0 ([3, 37, 8, 1] ++ rf_bytes 1 v)) 1) (cl_op T) := by rw [cl_putn _ _ _ (by decide)]; exact hR1
    refine W.eq (g2 := F0 m 28 ls []) rfl ?_
    refine lv_aload_n hx hb dX3_startEnding_28 rfl (lv_at hl 0 rfl) ?_
    refine lv_iconst (v := 5) hx hb dX3_startEnding_29 (by decide) ?_
    refine lv_bipush (v := 30) hx hb dX3_startEnding_30 (by decide) ?_
    have hV : clV G ad ce3 T (rf_put T Q 0 ([3, 37, 8, 1] ++ rf_bytes 1 v)) := ⟨_, _, ⟨h0, h1, h2, h3, h4⟩, ht0, ht1, hR0, hR1⟩
    refine z_invU F (rest := []) (c_setCall0 l T (rf_put T Q 0 ([3, 37, 8, 1] ++ rf_bytes 1 v)) hV 5 30) yu_X3_70_X1 ⟨Nat.le_of_ble_eq_true rfl, Nat.le_of_ble_eq_true rfl⟩ hw hA hS hl h1 rfl rfl rfl (Nat.le_of_ble_eq_true rfl) dX3_startEnding_32 ⟨Nat.le_of_ble_eq_true rfl, Nat.le_of_ble_eq_true rfl⟩ (fun r ad1 ce4 H locs hp hw hS => ?_)
    obtain ⟨rfl, rfl, hV, hF2⟩ := hp
    have hF : ∀ j, 30 ≤ j → ce4 j = ce j := fun j hj => (hF2 j (by omega)).trans (hF j hj)
    obtain ⟨r0, r1, ⟨h0, h1, h2, h3, h4⟩, ht0, ht1, hR0, hR1⟩ := hV
    refine W.eq (g2 := F0 m 35 ls []) rfl ?_
    refine lv_iconst (v := 1) hx hb dX3_startEnding_35 (by decide) ?_
    exact z_iret F (rfl) hw hS (by unfold cp_startEnding0; rw [if_pos hc]; exact ⟨rfl, rfl, ⟨_, _, ⟨h0, h1, h2, h3, h4⟩, ht0, ht1, hR0, hR1⟩, hF⟩) dX3_startEnding_36
  · refine W.eq (g2 := F0 m 6 ls [.int 0]) rfl ?_
    refine lv_if_ne (tgt := 11) hx hb dX3_startEnding_6 (by decide) (fun c6 => absurd c6 (by decide)) (fun c6 => ?_)
    refine lv_iconst (v := 0) hx hb dX3_startEnding_9 (by decide) ?_
    exact z_iret F (rfl) hw hS (by unfold cp_startEnding0; rw [if_neg hc]; exact ⟨rfl, rfl, ⟨_, _, ⟨h0, h1, h2, h3, h4⟩, ht0, ht1, hR0, hR1⟩, hF⟩) dX3_startEnding_10
def cp_takesEnd0 (T : rf_T) (Q : rf_Q) (M : List Nat) : rf_R := (if rf_inC T 0 1 5 then (if rf_sz M 8 = some 1 then (1, (rf_rel (va_up T 5 (upd (T 5) 0 (rf_val M 8))) 0), rf_put (va_up T 5 (upd (T 5) 0 (rf_val M 8))) Q 0 [3, 45]) else (0, T, Q)) else (0, T, Q))
theorem cp_takesEnd0_b (T : rf_T) (Q : rf_Q) (M : List Nat) : (cp_takesEnd0 T Q M).1 = 0 ∨ (cp_takesEnd0 T Q M).1 = 1 := by unfold cp_takesEnd0; (repeat' split) <;> first | exact Or.inl rfl | exact Or.inr rfl
set_option maxHeartbeats 4000000 in
set_option maxRecDepth 100000 in
theorem c_takesEnd0 (l : Launch) {G : zz_G} {ad : Nat → Nat} {ce : zz_C} {sz : Nat} (T : rf_T) (Q : rf_Q) (hV : clV G ad ce T Q) (h : Nat) (M : List Nat) (hm : cl_m G ad ce h M) (hg : rf_good M) (hM2 : 2 ≤ M.length) (hh : 30 ≤ h ∧ h + 1 < 50) : zz_M l yX3_takesEnd cX3_takesEnd 2 (some .boolean) 3 67 0 0 G [.ref (ad 1), .ref (ad h)] ad ce sz (fun r ad1 ce1 => r = some (.int (cp_takesEnd0 T Q M).1) ∧ ad = ad1 ∧ clV G ad ce1 (cp_takesEnd0 T Q M).2.1 (cp_takesEnd0 T Q M).2.2 ∧ (∀ j, 30 ≤ j → ce1 j = ce j)) := by
  refine zz_enter (by decide) (Nat.le_of_ble_eq_true rfl) ?_
  intro p e s m below meth c ls F hl hw hS hA
  obtain ⟨hx, hb, hr, hml, hown, hts, hlocks, hK, hnm⟩ := id F
  have hl : lv_has ls 2 [(0, .ref (ad 1)), (1, .ref (ad h))] := hl
  obtain ⟨r0, r1, ⟨h0, h1, h2, h3, h4⟩, ht0, ht1, hR0, hR1⟩ := hV
  have hF : ∀ j, 30 ≤ j → ce j = ce j := fun _ _ => rfl
  refine lv_aload_n hx hb dX3_takesEnd_0 rfl (lv_at hl 0 rfl) ?_
  refine lv_iconst (v := 1) hx hb dX3_takesEnd_1 (by decide) ?_
  refine lv_iconst (v := 5) hx hb dX3_takesEnd_2 (by decide) ?_
  have hV : clV G ad ce T Q := ⟨_, _, ⟨h0, h1, h2, h3, h4⟩, ht0, ht1, hR0, hR1⟩
  refine z_invU F (rest := []) (c_hasCall0 l T Q hV 1 5) yu_X3_58_X1 ⟨Nat.le_of_ble_eq_true rfl, Nat.le_of_ble_eq_true rfl⟩ hw hA hS hl h1 rfl rfl rfl (Nat.le_of_ble_eq_true rfl) dX3_takesEnd_3 ⟨Nat.le_of_ble_eq_true rfl, Nat.le_of_ble_eq_true rfl⟩ (fun r ad1 ce1 H locs hp hw hS => ?_)
  obtain ⟨hp, rfl, rfl⟩ := hp
  rcases hp with ⟨hc, rfl⟩ | ⟨hc, rfl⟩
  · refine W.eq (g2 := F0 m 6 ls [.int 1]) rfl ?_
    refine lv_if_eq (tgt := 19) hx hb dX3_takesEnd_6 (by decide) (fun c6 => absurd c6 (by decide)) (fun c6 => ?_)
    refine lv_aload_n hx hb dX3_takesEnd_9 rfl (lv_at hl 1 rfl) ?_
    refine lv_bipush (v := 8) hx hb dX3_takesEnd_10 (by decide) ?_
    refine lv_iconst (v := 1) hx hb dX3_takesEnd_12 (by decide) ?_
    refine z_invV F (rest := []) (c_has l h M hm 8 1 (by decide) (by decide)) yv_X3_77 ⟨Nat.le_of_ble_eq_true rfl, Nat.le_of_ble_eq_true rfl⟩ hw hA hS hl hm.obj rfl rfl rfl (Nat.le_of_ble_eq_true rfl) dX3_takesEnd_13 ⟨Nat.le_of_ble_eq_true rfl, Nat.le_of_ble_eq_true rfl⟩ (fun r ad1 ce2 H locs hp hw hS => ?_)
    obtain ⟨hp, rfl, rfl⟩ := hp
    rcases hp with ⟨hs, rfl⟩ | ⟨hs, rfl⟩
    · refine W.eq (g2 := F0 m 16 ls [.int 1]) rfl ?_
      refine lv_if_ne (tgt := 21) hx hb dX3_takesEnd_16 (by decide) (fun c16 => ?_) (fun c16 => absurd c16 (by decide))
      refine lv_aload_n hx hb dX3_takesEnd_21 rfl (lv_at hl 0 rfl) ?_
      refine lv_aload_n hx hb dX3_takesEnd_22 rfl (lv_at hl 1 rfl) ?_
      refine lv_bipush (v := 8) hx hb dX3_takesEnd_23 (by decide) ?_
      refine lv_iconst (v := 1) hx hb dX3_takesEnd_25 (by decide) ?_
      refine z_invV F (rest := [.ref (ad 1)]) (c_number l h M hm 8 1 (by decide) hg hs) yv_X3_80 ⟨Nat.le_of_ble_eq_true rfl, Nat.le_of_ble_eq_true rfl⟩ hw hA hS hl hm.obj rfl rfl rfl (Nat.le_of_ble_eq_true rfl) dX3_takesEnd_26 ⟨Nat.le_of_ble_eq_true rfl, Nat.le_of_ble_eq_true rfl⟩ (fun r ad1 ce3 H locs hp hw hS => ?_)
      obtain ⟨rfl, rfl, rfl⟩ := hp
      refine W.eq (g2 := F0 m 29 ls [.int (rf_val M 8), .ref (ad 1)]) rfl ?_
      refine z_put F hw hS (fs' := [.ref (ad 10), .int 3, .int (T 1 0), .int (T 2 0), .int (T 3 0), .int (rf_val M 8), .int r0, .int (T 0 0), .int (T 0 6), .ref (ad 3), .int (T 0 9)]) h1 fd_X3_31_X1 ptX1 rfl (rfl) (rfl) (Nat.le_of_ble_eq_true rfl) rfl dX3_takesEnd_29 (fun ce4 H locs h1 fr5 hw hS => ?_)
      have h0 := (fr5 0 (by decide)).trans h0
      have h2 := (fr5 2 (by decide)).trans h2
      have h3 := (fr5 3 (by decide)).trans h3
      have h4 := (fr5 4 (by decide)).trans h4
      have hR0 := hR0.kept (fun j h1 h2 => fr5 j (by omega))
      have hR1 := hR1.kept (fun j h1 h2 => fr5 j (by omega))
      have hF : ∀ j, 30 ≤ j → _ = ce j := fun j hj => (fr5 j (by omega)).trans (hF j hj)
      have hm := hm.kept (fr5 h (by omega)) (fr5 (h + 1) (by omega))
      refine lv_aload_n hx hb dX3_takesEnd_32 rfl (lv_at hl 0 rfl) ?_
      have hV : clV G ad ce4 (va_up T 5 (upd (T 5) 0 (rf_val M 8))) Q := ⟨_, _, ⟨h0, h1, h2, h3, h4⟩, ht0, ht1, hR0, hR1⟩
      refine z_invU F (rest := []) (c_startReleasing0 l (va_up T 5 (upd (T 5) 0 (rf_val M 8))) Q hV) yu_X3_84_X1 ⟨Nat.le_of_ble_eq_true rfl, Nat.le_of_ble_eq_true rfl⟩ hw hA hS hl h1 rfl rfl rfl (Nat.le_of_ble_eq_true rfl) dX3_takesEnd_33 ⟨Nat.le_of_ble_eq_true rfl, Nat.le_of_ble_eq_true rfl⟩ (fun r ad1 ce6 H locs hp hw hS => ?_)
      obtain ⟨rfl, rfl, hV, hF2⟩ := hp
      have hF : ∀ j, 30 ≤ j → ce6 j = ce j := fun j hj => (hF2 j (by omega)).trans (hF j hj)
      have hm := hm.kept (hF2 h (by omega)) (hF2 (h + 1) (by omega))
      obtain ⟨r0, r1, ⟨h0, h1, h2, h3, h4⟩, ht0, ht1, hR0, hR1⟩ := hV
      refine W.eq (g2 := F0 m 36 ls []) rfl ?_
      refine lv_iconst (v := 1) hx hb dX3_takesEnd_36 (by decide) ?_
      exact z_iret F (rfl) hw hS (by unfold cp_takesEnd0; rw [if_pos hc, if_pos hs]; exact ⟨rfl, rfl, ⟨_, _, ⟨h0, h1, h2, h3, h4⟩, ht0, ht1, hR0, hR1⟩, hF⟩) dX3_takesEnd_37
    · refine W.eq (g2 := F0 m 16 ls [.int 0]) rfl ?_
      refine lv_if_ne (tgt := 21) hx hb dX3_takesEnd_16 (by decide) (fun c16 => absurd c16 (by decide)) (fun c16 => ?_)
      refine lv_iconst (v := 0) hx hb dX3_takesEnd_19 (by decide) ?_
      exact z_iret F (rfl) hw hS (by unfold cp_takesEnd0; rw [if_pos hc, if_neg hs]; exact ⟨rfl, rfl, ⟨_, _, ⟨h0, h1, h2, h3, h4⟩, ht0, ht1, hR0, hR1⟩, hF⟩) dX3_takesEnd_20
  · refine W.eq (g2 := F0 m 6 ls [.int 0]) rfl ?_
    refine lv_if_eq (tgt := 19) hx hb dX3_takesEnd_6 (by decide) (fun c6 => ?_) (fun c6 => absurd c6 (by decide))
    refine lv_iconst (v := 0) hx hb dX3_takesEnd_19 (by decide) ?_
    exact z_iret F (rfl) hw hS (by unfold cp_takesEnd0; rw [if_neg hc]; exact ⟨rfl, rfl, ⟨_, _, ⟨h0, h1, h2, h3, h4⟩, ht0, ht1, hR0, hR1⟩, hF⟩) dX3_takesEnd_20
def cp_takesRelease0 (T : rf_T) (Q : rf_Q) : rf_R := (1, (rf_become T 0 3 0 0), rf_put T Q 0 ([3, 42]))
theorem cp_takesRelease0_b (T : rf_T) (Q : rf_Q) : (cp_takesRelease0 T Q).1 = 0 ∨ (cp_takesRelease0 T Q).1 = 1 := by unfold cp_takesRelease0; (repeat' split) <;> first | exact Or.inl rfl | exact Or.inr rfl
set_option maxHeartbeats 4000000 in
set_option maxRecDepth 100000 in
theorem c_takesRelease0 (l : Launch) {G : zz_G} {ad : Nat → Nat} {ce : zz_C} {sz : Nat} (T : rf_T) (Q : rf_Q) (hV : clV G ad ce T Q) : zz_M l yX3_takesRelease cX3_takesRelease 1 (some .boolean) 2 45 0 0 G [.ref (ad 1)] ad ce sz (fun r ad1 ce1 => r = some (.int (cp_takesRelease0 T Q).1) ∧ ad = ad1 ∧ clV G ad ce1 (cp_takesRelease0 T Q).2.1 (cp_takesRelease0 T Q).2.2 ∧ (∀ j, 30 ≤ j → ce1 j = ce j)) := by
  refine zz_enter (by decide) (Nat.le_of_ble_eq_true rfl) ?_
  intro p e s m below meth c ls F hl hw hS hA
  obtain ⟨hx, hb, hr, hml, hown, hts, hlocks, hK, hnm⟩ := id F
  have hl : lv_has ls 1 [(0, .ref (ad 1))] := hl
  obtain ⟨r0, r1, ⟨h0, h1, h2, h3, h4⟩, ht0, ht1, hR0, hR1⟩ := hV
  have hF : ∀ j, 30 ≤ j → ce j = ce j := fun _ _ => rfl
  refine lv_aload_n hx hb dX3_takesRelease_0 rfl (lv_at hl 0 rfl) ?_
  refine z_get F hw h1 fd_X3_12_X1 rfl dX3_takesRelease_1 ?_
  refine lv_iconst (v := 3) hx hb dX3_takesRelease_4 (by decide) ?_
  refine lv_bipush (v := 42) hx hb dX3_takesRelease_5 (by decide) ?_
  obtain ⟨vs9, ho9⟩ := hR0.obj
  refine z_invV F (rest := []) (c_send l 10 _ _ hR0 3 42 (by decide) (by decide)) yv_X3_62 ⟨Nat.le_of_ble_eq_true rfl, Nat.le_of_ble_eq_true rfl⟩ hw hA hS hl ho9 rfl rfl rfl (Nat.le_of_ble_eq_true rfl) dX3_takesRelease_7 ⟨Nat.le_of_ble_eq_true rfl, Nat.le_of_ble_eq_true rfl⟩ (fun r ad1 ce1 H locs hp hw hS => ?_)
  obtain ⟨rfl, ⟨h9, rfl, hp9⟩, hF2⟩ := hp
  have h0 := (hF2 0 (by decide)).trans h0
  have h1 := (hF2 1 (by decide)).trans h1
  have h2 := (hF2 2 (by decide)).trans h2
  have h3 := (hF2 3 (by decide)).trans h3
  have h4 := (hF2 4 (by decide)).trans h4
  have hR1 := hR1.kept (fun j h1 h2 => hF2 j (by omega))
  have hF : ∀ j, 30 ≤ j → ce1 j = ce j := fun j hj => (hF2 j (by omega)).trans (hF j hj)
  have hR0 : cl_r G ad ce1 10 ((rf_put T Q 0 ([3, 42])) 0) (cl_op T) := cl_put (x := [3, 42]) hp9.end
  have hR1 : cl_r G ad ce1 30 ((rf_put T Q 0 ([3, 42])) 1) (cl_op T) := by rw [cl_putn _ _ _ (by decide)]; exact hR1
  refine W.eq (g2 := F0 m 10 ls [.ref (ad h9)]) rfl ?_
  refine lv_pop hx hb dX3_takesRelease_10 rfl ?_
  refine lv_aload_n hx hb dX3_takesRelease_11 rfl (lv_at hl 0 rfl) ?_
  have hV : clV G ad ce1 T (rf_put T Q 0 ([3, 42])) := ⟨_, _, ⟨h0, h1, h2, h3, h4⟩, ht0, ht1, hR0, hR1⟩
  refine z_invU F (rest := []) (c_rest0 l T (rf_put T Q 0 ([3, 42])) hV) yu_X3_87_X1 ⟨Nat.le_of_ble_eq_true rfl, Nat.le_of_ble_eq_true rfl⟩ hw hA hS hl h1 rfl rfl rfl (Nat.le_of_ble_eq_true rfl) dX3_takesRelease_12 ⟨Nat.le_of_ble_eq_true rfl, Nat.le_of_ble_eq_true rfl⟩ (fun r ad1 ce2 H locs hp hw hS => ?_)
  obtain ⟨rfl, rfl, hV, hF2⟩ := hp
  have hF : ∀ j, 30 ≤ j → ce2 j = ce j := fun j hj => (hF2 j (by omega)).trans (hF j hj)
  obtain ⟨r0, r1, ⟨h0, h1, h2, h3, h4⟩, ht0, ht1, hR0, hR1⟩ := hV
  refine W.eq (g2 := F0 m 15 ls []) rfl ?_
  refine lv_iconst (v := 1) hx hb dX3_takesRelease_15 (by decide) ?_
  exact z_iret F (rfl) hw hS (by unfold cp_takesRelease0; exact ⟨rfl, rfl, ⟨_, _, ⟨h0, h1, h2, h3, h4⟩, ht0, ht1, hR0, hR1⟩, hF⟩) dX3_takesRelease_16
def cp_takesReleased0 (T : rf_T) (Q : rf_Q) : rf_R := (1, (rf_become T 0 3 0 0), Q)
theorem cp_takesReleased0_b (T : rf_T) (Q : rf_Q) : (cp_takesReleased0 T Q).1 = 0 ∨ (cp_takesReleased0 T Q).1 = 1 := by unfold cp_takesReleased0; (repeat' split) <;> first | exact Or.inl rfl | exact Or.inr rfl
set_option maxHeartbeats 4000000 in
set_option maxRecDepth 100000 in
theorem c_takesReleased0 (l : Launch) {G : zz_G} {ad : Nat → Nat} {ce : zz_C} {sz : Nat} (T : rf_T) (Q : rf_Q) (hV : clV G ad ce T Q) : zz_M l yX3_takesReleased cX3_takesReleased 1 (some .boolean) 2 42 0 0 G [.ref (ad 1)] ad ce sz (fun r ad1 ce1 => r = some (.int (cp_takesReleased0 T Q).1) ∧ ad = ad1 ∧ clV G ad ce1 (cp_takesReleased0 T Q).2.1 (cp_takesReleased0 T Q).2.2 ∧ (∀ j, 30 ≤ j → ce1 j = ce j)) := by
  refine zz_enter (by decide) (Nat.le_of_ble_eq_true rfl) ?_
  intro p e s m below meth c ls F hl hw hS hA
  obtain ⟨hx, hb, hr, hml, hown, hts, hlocks, hK, hnm⟩ := id F
  have hl : lv_has ls 1 [(0, .ref (ad 1))] := hl
  obtain ⟨r0, r1, ⟨h0, h1, h2, h3, h4⟩, ht0, ht1, hR0, hR1⟩ := hV
  have hF : ∀ j, 30 ≤ j → ce j = ce j := fun _ _ => rfl
  refine lv_aload_n hx hb dX3_takesReleased_0 rfl (lv_at hl 0 rfl) ?_
  have hV : clV G ad ce T Q := ⟨_, _, ⟨h0, h1, h2, h3, h4⟩, ht0, ht1, hR0, hR1⟩
  refine z_invU F (rest := []) (c_rest0 l T Q hV) yu_X3_87_X1 ⟨Nat.le_of_ble_eq_true rfl, Nat.le_of_ble_eq_true rfl⟩ hw hA hS hl h1 rfl rfl rfl (Nat.le_of_ble_eq_true rfl) dX3_takesReleased_1 ⟨Nat.le_of_ble_eq_true rfl, Nat.le_of_ble_eq_true rfl⟩ (fun r ad1 ce1 H locs hp hw hS => ?_)
  obtain ⟨rfl, rfl, hV, hF2⟩ := hp
  have hF : ∀ j, 30 ≤ j → ce1 j = ce j := fun j hj => (hF2 j (by omega)).trans (hF j hj)
  obtain ⟨r0, r1, ⟨h0, h1, h2, h3, h4⟩, ht0, ht1, hR0, hR1⟩ := hV
  refine W.eq (g2 := F0 m 4 ls []) rfl ?_
  refine lv_iconst (v := 1) hx hb dX3_takesReleased_4 (by decide) ?_
  exact z_iret F (rfl) hw hS (by unfold cp_takesReleased0; exact ⟨rfl, rfl, ⟨_, _, ⟨h0, h1, h2, h3, h4⟩, ht0, ht1, hR0, hR1⟩, hF⟩) dX3_takesReleased_5
def cp_timeOutClearing0 (T : rf_T) (Q : rf_Q) : rf_R := (if ((T 2 0) : Int32) = 5 then (0, (rf_rel T 0), rf_put T Q 0 [3, 45]) else (if ((T 2 0) : Int32) = 6 then (if ((T 4 0) : Int32) = 0 then (0, va_up (rf_rel T 0) 4 (upd ((rf_rel T 0) 4) 0 1), rf_put T Q 0 [3, 45]) else (0, (rf_become T 0 3 0 0), Q)) else (0, (rf_become T 0 3 0 0), Q)))
set_option maxHeartbeats 4000000 in
set_option maxRecDepth 100000 in
theorem c_timeOutClearing0 (l : Launch) {G : zz_G} {ad : Nat → Nat} {ce : zz_C} {sz : Nat} (T : rf_T) (Q : rf_Q) (hV : clV G ad ce T Q) : zz_M l yX3_timeOutClearing cX3_timeOutClearing 1 none 3 65 0 0 G [.ref (ad 1)] ad ce sz (fun r ad1 ce1 => r = none ∧ ad = ad1 ∧ clV G ad ce1 (cp_timeOutClearing0 T Q).2.1 (cp_timeOutClearing0 T Q).2.2 ∧ (∀ j, 30 ≤ j → ce1 j = ce j)) := by
  refine zz_enter (by decide) (Nat.le_of_ble_eq_true rfl) ?_
  intro p e s m below meth c ls F hl hw hS hA
  obtain ⟨hx, hb, hr, hml, hown, hts, hlocks, hK, hnm⟩ := id F
  have hl : lv_has ls 1 [(0, .ref (ad 1))] := hl
  obtain ⟨r0, r1, ⟨h0, h1, h2, h3, h4⟩, ht0, ht1, hR0, hR1⟩ := hV
  have hF : ∀ j, 30 ≤ j → ce j = ce j := fun _ _ => rfl
  refine lv_aload_n hx hb dX3_timeOutClearing_0 rfl (lv_at hl 0 rfl) ?_
  refine z_get F hw h1 fd_X3_25_X1 rfl dX3_timeOutClearing_1 ?_
  refine lv_iconst (v := 5) hx hb dX3_timeOutClearing_4 (by decide) ?_
  refine lv_icmp_ne (tgt := 15) hx hb dX3_timeOutClearing_5 (by decide) (fun c5 => ?_) (fun c5 => ?_)
  · refine lv_aload_n hx hb dX3_timeOutClearing_15 rfl (lv_at hl 0 rfl) ?_
    refine z_get F hw h1 fd_X3_25_X1 rfl dX3_timeOutClearing_16 ?_
    refine lv_bipush (v := 6) hx hb dX3_timeOutClearing_19 (by decide) ?_
    refine lv_icmp_ne (tgt := 43) hx hb dX3_timeOutClearing_21 (by decide) (fun c21 => ?_) (fun c21 => ?_)
    · refine lv_aload_n hx hb dX3_timeOutClearing_43 rfl (lv_at hl 0 rfl) ?_
      have hV : clV G ad ce T Q := ⟨_, _, ⟨h0, h1, h2, h3, h4⟩, ht0, ht1, hR0, hR1⟩
      refine z_invU F (rest := []) (c_rest0 l T Q hV) yu_X3_87_X1 ⟨Nat.le_of_ble_eq_true rfl, Nat.le_of_ble_eq_true rfl⟩ hw hA hS hl h1 rfl rfl rfl (Nat.le_of_ble_eq_true rfl) dX3_timeOutClearing_44 ⟨Nat.le_of_ble_eq_true rfl, Nat.le_of_ble_eq_true rfl⟩ (fun r ad1 ce1 H locs hp hw hS => ?_)
      obtain ⟨rfl, rfl, hV, hF2⟩ := hp
      have hF : ∀ j, 30 ≤ j → ce1 j = ce j := fun j hj => (hF2 j (by omega)).trans (hF j hj)
      obtain ⟨r0, r1, ⟨h0, h1, h2, h3, h4⟩, ht0, ht1, hR0, hR1⟩ := hV
      refine W.eq (g2 := F0 m 47 ls []) rfl ?_
      exact z_vret F hw hS (by unfold cp_timeOutClearing0; rw [if_neg c5, if_neg c21]; exact ⟨rfl, rfl, ⟨_, _, ⟨h0, h1, h2, h3, h4⟩, ht0, ht1, hR0, hR1⟩, hF⟩) dX3_timeOutClearing_47
    · refine lv_aload_n hx hb dX3_timeOutClearing_24 rfl (lv_at hl 0 rfl) ?_
      refine z_get F hw h1 fd_X3_34_X1 rfl dX3_timeOutClearing_25 ?_
      refine z_top (T 4 0) (ht0.2 c21) ?_
      refine lv_if_ne (tgt := 43) hx hb dX3_timeOutClearing_28 (by decide) (fun c28 => ?_) (fun c28 => ?_)
      · refine lv_aload_n hx hb dX3_timeOutClearing_43 rfl (lv_at hl 0 rfl) ?_
        have hV : clV G ad ce T Q := ⟨_, _, ⟨h0, h1, h2, h3, h4⟩, ht0, ht1, hR0, hR1⟩
        refine z_invU F (rest := []) (c_rest0 l T Q hV) yu_X3_87_X1 ⟨Nat.le_of_ble_eq_true rfl, Nat.le_of_ble_eq_true rfl⟩ hw hA hS hl h1 rfl rfl rfl (Nat.le_of_ble_eq_true rfl) dX3_timeOutClearing_44 ⟨Nat.le_of_ble_eq_true rfl, Nat.le_of_ble_eq_true rfl⟩ (fun r ad1 ce2 H locs hp hw hS => ?_)
        obtain ⟨rfl, rfl, hV, hF2⟩ := hp
        have hF : ∀ j, 30 ≤ j → ce2 j = ce j := fun j hj => (hF2 j (by omega)).trans (hF j hj)
        obtain ⟨r0, r1, ⟨h0, h1, h2, h3, h4⟩, ht0, ht1, hR0, hR1⟩ := hV
        refine W.eq (g2 := F0 m 47 ls []) rfl ?_
        exact z_vret F hw hS (by unfold cp_timeOutClearing0; rw [if_neg c5, if_pos c21, if_neg c28]; exact ⟨rfl, rfl, ⟨_, _, ⟨h0, h1, h2, h3, h4⟩, ht0, ht1, hR0, hR1⟩, hF⟩) dX3_timeOutClearing_47
      · refine lv_aload_n hx hb dX3_timeOutClearing_31 rfl (lv_at hl 0 rfl) ?_
        have hV : clV G ad ce T Q := ⟨_, _, ⟨h0, h1, h2, h3, h4⟩, ht0, ht1, hR0, hR1⟩
        refine z_invU F (rest := []) (c_startReleasing0 l T Q hV) yu_X3_84_X1 ⟨Nat.le_of_ble_eq_true rfl, Nat.le_of_ble_eq_true rfl⟩ hw hA hS hl h1 rfl rfl rfl (Nat.le_of_ble_eq_true rfl) dX3_timeOutClearing_32 ⟨Nat.le_of_ble_eq_true rfl, Nat.le_of_ble_eq_true rfl⟩ (fun r ad1 ce3 H locs hp hw hS => ?_)
        obtain ⟨rfl, rfl, hV, hF2⟩ := hp
        have hF : ∀ j, 30 ≤ j → ce3 j = ce j := fun j hj => (hF2 j (by omega)).trans (hF j hj)
        obtain ⟨r0, r1, ⟨h0, h1, h2, h3, h4⟩, ht0, ht1, hR0, hR1⟩ := hV
        refine W.eq (g2 := F0 m 35 ls []) rfl ?_
        refine lv_aload_n hx hb dX3_timeOutClearing_35 rfl (lv_at hl 0 rfl) ?_
        refine lv_iconst (v := 1) hx hb dX3_timeOutClearing_36 (by decide) ?_
        refine z_put F hw hS (fs' := [.ref (ad 10), .int 3, .int ((rf_rel T 0) 1 0), .int ((rf_rel T 0) 2 0), .int ((rf_rel T 0) 3 0), .int ((rf_rel T 0) 5 0), .int 1, .int ((rf_rel T 0) 0 0), .int ((rf_rel T 0) 0 6), .ref (ad 3), .int ((rf_rel T 0) 0 9)]) h1 fd_X3_34_X1 ptX1 rfl (rfl) (rfl) (Nat.le_of_ble_eq_true rfl) rfl dX3_timeOutClearing_37 (fun ce4 H locs h1 fr5 hw hS => ?_)
        have h0 := (fr5 0 (by decide)).trans h0
        have h2 := (fr5 2 (by decide)).trans h2
        have h3 := (fr5 3 (by decide)).trans h3
        have h4 := (fr5 4 (by decide)).trans h4
        have hR0 := hR0.kept (fun j h1 h2 => fr5 j (by omega))
        have hR1 := hR1.kept (fun j h1 h2 => fr5 j (by omega))
        have hF : ∀ j, 30 ≤ j → _ = ce j := fun j hj => (fr5 j (by omega)).trans (hF j hj)
        refine lv_goto (tgt := 47) hx hb dX3_timeOutClearing_40 (by decide) ?_
        exact z_vret F hw hS (by unfold cp_timeOutClearing0; rw [if_neg c5, if_pos c21, if_pos c28]; exact ⟨rfl, rfl, ⟨_, _, ⟨h0, h1, h2, h3, h4⟩, ⟨Or.inr rfl, fun _ => rfl⟩, ht1, hR0, hR1⟩, hF⟩) dX3_timeOutClearing_47
  · refine lv_aload_n hx hb dX3_timeOutClearing_8 rfl (lv_at hl 0 rfl) ?_
    have hV : clV G ad ce T Q := ⟨_, _, ⟨h0, h1, h2, h3, h4⟩, ht0, ht1, hR0, hR1⟩
    refine z_invU F (rest := []) (c_startReleasing0 l T Q hV) yu_X3_84_X1 ⟨Nat.le_of_ble_eq_true rfl, Nat.le_of_ble_eq_true rfl⟩ hw hA hS hl h1 rfl rfl rfl (Nat.le_of_ble_eq_true rfl) dX3_timeOutClearing_9 ⟨Nat.le_of_ble_eq_true rfl, Nat.le_of_ble_eq_true rfl⟩ (fun r ad1 ce6 H locs hp hw hS => ?_)
    obtain ⟨rfl, rfl, hV, hF2⟩ := hp
    have hF : ∀ j, 30 ≤ j → ce6 j = ce j := fun j hj => (hF2 j (by omega)).trans (hF j hj)
    obtain ⟨r0, r1, ⟨h0, h1, h2, h3, h4⟩, ht0, ht1, hR0, hR1⟩ := hV
    refine W.eq (g2 := F0 m 12 ls []) rfl ?_
    refine lv_goto (tgt := 47) hx hb dX3_timeOutClearing_12 (by decide) ?_
    exact z_vret F hw hS (by unfold cp_timeOutClearing0; rw [if_pos c5]; exact ⟨rfl, rfl, ⟨_, _, ⟨h0, h1, h2, h3, h4⟩, ht0, ht1, hR0, hR1⟩, hF⟩) dX3_timeOutClearing_47
def cp_startEnding1 (T : rf_T) (Q : rf_Q) (v : Int32) : rf_R := (if rf_inC T 1 1 4 then (1, (rf_become T 1 (T 1 1) 5 30), rf_put T Q 1 ([3, 37, 8, 1] ++ rf_bytes 1 v)) else (0, T, Q))
theorem cp_startEnding1_b (T : rf_T) (Q : rf_Q) (v : Int32) : (cp_startEnding1 T Q v).1 = 0 ∨ (cp_startEnding1 T Q v).1 = 1 := by unfold cp_startEnding1; (repeat' split) <;> first | exact Or.inl rfl | exact Or.inr rfl
set_option maxHeartbeats 4000000 in
set_option maxRecDepth 100000 in
theorem c_startEnding1 (l : Launch) {G : zz_G} {ad : Nat → Nat} {ce : zz_C} {sz : Nat} (T : rf_T) (Q : rf_Q) (hV : clV G ad ce T Q) (v : Int32) : zz_M l yX3_startEnding cX3_startEnding 2 (some .boolean) 2 45 0 0 G [.ref (ad 2), .int v] ad ce sz (fun r ad1 ce1 => r = some (.int (cp_startEnding1 T Q v).1) ∧ ad = ad1 ∧ clV G ad ce1 (cp_startEnding1 T Q v).2.1 (cp_startEnding1 T Q v).2.2 ∧ (∀ j, (10 ≤ j ∧ j < 30) ∨ 50 ≤ j → ce1 j = ce j)) := by
  refine zz_enter (by decide) (Nat.le_of_ble_eq_true rfl) ?_
  intro p e s m below meth c ls F hl hw hS hA
  obtain ⟨hx, hb, hr, hml, hown, hts, hlocks, hK, hnm⟩ := id F
  have hl : lv_has ls 2 [(0, .ref (ad 2)), (1, .int v)] := hl
  obtain ⟨r0, r1, ⟨h0, h1, h2, h3, h4⟩, ht0, ht1, hR0, hR1⟩ := hV
  have hF : ∀ j, (10 ≤ j ∧ j < 30) ∨ 50 ≤ j → ce j = ce j := fun _ _ => rfl
  refine lv_aload_n hx hb dX3_startEnding_0 rfl (lv_at hl 0 rfl) ?_
  refine lv_iconst (v := 1) hx hb dX3_startEnding_1 (by decide) ?_
  refine lv_iconst (v := 4) hx hb dX3_startEnding_2 (by decide) ?_
  have hV : clV G ad ce T Q := ⟨_, _, ⟨h0, h1, h2, h3, h4⟩, ht0, ht1, hR0, hR1⟩
  refine z_invU F (rest := []) (c_hasCall1 l T Q hV 1 4) yu_X3_58_X2 ⟨Nat.le_of_ble_eq_true rfl, Nat.le_of_ble_eq_true rfl⟩ hw hA hS hl h2 rfl rfl rfl (Nat.le_of_ble_eq_true rfl) dX3_startEnding_3 ⟨Nat.le_of_ble_eq_true rfl, Nat.le_of_ble_eq_true rfl⟩ (fun r ad1 ce1 H locs hp hw hS => ?_)
  obtain ⟨hp, rfl, rfl⟩ := hp
  rcases hp with ⟨hc, rfl⟩ | ⟨hc, rfl⟩
  · refine W.eq (g2 := F0 m 6 ls [.int 1]) rfl ?_
    refine lv_if_ne (tgt := 11) hx hb dX3_startEnding_6 (by decide) (fun c6 => ?_) (fun c6 => absurd c6 (by decide))
    refine lv_aload_n hx hb dX3_startEnding_11 rfl (lv_at hl 0 rfl) ?_
    refine z_get F hw h2 fd_X3_12_X2 rfl dX3_startEnding_12 ?_
    refine lv_iconst (v := 3) hx hb dX3_startEnding_15 (by decide) ?_
    refine lv_bipush (v := 37) hx hb dX3_startEnding_16 (by decide) ?_
    obtain ⟨vs9, ho9⟩ := hR1.obj
    refine z_invV F (rest := []) (c_send l 30 _ _ hR1 3 37 (by decide) (by decide)) yv_X3_62 ⟨Nat.le_of_ble_eq_true rfl, Nat.le_of_ble_eq_true rfl⟩ hw hA hS hl ho9 rfl rfl rfl (Nat.le_of_ble_eq_true rfl) dX3_startEnding_18 ⟨Nat.le_of_ble_eq_true rfl, Nat.le_of_ble_eq_true rfl⟩ (fun r ad1 ce2 H locs hp hw hS => ?_)
    obtain ⟨rfl, ⟨h9, rfl, hp9⟩, hF2⟩ := hp
    have h0 := (hF2 0 (by decide)).trans h0
    have h1 := (hF2 1 (by decide)).trans h1
    have h2 := (hF2 2 (by decide)).trans h2
    have h3 := (hF2 3 (by decide)).trans h3
    have h4 := (hF2 4 (by decide)).trans h4
    have hR0 := hR0.kept (fun j h1 h2 => hF2 j (by omega))
    have hF : ∀ j, (10 ≤ j ∧ j < 30) ∨ 50 ≤ j → ce2 j = ce j := fun j hj => (hF2 j (by omega)).trans (hF j hj)
    have hR1 : cl_r G ad ce2 30 ((rf_put T Q 1 ([3, 37])) 1) (cl_op T) := cl_put (x := [3, 37]) hp9.end
    have hR0 : cl_r G ad ce2 10 ((rf_put T Q 1 ([3, 37])) 0) (cl_op T) := by rw [cl_putn _ _ _ (by decide)]; exact hR0
    refine W.eq (g2 := F0 m 21 ls [.ref (ad h9)]) rfl ?_
    refine lv_bipush (v := 8) hx hb dX3_startEnding_21 (by decide) ?_
    refine lv_iconst (v := 1) hx hb dX3_startEnding_23 (by decide) ?_
    refine lv_iload_n hx hb dX3_startEnding_24 rfl (lv_at hl 1 rfl) ?_
    have hm9 := hp9.m
    refine z_invV F (rest := []) (c_addNumber1 l h9 [3, 37] hm9 rfl 8 (by decide) v) yv_X3_66 ⟨Nat.le_of_ble_eq_true rfl, Nat.le_of_ble_eq_true rfl⟩ hw hA hS hl hm9.obj rfl rfl rfl (Nat.le_of_ble_eq_true rfl) dX3_startEnding_25 ⟨Nat.le_of_ble_eq_true rfl, Nat.le_of_ble_eq_true rfl⟩ (fun r ad1 ce3 H locs hp hw hS => ?_)
    obtain ⟨rfl, rfl, hm9, hF2⟩ := hp
    have hat9 := hp9.at
    have h0 := (hF2 0 (by omega) (by omega)).trans h0
    have h1 := (hF2 1 (by omega) (by omega)).trans h1
    have h2 := (hF2 2 (by omega) (by omega)).trans h2
    have h3 := (hF2 3 (by omega) (by omega)).trans h3
    have h4 := (hF2 4 (by omega) (by omega)).trans h4
    have hR0 : cl_r G ad ce3 10 (Q 0) (cl_op T) := by rw [cl_putn _ _ _ (by decide)] at hR0; exact hR0.kept (fun j h1 h2 => hF2 j (by omega) (by omega))
    have hF : ∀ j, (10 ≤ j ∧ j < 30) ∨ 50 ≤ j → ce3 j = ce j := fun j hj => (hF2 j (by omega) (by omega)).trans (hF j hj)
    have hp9 := hp9.step hF2 hm9 (by simp)
    rw [cl_apx] at hp9
    have hR1 : cl_r G ad ce3 30 ((rf_put T Q 1 ([3, 37, 8, 1] ++ rf_bytes 1 v)) 1) (cl_op T) := cl_put (x := [3, 37, 8, 1] ++ rf_bytes 1 v) hp9.end
    have hR0 : cl_r G ad ce3 10 ((rf_put T Q 1 ([3, 37, 8, 1] ++ rf_bytes 1 v)) 0) (cl_op T) := by rw [cl_putn _ _ _ (by decide)]; exact hR0
    refine W.eq (g2 := F0 m 28 ls []) rfl ?_
    refine lv_aload_n hx hb dX3_startEnding_28 rfl (lv_at hl 0 rfl) ?_
    refine lv_iconst (v := 5) hx hb dX3_startEnding_29 (by decide) ?_
    refine lv_bipush (v := 30) hx hb dX3_startEnding_30 (by decide) ?_
    have hV : clV G ad ce3 T (rf_put T Q 1 ([3, 37, 8, 1] ++ rf_bytes 1 v)) := ⟨_, _, ⟨h0, h1, h2, h3, h4⟩, ht0, ht1, hR0, hR1⟩
    refine z_invU F (rest := []) (c_setCall1 l T (rf_put T Q 1 ([3, 37, 8, 1] ++ rf_bytes 1 v)) hV 5 30) yu_X3_70_X2 ⟨Nat.le_of_ble_eq_true rfl, Nat.le_of_ble_eq_true rfl⟩ hw hA hS hl h2 rfl rfl rfl (Nat.le_of_ble_eq_true rfl) dX3_startEnding_32 ⟨Nat.le_of_ble_eq_true rfl, Nat.le_of_ble_eq_true rfl⟩ (fun r ad1 ce4 H locs hp hw hS => ?_)
    obtain ⟨rfl, rfl, hV, hF2⟩ := hp
    have hF : ∀ j, (10 ≤ j ∧ j < 30) ∨ 50 ≤ j → ce4 j = ce j := fun j hj => (hF2 j (by omega)).trans (hF j hj)
    obtain ⟨r0, r1, ⟨h0, h1, h2, h3, h4⟩, ht0, ht1, hR0, hR1⟩ := hV
    refine W.eq (g2 := F0 m 35 ls []) rfl ?_
    refine lv_iconst (v := 1) hx hb dX3_startEnding_35 (by decide) ?_
    exact z_iret F (rfl) hw hS (by unfold cp_startEnding1; rw [if_pos hc]; exact ⟨rfl, rfl, ⟨_, _, ⟨h0, h1, h2, h3, h4⟩, ht0, ht1, hR0, hR1⟩, hF⟩) dX3_startEnding_36
  · refine W.eq (g2 := F0 m 6 ls [.int 0]) rfl ?_
    refine lv_if_ne (tgt := 11) hx hb dX3_startEnding_6 (by decide) (fun c6 => absurd c6 (by decide)) (fun c6 => ?_)
    refine lv_iconst (v := 0) hx hb dX3_startEnding_9 (by decide) ?_
    exact z_iret F (rfl) hw hS (by unfold cp_startEnding1; rw [if_neg hc]; exact ⟨rfl, rfl, ⟨_, _, ⟨h0, h1, h2, h3, h4⟩, ht0, ht1, hR0, hR1⟩, hF⟩) dX3_startEnding_10
def cp_takesEnd1 (T : rf_T) (Q : rf_Q) (M : List Nat) : rf_R := (if rf_inC T 1 1 5 then (if rf_sz M 8 = some 1 then (1, (rf_rel (va_up T 5 (upd (T 5) 1 (rf_val M 8))) 1), rf_put (va_up T 5 (upd (T 5) 1 (rf_val M 8))) Q 1 [3, 45]) else (0, T, Q)) else (0, T, Q))
theorem cp_takesEnd1_b (T : rf_T) (Q : rf_Q) (M : List Nat) : (cp_takesEnd1 T Q M).1 = 0 ∨ (cp_takesEnd1 T Q M).1 = 1 := by unfold cp_takesEnd1; (repeat' split) <;> first | exact Or.inl rfl | exact Or.inr rfl
set_option maxHeartbeats 4000000 in
set_option maxRecDepth 100000 in
theorem c_takesEnd1 (l : Launch) {G : zz_G} {ad : Nat → Nat} {ce : zz_C} {sz : Nat} (T : rf_T) (Q : rf_Q) (hV : clV G ad ce T Q) (h : Nat) (M : List Nat) (hm : cl_m G ad ce h M) (hg : rf_good M) (hM2 : 2 ≤ M.length) (hh : 10 ≤ h ∧ h + 1 < 30) : zz_M l yX3_takesEnd cX3_takesEnd 2 (some .boolean) 3 67 0 0 G [.ref (ad 2), .ref (ad h)] ad ce sz (fun r ad1 ce1 => r = some (.int (cp_takesEnd1 T Q M).1) ∧ ad = ad1 ∧ clV G ad ce1 (cp_takesEnd1 T Q M).2.1 (cp_takesEnd1 T Q M).2.2 ∧ (∀ j, (10 ≤ j ∧ j < 30) ∨ 50 ≤ j → ce1 j = ce j)) := by
  refine zz_enter (by decide) (Nat.le_of_ble_eq_true rfl) ?_
  intro p e s m below meth c ls F hl hw hS hA
  obtain ⟨hx, hb, hr, hml, hown, hts, hlocks, hK, hnm⟩ := id F
  have hl : lv_has ls 2 [(0, .ref (ad 2)), (1, .ref (ad h))] := hl
  obtain ⟨r0, r1, ⟨h0, h1, h2, h3, h4⟩, ht0, ht1, hR0, hR1⟩ := hV
  have hF : ∀ j, (10 ≤ j ∧ j < 30) ∨ 50 ≤ j → ce j = ce j := fun _ _ => rfl
  refine lv_aload_n hx hb dX3_takesEnd_0 rfl (lv_at hl 0 rfl) ?_
  refine lv_iconst (v := 1) hx hb dX3_takesEnd_1 (by decide) ?_
  refine lv_iconst (v := 5) hx hb dX3_takesEnd_2 (by decide) ?_
  have hV : clV G ad ce T Q := ⟨_, _, ⟨h0, h1, h2, h3, h4⟩, ht0, ht1, hR0, hR1⟩
  refine z_invU F (rest := []) (c_hasCall1 l T Q hV 1 5) yu_X3_58_X2 ⟨Nat.le_of_ble_eq_true rfl, Nat.le_of_ble_eq_true rfl⟩ hw hA hS hl h2 rfl rfl rfl (Nat.le_of_ble_eq_true rfl) dX3_takesEnd_3 ⟨Nat.le_of_ble_eq_true rfl, Nat.le_of_ble_eq_true rfl⟩ (fun r ad1 ce1 H locs hp hw hS => ?_)
  obtain ⟨hp, rfl, rfl⟩ := hp
  rcases hp with ⟨hc, rfl⟩ | ⟨hc, rfl⟩
  · refine W.eq (g2 := F0 m 6 ls [.int 1]) rfl ?_
    refine lv_if_eq (tgt := 19) hx hb dX3_takesEnd_6 (by decide) (fun c6 => absurd c6 (by decide)) (fun c6 => ?_)
    refine lv_aload_n hx hb dX3_takesEnd_9 rfl (lv_at hl 1 rfl) ?_
    refine lv_bipush (v := 8) hx hb dX3_takesEnd_10 (by decide) ?_
    refine lv_iconst (v := 1) hx hb dX3_takesEnd_12 (by decide) ?_
    refine z_invV F (rest := []) (c_has l h M hm 8 1 (by decide) (by decide)) yv_X3_77 ⟨Nat.le_of_ble_eq_true rfl, Nat.le_of_ble_eq_true rfl⟩ hw hA hS hl hm.obj rfl rfl rfl (Nat.le_of_ble_eq_true rfl) dX3_takesEnd_13 ⟨Nat.le_of_ble_eq_true rfl, Nat.le_of_ble_eq_true rfl⟩ (fun r ad1 ce2 H locs hp hw hS => ?_)
    obtain ⟨hp, rfl, rfl⟩ := hp
    rcases hp with ⟨hs, rfl⟩ | ⟨hs, rfl⟩
    · refine W.eq (g2 := F0 m 16 ls [.int 1]) rfl ?_
      refine lv_if_ne (tgt := 21) hx hb dX3_takesEnd_16 (by decide) (fun c16 => ?_) (fun c16 => absurd c16 (by decide))
      refine lv_aload_n hx hb dX3_takesEnd_21 rfl (lv_at hl 0 rfl) ?_
      refine lv_aload_n hx hb dX3_takesEnd_22 rfl (lv_at hl 1 rfl) ?_
      refine lv_bipush (v := 8) hx hb dX3_takesEnd_23 (by decide) ?_
      refine lv_iconst (v := 1) hx hb dX3_takesEnd_25 (by decide) ?_
      refine z_invV F (rest := [.ref (ad 2)]) (c_number l h M hm 8 1 (by decide) hg hs) yv_X3_80 ⟨Nat.le_of_ble_eq_true rfl, Nat.le_of_ble_eq_true rfl⟩ hw hA hS hl hm.obj rfl rfl rfl (Nat.le_of_ble_eq_true rfl) dX3_takesEnd_26 ⟨Nat.le_of_ble_eq_true rfl, Nat.le_of_ble_eq_true rfl⟩ (fun r ad1 ce3 H locs hp hw hS => ?_)
      obtain ⟨rfl, rfl, rfl⟩ := hp
      refine W.eq (g2 := F0 m 29 ls [.int (rf_val M 8), .ref (ad 2)]) rfl ?_
      refine z_put F hw hS (fs' := [.ref (ad 30), .int 0, .int (T 1 1), .int (T 2 1), .int (T 3 1), .int (rf_val M 8), .int r1, .int (T 0 1), .int (T 0 7), .int (T 0 2), .int (T 0 8), .int (cl_b0 (T 0 3)), .int (cl_b1 (T 0 3)), .ref (ad 4), .int (T 0 10)]) h2 fd_X3_31_X2 ptX2 rfl (rfl) (rfl) (Nat.le_of_ble_eq_true rfl) rfl dX3_takesEnd_29 (fun ce4 H locs h2 fr5 hw hS => ?_)
      have h0 := (fr5 0 (by decide)).trans h0
      have h1 := (fr5 1 (by decide)).trans h1
      have h3 := (fr5 3 (by decide)).trans h3
      have h4 := (fr5 4 (by decide)).trans h4
      have hR0 := hR0.kept (fun j h1 h2 => fr5 j (by omega))
      have hR1 := hR1.kept (fun j h1 h2 => fr5 j (by omega))
      have hF : ∀ j, (10 ≤ j ∧ j < 30) ∨ 50 ≤ j → _ = ce j := fun j hj => (fr5 j (by omega)).trans (hF j hj)
      have hm := hm.kept (fr5 h (by omega)) (fr5 (h + 1) (by omega))
      refine lv_aload_n hx hb dX3_takesEnd_32 rfl (lv_at hl 0 rfl) ?_
      have hV : clV G ad ce4 (va_up T 5 (upd (T 5) 1 (rf_val M 8))) Q := ⟨_, _, ⟨h0, h1, h2, h3, h4⟩, ht0, ht1, hR0, hR1⟩
      refine z_invU F (rest := []) (c_startReleasing1 l (va_up T 5 (upd (T 5) 1 (rf_val M 8))) Q hV) yu_X3_84_X2 ⟨Nat.le_of_ble_eq_true rfl, Nat.le_of_ble_eq_true rfl⟩ hw hA hS hl h2 rfl rfl rfl (Nat.le_of_ble_eq_true rfl) dX3_takesEnd_33 ⟨Nat.le_of_ble_eq_true rfl, Nat.le_of_ble_eq_true rfl⟩ (fun r ad1 ce6 H locs hp hw hS => ?_)
      obtain ⟨rfl, rfl, hV, hF2⟩ := hp
      have hF : ∀ j, (10 ≤ j ∧ j < 30) ∨ 50 ≤ j → ce6 j = ce j := fun j hj => (hF2 j (by omega)).trans (hF j hj)
      have hm := hm.kept (hF2 h (by omega)) (hF2 (h + 1) (by omega))
      obtain ⟨r0, r1, ⟨h0, h1, h2, h3, h4⟩, ht0, ht1, hR0, hR1⟩ := hV
      refine W.eq (g2 := F0 m 36 ls []) rfl ?_
      refine lv_iconst (v := 1) hx hb dX3_takesEnd_36 (by decide) ?_
      exact z_iret F (rfl) hw hS (by unfold cp_takesEnd1; rw [if_pos hc, if_pos hs]; exact ⟨rfl, rfl, ⟨_, _, ⟨h0, h1, h2, h3, h4⟩, ht0, ht1, hR0, hR1⟩, hF⟩) dX3_takesEnd_37
    · refine W.eq (g2 := F0 m 16 ls [.int 0]) rfl ?_
      refine lv_if_ne (tgt := 21) hx hb dX3_takesEnd_16 (by decide) (fun c16 => absurd c16 (by decide)) (fun c16 => ?_)
      refine lv_iconst (v := 0) hx hb dX3_takesEnd_19 (by decide) ?_
      exact z_iret F (rfl) hw hS (by unfold cp_takesEnd1; rw [if_pos hc, if_neg hs]; exact ⟨rfl, rfl, ⟨_, _, ⟨h0, h1, h2, h3, h4⟩, ht0, ht1, hR0, hR1⟩, hF⟩) dX3_takesEnd_20
  · refine W.eq (g2 := F0 m 6 ls [.int 0]) rfl ?_
    refine lv_if_eq (tgt := 19) hx hb dX3_takesEnd_6 (by decide) (fun c6 => ?_) (fun c6 => absurd c6 (by decide))
    refine lv_iconst (v := 0) hx hb dX3_takesEnd_19 (by decide) ?_
    exact z_iret F (rfl) hw hS (by unfold cp_takesEnd1; rw [if_neg hc]; exact ⟨rfl, rfl, ⟨_, _, ⟨h0, h1, h2, h3, h4⟩, ht0, ht1, hR0, hR1⟩, hF⟩) dX3_takesEnd_20
def cp_takesRelease1 (T : rf_T) (Q : rf_Q) : rf_R := (1, (rf_become T 1 0 0 0), rf_put T Q 1 ([3, 42]))
theorem cp_takesRelease1_b (T : rf_T) (Q : rf_Q) : (cp_takesRelease1 T Q).1 = 0 ∨ (cp_takesRelease1 T Q).1 = 1 := by unfold cp_takesRelease1; (repeat' split) <;> first | exact Or.inl rfl | exact Or.inr rfl
set_option maxHeartbeats 4000000 in
set_option maxRecDepth 100000 in
theorem c_takesRelease1 (l : Launch) {G : zz_G} {ad : Nat → Nat} {ce : zz_C} {sz : Nat} (T : rf_T) (Q : rf_Q) (hV : clV G ad ce T Q) : zz_M l yX3_takesRelease cX3_takesRelease 1 (some .boolean) 2 45 0 0 G [.ref (ad 2)] ad ce sz (fun r ad1 ce1 => r = some (.int (cp_takesRelease1 T Q).1) ∧ ad = ad1 ∧ clV G ad ce1 (cp_takesRelease1 T Q).2.1 (cp_takesRelease1 T Q).2.2 ∧ (∀ j, (10 ≤ j ∧ j < 30) ∨ 50 ≤ j → ce1 j = ce j)) := by
  refine zz_enter (by decide) (Nat.le_of_ble_eq_true rfl) ?_
  intro p e s m below meth c ls F hl hw hS hA
  obtain ⟨hx, hb, hr, hml, hown, hts, hlocks, hK, hnm⟩ := id F
  have hl : lv_has ls 1 [(0, .ref (ad 2))] := hl
  obtain ⟨r0, r1, ⟨h0, h1, h2, h3, h4⟩, ht0, ht1, hR0, hR1⟩ := hV
  have hF : ∀ j, (10 ≤ j ∧ j < 30) ∨ 50 ≤ j → ce j = ce j := fun _ _ => rfl
  refine lv_aload_n hx hb dX3_takesRelease_0 rfl (lv_at hl 0 rfl) ?_
  refine z_get F hw h2 fd_X3_12_X2 rfl dX3_takesRelease_1 ?_
  refine lv_iconst (v := 3) hx hb dX3_takesRelease_4 (by decide) ?_
  refine lv_bipush (v := 42) hx hb dX3_takesRelease_5 (by decide) ?_
  obtain ⟨vs9, ho9⟩ := hR1.obj
  refine z_invV F (rest := []) (c_send l 30 _ _ hR1 3 42 (by decide) (by decide)) yv_X3_62 ⟨Nat.le_of_ble_eq_true rfl, Nat.le_of_ble_eq_true rfl⟩ hw hA hS hl ho9 rfl rfl rfl (Nat.le_of_ble_eq_true rfl) dX3_takesRelease_7 ⟨Nat.le_of_ble_eq_true rfl, Nat.le_of_ble_eq_true rfl⟩ (fun r ad1 ce1 H locs hp hw hS => ?_)
  obtain ⟨rfl, ⟨h9, rfl, hp9⟩, hF2⟩ := hp
  have h0 := (hF2 0 (by decide)).trans h0
  have h1 := (hF2 1 (by decide)).trans h1
  have h2 := (hF2 2 (by decide)).trans h2
  have h3 := (hF2 3 (by decide)).trans h3
  have h4 := (hF2 4 (by decide)).trans h4
  have hR0 := hR0.kept (fun j h1 h2 => hF2 j (by omega))
  have hF : ∀ j, (10 ≤ j ∧ j < 30) ∨ 50 ≤ j → ce1 j = ce j := fun j hj => (hF2 j (by omega)).trans (hF j hj)
  have hR1 : cl_r G ad ce1 30 ((rf_put T Q 1 ([3, 42])) 1) (cl_op T) := cl_put (x := [3, 42]) hp9.end
  have hR0 : cl_r G ad ce1 10 ((rf_put T Q 1 ([3, 42])) 0) (cl_op T) := by rw [cl_putn _ _ _ (by decide)]; exact hR0
  refine W.eq (g2 := F0 m 10 ls [.ref (ad h9)]) rfl ?_
  refine lv_pop hx hb dX3_takesRelease_10 rfl ?_
  refine lv_aload_n hx hb dX3_takesRelease_11 rfl (lv_at hl 0 rfl) ?_
  have hV : clV G ad ce1 T (rf_put T Q 1 ([3, 42])) := ⟨_, _, ⟨h0, h1, h2, h3, h4⟩, ht0, ht1, hR0, hR1⟩
  refine z_invU F (rest := []) (c_rest1 l T (rf_put T Q 1 ([3, 42])) hV) yu_X3_87_X2 ⟨Nat.le_of_ble_eq_true rfl, Nat.le_of_ble_eq_true rfl⟩ hw hA hS hl h2 rfl rfl rfl (Nat.le_of_ble_eq_true rfl) dX3_takesRelease_12 ⟨Nat.le_of_ble_eq_true rfl, Nat.le_of_ble_eq_true rfl⟩ (fun r ad1 ce2 H locs hp hw hS => ?_)
  obtain ⟨rfl, rfl, hV, hF2⟩ := hp
  have hF : ∀ j, (10 ≤ j ∧ j < 30) ∨ 50 ≤ j → ce2 j = ce j := fun j hj => (hF2 j (by omega)).trans (hF j hj)
  obtain ⟨r0, r1, ⟨h0, h1, h2, h3, h4⟩, ht0, ht1, hR0, hR1⟩ := hV
  refine W.eq (g2 := F0 m 15 ls []) rfl ?_
  refine lv_iconst (v := 1) hx hb dX3_takesRelease_15 (by decide) ?_
  exact z_iret F (rfl) hw hS (by unfold cp_takesRelease1; exact ⟨rfl, rfl, ⟨_, _, ⟨h0, h1, h2, h3, h4⟩, ht0, ht1, hR0, hR1⟩, hF⟩) dX3_takesRelease_16
def cp_takesReleased1 (T : rf_T) (Q : rf_Q) : rf_R := (1, (rf_become T 1 0 0 0), Q)
theorem cp_takesReleased1_b (T : rf_T) (Q : rf_Q) : (cp_takesReleased1 T Q).1 = 0 ∨ (cp_takesReleased1 T Q).1 = 1 := by unfold cp_takesReleased1; (repeat' split) <;> first | exact Or.inl rfl | exact Or.inr rfl
set_option maxHeartbeats 4000000 in
set_option maxRecDepth 100000 in
theorem c_takesReleased1 (l : Launch) {G : zz_G} {ad : Nat → Nat} {ce : zz_C} {sz : Nat} (T : rf_T) (Q : rf_Q) (hV : clV G ad ce T Q) : zz_M l yX3_takesReleased cX3_takesReleased 1 (some .boolean) 2 42 0 0 G [.ref (ad 2)] ad ce sz (fun r ad1 ce1 => r = some (.int (cp_takesReleased1 T Q).1) ∧ ad = ad1 ∧ clV G ad ce1 (cp_takesReleased1 T Q).2.1 (cp_takesReleased1 T Q).2.2 ∧ (∀ j, (10 ≤ j ∧ j < 30) ∨ 50 ≤ j → ce1 j = ce j)) := by
  refine zz_enter (by decide) (Nat.le_of_ble_eq_true rfl) ?_
  intro p e s m below meth c ls F hl hw hS hA
  obtain ⟨hx, hb, hr, hml, hown, hts, hlocks, hK, hnm⟩ := id F
  have hl : lv_has ls 1 [(0, .ref (ad 2))] := hl
  obtain ⟨r0, r1, ⟨h0, h1, h2, h3, h4⟩, ht0, ht1, hR0, hR1⟩ := hV
  have hF : ∀ j, (10 ≤ j ∧ j < 30) ∨ 50 ≤ j → ce j = ce j := fun _ _ => rfl
  refine lv_aload_n hx hb dX3_takesReleased_0 rfl (lv_at hl 0 rfl) ?_
  have hV : clV G ad ce T Q := ⟨_, _, ⟨h0, h1, h2, h3, h4⟩, ht0, ht1, hR0, hR1⟩
  refine z_invU F (rest := []) (c_rest1 l T Q hV) yu_X3_87_X2 ⟨Nat.le_of_ble_eq_true rfl, Nat.le_of_ble_eq_true rfl⟩ hw hA hS hl h2 rfl rfl rfl (Nat.le_of_ble_eq_true rfl) dX3_takesReleased_1 ⟨Nat.le_of_ble_eq_true rfl, Nat.le_of_ble_eq_true rfl⟩ (fun r ad1 ce1 H locs hp hw hS => ?_)
  obtain ⟨rfl, rfl, hV, hF2⟩ := hp
  have hF : ∀ j, (10 ≤ j ∧ j < 30) ∨ 50 ≤ j → ce1 j = ce j := fun j hj => (hF2 j (by omega)).trans (hF j hj)
  obtain ⟨r0, r1, ⟨h0, h1, h2, h3, h4⟩, ht0, ht1, hR0, hR1⟩ := hV
  refine W.eq (g2 := F0 m 4 ls []) rfl ?_
  refine lv_iconst (v := 1) hx hb dX3_takesReleased_4 (by decide) ?_
  exact z_iret F (rfl) hw hS (by unfold cp_takesReleased1; exact ⟨rfl, rfl, ⟨_, _, ⟨h0, h1, h2, h3, h4⟩, ht0, ht1, hR0, hR1⟩, hF⟩) dX3_takesReleased_5
def cp_timeOutClearing1 (T : rf_T) (Q : rf_Q) : rf_R := (if ((T 2 1) : Int32) = 5 then (0, (rf_rel T 1), rf_put T Q 1 [3, 45]) else (if ((T 2 1) : Int32) = 6 then (if ((T 4 1) : Int32) = 0 then (0, va_up (rf_rel T 1) 4 (upd ((rf_rel T 1) 4) 1 1), rf_put T Q 1 [3, 45]) else (0, (rf_become T 1 0 0 0), Q)) else (0, (rf_become T 1 0 0 0), Q)))
set_option maxHeartbeats 4000000 in
set_option maxRecDepth 100000 in
theorem c_timeOutClearing1 (l : Launch) {G : zz_G} {ad : Nat → Nat} {ce : zz_C} {sz : Nat} (T : rf_T) (Q : rf_Q) (hV : clV G ad ce T Q) : zz_M l yX3_timeOutClearing cX3_timeOutClearing 1 none 3 65 0 0 G [.ref (ad 2)] ad ce sz (fun r ad1 ce1 => r = none ∧ ad = ad1 ∧ clV G ad ce1 (cp_timeOutClearing1 T Q).2.1 (cp_timeOutClearing1 T Q).2.2 ∧ (∀ j, (10 ≤ j ∧ j < 30) ∨ 50 ≤ j → ce1 j = ce j)) := by
  refine zz_enter (by decide) (Nat.le_of_ble_eq_true rfl) ?_
  intro p e s m below meth c ls F hl hw hS hA
  obtain ⟨hx, hb, hr, hml, hown, hts, hlocks, hK, hnm⟩ := id F
  have hl : lv_has ls 1 [(0, .ref (ad 2))] := hl
  obtain ⟨r0, r1, ⟨h0, h1, h2, h3, h4⟩, ht0, ht1, hR0, hR1⟩ := hV
  have hF : ∀ j, (10 ≤ j ∧ j < 30) ∨ 50 ≤ j → ce j = ce j := fun _ _ => rfl
  refine lv_aload_n hx hb dX3_timeOutClearing_0 rfl (lv_at hl 0 rfl) ?_
  refine z_get F hw h2 fd_X3_25_X2 rfl dX3_timeOutClearing_1 ?_
  refine lv_iconst (v := 5) hx hb dX3_timeOutClearing_4 (by decide) ?_
  refine lv_icmp_ne (tgt := 15) hx hb dX3_timeOutClearing_5 (by decide) (fun c5 => ?_) (fun c5 => ?_)
  · refine lv_aload_n hx hb dX3_timeOutClearing_15 rfl (lv_at hl 0 rfl) ?_
    refine z_get F hw h2 fd_X3_25_X2 rfl dX3_timeOutClearing_16 ?_
    refine lv_bipush (v := 6) hx hb dX3_timeOutClearing_19 (by decide) ?_
    refine lv_icmp_ne (tgt := 43) hx hb dX3_timeOutClearing_21 (by decide) (fun c21 => ?_) (fun c21 => ?_)
    · refine lv_aload_n hx hb dX3_timeOutClearing_43 rfl (lv_at hl 0 rfl) ?_
      have hV : clV G ad ce T Q := ⟨_, _, ⟨h0, h1, h2, h3, h4⟩, ht0, ht1, hR0, hR1⟩
      refine z_invU F (rest := []) (c_rest1 l T Q hV) yu_X3_87_X2 ⟨Nat.le_of_ble_eq_true rfl, Nat.le_of_ble_eq_true rfl⟩ hw hA hS hl h2 rfl rfl rfl (Nat.le_of_ble_eq_true rfl) dX3_timeOutClearing_44 ⟨Nat.le_of_ble_eq_true rfl, Nat.le_of_ble_eq_true rfl⟩ (fun r ad1 ce1 H locs hp hw hS => ?_)
      obtain ⟨rfl, rfl, hV, hF2⟩ := hp
      have hF : ∀ j, (10 ≤ j ∧ j < 30) ∨ 50 ≤ j → ce1 j = ce j := fun j hj => (hF2 j (by omega)).trans (hF j hj)
      obtain ⟨r0, r1, ⟨h0, h1, h2, h3, h4⟩, ht0, ht1, hR0, hR1⟩ := hV
      refine W.eq (g2 := F0 m 47 ls []) rfl ?_
      exact z_vret F hw hS (by unfold cp_timeOutClearing1; rw [if_neg c5, if_neg c21]; exact ⟨rfl, rfl, ⟨_, _, ⟨h0, h1, h2, h3, h4⟩, ht0, ht1, hR0, hR1⟩, hF⟩) dX3_timeOutClearing_47
    · refine lv_aload_n hx hb dX3_timeOutClearing_24 rfl (lv_at hl 0 rfl) ?_
      refine z_get F hw h2 fd_X3_34_X2 rfl dX3_timeOutClearing_25 ?_
      refine z_top (T 4 1) (ht1.2 c21) ?_
      refine lv_if_ne (tgt := 43) hx hb dX3_timeOutClearing_28 (by decide) (fun c28 => ?_) (fun c28 => ?_)
      · refine lv_aload_n hx hb dX3_timeOutClearing_43 rfl (lv_at hl 0 rfl) ?_
        have hV : clV G ad ce T Q := ⟨_, _, ⟨h0, h1, h2, h3, h4⟩, ht0, ht1, hR0, hR1⟩
        refine z_invU F (rest := []) (c_rest1 l T Q hV) yu_X3_87_X2 ⟨Nat.le_of_ble_eq_true rfl, Nat.le_of_ble_eq_true rfl⟩ hw hA hS hl h2 rfl rfl rfl (Nat.le_of_ble_eq_true rfl) dX3_timeOutClearing_44 ⟨Nat.le_of_ble_eq_true rfl, Nat.le_of_ble_eq_true rfl⟩ (fun r ad1 ce2 H locs hp hw hS => ?_)
        obtain ⟨rfl, rfl, hV, hF2⟩ := hp
        have hF : ∀ j, (10 ≤ j ∧ j < 30) ∨ 50 ≤ j → ce2 j = ce j := fun j hj => (hF2 j (by omega)).trans (hF j hj)
        obtain ⟨r0, r1, ⟨h0, h1, h2, h3, h4⟩, ht0, ht1, hR0, hR1⟩ := hV
        refine W.eq (g2 := F0 m 47 ls []) rfl ?_
        exact z_vret F hw hS (by unfold cp_timeOutClearing1; rw [if_neg c5, if_pos c21, if_neg c28]; exact ⟨rfl, rfl, ⟨_, _, ⟨h0, h1, h2, h3, h4⟩, ht0, ht1, hR0, hR1⟩, hF⟩) dX3_timeOutClearing_47
      · refine lv_aload_n hx hb dX3_timeOutClearing_31 rfl (lv_at hl 0 rfl) ?_
        have hV : clV G ad ce T Q := ⟨_, _, ⟨h0, h1, h2, h3, h4⟩, ht0, ht1, hR0, hR1⟩
        refine z_invU F (rest := []) (c_startReleasing1 l T Q hV) yu_X3_84_X2 ⟨Nat.le_of_ble_eq_true rfl, Nat.le_of_ble_eq_true rfl⟩ hw hA hS hl h2 rfl rfl rfl (Nat.le_of_ble_eq_true rfl) dX3_timeOutClearing_32 ⟨Nat.le_of_ble_eq_true rfl, Nat.le_of_ble_eq_true rfl⟩ (fun r ad1 ce3 H locs hp hw hS => ?_)
        obtain ⟨rfl, rfl, hV, hF2⟩ := hp
        have hF : ∀ j, (10 ≤ j ∧ j < 30) ∨ 50 ≤ j → ce3 j = ce j := fun j hj => (hF2 j (by omega)).trans (hF j hj)
        obtain ⟨r0, r1, ⟨h0, h1, h2, h3, h4⟩, ht0, ht1, hR0, hR1⟩ := hV
        refine W.eq (g2 := F0 m 35 ls []) rfl ?_
        refine lv_aload_n hx hb dX3_timeOutClearing_35 rfl (lv_at hl 0 rfl) ?_
        refine lv_iconst (v := 1) hx hb dX3_timeOutClearing_36 (by decide) ?_
        refine z_put F hw hS (fs' := [.ref (ad 30), .int 0, .int ((rf_rel T 1) 1 1), .int ((rf_rel T 1) 2 1), .int ((rf_rel T 1) 3 1), .int ((rf_rel T 1) 5 1), .int 1, .int ((rf_rel T 1) 0 1), .int ((rf_rel T 1) 0 7), .int ((rf_rel T 1) 0 2), .int ((rf_rel T 1) 0 8), .int (cl_b0 ((rf_rel T 1) 0 3)), .int (cl_b1 ((rf_rel T 1) 0 3)), .ref (ad 4), .int ((rf_rel T 1) 0 10)]) h2 fd_X3_34_X2 ptX2 rfl (rfl) (rfl) (Nat.le_of_ble_eq_true rfl) rfl dX3_timeOutClearing_37 (fun ce4 H locs h2 fr5 hw hS => ?_)
        have h0 := (fr5 0 (by decide)).trans h0
        have h1 := (fr5 1 (by decide)).trans h1
        have h3 := (fr5 3 (by decide)).trans h3
        have h4 := (fr5 4 (by decide)).trans h4
        have hR0 := hR0.kept (fun j h1 h2 => fr5 j (by omega))
        have hR1 := hR1.kept (fun j h1 h2 => fr5 j (by omega))
        have hF : ∀ j, (10 ≤ j ∧ j < 30) ∨ 50 ≤ j → _ = ce j := fun j hj => (fr5 j (by omega)).trans (hF j hj)
        refine lv_goto (tgt := 47) hx hb dX3_timeOutClearing_40 (by decide) ?_
        exact z_vret F hw hS (by unfold cp_timeOutClearing1; rw [if_neg c5, if_pos c21, if_pos c28]; exact ⟨rfl, rfl, ⟨_, _, ⟨h0, h1, h2, h3, h4⟩, ht0, ⟨Or.inr rfl, fun _ => rfl⟩, hR0, hR1⟩, hF⟩) dX3_timeOutClearing_47
  · refine lv_aload_n hx hb dX3_timeOutClearing_8 rfl (lv_at hl 0 rfl) ?_
    have hV : clV G ad ce T Q := ⟨_, _, ⟨h0, h1, h2, h3, h4⟩, ht0, ht1, hR0, hR1⟩
    refine z_invU F (rest := []) (c_startReleasing1 l T Q hV) yu_X3_84_X2 ⟨Nat.le_of_ble_eq_true rfl, Nat.le_of_ble_eq_true rfl⟩ hw hA hS hl h2 rfl rfl rfl (Nat.le_of_ble_eq_true rfl) dX3_timeOutClearing_9 ⟨Nat.le_of_ble_eq_true rfl, Nat.le_of_ble_eq_true rfl⟩ (fun r ad1 ce6 H locs hp hw hS => ?_)
    obtain ⟨rfl, rfl, hV, hF2⟩ := hp
    have hF : ∀ j, (10 ≤ j ∧ j < 30) ∨ 50 ≤ j → ce6 j = ce j := fun j hj => (hF2 j (by omega)).trans (hF j hj)
    obtain ⟨r0, r1, ⟨h0, h1, h2, h3, h4⟩, ht0, ht1, hR0, hR1⟩ := hV
    refine W.eq (g2 := F0 m 12 ls []) rfl ?_
    refine lv_goto (tgt := 47) hx hb dX3_timeOutClearing_12 (by decide) ?_
    exact z_vret F hw hS (by unfold cp_timeOutClearing1; rw [if_pos c5]; exact ⟨rfl, rfl, ⟨_, _, ⟨h0, h1, h2, h3, h4⟩, ht0, ht1, hR0, hR1⟩, hF⟩) dX3_timeOutClearing_47
