theorem cl_bn {v : Int32} (h : v = 0 ∨ v = 1) : narrow .boolean (.int v) = .int v := by rcases h with rfl | rfl <;> rfl
set_option maxHeartbeats 4000000 in
set_option maxRecDepth 100000 in
theorem c_isOn (l : Launch) {G : zz_G} {ad : Nat → Nat} {ce : zz_C} {sz : Nat} (T : rf_T) (Q : rf_Q) (hV : clV G ad ce T Q) : zz_M l yX1_isOn cX1_isOn 1 (some .boolean) 0 0 0 0 G [.ref (ad 1)] ad ce sz (fun r ad1 ce1 => ((¬ T 1 0 = 0 ∧ r = some (.int 1)) ∨ (T 1 0 = 0 ∧ r = some (.int 0))) ∧ ad = ad1 ∧ ce = ce1) := by
  refine zz_enter (by decide) (Nat.le_of_ble_eq_true rfl) ?_
  intro p e s m below meth c ls F hl hw hS hA
  obtain ⟨hx, hb, hr, hml, hown, hts, hlocks, hK, hnm⟩ := id F
  have hl : lv_has ls 1 [(0, .ref (ad 1))] := hl
  obtain ⟨r0, r1, ⟨h0, h1, h2, h3, h4⟩, ht0, ht1, hR0, hR1⟩ := hV
  have hF : ∀ j, 30 ≤ j → ce j = ce j := fun _ _ => rfl
  refine lv_aload_n hx hb dX1_isOn_0 rfl (lv_at hl 0 rfl) ?_
  refine z_get F hw h1 fd_X1_25_X1 rfl dX1_isOn_1 ?_
  refine lv_if_eq (tgt := 11) hx hb dX1_isOn_4 (by decide) (fun c4 => ?_) (fun c4 => ?_)
  · refine lv_iconst (v := 0) hx hb dX1_isOn_11 (by decide) ?_
    exact z_iret F (rfl) hw hS (⟨Or.inr ⟨c4, rfl⟩, rfl, rfl⟩) dX1_isOn_12
  · refine lv_iconst (v := 1) hx hb dX1_isOn_7 (by decide) ?_
    refine lv_goto (tgt := 12) hx hb dX1_isOn_8 (by decide) ?_
    exact z_iret F (rfl) hw hS (⟨Or.inl ⟨c4, rfl⟩, rfl, rfl⟩) dX1_isOn_12
def cp_switchOn (T : rf_T) (Q : rf_Q) : rf_R := (0, (rf_become (va_up T 0 (va_up (T 0) 6 0)) 0 1 0 0), Q)
set_option maxHeartbeats 4000000 in
set_option maxRecDepth 100000 in
theorem c_switchOn (l : Launch) {G : zz_G} {ad : Nat → Nat} {ce : zz_C} {sz : Nat} (T : rf_T) (Q : rf_Q) (hV : clV G ad ce T Q) : zz_M l yX1_switchOn cX1_switchOn 1 none 1 22 0 0 G [.ref (ad 1)] ad ce sz (fun r ad1 ce1 => r = none ∧ ad = ad1 ∧ clV G ad ce1 (cp_switchOn T Q).2.1 (cp_switchOn T Q).2.2 ∧ (∀ j, 30 ≤ j → ce1 j = ce j)) := by
  refine zz_enter (by decide) (Nat.le_of_ble_eq_true rfl) ?_
  intro p e s m below meth c ls F hl hw hS hA
  obtain ⟨hx, hb, hr, hml, hown, hts, hlocks, hK, hnm⟩ := id F
  have hl : lv_has ls 1 [(0, .ref (ad 1))] := hl
  obtain ⟨r0, r1, ⟨h0, h1, h2, h3, h4⟩, ht0, ht1, hR0, hR1⟩ := hV
  have hF : ∀ j, 30 ≤ j → ce j = ce j := fun _ _ => rfl
  refine lv_aload_n hx hb dX1_switchOn_0 rfl (lv_at hl 0 rfl) ?_
  refine lv_iconst (v := 0) hx hb dX1_switchOn_1 (by decide) ?_
  refine z_put F hw hS (fs' := [.ref (ad 10), .int 3, .int (T 1 0), .int (T 2 0), .int (T 3 0), .int (T 5 0), .int r0, .int (T 0 0), .int 0, .ref (ad 3), .int (T 0 9)]) h1 fd_X1_15_X1 ptX1 rfl (rfl) (rfl) (Nat.le_of_ble_eq_true rfl) rfl dX1_switchOn_2 (fun ce1 H locs h1 fr2 hw hS => ?_)
  have h0 := (fr2 0 (by decide)).trans h0
  have h2 := (fr2 2 (by decide)).trans h2
  have h3 := (fr2 3 (by decide)).trans h3
  have h4 := (fr2 4 (by decide)).trans h4
  have hR0 := hR0.kept (fun j h1 h2 => fr2 j (by omega))
  have hR1 := hR1.kept (fun j h1 h2 => fr2 j (by omega))
  have hF : ∀ j, 30 ≤ j → _ = ce j := fun j hj => (fr2 j (by omega)).trans (hF j hj)
  refine lv_aload_n hx hb dX1_switchOn_5 rfl (lv_at hl 0 rfl) ?_
  refine lv_iconst (v := 1) hx hb dX1_switchOn_6 (by decide) ?_
  refine lv_iconst (v := 0) hx hb dX1_switchOn_7 (by decide) ?_
  have hV : clV G ad ce1 (va_up T 0 (va_up (T 0) 6 0)) Q := ⟨_, _, ⟨h0, h1, h2, h3, h4⟩, ht0, ht1, hR0, hR1⟩
  refine z_invU F (rest := []) (c_setState0 l (va_up T 0 (va_up (T 0) 6 0)) Q hV 1 0) yu_X1_28_X1 ⟨Nat.le_of_ble_eq_true rfl, Nat.le_of_ble_eq_true rfl⟩ hw hA hS hl h1 rfl rfl rfl (Nat.le_of_ble_eq_true rfl) dX1_switchOn_8 ⟨Nat.le_of_ble_eq_true rfl, Nat.le_of_ble_eq_true rfl⟩ (fun r ad1 ce3 H locs hp hw hS => ?_)
  obtain ⟨rfl, rfl, hV, hF2⟩ := hp
  have hF : ∀ j, 30 ≤ j → ce3 j = ce j := fun j hj => (hF2 j (by omega)).trans (hF j hj)
  obtain ⟨r0, r1, ⟨h0, h1, h2, h3, h4⟩, ht0, ht1, hR0, hR1⟩ := hV
  refine W.eq (g2 := F0 m 11 ls []) rfl ?_
  exact z_vret F hw hS (by unfold cp_switchOn; exact ⟨rfl, rfl, ⟨_, _, ⟨h0, h1, h2, h3, h4⟩, ht0, ht1, hR0, hR1⟩, hF⟩) dX1_switchOn_11
def cp_switchOff (T : rf_T) (Q : rf_Q) : rf_R := (0, (rf_become T 0 0 0 0), rf_put T Q 0 ([5, 1]))
set_option maxHeartbeats 4000000 in
set_option maxRecDepth 100000 in
theorem c_switchOff (l : Launch) {G : zz_G} {ad : Nat → Nat} {ce : zz_C} {sz : Nat} (T : rf_T) (Q : rf_Q) (hV : clV G ad ce T Q) : zz_M l yX1_switchOff cX1_switchOff 1 none 2 45 0 0 G [.ref (ad 1)] ad ce sz (fun r ad1 ce1 => r = none ∧ ad = ad1 ∧ clV G ad ce1 (cp_switchOff T Q).2.1 (cp_switchOff T Q).2.2 ∧ (∀ j, 30 ≤ j → ce1 j = ce j)) := by
  refine zz_enter (by decide) (Nat.le_of_ble_eq_true rfl) ?_
  intro p e s m below meth c ls F hl hw hS hA
  obtain ⟨hx, hb, hr, hml, hown, hts, hlocks, hK, hnm⟩ := id F
  have hl : lv_has ls 1 [(0, .ref (ad 1))] := hl
  obtain ⟨r0, r1, ⟨h0, h1, h2, h3, h4⟩, ht0, ht1, hR0, hR1⟩ := hV
  have hF : ∀ j, 30 ≤ j → ce j = ce j := fun _ _ => rfl
  refine lv_aload_n hx hb dX1_switchOff_0 rfl (lv_at hl 0 rfl) ?_
  refine z_get F hw h1 fd_X1_31_X1 rfl dX1_switchOff_1 ?_
  refine lv_iconst (v := 5) hx hb dX1_switchOff_4 (by decide) ?_
  refine lv_iconst (v := 1) hx hb dX1_switchOff_5 (by decide) ?_
  obtain ⟨vs9, ho9⟩ := hR0.obj
  refine z_invV F (rest := []) (c_send l 10 _ _ hR0 5 1 (by decide) (by decide)) yv_X1_35 ⟨Nat.le_of_ble_eq_true rfl, Nat.le_of_ble_eq_true rfl⟩ hw hA hS hl ho9 rfl rfl rfl (Nat.le_of_ble_eq_true rfl) dX1_switchOff_6 ⟨Nat.le_of_ble_eq_true rfl, Nat.le_of_ble_eq_true rfl⟩ (fun r ad1 ce1 H locs hp hw hS => ?_)
  obtain ⟨rfl, ⟨h9, rfl, hp9⟩, hF2⟩ := hp
  have h0 := (hF2 0 (by decide)).trans h0
  have h1 := (hF2 1 (by decide)).trans h1
  have h2 := (hF2 2 (by decide)).trans h2
  have h3 := (hF2 3 (by decide)).trans h3
  have h4 := (hF2 4 (by decide)).trans h4
  have hR1 := hR1.kept (fun j h1 h2 => hF2 j (by omega))
  have hF : ∀ j, 30 ≤ j → ce1 j = ce j := fun j hj => (hF2 j (by omega)).trans (hF j hj)
  have hR0 : cl_r G ad ce1 10 ((rf_put T Q 0 ([5, 1])) 0) (cl_op T) := cl_put (x := [5, 1]) hp9.end
  have hR1 : cl_r G ad ce1 30 ((rf_put T Q 0 ([5, 1])) 1) (cl_op T) := by rw [cl_putn _ _ _ (by decide)]; exact hR1
  refine W.eq (g2 := F0 m 9 ls [.ref (ad h9)]) rfl ?_
  refine lv_pop hx hb dX1_switchOff_9 rfl ?_
  refine lv_aload_n hx hb dX1_switchOff_10 rfl (lv_at hl 0 rfl) ?_
  refine lv_iconst (v := 0) hx hb dX1_switchOff_11 (by decide) ?_
  refine lv_iconst (v := 0) hx hb dX1_switchOff_12 (by decide) ?_
  have hV : clV G ad ce1 T (rf_put T Q 0 ([5, 1])) := ⟨_, _, ⟨h0, h1, h2, h3, h4⟩, ht0, ht1, hR0, hR1⟩
  refine z_invU F (rest := []) (c_setState0 l T (rf_put T Q 0 ([5, 1])) hV 0 0) yu_X1_28_X1 ⟨Nat.le_of_ble_eq_true rfl, Nat.le_of_ble_eq_true rfl⟩ hw hA hS hl h1 rfl rfl rfl (Nat.le_of_ble_eq_true rfl) dX1_switchOff_13 ⟨Nat.le_of_ble_eq_true rfl, Nat.le_of_ble_eq_true rfl⟩ (fun r ad1 ce2 H locs hp hw hS => ?_)
  obtain ⟨rfl, rfl, hV, hF2⟩ := hp
  have hF : ∀ j, 30 ≤ j → ce2 j = ce j := fun j hj => (hF2 j (by omega)).trans (hF j hj)
  obtain ⟨r0, r1, ⟨h0, h1, h2, h3, h4⟩, ht0, ht1, hR0, hR1⟩ := hV
  refine W.eq (g2 := F0 m 16 ls []) rfl ?_
  exact z_vret F hw hS (by unfold cp_switchOff; exact ⟨rfl, rfl, ⟨_, _, ⟨h0, h1, h2, h3, h4⟩, ht0, ht1, hR0, hR1⟩, hF⟩) dX1_switchOff_16
def cp_startUpdating (T : rf_T) (Q : rf_Q) (v : Int32) : rf_R := (if ((T 1 0) : Int32) = 1 then (1, (rf_become T 0 2 0 20), rf_put T Q 0 ([5, 8, 19, 2] ++ rf_bytes 2 v)) else (if ((T 1 0) : Int32) = 3 then (1, (rf_become T 0 2 0 20), rf_put T Q 0 ([5, 8, 19, 2] ++ rf_bytes 2 v)) else (0, T, Q)))
theorem cp_startUpdating_b (T : rf_T) (Q : rf_Q) (v : Int32) : (cp_startUpdating T Q v).1 = 0 ∨ (cp_startUpdating T Q v).1 = 1 := by unfold cp_startUpdating; (repeat' split) <;> first | exact Or.inl rfl | exact Or.inr rfl
set_option maxHeartbeats 4000000 in
set_option maxRecDepth 100000 in
theorem c_startUpdating (l : Launch) {G : zz_G} {ad : Nat → Nat} {ce : zz_C} {sz : Nat} (T : rf_T) (Q : rf_Q) (hV : clV G ad ce T Q) (v : Int32) : zz_M l yX1_startUpdating cX1_startUpdating 2 (some .boolean) 2 45 0 0 G [.ref (ad 1), .int v] ad ce sz (fun r ad1 ce1 => r = some (.int (cp_startUpdating T Q v).1) ∧ ad = ad1 ∧ clV G ad ce1 (cp_startUpdating T Q v).2.1 (cp_startUpdating T Q v).2.2 ∧ (∀ j, 30 ≤ j → ce1 j = ce j)) := by
  refine zz_enter (by decide) (Nat.le_of_ble_eq_true rfl) ?_
  intro p e s m below meth c ls F hl hw hS hA
  obtain ⟨hx, hb, hr, hml, hown, hts, hlocks, hK, hnm⟩ := id F
  have hl : lv_has ls 2 [(0, .ref (ad 1)), (1, .int v)] := hl
  obtain ⟨r0, r1, ⟨h0, h1, h2, h3, h4⟩, ht0, ht1, hR0, hR1⟩ := hV
  have hF : ∀ j, 30 ≤ j → ce j = ce j := fun _ _ => rfl
  refine lv_aload_n hx hb dX1_startUpdating_0 rfl (lv_at hl 0 rfl) ?_
  refine z_get F hw h1 fd_X1_25_X1 rfl dX1_startUpdating_1 ?_
  refine lv_iconst (v := 1) hx hb dX1_startUpdating_4 (by decide) ?_
  refine lv_icmp_eq (tgt := 18) hx hb dX1_startUpdating_5 (by decide) (fun c5 => ?_) (fun c5 => ?_)
  · refine lv_aload_n hx hb dX1_startUpdating_18 rfl (lv_at hl 0 rfl) ?_
    refine z_get F hw h1 fd_X1_31_X1 rfl dX1_startUpdating_19 ?_
    refine lv_iconst (v := 5) hx hb dX1_startUpdating_22 (by decide) ?_
    refine lv_bipush (v := 8) hx hb dX1_startUpdating_23 (by decide) ?_
    obtain ⟨vs9, ho9⟩ := hR0.obj
    refine z_invV F (rest := []) (c_send l 10 _ _ hR0 5 8 (by decide) (by decide)) yv_X1_35 ⟨Nat.le_of_ble_eq_true rfl, Nat.le_of_ble_eq_true rfl⟩ hw hA hS hl ho9 rfl rfl rfl (Nat.le_of_ble_eq_true rfl) dX1_startUpdating_25 ⟨Nat.le_of_ble_eq_true rfl, Nat.le_of_ble_eq_true rfl⟩ (fun r ad1 ce1 H locs hp hw hS => ?_)
    obtain ⟨rfl, ⟨h9, rfl, hp9⟩, hF2⟩ := hp
    have h0 := (hF2 0 (by decide)).trans h0
    have h1 := (hF2 1 (by decide)).trans h1
    have h2 := (hF2 2 (by decide)).trans h2
    have h3 := (hF2 3 (by decide)).trans h3
    have h4 := (hF2 4 (by decide)).trans h4
    have hR1 := hR1.kept (fun j h1 h2 => hF2 j (by omega))
    have hF : ∀ j, 30 ≤ j → ce1 j = ce j := fun j hj => (hF2 j (by omega)).trans (hF j hj)
    have hR0 : cl_r G ad ce1 10 ((rf_put T Q 0 ([5, 8])) 0) (cl_op T) := cl_put (x := [5, 8]) hp9.end
    have hR1 : cl_r G ad ce1 30 ((rf_put T Q 0 ([5, 8])) 1) (cl_op T) := by rw [cl_putn _ _ _ (by decide)]; exact hR1
    refine W.eq (g2 := F0 m 28 ls [.ref (ad h9)]) rfl ?_
    refine lv_bipush (v := 19) hx hb dX1_startUpdating_28 (by decide) ?_
    refine lv_iconst (v := 2) hx hb dX1_startUpdating_30 (by decide) ?_
    refine lv_iload_n hx hb dX1_startUpdating_31 rfl (lv_at hl 1 rfl) ?_
    have hm9 := hp9.m
    refine z_invV F (rest := []) (c_addNumber2 l h9 [5, 8] hm9 rfl 19 (by decide) v) yv_X1_41 ⟨Nat.le_of_ble_eq_true rfl, Nat.le_of_ble_eq_true rfl⟩ hw hA hS hl hm9.obj rfl rfl rfl (Nat.le_of_ble_eq_true rfl) dX1_startUpdating_32 ⟨Nat.le_of_ble_eq_true rfl, Nat.le_of_ble_eq_true rfl⟩ (fun r ad1 ce2 H locs hp hw hS => ?_)
    obtain ⟨rfl, rfl, hm9, hF2⟩ := hp
    have hat9 := hp9.at
    have h0 := (hF2 0 (by omega) (by omega)).trans h0
    have h1 := (hF2 1 (by omega) (by omega)).trans h1
    have h2 := (hF2 2 (by omega) (by omega)).trans h2
    have h3 := (hF2 3 (by omega) (by omega)).trans h3
    have h4 := (hF2 4 (by omega) (by omega)).trans h4
    have hR1 : cl_r G ad ce2 30 (Q 1) (cl_op T) := by rw [cl_putn _ _ _ (by decide)] at hR1; exact hR1.kept (fun j h1 h2 => hF2 j (by omega) (by omega))
    have hF : ∀ j, 30 ≤ j → ce2 j = ce j := fun j hj => (hF2 j (by omega) (by omega)).trans (hF j hj)
    have hp9 := hp9.step hF2 hm9 (by simp)
    rw [cl_apx] at hp9
    have hR0 : cl_r G ad ce2 10 ((rf_put T Q 0 ([5, 8, 19, 2] ++ rf_bytes 2 v)) 0) (cl_op T) := cl_put (x := [5, 8, 19, 2] ++ rf_bytes 2 v) hp9.end
    have hR1 : cl_r G ad ce2 30 ((rf_put T Q 0 ([5, 8, 19, 2] ++ rf_bytes 2 v)) 1) (cl_op T) := by rw [cl_putn _ _ _ (by decide)]; exact hR1
    refine W.eq (g2 := F0 m 35 ls []) rfl ?_
    refine lv_aload_n hx hb dX1_startUpdating_35 rfl (lv_at hl 0 rfl) ?_
    refine lv_iconst (v := 2) hx hb dX1_startUpdating_36 (by decide) ?_
    refine lv_bipush (v := 20) hx hb dX1_startUpdating_37 (by decide) ?_
    have hV : clV G ad ce2 T (rf_put T Q 0 ([5, 8, 19, 2] ++ rf_bytes 2 v)) := ⟨_, _, ⟨h0, h1, h2, h3, h4⟩, ht0, ht1, hR0, hR1⟩
    refine z_invU F (rest := []) (c_setState0 l T (rf_put T Q 0 ([5, 8, 19, 2] ++ rf_bytes 2 v)) hV 2 20) yu_X1_28_X1 ⟨Nat.le_of_ble_eq_true rfl, Nat.le_of_ble_eq_true rfl⟩ hw hA hS hl h1 rfl rfl rfl (Nat.le_of_ble_eq_true rfl) dX1_startUpdating_39 ⟨Nat.le_of_ble_eq_true rfl, Nat.le_of_ble_eq_true rfl⟩ (fun r ad1 ce3 H locs hp hw hS => ?_)
    obtain ⟨rfl, rfl, hV, hF2⟩ := hp
    have hF : ∀ j, 30 ≤ j → ce3 j = ce j := fun j hj => (hF2 j (by omega)).trans (hF j hj)
    obtain ⟨r0, r1, ⟨h0, h1, h2, h3, h4⟩, ht0, ht1, hR0, hR1⟩ := hV
    refine W.eq (g2 := F0 m 42 ls []) rfl ?_
    refine lv_iconst (v := 1) hx hb dX1_startUpdating_42 (by decide) ?_
    exact z_iret F (rfl) hw hS (by unfold cp_startUpdating; rw [if_pos c5]; exact ⟨rfl, rfl, ⟨_, _, ⟨h0, h1, h2, h3, h4⟩, ht0, ht1, hR0, hR1⟩, hF⟩) dX1_startUpdating_43
  · refine lv_aload_n hx hb dX1_startUpdating_8 rfl (lv_at hl 0 rfl) ?_
    refine z_get F hw h1 fd_X1_25_X1 rfl dX1_startUpdating_9 ?_
    refine lv_iconst (v := 3) hx hb dX1_startUpdating_12 (by decide) ?_
    refine lv_icmp_eq (tgt := 18) hx hb dX1_startUpdating_13 (by decide) (fun c13 => ?_) (fun c13 => ?_)
    · refine lv_aload_n hx hb dX1_startUpdating_18 rfl (lv_at hl 0 rfl) ?_
      refine z_get F hw h1 fd_X1_31_X1 rfl dX1_startUpdating_19 ?_
      refine lv_iconst (v := 5) hx hb dX1_startUpdating_22 (by decide) ?_
      refine lv_bipush (v := 8) hx hb dX1_startUpdating_23 (by decide) ?_
      obtain ⟨vs9, ho9⟩ := hR0.obj
      refine z_invV F (rest := []) (c_send l 10 _ _ hR0 5 8 (by decide) (by decide)) yv_X1_35 ⟨Nat.le_of_ble_eq_true rfl, Nat.le_of_ble_eq_true rfl⟩ hw hA hS hl ho9 rfl rfl rfl (Nat.le_of_ble_eq_true rfl) dX1_startUpdating_25 ⟨Nat.le_of_ble_eq_true rfl, Nat.le_of_ble_eq_true rfl⟩ (fun r ad1 ce4 H locs hp hw hS => ?_)
      obtain ⟨rfl, ⟨h9, rfl, hp9⟩, hF2⟩ := hp
      have h0 := (hF2 0 (by decide)).trans h0
      have h1 := (hF2 1 (by decide)).trans h1
      have h2 := (hF2 2 (by decide)).trans h2
      have h3 := (hF2 3 (by decide)).trans h3
      have h4 := (hF2 4 (by decide)).trans h4
      have hR1 := hR1.kept (fun j h1 h2 => hF2 j (by omega))
      have hF : ∀ j, 30 ≤ j → ce4 j = ce j := fun j hj => (hF2 j (by omega)).trans (hF j hj)
      have hR0 : cl_r G ad ce4 10 ((rf_put T Q 0 ([5, 8])) 0) (cl_op T) := cl_put (x := [5, 8]) hp9.end
      have hR1 : cl_r G ad ce4 30 ((rf_put T Q 0 ([5, 8])) 1) (cl_op T) := by rw [cl_putn _ _ _ (by decide)]; exact hR1
      refine W.eq (g2 := F0 m 28 ls [.ref (ad h9)]) rfl ?_
      refine lv_bipush (v := 19) hx hb dX1_startUpdating_28 (by decide) ?_
      refine lv_iconst (v := 2) hx hb dX1_startUpdating_30 (by decide) ?_
      refine lv_iload_n hx hb dX1_startUpdating_31 rfl (lv_at hl 1 rfl) ?_
      have hm9 := hp9.m
      refine z_invV F (rest := []) (c_addNumber2 l h9 [5, 8] hm9 rfl 19 (by decide) v) yv_X1_41 ⟨Nat.le_of_ble_eq_true rfl, Nat.le_of_ble_eq_true rfl⟩ hw hA hS hl hm9.obj rfl rfl rfl (Nat.le_of_ble_eq_true rfl) dX1_startUpdating_32 ⟨Nat.le_of_ble_eq_true rfl, Nat.le_of_ble_eq_true rfl⟩ (fun r ad1 ce5 H locs hp hw hS => ?_)
      obtain ⟨rfl, rfl, hm9, hF2⟩ := hp
      have hat9 := hp9.at
      have h0 := (hF2 0 (by omega) (by omega)).trans h0
      have h1 := (hF2 1 (by omega) (by omega)).trans h1
      have h2 := (hF2 2 (by omega) (by omega)).trans h2
      have h3 := (hF2 3 (by omega) (by omega)).trans h3
      have h4 := (hF2 4 (by omega) (by omega)).trans h4
      have hR1 : cl_r G ad ce5 30 (Q 1) (cl_op T) := by rw [cl_putn _ _ _ (by decide)] at hR1; exact hR1.kept (fun j h1 h2 => hF2 j (by omega) (by omega))
      have hF : ∀ j, 30 ≤ j → ce5 j = ce j := fun j hj => (hF2 j (by omega) (by omega)).trans (hF j hj)
      have hp9 := hp9.step hF2 hm9 (by simp)
      rw [cl_apx] at hp9
      have hR0 : cl_r G ad ce5 10 ((rf_put T Q 0 ([5, 8, 19, 2] ++ rf_bytes 2 v)) 0) (cl_op T) := cl_put (x := [5, 8, 19, 2] ++ rf_bytes 2 v) hp9.end
      have hR1 : cl_r G ad ce5 30 ((rf_put T Q 0 ([5, 8, 19, 2] ++ rf_bytes 2 v)) 1) (cl_op T) := by rw [cl_putn _ _ _ (by decide)]; exact hR1
      refine W.eq (g2 := F0 m 35 ls []) rfl ?_
      refine lv_aload_n hx hb dX1_startUpdating_35 rfl (lv_at hl 0 rfl) ?_
      refine lv_iconst (v := 2) hx hb dX1_startUpdating_36 (by decide) ?_
      refine lv_bipush (v := 20) hx hb dX1_startUpdating_37 (by decide) ?_
      have hV : clV G ad ce5 T (rf_put T Q 0 ([5, 8, 19, 2] ++ rf_bytes 2 v)) := ⟨_, _, ⟨h0, h1, h2, h3, h4⟩, ht0, ht1, hR0, hR1⟩
      refine z_invU F (rest := []) (c_setState0 l T (rf_put T Q 0 ([5, 8, 19, 2] ++ rf_bytes 2 v)) hV 2 20) yu_X1_28_X1 ⟨Nat.le_of_ble_eq_true rfl, Nat.le_of_ble_eq_true rfl⟩ hw hA hS hl h1 rfl rfl rfl (Nat.le_of_ble_eq_true rfl) dX1_startUpdating_39 ⟨Nat.le_of_ble_eq_true rfl, Nat.le_of_ble_eq_true rfl⟩ (fun r ad1 ce6 H locs hp hw hS => ?_)
      obtain ⟨rfl, rfl, hV, hF2⟩ := hp
      have hF : ∀ j, 30 ≤ j → ce6 j = ce j := fun j hj => (hF2 j (by omega)).trans (hF j hj)
      obtain ⟨r0, r1, ⟨h0, h1, h2, h3, h4⟩, ht0, ht1, hR0, hR1⟩ := hV
      refine W.eq (g2 := F0 m 42 ls []) rfl ?_
      refine lv_iconst (v := 1) hx hb dX1_startUpdating_42 (by decide) ?_
      exact z_iret F (rfl) hw hS (by unfold cp_startUpdating; rw [if_neg c5, if_pos c13]; exact ⟨rfl, rfl, ⟨_, _, ⟨h0, h1, h2, h3, h4⟩, ht0, ht1, hR0, hR1⟩, hF⟩) dX1_startUpdating_43
    · refine lv_iconst (v := 0) hx hb dX1_startUpdating_16 (by decide) ?_
      exact z_iret F (rfl) hw hS (by unfold cp_startUpdating; rw [if_neg c5, if_neg c13]; exact ⟨rfl, rfl, ⟨_, _, ⟨h0, h1, h2, h3, h4⟩, ht0, ht1, hR0, hR1⟩, hF⟩) dX1_startUpdating_17
def cp_dropRadio (T : rf_T) (Q : rf_Q) : rf_R := (if ((T 1 0) : Int32) = 2 then (0, (rf_become T 0 1 0 0), Q) else (if ((T 1 0) : Int32) = 4 then (0, (rf_become T 0 3 0 0), Q) else (if ((T 1 0) : Int32) = 5 then (0, (rf_become T 0 3 0 0), Q) else (0, T, Q))))
set_option maxHeartbeats 4000000 in
set_option maxRecDepth 100000 in
theorem c_dropRadio (l : Launch) {G : zz_G} {ad : Nat → Nat} {ce : zz_C} {sz : Nat} (T : rf_T) (Q : rf_Q) (hV : clV G ad ce T Q) : zz_M l yX1_dropRadio cX1_dropRadio 1 none 2 42 0 0 G [.ref (ad 1)] ad ce sz (fun r ad1 ce1 => r = none ∧ ad = ad1 ∧ clV G ad ce1 (cp_dropRadio T Q).2.1 (cp_dropRadio T Q).2.2 ∧ (∀ j, 30 ≤ j → ce1 j = ce j)) := by
  refine zz_enter (by decide) (Nat.le_of_ble_eq_true rfl) ?_
  intro p e s m below meth c ls F hl hw hS hA
  obtain ⟨hx, hb, hr, hml, hown, hts, hlocks, hK, hnm⟩ := id F
  have hl : lv_has ls 1 [(0, .ref (ad 1))] := hl
  obtain ⟨r0, r1, ⟨h0, h1, h2, h3, h4⟩, ht0, ht1, hR0, hR1⟩ := hV
  have hF : ∀ j, 30 ≤ j → ce j = ce j := fun _ _ => rfl
  refine lv_aload_n hx hb dX1_dropRadio_0 rfl (lv_at hl 0 rfl) ?_
  refine z_get F hw h1 fd_X1_25_X1 rfl dX1_dropRadio_1 ?_
  refine lv_iconst (v := 2) hx hb dX1_dropRadio_4 (by decide) ?_
  refine lv_icmp_ne (tgt := 17) hx hb dX1_dropRadio_5 (by decide) (fun c5 => ?_) (fun c5 => ?_)
  · refine lv_aload_n hx hb dX1_dropRadio_17 rfl (lv_at hl 0 rfl) ?_
    refine z_get F hw h1 fd_X1_25_X1 rfl dX1_dropRadio_18 ?_
    refine lv_iconst (v := 4) hx hb dX1_dropRadio_21 (by decide) ?_
    refine lv_icmp_eq (tgt := 33) hx hb dX1_dropRadio_22 (by decide) (fun c22 => ?_) (fun c22 => ?_)
    · refine lv_aload_n hx hb dX1_dropRadio_33 rfl (lv_at hl 0 rfl) ?_
      have hV : clV G ad ce T Q := ⟨_, _, ⟨h0, h1, h2, h3, h4⟩, ht0, ht1, hR0, hR1⟩
      refine z_invU F (rest := []) (c_rest0 l T Q hV) yu_X1_50_X1 ⟨Nat.le_of_ble_eq_true rfl, Nat.le_of_ble_eq_true rfl⟩ hw hA hS hl h1 rfl rfl rfl (Nat.le_of_ble_eq_true rfl) dX1_dropRadio_34 ⟨Nat.le_of_ble_eq_true rfl, Nat.le_of_ble_eq_true rfl⟩ (fun r ad1 ce1 H locs hp hw hS => ?_)
      obtain ⟨rfl, rfl, hV, hF2⟩ := hp
      have hF : ∀ j, 30 ≤ j → ce1 j = ce j := fun j hj => (hF2 j (by omega)).trans (hF j hj)
      obtain ⟨r0, r1, ⟨h0, h1, h2, h3, h4⟩, ht0, ht1, hR0, hR1⟩ := hV
      refine W.eq (g2 := F0 m 37 ls []) rfl ?_
      exact z_vret F hw hS (by unfold cp_dropRadio; rw [if_neg c5, if_pos c22]; exact ⟨rfl, rfl, ⟨_, _, ⟨h0, h1, h2, h3, h4⟩, ht0, ht1, hR0, hR1⟩, hF⟩) dX1_dropRadio_37
    · refine lv_aload_n hx hb dX1_dropRadio_25 rfl (lv_at hl 0 rfl) ?_
      refine z_get F hw h1 fd_X1_25_X1 rfl dX1_dropRadio_26 ?_
      refine lv_iconst (v := 5) hx hb dX1_dropRadio_29 (by decide) ?_
      refine lv_icmp_ne (tgt := 37) hx hb dX1_dropRadio_30 (by decide) (fun c30 => ?_) (fun c30 => ?_)
      · exact z_vret F hw hS (by unfold cp_dropRadio; rw [if_neg c5, if_neg c22, if_neg c30]; exact ⟨rfl, rfl, ⟨_, _, ⟨h0, h1, h2, h3, h4⟩, ht0, ht1, hR0, hR1⟩, hF⟩) dX1_dropRadio_37
      · refine lv_aload_n hx hb dX1_dropRadio_33 rfl (lv_at hl 0 rfl) ?_
        have hV : clV G ad ce T Q := ⟨_, _, ⟨h0, h1, h2, h3, h4⟩, ht0, ht1, hR0, hR1⟩
        refine z_invU F (rest := []) (c_rest0 l T Q hV) yu_X1_50_X1 ⟨Nat.le_of_ble_eq_true rfl, Nat.le_of_ble_eq_true rfl⟩ hw hA hS hl h1 rfl rfl rfl (Nat.le_of_ble_eq_true rfl) dX1_dropRadio_34 ⟨Nat.le_of_ble_eq_true rfl, Nat.le_of_ble_eq_true rfl⟩ (fun r ad1 ce2 H locs hp hw hS => ?_)
        obtain ⟨rfl, rfl, hV, hF2⟩ := hp
        have hF : ∀ j, 30 ≤ j → ce2 j = ce j := fun j hj => (hF2 j (by omega)).trans (hF j hj)
        obtain ⟨r0, r1, ⟨h0, h1, h2, h3, h4⟩, ht0, ht1, hR0, hR1⟩ := hV
        refine W.eq (g2 := F0 m 37 ls []) rfl ?_
        exact z_vret F hw hS (by unfold cp_dropRadio; rw [if_neg c5, if_neg c22, if_pos c30]; exact ⟨rfl, rfl, ⟨_, _, ⟨h0, h1, h2, h3, h4⟩, ht0, ht1, hR0, hR1⟩, hF⟩) dX1_dropRadio_37
  · refine lv_aload_n hx hb dX1_dropRadio_8 rfl (lv_at hl 0 rfl) ?_
    refine lv_iconst (v := 1) hx hb dX1_dropRadio_9 (by decide) ?_
    refine lv_iconst (v := 0) hx hb dX1_dropRadio_10 (by decide) ?_
    have hV : clV G ad ce T Q := ⟨_, _, ⟨h0, h1, h2, h3, h4⟩, ht0, ht1, hR0, hR1⟩
    refine z_invU F (rest := []) (c_setState0 l T Q hV 1 0) yu_X1_28_X1 ⟨Nat.le_of_ble_eq_true rfl, Nat.le_of_ble_eq_true rfl⟩ hw hA hS hl h1 rfl rfl rfl (Nat.le_of_ble_eq_true rfl) dX1_dropRadio_11 ⟨Nat.le_of_ble_eq_true rfl, Nat.le_of_ble_eq_true rfl⟩ (fun r ad1 ce3 H locs hp hw hS => ?_)
    obtain ⟨rfl, rfl, hV, hF2⟩ := hp
    have hF : ∀ j, 30 ≤ j → ce3 j = ce j := fun j hj => (hF2 j (by omega)).trans (hF j hj)
    obtain ⟨r0, r1, ⟨h0, h1, h2, h3, h4⟩, ht0, ht1, hR0, hR1⟩ := hV
    refine W.eq (g2 := F0 m 14 ls []) rfl ?_
    refine lv_goto (tgt := 37) hx hb dX1_dropRadio_14 (by decide) ?_
    exact z_vret F hw hS (by unfold cp_dropRadio; rw [if_pos c5]; exact ⟨rfl, rfl, ⟨_, _, ⟨h0, h1, h2, h3, h4⟩, ht0, ht1, hR0, hR1⟩, hF⟩) dX1_dropRadio_37
def cp_timeOut0 (T : rf_T) (Q : rf_Q) : rf_R := (if ((T 1 0) : Int32) = 2 then (0, (rf_become T 0 1 0 0), Q) else (if ((T 1 0) : Int32) = 4 then (0, (rf_become T 0 3 0 0), Q) else (if ((T 2 0) : Int32) = 1 then (0, (rf_become T 0 3 0 0), rf_put T Q 0 ([3, 42])) else (0, ((cp_timeOutClearing0 T Q).2.1), (cp_timeOutClearing0 T Q).2.2))))
set_option maxHeartbeats 4000000 in
set_option maxRecDepth 100000 in
theorem c_timeOut0 (l : Launch) {G : zz_G} {ad : Nat → Nat} {ce : zz_C} {sz : Nat} (T : rf_T) (Q : rf_Q) (hV : clV G ad ce T Q) : zz_M l yX1_timeOut cX1_timeOut 1 none 4 85 0 0 G [.ref (ad 1)] ad ce sz (fun r ad1 ce1 => r = none ∧ ad = ad1 ∧ clV G ad ce1 (cp_timeOut0 T Q).2.1 (cp_timeOut0 T Q).2.2 ∧ (∀ j, 30 ≤ j → ce1 j = ce j)) := by
  refine zz_enter (by decide) (Nat.le_of_ble_eq_true rfl) ?_
  intro p e s m below meth c ls F hl hw hS hA
  obtain ⟨hx, hb, hr, hml, hown, hts, hlocks, hK, hnm⟩ := id F
  have hl : lv_has ls 1 [(0, .ref (ad 1))] := hl
  obtain ⟨r0, r1, ⟨h0, h1, h2, h3, h4⟩, ht0, ht1, hR0, hR1⟩ := hV
  have hF : ∀ j, 30 ≤ j → ce j = ce j := fun _ _ => rfl
  refine lv_aload_n hx hb dX1_timeOut_0 rfl (lv_at hl 0 rfl) ?_
  refine z_get F hw h1 fd_X1_25_X1 rfl dX1_timeOut_1 ?_
  refine lv_iconst (v := 2) hx hb dX1_timeOut_4 (by decide) ?_
  refine lv_icmp_ne (tgt := 17) hx hb dX1_timeOut_5 (by decide) (fun c5 => ?_) (fun c5 => ?_)
  · refine lv_aload_n hx hb dX1_timeOut_17 rfl (lv_at hl 0 rfl) ?_
    refine z_get F hw h1 fd_X1_25_X1 rfl dX1_timeOut_18 ?_
    refine lv_iconst (v := 4) hx hb dX1_timeOut_21 (by decide) ?_
    refine lv_icmp_ne (tgt := 32) hx hb dX1_timeOut_22 (by decide) (fun c22 => ?_) (fun c22 => ?_)
    · refine lv_aload_n hx hb dX1_timeOut_32 rfl (lv_at hl 0 rfl) ?_
      refine z_get F hw h1 fd_X1_92_X1 rfl dX1_timeOut_33 ?_
      refine lv_iconst (v := 1) hx hb dX1_timeOut_36 (by decide) ?_
      refine lv_icmp_ne (tgt := 58) hx hb dX1_timeOut_37 (by decide) (fun c37 => ?_) (fun c37 => ?_)
      · refine lv_aload_n hx hb dX1_timeOut_58 rfl (lv_at hl 0 rfl) ?_
        have hV : clV G ad ce T Q := ⟨_, _, ⟨h0, h1, h2, h3, h4⟩, ht0, ht1, hR0, hR1⟩
        refine z_invU F (rest := []) (c_timeOutClearing0 l T Q hV) yu_X1_95_X1 ⟨Nat.le_of_ble_eq_true rfl, Nat.le_of_ble_eq_true rfl⟩ hw hA hS hl h1 rfl rfl rfl (Nat.le_of_ble_eq_true rfl) dX1_timeOut_59 ⟨Nat.le_of_ble_eq_true rfl, Nat.le_of_ble_eq_true rfl⟩ (fun r ad1 ce1 H locs hp hw hS => ?_)
        obtain ⟨rfl, rfl, hV, hF2⟩ := hp
        have hF : ∀ j, 30 ≤ j → ce1 j = ce j := fun j hj => (hF2 j (by omega)).trans (hF j hj)
        obtain ⟨r0, r1, ⟨h0, h1, h2, h3, h4⟩, ht0, ht1, hR0, hR1⟩ := hV
        refine W.eq (g2 := F0 m 62 ls []) rfl ?_
        exact z_vret F hw hS (by unfold cp_timeOut0; rw [if_neg c5, if_neg c22, if_neg c37]; exact ⟨rfl, rfl, ⟨_, _, ⟨h0, h1, h2, h3, h4⟩, ht0, ht1, hR0, hR1⟩, hF⟩) dX1_timeOut_62
      · refine lv_aload_n hx hb dX1_timeOut_40 rfl (lv_at hl 0 rfl) ?_
        refine z_get F hw h1 fd_X1_31_X1 rfl dX1_timeOut_41 ?_
        refine lv_iconst (v := 3) hx hb dX1_timeOut_44 (by decide) ?_
        refine lv_bipush (v := 42) hx hb dX1_timeOut_45 (by decide) ?_
        obtain ⟨vs9, ho9⟩ := hR0.obj
        refine z_invV F (rest := []) (c_send l 10 _ _ hR0 3 42 (by decide) (by decide)) yv_X1_35 ⟨Nat.le_of_ble_eq_true rfl, Nat.le_of_ble_eq_true rfl⟩ hw hA hS hl ho9 rfl rfl rfl (Nat.le_of_ble_eq_true rfl) dX1_timeOut_47 ⟨Nat.le_of_ble_eq_true rfl, Nat.le_of_ble_eq_true rfl⟩ (fun r ad1 ce2 H locs hp hw hS => ?_)
        obtain ⟨rfl, ⟨h9, rfl, hp9⟩, hF2⟩ := hp
        have h0 := (hF2 0 (by decide)).trans h0
        have h1 := (hF2 1 (by decide)).trans h1
        have h2 := (hF2 2 (by decide)).trans h2
        have h3 := (hF2 3 (by decide)).trans h3
        have h4 := (hF2 4 (by decide)).trans h4
        have hR1 := hR1.kept (fun j h1 h2 => hF2 j (by omega))
        have hF : ∀ j, 30 ≤ j → ce2 j = ce j := fun j hj => (hF2 j (by omega)).trans (hF j hj)
        have hR0 : cl_r G ad ce2 10 ((rf_put T Q 0 ([3, 42])) 0) (cl_op T) := cl_put (x := [3, 42]) hp9.end
        have hR1 : cl_r G ad ce2 30 ((rf_put T Q 0 ([3, 42])) 1) (cl_op T) := by rw [cl_putn _ _ _ (by decide)]; exact hR1
        refine W.eq (g2 := F0 m 50 ls [.ref (ad h9)]) rfl ?_
        refine lv_pop hx hb dX1_timeOut_50 rfl ?_
        refine lv_aload_n hx hb dX1_timeOut_51 rfl (lv_at hl 0 rfl) ?_
        have hV : clV G ad ce2 T (rf_put T Q 0 ([3, 42])) := ⟨_, _, ⟨h0, h1, h2, h3, h4⟩, ht0, ht1, hR0, hR1⟩
        refine z_invU F (rest := []) (c_rest0 l T (rf_put T Q 0 ([3, 42])) hV) yu_X1_50_X1 ⟨Nat.le_of_ble_eq_true rfl, Nat.le_of_ble_eq_true rfl⟩ hw hA hS hl h1 rfl rfl rfl (Nat.le_of_ble_eq_true rfl) dX1_timeOut_52 ⟨Nat.le_of_ble_eq_true rfl, Nat.le_of_ble_eq_true rfl⟩ (fun r ad1 ce3 H locs hp hw hS => ?_)
        obtain ⟨rfl, rfl, hV, hF2⟩ := hp
        have hF : ∀ j, 30 ≤ j → ce3 j = ce j := fun j hj => (hF2 j (by omega)).trans (hF j hj)
        obtain ⟨r0, r1, ⟨h0, h1, h2, h3, h4⟩, ht0, ht1, hR0, hR1⟩ := hV
        refine W.eq (g2 := F0 m 55 ls []) rfl ?_
        refine lv_goto (tgt := 62) hx hb dX1_timeOut_55 (by decide) ?_
        exact z_vret F hw hS (by unfold cp_timeOut0; rw [if_neg c5, if_neg c22, if_pos c37]; exact ⟨rfl, rfl, ⟨_, _, ⟨h0, h1, h2, h3, h4⟩, ht0, ht1, hR0, hR1⟩, hF⟩) dX1_timeOut_62
    · refine lv_aload_n hx hb dX1_timeOut_25 rfl (lv_at hl 0 rfl) ?_
      have hV : clV G ad ce T Q := ⟨_, _, ⟨h0, h1, h2, h3, h4⟩, ht0, ht1, hR0, hR1⟩
      refine z_invU F (rest := []) (c_rest0 l T Q hV) yu_X1_50_X1 ⟨Nat.le_of_ble_eq_true rfl, Nat.le_of_ble_eq_true rfl⟩ hw hA hS hl h1 rfl rfl rfl (Nat.le_of_ble_eq_true rfl) dX1_timeOut_26 ⟨Nat.le_of_ble_eq_true rfl, Nat.le_of_ble_eq_true rfl⟩ (fun r ad1 ce4 H locs hp hw hS => ?_)
      obtain ⟨rfl, rfl, hV, hF2⟩ := hp
      have hF : ∀ j, 30 ≤ j → ce4 j = ce j := fun j hj => (hF2 j (by omega)).trans (hF j hj)
      obtain ⟨r0, r1, ⟨h0, h1, h2, h3, h4⟩, ht0, ht1, hR0, hR1⟩ := hV
      refine W.eq (g2 := F0 m 29 ls []) rfl ?_
      refine lv_goto (tgt := 62) hx hb dX1_timeOut_29 (by decide) ?_
      exact z_vret F hw hS (by unfold cp_timeOut0; rw [if_neg c5, if_pos c22]; exact ⟨rfl, rfl, ⟨_, _, ⟨h0, h1, h2, h3, h4⟩, ht0, ht1, hR0, hR1⟩, hF⟩) dX1_timeOut_62
  · refine lv_aload_n hx hb dX1_timeOut_8 rfl (lv_at hl 0 rfl) ?_
    refine lv_iconst (v := 1) hx hb dX1_timeOut_9 (by decide) ?_
    refine lv_iconst (v := 0) hx hb dX1_timeOut_10 (by decide) ?_
    have hV : clV G ad ce T Q := ⟨_, _, ⟨h0, h1, h2, h3, h4⟩, ht0, ht1, hR0, hR1⟩
    refine z_invU F (rest := []) (c_setState0 l T Q hV 1 0) yu_X1_28_X1 ⟨Nat.le_of_ble_eq_true rfl, Nat.le_of_ble_eq_true rfl⟩ hw hA hS hl h1 rfl rfl rfl (Nat.le_of_ble_eq_true rfl) dX1_timeOut_11 ⟨Nat.le_of_ble_eq_true rfl, Nat.le_of_ble_eq_true rfl⟩ (fun r ad1 ce5 H locs hp hw hS => ?_)
    obtain ⟨rfl, rfl, hV, hF2⟩ := hp
    have hF : ∀ j, 30 ≤ j → ce5 j = ce j := fun j hj => (hF2 j (by omega)).trans (hF j hj)
    obtain ⟨r0, r1, ⟨h0, h1, h2, h3, h4⟩, ht0, ht1, hR0, hR1⟩ := hV
    refine W.eq (g2 := F0 m 14 ls []) rfl ?_
    refine lv_goto (tgt := 62) hx hb dX1_timeOut_14 (by decide) ?_
    exact z_vret F hw hS (by unfold cp_timeOut0; rw [if_pos c5]; exact ⟨rfl, rfl, ⟨_, _, ⟨h0, h1, h2, h3, h4⟩, ht0, ht1, hR0, hR1⟩, hF⟩) dX1_timeOut_62
def cp_takesUpdated (T : rf_T) (Q : rf_Q) (M : List Nat) : rf_R := (if ((T 1 0) : Int32) = 2 then (if rf_sz M 19 = some 2 then (1, (rf_become (va_up T 0 (va_up (T 0) 6 (rf_val M 19))) 0 3 0 0), Q) else (0, T, Q)) else (0, T, Q))
theorem cp_takesUpdated_b (T : rf_T) (Q : rf_Q) (M : List Nat) : (cp_takesUpdated T Q M).1 = 0 ∨ (cp_takesUpdated T Q M).1 = 1 := by unfold cp_takesUpdated; (repeat' split) <;> first | exact Or.inl rfl | exact Or.inr rfl
set_option maxHeartbeats 4000000 in
set_option maxRecDepth 100000 in
theorem c_takesUpdated (l : Launch) {G : zz_G} {ad : Nat → Nat} {ce : zz_C} {sz : Nat} (T : rf_T) (Q : rf_Q) (hV : clV G ad ce T Q) (h : Nat) (M : List Nat) (hm : cl_m G ad ce h M) (hg : rf_good M) (hM2 : 2 ≤ M.length) (hh : 30 ≤ h ∧ h + 1 < 50) : zz_M l yX1_takesUpdated cX1_takesUpdated 2 (some .boolean) 3 67 0 0 G [.ref (ad 1), .ref (ad h)] ad ce sz (fun r ad1 ce1 => r = some (.int (cp_takesUpdated T Q M).1) ∧ ad = ad1 ∧ clV G ad ce1 (cp_takesUpdated T Q M).2.1 (cp_takesUpdated T Q M).2.2 ∧ (∀ j, 30 ≤ j → ce1 j = ce j)) := by
  refine zz_enter (by decide) (Nat.le_of_ble_eq_true rfl) ?_
  intro p e s m below meth c ls F hl hw hS hA
  obtain ⟨hx, hb, hr, hml, hown, hts, hlocks, hK, hnm⟩ := id F
  have hl : lv_has ls 2 [(0, .ref (ad 1)), (1, .ref (ad h))] := hl
  obtain ⟨r0, r1, ⟨h0, h1, h2, h3, h4⟩, ht0, ht1, hR0, hR1⟩ := hV
  have hF : ∀ j, 30 ≤ j → ce j = ce j := fun _ _ => rfl
  refine lv_aload_n hx hb dX1_takesUpdated_0 rfl (lv_at hl 0 rfl) ?_
  refine z_get F hw h1 fd_X1_25_X1 rfl dX1_takesUpdated_1 ?_
  refine lv_iconst (v := 2) hx hb dX1_takesUpdated_4 (by decide) ?_
  refine lv_icmp_ne (tgt := 18) hx hb dX1_takesUpdated_5 (by decide) (fun c5 => ?_) (fun c5 => ?_)
  · refine lv_iconst (v := 0) hx hb dX1_takesUpdated_18 (by decide) ?_
    exact z_iret F (rfl) hw hS (by unfold cp_takesUpdated; rw [if_neg c5]; exact ⟨rfl, rfl, ⟨_, _, ⟨h0, h1, h2, h3, h4⟩, ht0, ht1, hR0, hR1⟩, hF⟩) dX1_takesUpdated_19
  · refine lv_aload_n hx hb dX1_takesUpdated_8 rfl (lv_at hl 1 rfl) ?_
    refine lv_bipush (v := 19) hx hb dX1_takesUpdated_9 (by decide) ?_
    refine lv_iconst (v := 2) hx hb dX1_takesUpdated_11 (by decide) ?_
    refine z_invV F (rest := []) (c_has l h M hm 19 2 (by decide) (by decide)) yv_X1_98 ⟨Nat.le_of_ble_eq_true rfl, Nat.le_of_ble_eq_true rfl⟩ hw hA hS hl hm.obj rfl rfl rfl (Nat.le_of_ble_eq_true rfl) dX1_takesUpdated_12 ⟨Nat.le_of_ble_eq_true rfl, Nat.le_of_ble_eq_true rfl⟩ (fun r ad1 ce1 H locs hp hw hS => ?_)
    obtain ⟨hp, rfl, rfl⟩ := hp
    rcases hp with ⟨hs, rfl⟩ | ⟨hs, rfl⟩
    · refine W.eq (g2 := F0 m 15 ls [.int 1]) rfl ?_
      refine lv_if_ne (tgt := 20) hx hb dX1_takesUpdated_15 (by decide) (fun c15 => ?_) (fun c15 => absurd c15 (by decide))
      refine lv_aload_n hx hb dX1_takesUpdated_20 rfl (lv_at hl 0 rfl) ?_
      refine lv_aload_n hx hb dX1_takesUpdated_21 rfl (lv_at hl 1 rfl) ?_
      refine lv_bipush (v := 19) hx hb dX1_takesUpdated_22 (by decide) ?_
      refine lv_iconst (v := 2) hx hb dX1_takesUpdated_24 (by decide) ?_
      refine z_invV F (rest := [.ref (ad 1)]) (c_number l h M hm 19 2 (by decide) hg hs) yv_X1_101 ⟨Nat.le_of_ble_eq_true rfl, Nat.le_of_ble_eq_true rfl⟩ hw hA hS hl hm.obj rfl rfl rfl (Nat.le_of_ble_eq_true rfl) dX1_takesUpdated_25 ⟨Nat.le_of_ble_eq_true rfl, Nat.le_of_ble_eq_true rfl⟩ (fun r ad1 ce2 H locs hp hw hS => ?_)
      obtain ⟨rfl, rfl, rfl⟩ := hp
      refine W.eq (g2 := F0 m 28 ls [.int (rf_val M 19), .ref (ad 1)]) rfl ?_
      refine z_put F hw hS (fs' := [.ref (ad 10), .int 3, .int (T 1 0), .int (T 2 0), .int (T 3 0), .int (T 5 0), .int r0, .int (T 0 0), .int (rf_val M 19), .ref (ad 3), .int (T 0 9)]) h1 fd_X1_15_X1 ptX1 rfl (rfl) (rfl) (Nat.le_of_ble_eq_true rfl) rfl dX1_takesUpdated_28 (fun ce3 H locs h1 fr4 hw hS => ?_)
      have h0 := (fr4 0 (by decide)).trans h0
      have h2 := (fr4 2 (by decide)).trans h2
      have h3 := (fr4 3 (by decide)).trans h3
      have h4 := (fr4 4 (by decide)).trans h4
      have hR0 := hR0.kept (fun j h1 h2 => fr4 j (by omega))
      have hR1 := hR1.kept (fun j h1 h2 => fr4 j (by omega))
      have hF : ∀ j, 30 ≤ j → _ = ce j := fun j hj => (fr4 j (by omega)).trans (hF j hj)
      have hm := hm.kept (fr4 h (by omega)) (fr4 (h + 1) (by omega))
      refine lv_aload_n hx hb dX1_takesUpdated_31 rfl (lv_at hl 0 rfl) ?_
      have hV : clV G ad ce3 (va_up T 0 (va_up (T 0) 6 (rf_val M 19))) Q := ⟨_, _, ⟨h0, h1, h2, h3, h4⟩, ht0, ht1, hR0, hR1⟩
      refine z_invU F (rest := []) (c_rest0 l (va_up T 0 (va_up (T 0) 6 (rf_val M 19))) Q hV) yu_X1_50_X1 ⟨Nat.le_of_ble_eq_true rfl, Nat.le_of_ble_eq_true rfl⟩ hw hA hS hl h1 rfl rfl rfl (Nat.le_of_ble_eq_true rfl) dX1_takesUpdated_32 ⟨Nat.le_of_ble_eq_true rfl, Nat.le_of_ble_eq_true rfl⟩ (fun r ad1 ce5 H locs hp hw hS => ?_)
      obtain ⟨rfl, rfl, hV, hF2⟩ := hp
      have hF : ∀ j, 30 ≤ j → ce5 j = ce j := fun j hj => (hF2 j (by omega)).trans (hF j hj)
      have hm := hm.kept (hF2 h (by omega)) (hF2 (h + 1) (by omega))
      obtain ⟨r0, r1, ⟨h0, h1, h2, h3, h4⟩, ht0, ht1, hR0, hR1⟩ := hV
      refine W.eq (g2 := F0 m 35 ls []) rfl ?_
      refine lv_iconst (v := 1) hx hb dX1_takesUpdated_35 (by decide) ?_
      exact z_iret F (rfl) hw hS (by unfold cp_takesUpdated; rw [if_pos c5, if_pos hs]; exact ⟨rfl, rfl, ⟨_, _, ⟨h0, h1, h2, h3, h4⟩, ht0, ht1, hR0, hR1⟩, hF⟩) dX1_takesUpdated_36
    · refine W.eq (g2 := F0 m 15 ls [.int 0]) rfl ?_
      refine lv_if_ne (tgt := 20) hx hb dX1_takesUpdated_15 (by decide) (fun c15 => absurd c15 (by decide)) (fun c15 => ?_)
      refine lv_iconst (v := 0) hx hb dX1_takesUpdated_18 (by decide) ?_
      exact z_iret F (rfl) hw hS (by unfold cp_takesUpdated; rw [if_pos c5, if_neg hs]; exact ⟨rfl, rfl, ⟨_, _, ⟨h0, h1, h2, h3, h4⟩, ht0, ht1, hR0, hR1⟩, hF⟩) dX1_takesUpdated_19
def cp_takesRefusal (T : rf_T) (Q : rf_Q) (M : List Nat) (vf vt : Int32) : rf_R := (if ((T 1 0) : Int32) = vf then (if rf_sz M 8 = some 1 then (1, (rf_become (va_up T 5 (upd (T 5) 0 (rf_val M 8))) 0 vt 0 0), Q) else (0, T, Q)) else (0, T, Q))
theorem cp_takesRefusal_b (T : rf_T) (Q : rf_Q) (M : List Nat) (vf vt : Int32) : (cp_takesRefusal T Q M vf vt).1 = 0 ∨ (cp_takesRefusal T Q M vf vt).1 = 1 := by unfold cp_takesRefusal; (repeat' split) <;> first | exact Or.inl rfl | exact Or.inr rfl
set_option maxHeartbeats 4000000 in
set_option maxRecDepth 100000 in
theorem c_takesRefusal (l : Launch) {G : zz_G} {ad : Nat → Nat} {ce : zz_C} {sz : Nat} (T : rf_T) (Q : rf_Q) (hV : clV G ad ce T Q) (h : Nat) (M : List Nat) (hm : cl_m G ad ce h M) (hg : rf_good M) (hM2 : 2 ≤ M.length) (hh : 30 ≤ h ∧ h + 1 < 50) (vf vt : Int32) : zz_M l yX1_takesRefusal cX1_takesRefusal 4 (some .boolean) 3 67 0 0 G [.ref (ad 1), .ref (ad h), .int vf, .int vt] ad ce sz (fun r ad1 ce1 => r = some (.int (cp_takesRefusal T Q M vf vt).1) ∧ ad = ad1 ∧ clV G ad ce1 (cp_takesRefusal T Q M vf vt).2.1 (cp_takesRefusal T Q M vf vt).2.2 ∧ (∀ j, 30 ≤ j → ce1 j = ce j)) := by
  refine zz_enter (by decide) (Nat.le_of_ble_eq_true rfl) ?_
  intro p e s m below meth c ls F hl hw hS hA
  obtain ⟨hx, hb, hr, hml, hown, hts, hlocks, hK, hnm⟩ := id F
  have hl : lv_has ls 4 [(0, .ref (ad 1)), (1, .ref (ad h)), (2, .int vf), (3, .int vt)] := hl
  obtain ⟨r0, r1, ⟨h0, h1, h2, h3, h4⟩, ht0, ht1, hR0, hR1⟩ := hV
  have hF : ∀ j, 30 ≤ j → ce j = ce j := fun _ _ => rfl
  refine lv_aload_n hx hb dX1_takesRefusal_0 rfl (lv_at hl 0 rfl) ?_
  refine z_get F hw h1 fd_X1_25_X1 rfl dX1_takesRefusal_1 ?_
  refine lv_iload_n hx hb dX1_takesRefusal_4 rfl (lv_at hl 2 rfl) ?_
  refine lv_icmp_ne (tgt := 18) hx hb dX1_takesRefusal_5 (by decide) (fun c5 => ?_) (fun c5 => ?_)
  · refine lv_iconst (v := 0) hx hb dX1_takesRefusal_18 (by decide) ?_
    exact z_iret F (rfl) hw hS (by unfold cp_takesRefusal; rw [if_neg c5]; exact ⟨rfl, rfl, ⟨_, _, ⟨h0, h1, h2, h3, h4⟩, ht0, ht1, hR0, hR1⟩, hF⟩) dX1_takesRefusal_19
  · refine lv_aload_n hx hb dX1_takesRefusal_8 rfl (lv_at hl 1 rfl) ?_
    refine lv_bipush (v := 8) hx hb dX1_takesRefusal_9 (by decide) ?_
    refine lv_iconst (v := 1) hx hb dX1_takesRefusal_11 (by decide) ?_
    refine z_invV F (rest := []) (c_has l h M hm 8 1 (by decide) (by decide)) yv_X1_98 ⟨Nat.le_of_ble_eq_true rfl, Nat.le_of_ble_eq_true rfl⟩ hw hA hS hl hm.obj rfl rfl rfl (Nat.le_of_ble_eq_true rfl) dX1_takesRefusal_12 ⟨Nat.le_of_ble_eq_true rfl, Nat.le_of_ble_eq_true rfl⟩ (fun r ad1 ce1 H locs hp hw hS => ?_)
    obtain ⟨hp, rfl, rfl⟩ := hp
    rcases hp with ⟨hs, rfl⟩ | ⟨hs, rfl⟩
    · refine W.eq (g2 := F0 m 15 ls [.int 1]) rfl ?_
      refine lv_if_ne (tgt := 20) hx hb dX1_takesRefusal_15 (by decide) (fun c15 => ?_) (fun c15 => absurd c15 (by decide))
      refine lv_aload_n hx hb dX1_takesRefusal_20 rfl (lv_at hl 0 rfl) ?_
      refine lv_aload_n hx hb dX1_takesRefusal_21 rfl (lv_at hl 1 rfl) ?_
      refine lv_bipush (v := 8) hx hb dX1_takesRefusal_22 (by decide) ?_
      refine lv_iconst (v := 1) hx hb dX1_takesRefusal_24 (by decide) ?_
      refine z_invV F (rest := [.ref (ad 1)]) (c_number l h M hm 8 1 (by decide) hg hs) yv_X1_101 ⟨Nat.le_of_ble_eq_true rfl, Nat.le_of_ble_eq_true rfl⟩ hw hA hS hl hm.obj rfl rfl rfl (Nat.le_of_ble_eq_true rfl) dX1_takesRefusal_25 ⟨Nat.le_of_ble_eq_true rfl, Nat.le_of_ble_eq_true rfl⟩ (fun r ad1 ce2 H locs hp hw hS => ?_)
      obtain ⟨rfl, rfl, rfl⟩ := hp
      refine W.eq (g2 := F0 m 28 ls [.int (rf_val M 8), .ref (ad 1)]) rfl ?_
      refine z_put F hw hS (fs' := [.ref (ad 10), .int 3, .int (T 1 0), .int (T 2 0), .int (T 3 0), .int (rf_val M 8), .int r0, .int (T 0 0), .int (T 0 6), .ref (ad 3), .int (T 0 9)]) h1 fd_X1_105_X1 ptX1 rfl (rfl) (rfl) (Nat.le_of_ble_eq_true rfl) rfl dX1_takesRefusal_28 (fun ce3 H locs h1 fr4 hw hS => ?_)
      have h0 := (fr4 0 (by decide)).trans h0
      have h2 := (fr4 2 (by decide)).trans h2
      have h3 := (fr4 3 (by decide)).trans h3
      have h4 := (fr4 4 (by decide)).trans h4
      have hR0 := hR0.kept (fun j h1 h2 => fr4 j (by omega))
      have hR1 := hR1.kept (fun j h1 h2 => fr4 j (by omega))
      have hF : ∀ j, 30 ≤ j → _ = ce j := fun j hj => (fr4 j (by omega)).trans (hF j hj)
      have hm := hm.kept (fr4 h (by omega)) (fr4 (h + 1) (by omega))
      refine lv_aload_n hx hb dX1_takesRefusal_31 rfl (lv_at hl 0 rfl) ?_
      refine lv_iload_n hx hb dX1_takesRefusal_32 rfl (lv_at hl 3 rfl) ?_
      refine lv_iconst (v := 0) hx hb dX1_takesRefusal_33 (by decide) ?_
      have hV : clV G ad ce3 (va_up T 5 (upd (T 5) 0 (rf_val M 8))) Q := ⟨_, _, ⟨h0, h1, h2, h3, h4⟩, ht0, ht1, hR0, hR1⟩
      refine z_invU F (rest := []) (c_setState0 l (va_up T 5 (upd (T 5) 0 (rf_val M 8))) Q hV vt 0) yu_X1_28_X1 ⟨Nat.le_of_ble_eq_true rfl, Nat.le_of_ble_eq_true rfl⟩ hw hA hS hl h1 rfl rfl rfl (Nat.le_of_ble_eq_true rfl) dX1_takesRefusal_34 ⟨Nat.le_of_ble_eq_true rfl, Nat.le_of_ble_eq_true rfl⟩ (fun r ad1 ce5 H locs hp hw hS => ?_)
      obtain ⟨rfl, rfl, hV, hF2⟩ := hp
      have hF : ∀ j, 30 ≤ j → ce5 j = ce j := fun j hj => (hF2 j (by omega)).trans (hF j hj)
      have hm := hm.kept (hF2 h (by omega)) (hF2 (h + 1) (by omega))
      obtain ⟨r0, r1, ⟨h0, h1, h2, h3, h4⟩, ht0, ht1, hR0, hR1⟩ := hV
      refine W.eq (g2 := F0 m 37 ls []) rfl ?_
      refine lv_iconst (v := 1) hx hb dX1_takesRefusal_37 (by decide) ?_
      exact z_iret F (rfl) hw hS (by unfold cp_takesRefusal; rw [if_pos c5, if_pos hs]; exact ⟨rfl, rfl, ⟨_, _, ⟨h0, h1, h2, h3, h4⟩, ht0, ht1, hR0, hR1⟩, hF⟩) dX1_takesRefusal_38
    · refine W.eq (g2 := F0 m 15 ls [.int 0]) rfl ?_
      refine lv_if_ne (tgt := 20) hx hb dX1_takesRefusal_15 (by decide) (fun c15 => absurd c15 (by decide)) (fun c15 => ?_)
      refine lv_iconst (v := 0) hx hb dX1_takesRefusal_18 (by decide) ?_
      exact z_iret F (rfl) hw hS (by unfold cp_takesRefusal; rw [if_pos c5, if_neg hs]; exact ⟨rfl, rfl, ⟨_, _, ⟨h0, h1, h2, h3, h4⟩, ht0, ht1, hR0, hR1⟩, hF⟩) dX1_takesRefusal_19
set_option maxHeartbeats 4000000 in
set_option maxRecDepth 100000 in
theorem c_answerTo (l : Launch) {G : zz_G} {ad : Nat → Nat} {ce : zz_C} {sz : Nat} (a b : Int32) : zz_M l yX3_answerTo cX3_answerTo 3 (some .int) 0 0 0 0 G [.int a, .int b] ad ce sz (fun r ad1 ce1 => r = some (.int (rf_turned a b)) ∧ ad = ad1 ∧ ce = ce1) := by
  refine zz_enter (by decide) (Nat.le_of_ble_eq_true rfl) ?_
  intro p e s m below meth c ls F hl hw hS hA
  obtain ⟨hx, hb, hr, hml, hown, hts, hlocks, hK, hnm⟩ := id F
  have hl : lv_has ls 3 [(0, .int a), (1, .int b)] := hl
  refine lv_iload_n hx hb dX3_answerTo_0 rfl (lv_at hl 0 rfl) ?_
  refine lv_iload_n hx hb dX3_answerTo_1 rfl (lv_at hl 1 rfl) ?_
  refine lv_ixor hx hb dX3_answerTo_2 ?_
  refine lv_ldc (v := 16777619) hx hb hown (hts _ wd_415) dX3_answerTo_3 ?_
  refine lv_imul hx hb dX3_answerTo_5 ?_
  refine lv_istore_n (lv' := [(2, .int ((a ^^^ b) * 16777619)), (0, .int a), (1, .int b)]) hx hb dX3_answerTo_6 rfl hl (by decide) rfl (fun ls hl => ?_)
  refine lv_iload_n hx hb dX3_answerTo_7 rfl (lv_at hl 0 rfl) ?_
  refine lv_iconst (v := 5) hx hb dX3_answerTo_8 (by decide) ?_
  refine lv_ishl hx hb dX3_answerTo_9 ?_
  refine lv_iload_n hx hb dX3_answerTo_10 rfl (lv_at hl 0 rfl) ?_
  refine lv_bipush (v := 27) hx hb dX3_answerTo_11 (by decide) ?_
  refine lv_iushr hx hb dX3_answerTo_13 rfl ?_
  refine lv_ior hx hb dX3_answerTo_14 ?_
  exact z_iret F (rfl) hw hS (⟨rfl, rfl, rfl⟩) dX3_answerTo_15
def cp_takesChallenge (T : rf_T) (Q : rf_Q) (M : List Nat) : rf_R := (if ((T 1 0) : Int32) = 2 then (if rf_sz M 33 = some 4 then (1, T, rf_put T Q 0 ([5, 20, 34, 4] ++ rf_bytes 4 (rf_turned (rf_val M 33) (T 0 0)))) else (0, T, Q)) else (if ((T 1 0) : Int32) = 4 then (if rf_sz M 33 = some 4 then (1, T, rf_put T Q 0 ([5, 20, 34, 4] ++ rf_bytes 4 (rf_turned (rf_val M 33) (T 0 0)))) else (0, T, Q)) else (0, T, Q)))
theorem cp_takesChallenge_b (T : rf_T) (Q : rf_Q) (M : List Nat) : (cp_takesChallenge T Q M).1 = 0 ∨ (cp_takesChallenge T Q M).1 = 1 := by unfold cp_takesChallenge; (repeat' split) <;> first | exact Or.inl rfl | exact Or.inr rfl
set_option maxHeartbeats 4000000 in
set_option maxRecDepth 100000 in
theorem c_takesChallenge (l : Launch) {G : zz_G} {ad : Nat → Nat} {ce : zz_C} {sz : Nat} (T : rf_T) (Q : rf_Q) (hV : clV G ad ce T Q) (h : Nat) (M : List Nat) (hm : cl_m G ad ce h M) (hg : rf_good M) (hM2 : 2 ≤ M.length) (hh : 30 ≤ h ∧ h + 1 < 50) : zz_M l yX1_takesChallenge cX1_takesChallenge 3 (some .boolean) 3 67 0 0 G [.ref (ad 1), .ref (ad h)] ad ce sz (fun r ad1 ce1 => r = some (.int (cp_takesChallenge T Q M).1) ∧ ad = ad1 ∧ clV G ad ce1 (cp_takesChallenge T Q M).2.1 (cp_takesChallenge T Q M).2.2 ∧ (∀ j, 30 ≤ j → ce1 j = ce j)) := by
  refine zz_enter (by decide) (Nat.le_of_ble_eq_true rfl) ?_
  intro p e s m below meth c ls F hl hw hS hA
  obtain ⟨hx, hb, hr, hml, hown, hts, hlocks, hK, hnm⟩ := id F
  have hl : lv_has ls 3 [(0, .ref (ad 1)), (1, .ref (ad h))] := hl
  obtain ⟨r0, r1, ⟨h0, h1, h2, h3, h4⟩, ht0, ht1, hR0, hR1⟩ := hV
  have hF : ∀ j, 30 ≤ j → ce j = ce j := fun _ _ => rfl
  refine lv_aload_n hx hb dX1_takesChallenge_0 rfl (lv_at hl 0 rfl) ?_
  refine z_get F hw h1 fd_X1_25_X1 rfl dX1_takesChallenge_1 ?_
  refine lv_iconst (v := 2) hx hb dX1_takesChallenge_4 (by decide) ?_
  refine lv_icmp_eq (tgt := 16) hx hb dX1_takesChallenge_5 (by decide) (fun c5 => ?_) (fun c5 => ?_)
  · refine lv_aload_n hx hb dX1_takesChallenge_16 rfl (lv_at hl 1 rfl) ?_
    refine lv_bipush (v := 33) hx hb dX1_takesChallenge_17 (by decide) ?_
    refine lv_iconst (v := 4) hx hb dX1_takesChallenge_19 (by decide) ?_
    refine z_invV F (rest := []) (c_has l h M hm 33 4 (by decide) (by decide)) yv_X1_98 ⟨Nat.le_of_ble_eq_true rfl, Nat.le_of_ble_eq_true rfl⟩ hw hA hS hl hm.obj rfl rfl rfl (Nat.le_of_ble_eq_true rfl) dX1_takesChallenge_20 ⟨Nat.le_of_ble_eq_true rfl, Nat.le_of_ble_eq_true rfl⟩ (fun r ad1 ce1 H locs hp hw hS => ?_)
    obtain ⟨hp, rfl, rfl⟩ := hp
    rcases hp with ⟨hs, rfl⟩ | ⟨hs, rfl⟩
    · refine W.eq (g2 := F0 m 23 ls [.int 1]) rfl ?_
      refine lv_if_ne (tgt := 28) hx hb dX1_takesChallenge_23 (by decide) (fun c23 => ?_) (fun c23 => absurd c23 (by decide))
      refine lv_aload_n hx hb dX1_takesChallenge_28 rfl (lv_at hl 1 rfl) ?_
      refine lv_bipush (v := 33) hx hb dX1_takesChallenge_29 (by decide) ?_
      refine lv_iconst (v := 4) hx hb dX1_takesChallenge_31 (by decide) ?_
      refine z_invV F (rest := []) (c_number l h M hm 33 4 (by decide) hg hs) yv_X1_101 ⟨Nat.le_of_ble_eq_true rfl, Nat.le_of_ble_eq_true rfl⟩ hw hA hS hl hm.obj rfl rfl rfl (Nat.le_of_ble_eq_true rfl) dX1_takesChallenge_32 ⟨Nat.le_of_ble_eq_true rfl, Nat.le_of_ble_eq_true rfl⟩ (fun r ad1 ce2 H locs hp hw hS => ?_)
      obtain ⟨rfl, rfl, rfl⟩ := hp
      refine W.eq (g2 := F0 m 35 ls [.int (rf_val M 33)]) rfl ?_
      refine lv_istore_n (lv' := [(2, .int (rf_val M 33)), (0, .ref (ad 1)), (1, .ref (ad h))]) hx hb dX1_takesChallenge_35 rfl hl (by decide) rfl (fun ls hl => ?_)
      refine lv_aload_n hx hb dX1_takesChallenge_36 rfl (lv_at hl 1 rfl) ?_
      refine z_get F hw h1 fd_X1_31_X1 rfl dX1_takesChallenge_37 ?_
      refine lv_iconst (v := 5) hx hb dX1_takesChallenge_40 (by decide) ?_
      refine lv_bipush (v := 20) hx hb dX1_takesChallenge_41 (by decide) ?_
      obtain ⟨vs9, ho9⟩ := hR0.obj
      refine z_invV F (rest := []) (c_send l 10 _ _ hR0 5 20 (by decide) (by decide)) yv_X1_35 ⟨Nat.le_of_ble_eq_true rfl, Nat.le_of_ble_eq_true rfl⟩ hw hA hS hl ho9 rfl rfl rfl (Nat.le_of_ble_eq_true rfl) dX1_takesChallenge_43 ⟨Nat.le_of_ble_eq_true rfl, Nat.le_of_ble_eq_true rfl⟩ (fun r ad1 ce3 H locs hp hw hS => ?_)
      obtain ⟨rfl, ⟨h9, rfl, hp9⟩, hF2⟩ := hp
      have h0 := (hF2 0 (by decide)).trans h0
      have h1 := (hF2 1 (by decide)).trans h1
      have h2 := (hF2 2 (by decide)).trans h2
      have h3 := (hF2 3 (by decide)).trans h3
      have h4 := (hF2 4 (by decide)).trans h4
      have hR1 := hR1.kept (fun j h1 h2 => hF2 j (by omega))
      have hF : ∀ j, 30 ≤ j → ce3 j = ce j := fun j hj => (hF2 j (by omega)).trans (hF j hj)
      have hm := hm.kept (hF2 h (by omega)) (hF2 (h + 1) (by omega))
      have hR0 : cl_r G ad ce3 10 ((rf_put T Q 0 ([5, 20])) 0) (cl_op T) := cl_put (x := [5, 20]) hp9.end
      have hR1 : cl_r G ad ce3 30 ((rf_put T Q 0 ([5, 20])) 1) (cl_op T) := by rw [cl_putn _ _ _ (by decide)]; exact hR1
      refine W.eq (g2 := F0 m 46 ls [.ref (ad h9)]) rfl ?_
      refine lv_bipush (v := 34) hx hb dX1_takesChallenge_46 (by decide) ?_
      refine lv_iconst (v := 4) hx hb dX1_takesChallenge_48 (by decide) ?_
      refine lv_iload_n hx hb dX1_takesChallenge_49 rfl (lv_at hl 0 rfl) ?_
      refine lv_aload_n hx hb dX1_takesChallenge_50 rfl (lv_at hl 1 rfl) ?_
      refine z_get F hw h1 fd_X1_11_X1 rfl dX1_takesChallenge_51 ?_
      refine z_invX F (rest := [.int 4, .int 34, .ref (ad h9)]) (c_answerTo l (rf_val M 33) (T 0 0)) yx_X1_108 ⟨Nat.le_of_ble_eq_true rfl, Nat.le_of_ble_eq_true rfl⟩ hw hA hS hl rfl rfl (Nat.le_of_ble_eq_true rfl) dX1_takesChallenge_54 ⟨Nat.le_of_ble_eq_true rfl, Nat.le_of_ble_eq_true rfl⟩ (fun r ad1 ce4 H locs hp hw hS => ?_)
      obtain ⟨rfl, rfl, rfl⟩ := hp
      refine W.eq (g2 := F0 m 57 ls [.int (rf_turned (rf_val M 33) (T 0 0)), .int 4, .int 34, .ref (ad h9)]) rfl ?_
      have hm9 := hp9.m
      refine z_invV F (rest := []) (c_addNumber4 l h9 [5, 20] hm9 rfl 34 (by decide) (rf_turned (rf_val M 33) (T 0 0))) yv_X1_41 ⟨Nat.le_of_ble_eq_true rfl, Nat.le_of_ble_eq_true rfl⟩ hw hA hS hl hm9.obj rfl rfl rfl (Nat.le_of_ble_eq_true rfl) dX1_takesChallenge_57 ⟨Nat.le_of_ble_eq_true rfl, Nat.le_of_ble_eq_true rfl⟩ (fun r ad1 ce5 H locs hp hw hS => ?_)
      obtain ⟨rfl, rfl, hm9, hF2⟩ := hp
      have hat9 := hp9.at
      have h0 := (hF2 0 (by omega) (by omega)).trans h0
      have h1 := (hF2 1 (by omega) (by omega)).trans h1
      have h2 := (hF2 2 (by omega) (by omega)).trans h2
      have h3 := (hF2 3 (by omega) (by omega)).trans h3
      have h4 := (hF2 4 (by omega) (by omega)).trans h4
      have hR1 : cl_r G ad ce5 30 (Q 1) (cl_op T) := by rw [cl_putn _ _ _ (by decide)] at hR1; exact hR1.kept (fun j h1 h2 => hF2 j (by omega) (by omega))
      have hF : ∀ j, 30 ≤ j → ce5 j = ce j := fun j hj => (hF2 j (by omega) (by omega)).trans (hF j hj)
      have hm := hm.kept (hF2 h (by omega) (by omega)) (hF2 (h + 1) (by omega) (by omega))
      have hp9 := hp9.step hF2 hm9 (by simp)
      rw [cl_apx] at hp9
      have hR0 : cl_r G ad ce5 10 ((rf_put T Q 0 ([5, 20, 34, 4] ++ rf_bytes 4 (rf_turned (rf_val M 33) (T 0 0)))) 0) (cl_op T) := cl_put (x := [5, 20, 34, 4] ++ rf_bytes 4 (rf_turned (rf_val M 33) (T 0 0))) hp9.end
      have hR1 : cl_r G ad ce5 30 ((rf_put T Q 0 ([5, 20, 34, 4] ++ rf_bytes 4 (rf_turned (rf_val M 33) (T 0 0)))) 1) (cl_op T) := by rw [cl_putn _ _ _ (by decide)]; exact hR1
      refine W.eq (g2 := F0 m 60 ls []) rfl ?_
      refine lv_iconst (v := 1) hx hb dX1_takesChallenge_60 (by decide) ?_
      exact z_iret F (rfl) hw hS (by unfold cp_takesChallenge; rw [if_pos c5, if_pos hs]; exact ⟨rfl, rfl, ⟨_, _, ⟨h0, h1, h2, h3, h4⟩, ht0, ht1, hR0, hR1⟩, hF⟩) dX1_takesChallenge_61
    · refine W.eq (g2 := F0 m 23 ls [.int 0]) rfl ?_
      refine lv_if_ne (tgt := 28) hx hb dX1_takesChallenge_23 (by decide) (fun c23 => absurd c23 (by decide)) (fun c23 => ?_)
      refine lv_iconst (v := 0) hx hb dX1_takesChallenge_26 (by decide) ?_
      exact z_iret F (rfl) hw hS (by unfold cp_takesChallenge; rw [if_pos c5, if_neg hs]; exact ⟨rfl, rfl, ⟨_, _, ⟨h0, h1, h2, h3, h4⟩, ht0, ht1, hR0, hR1⟩, hF⟩) dX1_takesChallenge_27
  · refine lv_aload_n hx hb dX1_takesChallenge_8 rfl (lv_at hl 0 rfl) ?_
    refine z_get F hw h1 fd_X1_25_X1 rfl dX1_takesChallenge_9 ?_
    refine lv_iconst (v := 4) hx hb dX1_takesChallenge_12 (by decide) ?_
    refine lv_icmp_ne (tgt := 26) hx hb dX1_takesChallenge_13 (by decide) (fun c13 => ?_) (fun c13 => ?_)
    · refine lv_iconst (v := 0) hx hb dX1_takesChallenge_26 (by decide) ?_
      exact z_iret F (rfl) hw hS (by unfold cp_takesChallenge; rw [if_neg c5, if_neg c13]; exact ⟨rfl, rfl, ⟨_, _, ⟨h0, h1, h2, h3, h4⟩, ht0, ht1, hR0, hR1⟩, hF⟩) dX1_takesChallenge_27
    · refine lv_aload_n hx hb dX1_takesChallenge_16 rfl (lv_at hl 1 rfl) ?_
      refine lv_bipush (v := 33) hx hb dX1_takesChallenge_17 (by decide) ?_
      refine lv_iconst (v := 4) hx hb dX1_takesChallenge_19 (by decide) ?_
      refine z_invV F (rest := []) (c_has l h M hm 33 4 (by decide) (by decide)) yv_X1_98 ⟨Nat.le_of_ble_eq_true rfl, Nat.le_of_ble_eq_true rfl⟩ hw hA hS hl hm.obj rfl rfl rfl (Nat.le_of_ble_eq_true rfl) dX1_takesChallenge_20 ⟨Nat.le_of_ble_eq_true rfl, Nat.le_of_ble_eq_true rfl⟩ (fun r ad1 ce6 H locs hp hw hS => ?_)
      obtain ⟨hp, rfl, rfl⟩ := hp
      rcases hp with ⟨hs, rfl⟩ | ⟨hs, rfl⟩
      · refine W.eq (g2 := F0 m 23 ls [.int 1]) rfl ?_
        refine lv_if_ne (tgt := 28) hx hb dX1_takesChallenge_23 (by decide) (fun c23 => ?_) (fun c23 => absurd c23 (by decide))
        refine lv_aload_n hx hb dX1_takesChallenge_28 rfl (lv_at hl 1 rfl) ?_
        refine lv_bipush (v := 33) hx hb dX1_takesChallenge_29 (by decide) ?_
        refine lv_iconst (v := 4) hx hb dX1_takesChallenge_31 (by decide) ?_
        refine z_invV F (rest := []) (c_number l h M hm 33 4 (by decide) hg hs) yv_X1_101 ⟨Nat.le_of_ble_eq_true rfl, Nat.le_of_ble_eq_true rfl⟩ hw hA hS hl hm.obj rfl rfl rfl (Nat.le_of_ble_eq_true rfl) dX1_takesChallenge_32 ⟨Nat.le_of_ble_eq_true rfl, Nat.le_of_ble_eq_true rfl⟩ (fun r ad1 ce7 H locs hp hw hS => ?_)
        obtain ⟨rfl, rfl, rfl⟩ := hp
        refine W.eq (g2 := F0 m 35 ls [.int (rf_val M 33)]) rfl ?_
        refine lv_istore_n (lv' := [(2, .int (rf_val M 33)), (0, .ref (ad 1)), (1, .ref (ad h))]) hx hb dX1_takesChallenge_35 rfl hl (by decide) rfl (fun ls hl => ?_)
        refine lv_aload_n hx hb dX1_takesChallenge_36 rfl (lv_at hl 1 rfl) ?_
        refine z_get F hw h1 fd_X1_31_X1 rfl dX1_takesChallenge_37 ?_
        refine lv_iconst (v := 5) hx hb dX1_takesChallenge_40 (by decide) ?_
        refine lv_bipush (v := 20) hx hb dX1_takesChallenge_41 (by decide) ?_
        obtain ⟨vs9, ho9⟩ := hR0.obj
        refine z_invV F (rest := []) (c_send l 10 _ _ hR0 5 20 (by decide) (by decide)) yv_X1_35 ⟨Nat.le_of_ble_eq_true rfl, Nat.le_of_ble_eq_true rfl⟩ hw hA hS hl ho9 rfl rfl rfl (Nat.le_of_ble_eq_true rfl) dX1_takesChallenge_43 ⟨Nat.le_of_ble_eq_true rfl, Nat.le_of_ble_eq_true rfl⟩ (fun r ad1 ce8 H locs hp hw hS => ?_)
        obtain ⟨rfl, ⟨h9, rfl, hp9⟩, hF2⟩ := hp
        have h0 := (hF2 0 (by decide)).trans h0
        have h1 := (hF2 1 (by decide)).trans h1
        have h2 := (hF2 2 (by decide)).trans h2
        have h3 := (hF2 3 (by decide)).trans h3
        have h4 := (hF2 4 (by decide)).trans h4
        have hR1 := hR1.kept (fun j h1 h2 => hF2 j (by omega))
        have hF : ∀ j, 30 ≤ j → ce8 j = ce j := fun j hj => (hF2 j (by omega)).trans (hF j hj)
        have hm := hm.kept (hF2 h (by omega)) (hF2 (h + 1) (by omega))
        have hR0 : cl_r G ad ce8 10 ((rf_put T Q 0 ([5, 20])) 0) (cl_op T) := cl_put (x := [5, 20]) hp9.end
        have hR1 : cl_r G ad ce8 30 ((rf_put T Q 0 ([5, 20])) 1) (cl_op T) := by rw [cl_putn _ _ _ (by decide)]; exact hR1
        refine W.eq (g2 := F0 m 46 ls [.ref (ad h9)]) rfl ?_
        refine lv_bipush (v := 34) hx hb dX1_takesChallenge_46 (by decide) ?_
        refine lv_iconst (v := 4) hx hb dX1_takesChallenge_48 (by decide) ?_
        refine lv_iload_n hx hb dX1_takesChallenge_49 rfl (lv_at hl 0 rfl) ?_
        refine lv_aload_n hx hb dX1_takesChallenge_50 rfl (lv_at hl 1 rfl) ?_
        refine z_get F hw h1 fd_X1_11_X1 rfl dX1_takesChallenge_51 ?_
        refine z_invX F (rest := [.int 4, .int 34, .ref (ad h9)]) (c_answerTo l (rf_val M 33) (T 0 0)) yx_X1_108 ⟨Nat.le_of_ble_eq_true rfl, Nat.le_of_ble_eq_true rfl⟩ hw hA hS hl rfl rfl (Nat.le_of_ble_eq_true rfl) dX1_takesChallenge_54 ⟨Nat.le_of_ble_eq_true rfl, Nat.le_of_ble_eq_true rfl⟩ (fun r ad1 ce9 H locs hp hw hS => ?_)
        obtain ⟨rfl, rfl, rfl⟩ := hp
        refine W.eq (g2 := F0 m 57 ls [.int (rf_turned (rf_val M 33) (T 0 0)), .int 4, .int 34, .ref (ad h9)]) rfl ?_
        have hm9 := hp9.m
        refine z_invV F (rest := []) (c_addNumber4 l h9 [5, 20] hm9 rfl 34 (by decide) (rf_turned (rf_val M 33) (T 0 0))) yv_X1_41 ⟨Nat.le_of_ble_eq_true rfl, Nat.le_of_ble_eq_true rfl⟩ hw hA hS hl hm9.obj rfl rfl rfl (Nat.le_of_ble_eq_true rfl) dX1_takesChallenge_57 ⟨Nat.le_of_ble_eq_true rfl, Nat.le_of_ble_eq_true rfl⟩ (fun r ad1 ce10 H locs hp hw hS => ?_)
        obtain ⟨rfl, rfl, hm9, hF2⟩ := hp
        have hat9 := hp9.at
        have h0 := (hF2 0 (by omega) (by omega)).trans h0
        have h1 := (hF2 1 (by omega) (by omega)).trans h1
        have h2 := (hF2 2 (by omega) (by omega)).trans h2
        have h3 := (hF2 3 (by omega) (by omega)).trans h3
        have h4 := (hF2 4 (by omega) (by omega)).trans h4
        have hR1 : cl_r G ad ce10 30 (Q 1) (cl_op T) := by rw [cl_putn _ _ _ (by decide)] at hR1; exact hR1.kept (fun j h1 h2 => hF2 j (by omega) (by omega))
        have hF : ∀ j, 30 ≤ j → ce10 j = ce j := fun j hj => (hF2 j (by omega) (by omega)).trans (hF j hj)
        have hm := hm.kept (hF2 h (by omega) (by omega)) (hF2 (h + 1) (by omega) (by omega))
        have hp9 := hp9.step hF2 hm9 (by simp)
        rw [cl_apx] at hp9
        have hR0 : cl_r G ad ce10 10 ((rf_put T Q 0 ([5, 20, 34, 4] ++ rf_bytes 4 (rf_turned (rf_val M 33) (T 0 0)))) 0) (cl_op T) := cl_put (x := [5, 20, 34, 4] ++ rf_bytes 4 (rf_turned (rf_val M 33) (T 0 0))) hp9.end
        have hR1 : cl_r G ad ce10 30 ((rf_put T Q 0 ([5, 20, 34, 4] ++ rf_bytes 4 (rf_turned (rf_val M 33) (T 0 0)))) 1) (cl_op T) := by rw [cl_putn _ _ _ (by decide)]; exact hR1
        refine W.eq (g2 := F0 m 60 ls []) rfl ?_
        refine lv_iconst (v := 1) hx hb dX1_takesChallenge_60 (by decide) ?_
        exact z_iret F (rfl) hw hS (by unfold cp_takesChallenge; rw [if_neg c5, if_pos c13, if_pos hs]; exact ⟨rfl, rfl, ⟨_, _, ⟨h0, h1, h2, h3, h4⟩, ht0, ht1, hR0, hR1⟩, hF⟩) dX1_takesChallenge_61
      · refine W.eq (g2 := F0 m 23 ls [.int 0]) rfl ?_
        refine lv_if_ne (tgt := 28) hx hb dX1_takesChallenge_23 (by decide) (fun c23 => absurd c23 (by decide)) (fun c23 => ?_)
        refine lv_iconst (v := 0) hx hb dX1_takesChallenge_26 (by decide) ?_
        exact z_iret F (rfl) hw hS (by unfold cp_takesChallenge; rw [if_neg c5, if_pos c13, if_neg hs]; exact ⟨rfl, rfl, ⟨_, _, ⟨h0, h1, h2, h3, h4⟩, ht0, ht1, hR0, hR1⟩, hF⟩) dX1_takesChallenge_27
def cp_takesExpelled (T : rf_T) (Q : rf_Q) : rf_R := (if ((T 1 0) : Int32) = 0 then (0, T, Q) else (1, (rf_become T 0 1 0 0), Q))
theorem cp_takesExpelled_b (T : rf_T) (Q : rf_Q) : (cp_takesExpelled T Q).1 = 0 ∨ (cp_takesExpelled T Q).1 = 1 := by unfold cp_takesExpelled; (repeat' split) <;> first | exact Or.inl rfl | exact Or.inr rfl
set_option maxHeartbeats 4000000 in
set_option maxRecDepth 100000 in
theorem c_takesExpelled (l : Launch) {G : zz_G} {ad : Nat → Nat} {ce : zz_C} {sz : Nat} (T : rf_T) (Q : rf_Q) (hV : clV G ad ce T Q) : zz_M l yX1_takesExpelled cX1_takesExpelled 1 (some .boolean) 1 22 0 0 G [.ref (ad 1)] ad ce sz (fun r ad1 ce1 => r = some (.int (cp_takesExpelled T Q).1) ∧ ad = ad1 ∧ clV G ad ce1 (cp_takesExpelled T Q).2.1 (cp_takesExpelled T Q).2.2 ∧ (∀ j, 30 ≤ j → ce1 j = ce j)) := by
  refine zz_enter (by decide) (Nat.le_of_ble_eq_true rfl) ?_
  intro p e s m below meth c ls F hl hw hS hA
  obtain ⟨hx, hb, hr, hml, hown, hts, hlocks, hK, hnm⟩ := id F
  have hl : lv_has ls 1 [(0, .ref (ad 1))] := hl
  obtain ⟨r0, r1, ⟨h0, h1, h2, h3, h4⟩, ht0, ht1, hR0, hR1⟩ := hV
  have hF : ∀ j, 30 ≤ j → ce j = ce j := fun _ _ => rfl
  refine lv_aload_n hx hb dX1_takesExpelled_0 rfl (lv_at hl 0 rfl) ?_
  refine z_get F hw h1 fd_X1_25_X1 rfl dX1_takesExpelled_1 ?_
  refine lv_if_ne (tgt := 9) hx hb dX1_takesExpelled_4 (by decide) (fun c4 => ?_) (fun c4 => ?_)
  · refine lv_aload_n hx hb dX1_takesExpelled_9 rfl (lv_at hl 0 rfl) ?_
    refine lv_iconst (v := 1) hx hb dX1_takesExpelled_10 (by decide) ?_
    refine lv_iconst (v := 0) hx hb dX1_takesExpelled_11 (by decide) ?_
    have hV : clV G ad ce T Q := ⟨_, _, ⟨h0, h1, h2, h3, h4⟩, ht0, ht1, hR0, hR1⟩
    refine z_invU F (rest := []) (c_setState0 l T Q hV 1 0) yu_X1_28_X1 ⟨Nat.le_of_ble_eq_true rfl, Nat.le_of_ble_eq_true rfl⟩ hw hA hS hl h1 rfl rfl rfl (Nat.le_of_ble_eq_true rfl) dX1_takesExpelled_12 ⟨Nat.le_of_ble_eq_true rfl, Nat.le_of_ble_eq_true rfl⟩ (fun r ad1 ce1 H locs hp hw hS => ?_)
    obtain ⟨rfl, rfl, hV, hF2⟩ := hp
    have hF : ∀ j, 30 ≤ j → ce1 j = ce j := fun j hj => (hF2 j (by omega)).trans (hF j hj)
    obtain ⟨r0, r1, ⟨h0, h1, h2, h3, h4⟩, ht0, ht1, hR0, hR1⟩ := hV
    refine W.eq (g2 := F0 m 15 ls []) rfl ?_
    refine lv_iconst (v := 1) hx hb dX1_takesExpelled_15 (by decide) ?_
    exact z_iret F (rfl) hw hS (by unfold cp_takesExpelled; rw [if_neg c4]; exact ⟨rfl, rfl, ⟨_, _, ⟨h0, h1, h2, h3, h4⟩, ht0, ht1, hR0, hR1⟩, hF⟩) dX1_takesExpelled_16
  · refine lv_iconst (v := 0) hx hb dX1_takesExpelled_7 (by decide) ?_
    exact z_iret F (rfl) hw hS (by unfold cp_takesExpelled; rw [if_pos c4]; exact ⟨rfl, rfl, ⟨_, _, ⟨h0, h1, h2, h3, h4⟩, ht0, ht1, hR0, hR1⟩, hF⟩) dX1_takesExpelled_8
set_option maxHeartbeats 4000000 in
set_option maxRecDepth 100000 in
theorem c_sendSetUp (l : Launch) {G : zz_G} {ad : Nat → Nat} {ce : zz_C} {sz : Nat} (T : rf_T) (Q : rf_Q) (hV : clV G ad ce T Q) (d : Nat) (hd : d ≤ 8) (hdc : T 0 9 = nI d) : zz_M l yX1_sendSetUp cX1_sendSetUp 3 none 2 45 0 0 G [.ref (ad 1)] ad ce sz (fun r ad1 ce1 => r = none ∧ ad = ad1 ∧ clV G ad ce1 (T) (rf_put T Q 0 (rf_dg T d d)) ∧ (∀ j, 30 ≤ j → ce1 j = ce j)) := by
  refine zz_enter (by decide) (Nat.le_of_ble_eq_true rfl) ?_
  intro p e s m below meth c ls F hl hw hS hA
  obtain ⟨hx, hb, hr, hml, hown, hts, hlocks, hK, hnm⟩ := id F
  have hl : lv_has ls 3 [(0, .ref (ad 1))] := hl
  obtain ⟨r0, r1, ⟨h0, h1, h2, h3, h4⟩, ht0, ht1, hR0, hR1⟩ := hV
  have hF : ∀ j, 30 ≤ j → ce j = ce j := fun _ _ => rfl
  refine lv_aload_n hx hb dX1_sendSetUp_0 rfl (lv_at hl 0 rfl) ?_
  refine z_get F hw h1 fd_X1_31_X1 rfl dX1_sendSetUp_1 ?_
  refine lv_iconst (v := 3) hx hb dX1_sendSetUp_4 (by decide) ?_
  refine lv_iconst (v := 5) hx hb dX1_sendSetUp_5 (by decide) ?_
  have e0 := h0
  have e1 := h1
  have e2 := h2
  have e3 := h3
  have e4 := h4
  obtain ⟨vs9, ho9⟩ := hR0.obj
  refine z_invV F (rest := []) (c_send l 10 _ _ hR0 3 5 (by decide) (by decide)) yv_X1_35 ⟨Nat.le_of_ble_eq_true rfl, Nat.le_of_ble_eq_true rfl⟩ hw hA hS hl ho9 rfl rfl rfl (Nat.le_of_ble_eq_true rfl) dX1_sendSetUp_6 ⟨Nat.le_of_ble_eq_true rfl, Nat.le_of_ble_eq_true rfl⟩ (fun r ad1 ce1 H locs hp hw hS => ?_)
  obtain ⟨rfl, ⟨h9, rfl, hp9⟩, frA⟩ := hp
  have h0 := (frA 0 (by decide)).trans e0
  have h1 := (frA 1 (by decide)).trans e1
  have h2 := (frA 2 (by decide)).trans e2
  have h3 := (frA 3 (by decide)).trans e3
  have h4 := (frA 4 (by decide)).trans e4
  refine W.eq (g2 := F0 m 9 ls [.ref (ad h9)]) rfl ?_
  refine lv_astore_n (lv' := [(1, .ref (ad h9)), (0, .ref (ad 1))]) hx hb dX1_sendSetUp_9 rfl hl (by decide) rfl (fun ls hl => ?_)
  refine lv_aload_n hx hb dX1_sendSetUp_10 rfl (lv_at hl 0 rfl) ?_
  refine lv_bipush (v := 94) hx hb dX1_sendSetUp_11 (by decide) ?_
  have hm9 := hp9.m
  refine z_invV F (rest := []) (c_add l h9 ([3, 5]) hm9 (by simp) 94) yv_X1_120 ⟨Nat.le_of_ble_eq_true rfl, Nat.le_of_ble_eq_true rfl⟩ hw hA hS hl hm9.obj rfl rfl rfl (Nat.le_of_ble_eq_true rfl) dX1_sendSetUp_13 ⟨Nat.le_of_ble_eq_true rfl, Nat.le_of_ble_eq_true rfl⟩ (fun r ad1 ce2 H locs hp hw hS => ?_)
  obtain ⟨rfl, rfl, hm9, hF2⟩ := hp
  have hat9 := hp9.at
  have h0 := (hF2 0 (by omega) (by omega)).trans h0
  have h1 := (hF2 1 (by omega) (by omega)).trans h1
  have h2 := (hF2 2 (by omega) (by omega)).trans h2
  have h3 := (hF2 3 (by omega) (by omega)).trans h3
  have h4 := (hF2 4 (by omega) (by omega)).trans h4
  have frA : ∀ j, j < 10 ∨ 30 ≤ j → ce2 j = ce j := fun j hj => (hF2 j (by omega) (by omega)).trans (frA j hj)
  have hp9 := hp9.step hF2 hm9 (by simp)
  refine W.eq (g2 := F0 m 16 ls []) rfl ?_
  refine lv_aload_n hx hb dX1_sendSetUp_16 rfl (lv_at hl 0 rfl) ?_
  refine lv_aload_n hx hb dX1_sendSetUp_17 rfl (lv_at hl 1 rfl) ?_
  refine z_get F hw h1 fd_X1_22_X1 rfl dX1_sendSetUp_18 ?_
  refine z_top (nI d) (hdc) ?_
  have hm9 := hp9.m
  refine z_invV F (rest := []) (c_add l h9 (([3, 5]) ++ [rf_zb 94]) hm9 (by simp) (nI d)) yv_X1_120 ⟨Nat.le_of_ble_eq_true rfl, Nat.le_of_ble_eq_true rfl⟩ hw hA hS hl hm9.obj rfl rfl rfl (Nat.le_of_ble_eq_true rfl) dX1_sendSetUp_21 ⟨Nat.le_of_ble_eq_true rfl, Nat.le_of_ble_eq_true rfl⟩ (fun r ad1 ce3 H locs hp hw hS => ?_)
  obtain ⟨rfl, rfl, hm9, hF2⟩ := hp
  have hat9 := hp9.at
  have h0 := (hF2 0 (by omega) (by omega)).trans h0
  have h1 := (hF2 1 (by omega) (by omega)).trans h1
  have h2 := (hF2 2 (by omega) (by omega)).trans h2
  have h3 := (hF2 3 (by omega) (by omega)).trans h3
  have h4 := (hF2 4 (by omega) (by omega)).trans h4
  have frA : ∀ j, j < 10 ∨ 30 ≤ j → ce3 j = ce j := fun j hj => (hF2 j (by omega) (by omega)).trans (frA j hj)
  have hp9 := hp9.step hF2 hm9 (by simp)
  refine W.eq (g2 := F0 m 24 ls []) rfl ?_
  refine lv_iconst (v := 0) hx hb dX1_sendSetUp_24 (by decide) ?_
  refine lv_istore_n (lv' := [(2, .int 0), (1, .ref (ad h9)), (0, .ref (ad 1))]) hx hb dX1_sendSetUp_25 rfl hl (by decide) rfl (fun ls hl => ?_)
  refine z_loop (α := Nat) (fun k => d - k) (fun k ce9 ls9 => lv_has ls9 3 [(0, .ref (ad 1)), (1, .ref (ad h9)), (2, .int (nI k))] ∧ cl_p G ad ce9 10 (Q 0) (cl_op T) h9 (rf_dg T d k) ∧ (∀ j, j < 10 ∨ 30 ≤ j → ce9 j = ce j) ∧ k ≤ d) 0 ⟨lv_sub hl [2, 1, 0] rfl, hp9, frA, Nat.zero_le _⟩ hw hS (fun k ih26 ce9 H locs ls hI hw hS => ?_)
  obtain ⟨hl, hp9, frA, hkd⟩ := hI
  have h0 := (frA 0 (by decide)).trans e0
  have h1 := (frA 1 (by decide)).trans e1
  have h2 := (frA 2 (by decide)).trans e2
  have h3 := (frA 3 (by decide)).trans e3
  have h4 := (frA 4 (by decide)).trans e4
  refine lv_iload_n hx hb dX1_sendSetUp_26 rfl (lv_at hl 2 rfl) ?_
  refine lv_aload_n hx hb dX1_sendSetUp_27 rfl (lv_at hl 0 rfl) ?_
  refine z_get F hw h1 fd_X1_22_X1 rfl dX1_sendSetUp_28 ?_
  refine z_top (nI d) (hdc) ?_
  refine lv_icmp_ge (tgt := 50) hx hb dX1_sendSetUp_31 (by decide) (fun c31 => ?_) (fun c31 => ?_)
  · exact z_vret F hw hS (⟨rfl, rfl, (by have hke : d = k := Nat.le_antisymm (Nat.le_of_not_lt (fun q => absurd c31 (nI_ge q (by omega)))) hkd; subst hke; exact ⟨r0, r1, ⟨h0, h1, h2, h3, h4⟩, ht0, ht1, cl_put hp9.end, by rw [cl_putn _ _ _ (by decide)]; exact hR1.kept (fun j h1 h2 => frA j (by omega))⟩), fun j hj => frA j (by omega)⟩) dX1_sendSetUp_50
  · have hklt : k < d := Nat.lt_of_not_le (fun q => c31 (nI_le q (by omega)))
    refine lv_aload_n hx hb dX1_sendSetUp_34 rfl (lv_at hl 1 rfl) ?_
    refine lv_aload_n hx hb dX1_sendSetUp_35 rfl (lv_at hl 0 rfl) ?_
    refine z_get F hw h1 fd_X1_18_X1 rfl dX1_sendSetUp_36 ?_
    refine lv_iload_n hx hb dX1_sendSetUp_39 rfl (lv_at hl 2 rfl) ?_
    refine z_ld F hw h3 (k) (rfl) (by omega) (by decide) dX1_sendSetUp_40 ?_
    have hm9 := hp9.m
    refine z_invV F (rest := []) (c_add l h9 (rf_dg T d k) hm9 (by simp [rf_dg]; omega) ((T 6) k)) yv_X1_120 ⟨Nat.le_of_ble_eq_true rfl, Nat.le_of_ble_eq_true rfl⟩ hw hA hS hl hm9.obj rfl rfl rfl (Nat.le_of_ble_eq_true rfl) dX1_sendSetUp_41 ⟨Nat.le_of_ble_eq_true rfl, Nat.le_of_ble_eq_true rfl⟩ (fun r ad1 ce4 H locs hp hw hS => ?_)
    obtain ⟨rfl, rfl, hm9, hF2⟩ := hp
    have hat9 := hp9.at
    have h0 := (hF2 0 (by omega) (by omega)).trans h0
    have h1 := (hF2 1 (by omega) (by omega)).trans h1
    have h2 := (hF2 2 (by omega) (by omega)).trans h2
    have h3 := (hF2 3 (by omega) (by omega)).trans h3
    have h4 := (hF2 4 (by omega) (by omega)).trans h4
    have frA : ∀ j, j < 10 ∨ 30 ≤ j → ce4 j = ce j := fun j hj => (hF2 j (by omega) (by omega)).trans (frA j hj)
    have hp9 := hp9.step hF2 hm9 (by simp [rf_dg])
    refine W.eq (g2 := F0 m 44 ls []) rfl ?_
    refine lv_iinc (v := nI (k + 1)) (lv' := [(2, .int (nI (k + 1))), (0, .ref (ad 1)), (1, .ref (ad h9))]) hx hb dX1_sendSetUp_44 hl (k := 2) rfl (nI_1 k) (by decide) rfl (fun ls hl => ?_)
    refine lv_goto (tgt := 26) hx hb dX1_sendSetUp_47 (by decide) ?_
    exact ih26 (k + 1) _ _ _ _ (by omega) ⟨lv_sub hl [1, 2, 0] rfl, by rw [← rf_dg_s]; exact hp9, frA, by omega⟩ hw hS
def cp_takesServed (T : rf_T) (Q : rf_Q) (d : Nat) : rf_R := (if ((T 1 0) : Int32) = 4 then (1, (rf_become (va_up T 1 (upd (T 1) 0 5)) 0 ((va_up T 1 (upd (T 1) 0 5)) 1 0) 1 30), rf_put (va_up T 1 (upd (T 1) 0 5)) Q 0 (rf_dg (va_up T 1 (upd (T 1) 0 5)) d d)) else (0, T, Q))
theorem cp_takesServed_b (T : rf_T) (Q : rf_Q) (d : Nat) : (cp_takesServed T Q d).1 = 0 ∨ (cp_takesServed T Q d).1 = 1 := by unfold cp_takesServed; (repeat' split) <;> first | exact Or.inl rfl | exact Or.inr rfl
set_option maxHeartbeats 4000000 in
set_option maxRecDepth 100000 in
theorem c_takesServed (l : Launch) {G : zz_G} {ad : Nat → Nat} {ce : zz_C} {sz : Nat} (T : rf_T) (Q : rf_Q) (hV : clV G ad ce T Q) (d : Nat) (hd : d ≤ 8) (hdc : T 0 9 = nI d) : zz_M l yX1_takesServed cX1_takesServed 1 (some .boolean) 3 67 0 0 G [.ref (ad 1)] ad ce sz (fun r ad1 ce1 => r = some (.int (cp_takesServed T Q d).1) ∧ ad = ad1 ∧ clV G ad ce1 (cp_takesServed T Q d).2.1 (cp_takesServed T Q d).2.2 ∧ (∀ j, 30 ≤ j → ce1 j = ce j)) := by
  refine zz_enter (by decide) (Nat.le_of_ble_eq_true rfl) ?_
  intro p e s m below meth c ls F hl hw hS hA
  obtain ⟨hx, hb, hr, hml, hown, hts, hlocks, hK, hnm⟩ := id F
  have hl : lv_has ls 1 [(0, .ref (ad 1))] := hl
  obtain ⟨r0, r1, ⟨h0, h1, h2, h3, h4⟩, ht0, ht1, hR0, hR1⟩ := hV
  have hF : ∀ j, 30 ≤ j → ce j = ce j := fun _ _ => rfl
  refine lv_aload_n hx hb dX1_takesServed_0 rfl (lv_at hl 0 rfl) ?_
  refine z_get F hw h1 fd_X1_25_X1 rfl dX1_takesServed_1 ?_
  refine lv_iconst (v := 4) hx hb dX1_takesServed_4 (by decide) ?_
  refine lv_icmp_eq (tgt := 10) hx hb dX1_takesServed_5 (by decide) (fun c5 => ?_) (fun c5 => ?_)
  · refine lv_aload_n hx hb dX1_takesServed_10 rfl (lv_at hl 0 rfl) ?_
    refine lv_iconst (v := 5) hx hb dX1_takesServed_11 (by decide) ?_
    refine z_put F hw hS (fs' := [.ref (ad 10), .int 3, .int 5, .int (T 2 0), .int (T 3 0), .int (T 5 0), .int r0, .int (T 0 0), .int (T 0 6), .ref (ad 3), .int (T 0 9)]) h1 fd_X1_25_X1 ptX1 rfl (rfl) (rfl) (Nat.le_of_ble_eq_true rfl) rfl dX1_takesServed_12 (fun ce1 H locs h1 fr2 hw hS => ?_)
    have h0 := (fr2 0 (by decide)).trans h0
    have h2 := (fr2 2 (by decide)).trans h2
    have h3 := (fr2 3 (by decide)).trans h3
    have h4 := (fr2 4 (by decide)).trans h4
    have hR0 := hR0.kept (fun j h1 h2 => fr2 j (by omega))
    have hR1 := hR1.kept (fun j h1 h2 => fr2 j (by omega))
    have hF : ∀ j, 30 ≤ j → _ = ce j := fun j hj => (fr2 j (by omega)).trans (hF j hj)
    refine lv_aload_n hx hb dX1_takesServed_15 rfl (lv_at hl 0 rfl) ?_
    have hV : clV G ad ce1 (va_up T 1 (upd (T 1) 0 5)) Q := ⟨_, _, ⟨h0, h1, h2, h3, h4⟩, ht0, ht1, hR0, hR1⟩
    refine z_invV F (rest := []) (c_sendSetUp l (va_up T 1 (upd (T 1) 0 5)) Q hV d hd (by exact hdc)) yv_X1_111 ⟨Nat.le_of_ble_eq_true rfl, Nat.le_of_ble_eq_true rfl⟩ hw hA hS hl h1 rfl rfl rfl (Nat.le_of_ble_eq_true rfl) dX1_takesServed_16 ⟨Nat.le_of_ble_eq_true rfl, Nat.le_of_ble_eq_true rfl⟩ (fun r ad1 ce3 H locs hp hw hS => ?_)
    obtain ⟨rfl, rfl, hV, hF2⟩ := hp
    have hF : ∀ j, 30 ≤ j → ce3 j = ce j := fun j hj => (hF2 j (by omega)).trans (hF j hj)
    obtain ⟨r0, r1, ⟨h0, h1, h2, h3, h4⟩, ht0, ht1, hR0, hR1⟩ := hV
    refine W.eq (g2 := F0 m 19 ls []) rfl ?_
    refine lv_aload_n hx hb dX1_takesServed_19 rfl (lv_at hl 0 rfl) ?_
    refine lv_iconst (v := 1) hx hb dX1_takesServed_20 (by decide) ?_
    refine lv_bipush (v := 30) hx hb dX1_takesServed_21 (by decide) ?_
    have hV : clV G ad ce3 (va_up T 1 (upd (T 1) 0 5)) (rf_put (va_up T 1 (upd (T 1) 0 5)) Q 0 (rf_dg (va_up T 1 (upd (T 1) 0 5)) d d)) := ⟨_, _, ⟨h0, h1, h2, h3, h4⟩, ht0, ht1, hR0, hR1⟩
    refine z_invU F (rest := []) (c_setCall0 l (va_up T 1 (upd (T 1) 0 5)) (rf_put (va_up T 1 (upd (T 1) 0 5)) Q 0 (rf_dg (va_up T 1 (upd (T 1) 0 5)) d d)) hV 1 30) yu_X1_114_X1 ⟨Nat.le_of_ble_eq_true rfl, Nat.le_of_ble_eq_true rfl⟩ hw hA hS hl h1 rfl rfl rfl (Nat.le_of_ble_eq_true rfl) dX1_takesServed_23 ⟨Nat.le_of_ble_eq_true rfl, Nat.le_of_ble_eq_true rfl⟩ (fun r ad1 ce4 H locs hp hw hS => ?_)
    obtain ⟨rfl, rfl, hV, hF2⟩ := hp
    have hF : ∀ j, 30 ≤ j → ce4 j = ce j := fun j hj => (hF2 j (by omega)).trans (hF j hj)
    obtain ⟨r0, r1, ⟨h0, h1, h2, h3, h4⟩, ht0, ht1, hR0, hR1⟩ := hV
    refine W.eq (g2 := F0 m 26 ls []) rfl ?_
    refine lv_iconst (v := 1) hx hb dX1_takesServed_26 (by decide) ?_
    exact z_iret F (rfl) hw hS (by unfold cp_takesServed; rw [if_pos c5]; exact ⟨rfl, rfl, ⟨_, _, ⟨h0, h1, h2, h3, h4⟩, ht0, ht1, hR0, hR1⟩, hF⟩) dX1_takesServed_27
  · refine lv_iconst (v := 0) hx hb dX1_takesServed_8 (by decide) ?_
    exact z_iret F (rfl) hw hS (by unfold cp_takesServed; rw [if_neg c5]; exact ⟨rfl, rfl, ⟨_, _, ⟨h0, h1, h2, h3, h4⟩, ht0, ht1, hR0, hR1⟩, hF⟩) dX1_takesServed_9
def cp_takesProgress (T : rf_T) (Q : rf_Q) (vl vn : Int32) : rf_R := (if rf_inC T 0 1 vl then (1, (rf_become T 0 (T 1 0) vn 0), Q) else (0, T, Q))
theorem cp_takesProgress_b (T : rf_T) (Q : rf_Q) (vl vn : Int32) : (cp_takesProgress T Q vl vn).1 = 0 ∨ (cp_takesProgress T Q vl vn).1 = 1 := by unfold cp_takesProgress; (repeat' split) <;> first | exact Or.inl rfl | exact Or.inr rfl
set_option maxHeartbeats 4000000 in
set_option maxRecDepth 100000 in
theorem c_takesProgress (l : Launch) {G : zz_G} {ad : Nat → Nat} {ce : zz_C} {sz : Nat} (T : rf_T) (Q : rf_Q) (hV : clV G ad ce T Q) (vl vn : Int32) : zz_M l yX1_takesProgress cX1_takesProgress 3 (some .boolean) 1 22 0 0 G [.ref (ad 1), .int vl, .int vn] ad ce sz (fun r ad1 ce1 => r = some (.int (cp_takesProgress T Q vl vn).1) ∧ ad = ad1 ∧ clV G ad ce1 (cp_takesProgress T Q vl vn).2.1 (cp_takesProgress T Q vl vn).2.2 ∧ (∀ j, 30 ≤ j → ce1 j = ce j)) := by
  refine zz_enter (by decide) (Nat.le_of_ble_eq_true rfl) ?_
  intro p e s m below meth c ls F hl hw hS hA
  obtain ⟨hx, hb, hr, hml, hown, hts, hlocks, hK, hnm⟩ := id F
  have hl : lv_has ls 3 [(0, .ref (ad 1)), (1, .int vl), (2, .int vn)] := hl
  obtain ⟨r0, r1, ⟨h0, h1, h2, h3, h4⟩, ht0, ht1, hR0, hR1⟩ := hV
  have hF : ∀ j, 30 ≤ j → ce j = ce j := fun _ _ => rfl
  refine lv_aload_n hx hb dX1_takesProgress_0 rfl (lv_at hl 0 rfl) ?_
  refine lv_iconst (v := 1) hx hb dX1_takesProgress_1 (by decide) ?_
  refine lv_iload_n hx hb dX1_takesProgress_2 rfl (lv_at hl 1 rfl) ?_
  have hV : clV G ad ce T Q := ⟨_, _, ⟨h0, h1, h2, h3, h4⟩, ht0, ht1, hR0, hR1⟩
  refine z_invU F (rest := []) (c_hasCall0 l T Q hV 1 vl) yu_X1_117_X1 ⟨Nat.le_of_ble_eq_true rfl, Nat.le_of_ble_eq_true rfl⟩ hw hA hS hl h1 rfl rfl rfl (Nat.le_of_ble_eq_true rfl) dX1_takesProgress_3 ⟨Nat.le_of_ble_eq_true rfl, Nat.le_of_ble_eq_true rfl⟩ (fun r ad1 ce1 H locs hp hw hS => ?_)
  obtain ⟨hp, rfl, rfl⟩ := hp
  rcases hp with ⟨hc, rfl⟩ | ⟨hc, rfl⟩
  · refine W.eq (g2 := F0 m 6 ls [.int 1]) rfl ?_
    refine lv_if_ne (tgt := 11) hx hb dX1_takesProgress_6 (by decide) (fun c6 => ?_) (fun c6 => absurd c6 (by decide))
    refine lv_aload_n hx hb dX1_takesProgress_11 rfl (lv_at hl 0 rfl) ?_
    refine lv_iload_n hx hb dX1_takesProgress_12 rfl (lv_at hl 2 rfl) ?_
    refine lv_iconst (v := 0) hx hb dX1_takesProgress_13 (by decide) ?_
    have hV : clV G ad ce T Q := ⟨_, _, ⟨h0, h1, h2, h3, h4⟩, ht0, ht1, hR0, hR1⟩
    refine z_invU F (rest := []) (c_setCall0 l T Q hV vn 0) yu_X1_114_X1 ⟨Nat.le_of_ble_eq_true rfl, Nat.le_of_ble_eq_true rfl⟩ hw hA hS hl h1 rfl rfl rfl (Nat.le_of_ble_eq_true rfl) dX1_takesProgress_14 ⟨Nat.le_of_ble_eq_true rfl, Nat.le_of_ble_eq_true rfl⟩ (fun r ad1 ce2 H locs hp hw hS => ?_)
    obtain ⟨rfl, rfl, hV, hF2⟩ := hp
    have hF : ∀ j, 30 ≤ j → ce2 j = ce j := fun j hj => (hF2 j (by omega)).trans (hF j hj)
    obtain ⟨r0, r1, ⟨h0, h1, h2, h3, h4⟩, ht0, ht1, hR0, hR1⟩ := hV
    refine W.eq (g2 := F0 m 17 ls []) rfl ?_
    refine lv_iconst (v := 1) hx hb dX1_takesProgress_17 (by decide) ?_
    exact z_iret F (rfl) hw hS (by unfold cp_takesProgress; rw [if_pos hc]; exact ⟨rfl, rfl, ⟨_, _, ⟨h0, h1, h2, h3, h4⟩, ht0, ht1, hR0, hR1⟩, hF⟩) dX1_takesProgress_18
  · refine W.eq (g2 := F0 m 6 ls [.int 0]) rfl ?_
    refine lv_if_ne (tgt := 11) hx hb dX1_takesProgress_6 (by decide) (fun c6 => absurd c6 (by decide)) (fun c6 => ?_)
    refine lv_iconst (v := 0) hx hb dX1_takesProgress_9 (by decide) ?_
    exact z_iret F (rfl) hw hS (by unfold cp_takesProgress; rw [if_neg hc]; exact ⟨rfl, rfl, ⟨_, _, ⟨h0, h1, h2, h3, h4⟩, ht0, ht1, hR0, hR1⟩, hF⟩) dX1_takesProgress_10
def cp_takesConnect (T : rf_T) (Q : rf_Q) : rf_R := (if ((cp_takesProgress T Q 3 4).1 : Int32) = 0 then (0, ((cp_takesProgress T Q 3 4).2.1), (cp_takesProgress T Q 3 4).2.2) else (1, ((cp_takesProgress T Q 3 4).2.1), rf_put ((cp_takesProgress T Q 3 4).2.1) ((cp_takesProgress T Q 3 4).2.2) 0 ([3, 15])))
theorem cp_takesConnect_b (T : rf_T) (Q : rf_Q) : (cp_takesConnect T Q).1 = 0 ∨ (cp_takesConnect T Q).1 = 1 := by unfold cp_takesConnect; (repeat' split) <;> first | exact Or.inl rfl | exact Or.inr rfl | exact cp_takesProgress_b _ _ _ _
set_option maxHeartbeats 4000000 in
set_option maxRecDepth 100000 in
theorem c_takesConnect (l : Launch) {G : zz_G} {ad : Nat → Nat} {ce : zz_C} {sz : Nat} (T : rf_T) (Q : rf_Q) (hV : clV G ad ce T Q) : zz_M l yX1_takesConnect cX1_takesConnect 1 (some .boolean) 2 45 0 0 G [.ref (ad 1)] ad ce sz (fun r ad1 ce1 => r = some (.int (cp_takesConnect T Q).1) ∧ ad = ad1 ∧ clV G ad ce1 (cp_takesConnect T Q).2.1 (cp_takesConnect T Q).2.2 ∧ (∀ j, 30 ≤ j → ce1 j = ce j)) := by
  refine zz_enter (by decide) (Nat.le_of_ble_eq_true rfl) ?_
  intro p e s m below meth c ls F hl hw hS hA
  obtain ⟨hx, hb, hr, hml, hown, hts, hlocks, hK, hnm⟩ := id F
  have hl : lv_has ls 1 [(0, .ref (ad 1))] := hl
  obtain ⟨r0, r1, ⟨h0, h1, h2, h3, h4⟩, ht0, ht1, hR0, hR1⟩ := hV
  have hF : ∀ j, 30 ≤ j → ce j = ce j := fun _ _ => rfl
  refine lv_aload_n hx hb dX1_takesConnect_0 rfl (lv_at hl 0 rfl) ?_
  refine lv_iconst (v := 3) hx hb dX1_takesConnect_1 (by decide) ?_
  refine lv_iconst (v := 4) hx hb dX1_takesConnect_2 (by decide) ?_
  have hV : clV G ad ce T Q := ⟨_, _, ⟨h0, h1, h2, h3, h4⟩, ht0, ht1, hR0, hR1⟩
  refine z_invV F (rest := []) (c_takesProgress l T Q hV 3 4) yv_X1_76 ⟨Nat.le_of_ble_eq_true rfl, Nat.le_of_ble_eq_true rfl⟩ hw hA hS hl h1 rfl rfl rfl (Nat.le_of_ble_eq_true rfl) dX1_takesConnect_3 ⟨Nat.le_of_ble_eq_true rfl, Nat.le_of_ble_eq_true rfl⟩ (fun r ad1 ce1 H locs hp hw hS => ?_)
  obtain ⟨rfl, rfl, hV, hF2⟩ := hp
  have hF : ∀ j, 30 ≤ j → ce1 j = ce j := fun j hj => (hF2 j (by omega)).trans (hF j hj)
  obtain ⟨r0, r1, ⟨h0, h1, h2, h3, h4⟩, ht0, ht1, hR0, hR1⟩ := hV
  refine W.eq (g2 := F0 m 6 ls [.int (cp_takesProgress T Q 3 4).1]) rfl ?_
  refine lv_if_ne (tgt := 11) hx hb dX1_takesConnect_6 (by decide) (fun c6 => ?_) (fun c6 => ?_)
  · refine lv_aload_n hx hb dX1_takesConnect_11 rfl (lv_at hl 0 rfl) ?_
    refine z_get F hw h1 fd_X1_31_X1 rfl dX1_takesConnect_12 ?_
    refine lv_iconst (v := 3) hx hb dX1_takesConnect_15 (by decide) ?_
    refine lv_bipush (v := 15) hx hb dX1_takesConnect_16 (by decide) ?_
    obtain ⟨vs9, ho9⟩ := hR0.obj
    refine z_invV F (rest := []) (c_send l 10 _ _ hR0 3 15 (by decide) (by decide)) yv_X1_35 ⟨Nat.le_of_ble_eq_true rfl, Nat.le_of_ble_eq_true rfl⟩ hw hA hS hl ho9 rfl rfl rfl (Nat.le_of_ble_eq_true rfl) dX1_takesConnect_18 ⟨Nat.le_of_ble_eq_true rfl, Nat.le_of_ble_eq_true rfl⟩ (fun r ad1 ce2 H locs hp hw hS => ?_)
    obtain ⟨rfl, ⟨h9, rfl, hp9⟩, hF2⟩ := hp
    have h0 := (hF2 0 (by decide)).trans h0
    have h1 := (hF2 1 (by decide)).trans h1
    have h2 := (hF2 2 (by decide)).trans h2
    have h3 := (hF2 3 (by decide)).trans h3
    have h4 := (hF2 4 (by decide)).trans h4
    have hR1 := hR1.kept (fun j h1 h2 => hF2 j (by omega))
    have hF : ∀ j, 30 ≤ j → ce2 j = ce j := fun j hj => (hF2 j (by omega)).trans (hF j hj)
    have hR0 : cl_r G ad ce2 10 ((rf_put ((cp_takesProgress T Q 3 4).2.1) ((cp_takesProgress T Q 3 4).2.2) 0 ([3, 15])) 0) (cl_op ((cp_takesProgress T Q 3 4).2.1)) := cl_put (x := [3, 15]) hp9.end
    have hR1 : cl_r G ad ce2 30 ((rf_put ((cp_takesProgress T Q 3 4).2.1) ((cp_takesProgress T Q 3 4).2.2) 0 ([3, 15])) 1) (cl_op ((cp_takesProgress T Q 3 4).2.1)) := by rw [cl_putn _ _ _ (by decide)]; exact hR1
    refine W.eq (g2 := F0 m 21 ls [.ref (ad h9)]) rfl ?_
    refine lv_pop hx hb dX1_takesConnect_21 rfl ?_
    refine lv_iconst (v := 1) hx hb dX1_takesConnect_22 (by decide) ?_
    exact z_iret F (rfl) hw hS (by unfold cp_takesConnect; rw [if_neg c6]; exact ⟨rfl, rfl, ⟨_, _, ⟨h0, h1, h2, h3, h4⟩, ht0, ht1, hR0, hR1⟩, hF⟩) dX1_takesConnect_23
  · refine lv_iconst (v := 0) hx hb dX1_takesConnect_9 (by decide) ?_
    exact z_iret F (rfl) hw hS (by unfold cp_takesConnect; rw [if_pos c6]; exact ⟨rfl, rfl, ⟨_, _, ⟨h0, h1, h2, h3, h4⟩, ht0, ht1, hR0, hR1⟩, hF⟩) dX1_takesConnect_10
set_option maxHeartbeats 4000000 in
set_option maxRecDepth 100000 in
theorem c_keepDigits (l : Launch) {G : zz_G} {ad : Nat → Nat} {ce : zz_C} {sz : Nat} (T : rf_T) (Q : rf_Q) (hV : clV G ad ce T Q) (nv : Int32) (d : Nat) (hd : d ≤ 8) : zz_M l yX1_keepDigits cX1_keepDigits 5 none 0 0 0 0 G [.ref (ad 1), .int nv, .int (nI d)] ad ce sz (fun r ad1 ce1 => r = none ∧ ad = ad1 ∧ clV G ad ce1 (va_up (va_up T 0 (va_up (T 0) 9 (nI d))) 6 (rf_dgs (T 6) nv d)) (Q) ∧ (∀ j, 30 ≤ j → ce1 j = ce j)) := by
  refine zz_enter (by decide) (Nat.le_of_ble_eq_true rfl) ?_
  intro p e s m below meth c ls F hl hw hS hA
  obtain ⟨hx, hb, hr, hml, hown, hts, hlocks, hK, hnm⟩ := id F
  have hl : lv_has ls 5 [(0, .ref (ad 1)), (1, .int nv), (2, .int (nI d))] := hl
  obtain ⟨r0, r1, ⟨h0, h1, h2, h3, h4⟩, ht0, ht1, hR0, hR1⟩ := hV
  have hF : ∀ j, 30 ≤ j → ce j = ce j := fun _ _ => rfl
  refine lv_iload_n hx hb dX1_keepDigits_0 rfl (lv_at hl 1 rfl) ?_
  refine lv_istore_n (lv' := [(3, .int nv), (0, .ref (ad 1)), (1, .int nv), (2, .int (nI d))]) hx hb dX1_keepDigits_1 rfl hl (by decide) rfl (fun ls hl => ?_)
  refine lv_aload_n hx hb dX1_keepDigits_2 rfl (lv_at hl 1 rfl) ?_
  refine lv_iload_n hx hb dX1_keepDigits_3 rfl (lv_at hl 3 rfl) ?_
  refine z_put F hw hS (fs' := [.ref (ad 10), .int 3, .int (T 1 0), .int (T 2 0), .int (T 3 0), .int (T 5 0), .int r0, .int (T 0 0), .int (T 0 6), .ref (ad 3), .int (nI d)]) h1 fd_X1_22_X1 ptX1 rfl (rfl) (rfl) (Nat.le_of_ble_eq_true rfl) rfl dX1_keepDigits_4 (fun ce1 H locs h1 fr2 hw hS => ?_)
  have h0 := (fr2 0 (by decide)).trans h0
  have h2 := (fr2 2 (by decide)).trans h2
  have h3 := (fr2 3 (by decide)).trans h3
  have h4 := (fr2 4 (by decide)).trans h4
  have hR0 := hR0.kept (fun j h1 h2 => fr2 j (by omega))
  have hR1 := hR1.kept (fun j h1 h2 => fr2 j (by omega))
  have hF : ∀ j, 30 ≤ j → _ = ce j := fun j hj => (fr2 j (by omega)).trans (hF j hj)
  refine lv_iload_n hx hb dX1_keepDigits_7 rfl (lv_at hl 3 rfl) ?_
  refine lv_iconst (v := 1) hx hb dX1_keepDigits_8 (by decide) ?_
  refine lv_isub hx hb dX1_keepDigits_9 ?_
  refine lv_istore (lv' := [(4, .int ((nI d) - 1)), (3, .int nv), (0, .ref (ad 1)), (1, .int nv), (2, .int (nI d))]) hx hb dX1_keepDigits_10 hl (by decide) rfl (fun ls hl => ?_)
  refine z_loop (α := Nat × Int32 × (Nat → Int32)) (fun a => a.1) (fun a ce9 ls9 => lv_has ls9 5 [(0, .ref (ad 1)), (1, .int nv), (2, .int (nI d)), (3, .int a.2.1), (4, .int (nI a.1 - 1))] ∧ ce9 3 = some (.inl (zz_cI G, 8, .inl a.2.2)) ∧ rf_dgs a.2.2 a.2.1 a.1 = rf_dgs (T 6) nv d ∧ (∀ j, j ≠ 3 → ce9 j = ce1 j) ∧ a.1 ≤ d) (d, nv, T 6) ⟨lv_sub hl [2, 3, 4, 1, 0] rfl, h3, rfl, fun _ _ => rfl, Nat.le_refl _⟩ hw hS (fun a ih12 ce9 H locs ls hI hw hS => ?_)
  obtain ⟨hl, h3, hdg, frA, hqd⟩ := hI
  have h0 := (frA 0 (by decide)).trans h0
  have h1 := (frA 1 (by decide)).trans h1
  have h2 := (frA 2 (by decide)).trans h2
  have h4 := (frA 4 (by decide)).trans h4
  have hR0 := hR0.kept (fun j h1 h2 => frA j (by omega))
  have hR1 := hR1.kept (fun j h1 h2 => frA j (by omega))
  have hF : ∀ j, 30 ≤ j → ce9 j = ce j := fun j hj => (frA j (by omega)).trans (hF j hj)
  rcases a with ⟨_ | q9, n9, f9⟩
  · have hf9 : f9 = rf_dgs (T 6) nv d := hdg
    subst hf9
    have hl : lv_has ls 5 [(0, .ref (ad 1)), (1, .int nv), (2, .int (nI d)), (3, .int n9), (4, .int (nI 0 - 1))] := hl
    refine lv_iload hx hb dX1_keepDigits_12 (lv_at hl 4 rfl) ?_
    refine lv_if_lt (tgt := 39) hx hb dX1_keepDigits_14 (by decide) (fun c14 => ?_) (fun c14 => absurd (show (nI 0 - 1 : Int32) < 0 by decide) c14)
    exact z_vret F hw hS (⟨rfl, rfl, ⟨_, _, ⟨h0, h1, h2, h3, h4⟩, ht0, ht1, hR0, hR1⟩, hF⟩) dX1_keepDigits_39
  · have hl : lv_has ls 5 [(0, .ref (ad 1)), (1, .int nv), (2, .int (nI d)), (3, .int n9), (4, .int (nI q9))] := by rw [← nI_pred q9]; exact hl
    have hdg : rf_dgs (upd f9 q9 (n9 - n9 / 10 * 10)) (n9 / 10) q9 = rf_dgs (T 6) nv d := hdg
    have hqd : q9 + 1 ≤ d := hqd
    refine lv_iload hx hb dX1_keepDigits_12 (lv_at hl 4 rfl) ?_
    refine lv_if_lt (tgt := 39) hx hb dX1_keepDigits_14 (by decide) (fun c14 => absurd c14 (nI_pos (by omega))) (fun c14 => ?_)
    refine lv_aload_n hx hb dX1_keepDigits_17 rfl (lv_at hl 0 rfl) ?_
    refine z_get F hw h1 fd_X1_18_X1 rfl dX1_keepDigits_18 ?_
    refine lv_iload hx hb dX1_keepDigits_21 (lv_at hl 4 rfl) ?_
    refine lv_iload_n hx hb dX1_keepDigits_23 rfl (lv_at hl 3 rfl) ?_
    refine lv_bipush (v := 10) hx hb dX1_keepDigits_24 (by decide) ?_
    refine lv_irem hx hb dX1_keepDigits_26 (by decide) ?_
    refine z_st F hw hS h3 (q9) (rfl) (by omega) (by decide) dX1_keepDigits_27 (fun ce3 H locs h3 fr4 hw hS => ?_)
    have h0 := (fr4 0 (by decide)).trans h0
    have h1 := (fr4 1 (by decide)).trans h1
    have h2 := (fr4 2 (by decide)).trans h2
    have h4 := (fr4 4 (by decide)).trans h4
    have hR0 := hR0.kept (fun j h1 h2 => fr4 j (by omega))
    have hR1 := hR1.kept (fun j h1 h2 => fr4 j (by omega))
    have hF : ∀ j, 30 ≤ j → _ = ce j := fun j hj => (fr4 j (by omega)).trans (hF j hj)
    refine lv_iload_n hx hb dX1_keepDigits_28 rfl (lv_at hl 3 rfl) ?_
    refine lv_bipush (v := 10) hx hb dX1_keepDigits_29 (by decide) ?_
    refine lv_idiv hx hb dX1_keepDigits_31 (by decide) ?_
    refine lv_istore_n (lv' := [(3, .int (n9 / 10)), (0, .ref (ad 1)), (1, .int nv), (2, .int (nI d)), (4, .int (nI q9))]) hx hb dX1_keepDigits_32 rfl hl (by decide) rfl (fun ls hl => ?_)
    refine lv_iinc (v := nI q9 - 1) (lv' := [(4, .int (nI q9 - 1)), (3, .int (n9 / 10)), (0, .ref (ad 1)), (1, .int nv), (2, .int (nI d))]) hx hb dX1_keepDigits_33 hl (k := 4) rfl (by rw [Int32.sub_eq_add_neg]; rfl) (by decide) rfl (fun ls hl => ?_)
    refine lv_goto (tgt := 12) hx hb dX1_keepDigits_36 (by decide) ?_
    exact ih12 (q9, n9 / 10, upd f9 q9 (n9 - n9 / 10 * 10)) _ _ _ _ (by simp) ⟨lv_sub hl [2, 3, 4, 1, 0] rfl, h3, hdg, fun j hj => (fr4 j hj).trans (frA j hj), by omega⟩ hw hS
def cp_startAsking (T : rf_T) (Q : rf_Q) (nv : Int32) (d : Nat) : rf_R := (if ((T 1 0) : Int32) = 3 then (1, (rf_become (va_up (va_up T 0 (va_up (T 0) 9 (nI d))) 6 (rf_dgs (T 6) nv d)) 0 4 0 15), rf_put (va_up (va_up T 0 (va_up (T 0) 9 (nI d))) 6 (rf_dgs (T 6) nv d)) Q 0 ([5, 36])) else (0, T, Q))
theorem cp_startAsking_b (T : rf_T) (Q : rf_Q) (nv : Int32) (d : Nat) : (cp_startAsking T Q nv d).1 = 0 ∨ (cp_startAsking T Q nv d).1 = 1 := by unfold cp_startAsking; (repeat' split) <;> first | exact Or.inl rfl | exact Or.inr rfl
set_option maxHeartbeats 4000000 in
set_option maxRecDepth 100000 in
theorem c_startAsking (l : Launch) {G : zz_G} {ad : Nat → Nat} {ce : zz_C} {sz : Nat} (T : rf_T) (Q : rf_Q) (hV : clV G ad ce T Q) (nv : Int32) (d : Nat) (hd : d ≤ 8) : zz_M l yX1_startAsking cX1_startAsking 3 (some .boolean) 2 45 0 0 G [.ref (ad 1), .int nv, .int (nI d)] ad ce sz (fun r ad1 ce1 => r = some (.int (cp_startAsking T Q nv d).1) ∧ ad = ad1 ∧ clV G ad ce1 (cp_startAsking T Q nv d).2.1 (cp_startAsking T Q nv d).2.2 ∧ (∀ j, 30 ≤ j → ce1 j = ce j)) := by
  refine zz_enter (by decide) (Nat.le_of_ble_eq_true rfl) ?_
  intro p e s m below meth c ls F hl hw hS hA
  obtain ⟨hx, hb, hr, hml, hown, hts, hlocks, hK, hnm⟩ := id F
  have hl : lv_has ls 3 [(0, .ref (ad 1)), (1, .int nv), (2, .int (nI d))] := hl
  obtain ⟨r0, r1, ⟨h0, h1, h2, h3, h4⟩, ht0, ht1, hR0, hR1⟩ := hV
  have hF : ∀ j, 30 ≤ j → ce j = ce j := fun _ _ => rfl
  refine lv_aload_n hx hb dX1_startAsking_0 rfl (lv_at hl 0 rfl) ?_
  refine z_get F hw h1 fd_X1_25_X1 rfl dX1_startAsking_1 ?_
  refine lv_iconst (v := 3) hx hb dX1_startAsking_4 (by decide) ?_
  refine lv_icmp_eq (tgt := 10) hx hb dX1_startAsking_5 (by decide) (fun c5 => ?_) (fun c5 => ?_)
  · refine lv_aload_n hx hb dX1_startAsking_10 rfl (lv_at hl 0 rfl) ?_
    refine lv_iload_n hx hb dX1_startAsking_11 rfl (lv_at hl 1 rfl) ?_
    refine lv_iload_n hx hb dX1_startAsking_12 rfl (lv_at hl 2 rfl) ?_
    have hV : clV G ad ce T Q := ⟨_, _, ⟨h0, h1, h2, h3, h4⟩, ht0, ht1, hR0, hR1⟩
    refine z_invV F (rest := []) (c_keepDigits l T Q hV nv d hd) yv_X1_47 ⟨Nat.le_of_ble_eq_true rfl, Nat.le_of_ble_eq_true rfl⟩ hw hA hS hl h1 rfl rfl rfl (Nat.le_of_ble_eq_true rfl) dX1_startAsking_13 ⟨Nat.le_of_ble_eq_true rfl, Nat.le_of_ble_eq_true rfl⟩ (fun r ad1 ce1 H locs hp hw hS => ?_)
    obtain ⟨rfl, rfl, hV, hF2⟩ := hp
    have hF : ∀ j, 30 ≤ j → ce1 j = ce j := fun j hj => (hF2 j (by omega)).trans (hF j hj)
    obtain ⟨r0, r1, ⟨h0, h1, h2, h3, h4⟩, ht0, ht1, hR0, hR1⟩ := hV
    refine W.eq (g2 := F0 m 16 ls []) rfl ?_
    refine lv_aload_n hx hb dX1_startAsking_16 rfl (lv_at hl 0 rfl) ?_
    refine z_get F hw h1 fd_X1_31_X1 rfl dX1_startAsking_17 ?_
    refine lv_iconst (v := 5) hx hb dX1_startAsking_20 (by decide) ?_
    refine lv_bipush (v := 36) hx hb dX1_startAsking_21 (by decide) ?_
    obtain ⟨vs9, ho9⟩ := hR0.obj
    refine z_invV F (rest := []) (c_send l 10 _ _ hR0 5 36 (by decide) (by decide)) yv_X1_35 ⟨Nat.le_of_ble_eq_true rfl, Nat.le_of_ble_eq_true rfl⟩ hw hA hS hl ho9 rfl rfl rfl (Nat.le_of_ble_eq_true rfl) dX1_startAsking_23 ⟨Nat.le_of_ble_eq_true rfl, Nat.le_of_ble_eq_true rfl⟩ (fun r ad1 ce2 H locs hp hw hS => ?_)
    obtain ⟨rfl, ⟨h9, rfl, hp9⟩, hF2⟩ := hp
    have h0 := (hF2 0 (by decide)).trans h0
    have h1 := (hF2 1 (by decide)).trans h1
    have h2 := (hF2 2 (by decide)).trans h2
    have h3 := (hF2 3 (by decide)).trans h3
    have h4 := (hF2 4 (by decide)).trans h4
    have hR1 := hR1.kept (fun j h1 h2 => hF2 j (by omega))
    have hF : ∀ j, 30 ≤ j → ce2 j = ce j := fun j hj => (hF2 j (by omega)).trans (hF j hj)
    have hR0 : cl_r G ad ce2 10 ((rf_put (va_up (va_up T 0 (va_up (T 0) 9 (nI d))) 6 (rf_dgs (T 6) nv d)) Q 0 ([5, 36])) 0) (cl_op (va_up (va_up T 0 (va_up (T 0) 9 (nI d))) 6 (rf_dgs (T 6) nv d))) := cl_put (x := [5, 36]) hp9.end
    have hR1 : cl_r G ad ce2 30 ((rf_put (va_up (va_up T 0 (va_up (T 0) 9 (nI d))) 6 (rf_dgs (T 6) nv d)) Q 0 ([5, 36])) 1) (cl_op (va_up (va_up T 0 (va_up (T 0) 9 (nI d))) 6 (rf_dgs (T 6) nv d))) := by rw [cl_putn _ _ _ (by decide)]; exact hR1
    refine W.eq (g2 := F0 m 26 ls [.ref (ad h9)]) rfl ?_
    refine lv_pop hx hb dX1_startAsking_26 rfl ?_
    refine lv_aload_n hx hb dX1_startAsking_27 rfl (lv_at hl 0 rfl) ?_
    refine lv_iconst (v := 4) hx hb dX1_startAsking_28 (by decide) ?_
    refine lv_bipush (v := 15) hx hb dX1_startAsking_29 (by decide) ?_
    have hV : clV G ad ce2 (va_up (va_up T 0 (va_up (T 0) 9 (nI d))) 6 (rf_dgs (T 6) nv d)) (rf_put (va_up (va_up T 0 (va_up (T 0) 9 (nI d))) 6 (rf_dgs (T 6) nv d)) Q 0 ([5, 36])) := ⟨_, _, ⟨h0, h1, h2, h3, h4⟩, ht0, ht1, hR0, hR1⟩
    refine z_invU F (rest := []) (c_setState0 l (va_up (va_up T 0 (va_up (T 0) 9 (nI d))) 6 (rf_dgs (T 6) nv d)) (rf_put (va_up (va_up T 0 (va_up (T 0) 9 (nI d))) 6 (rf_dgs (T 6) nv d)) Q 0 ([5, 36])) hV 4 15) yu_X1_28_X1 ⟨Nat.le_of_ble_eq_true rfl, Nat.le_of_ble_eq_true rfl⟩ hw hA hS hl h1 rfl rfl rfl (Nat.le_of_ble_eq_true rfl) dX1_startAsking_31 ⟨Nat.le_of_ble_eq_true rfl, Nat.le_of_ble_eq_true rfl⟩ (fun r ad1 ce3 H locs hp hw hS => ?_)
    obtain ⟨rfl, rfl, hV, hF2⟩ := hp
    have hF : ∀ j, 30 ≤ j → ce3 j = ce j := fun j hj => (hF2 j (by omega)).trans (hF j hj)
    obtain ⟨r0, r1, ⟨h0, h1, h2, h3, h4⟩, ht0, ht1, hR0, hR1⟩ := hV
    refine W.eq (g2 := F0 m 34 ls []) rfl ?_
    refine lv_iconst (v := 1) hx hb dX1_startAsking_34 (by decide) ?_
    exact z_iret F (rfl) hw hS (by unfold cp_startAsking; rw [if_pos c5]; exact ⟨rfl, rfl, ⟨_, _, ⟨h0, h1, h2, h3, h4⟩, ht0, ht1, hR0, hR1⟩, hF⟩) dX1_startAsking_35
  · refine lv_iconst (v := 0) hx hb dX1_startAsking_8 (by decide) ?_
    exact z_iret F (rfl) hw hS (by unfold cp_startAsking; rw [if_neg c5]; exact ⟨rfl, rfl, ⟨_, _, ⟨h0, h1, h2, h3, h4⟩, ht0, ht1, hR0, hR1⟩, hF⟩) dX1_startAsking_9
def cp_takesManaging0 (T : rf_T) (Q : rf_Q) (M : List Nat) (d : Nat) : rf_R := (if M.getD 1 0 = 2 then ((cp_takesUpdated T Q M).1, ((cp_takesUpdated T Q M).2.1), (cp_takesUpdated T Q M).2.2) else (if M.getD 1 0 = 4 then ((cp_takesRefusal T Q M 2 1).1, ((cp_takesRefusal T Q M 2 1).2.1), (cp_takesRefusal T Q M 2 1).2.2) else (if M.getD 1 0 = 17 then ((cp_takesExpelled T Q).1, ((cp_takesExpelled T Q).2.1), (cp_takesExpelled T Q).2.2) else (if M.getD 1 0 = 18 then ((cp_takesChallenge T Q M).1, ((cp_takesChallenge T Q M).2.1), (cp_takesChallenge T Q M).2.2) else (if M.getD 1 0 = 33 then ((cp_takesServed T Q d).1, ((cp_takesServed T Q d).2.1), (cp_takesServed T Q d).2.2) else (if M.getD 1 0 = 34 then ((cp_takesRefusal T Q M 4 3).1, ((cp_takesRefusal T Q M 4 3).2.1), (cp_takesRefusal T Q M 4 3).2.2) else (0, T, Q)))))))
theorem cp_takesManaging0_b (T : rf_T) (Q : rf_Q) (M : List Nat) (d : Nat) : (cp_takesManaging0 T Q M d).1 = 0 ∨ (cp_takesManaging0 T Q M d).1 = 1 := by unfold cp_takesManaging0; (repeat' split) <;> first | exact Or.inl rfl | exact Or.inr rfl | exact cp_takesUpdated_b _ _ _ | exact cp_takesRefusal_b _ _ _ _ _ | exact cp_takesChallenge_b _ _ _ | exact cp_takesExpelled_b _ _ | exact cp_takesServed_b _ _ _
set_option maxHeartbeats 4000000 in
set_option maxRecDepth 100000 in
theorem c_takesManaging0 (l : Launch) {G : zz_G} {ad : Nat → Nat} {ce : zz_C} {sz : Nat} (T : rf_T) (Q : rf_Q) (hV : clV G ad ce T Q) (h : Nat) (M : List Nat) (hm : cl_m G ad ce h M) (hg : rf_good M) (hM2 : 2 ≤ M.length) (hh : 30 ≤ h ∧ h + 1 < 50) (d : Nat) (hd : d ≤ 8) (hdc : T 0 9 = nI d) : zz_M l yX1_takesManaging cX1_takesManaging 2 (some .boolean) 4 90 0 0 G [.ref (ad 1), .ref (ad h)] ad ce sz (fun r ad1 ce1 => r = some (.int (cp_takesManaging0 T Q M d).1) ∧ ad = ad1 ∧ clV G ad ce1 (cp_takesManaging0 T Q M d).2.1 (cp_takesManaging0 T Q M d).2.2 ∧ (∀ j, 30 ≤ j → ce1 j = ce j)) := by
  refine zz_enter (by decide) (Nat.le_of_ble_eq_true rfl) ?_
  intro p e s m below meth c ls F hl hw hS hA
  obtain ⟨hx, hb, hr, hml, hown, hts, hlocks, hK, hnm⟩ := id F
  have hl : lv_has ls 2 [(0, .ref (ad 1)), (1, .ref (ad h))] := hl
  obtain ⟨r0, r1, ⟨h0, h1, h2, h3, h4⟩, ht0, ht1, hR0, hR1⟩ := hV
  have hF : ∀ j, 30 ≤ j → ce j = ce j := fun _ _ => rfl
  have hty : M.getD 1 0 < 256 := by obtain ⟨f9, -, -, hM9⟩ := id hm; exact (hM9.2 1 (by omega)).2
  refine lv_aload_n hx hb dX1_takesManaging_0 rfl (lv_at hl 1 rfl) ?_
  refine z_invV F (rest := []) (c_type l h M hm hM2) yv_X1_54 ⟨Nat.le_of_ble_eq_true rfl, Nat.le_of_ble_eq_true rfl⟩ hw hA hS hl hm.obj rfl rfl rfl (Nat.le_of_ble_eq_true rfl) dX1_takesManaging_1 ⟨Nat.le_of_ble_eq_true rfl, Nat.le_of_ble_eq_true rfl⟩ (fun r ad1 ce1 H locs hp hw hS => ?_)
  obtain ⟨rfl, rfl, rfl⟩ := hp
  refine W.eq (g2 := F0 m 4 ls [.int (nI (M.getD 1 0))]) rfl ?_
  by_cases h4_2 : M.getD 1 0 = 2
  · refine lv_lookup (tgt := 64) (off := 60) hx hb dX1_takesManaging_4 (by decide) (by rw [h4_2]; rfl) (by decide) ?_
    refine lv_aload_n hx hb dX1_takesManaging_64 rfl (lv_at hl 0 rfl) ?_
    refine lv_aload_n hx hb dX1_takesManaging_65 rfl (lv_at hl 1 rfl) ?_
    have hV : clV G ad ce T Q := ⟨_, _, ⟨h0, h1, h2, h3, h4⟩, ht0, ht1, hR0, hR1⟩
    refine z_invV F (rest := []) (c_takesUpdated l T Q hV h M hm hg hM2 hh) yv_X1_58 ⟨Nat.le_of_ble_eq_true rfl, Nat.le_of_ble_eq_true rfl⟩ hw hA hS hl h1 rfl rfl rfl (Nat.le_of_ble_eq_true rfl) dX1_takesManaging_66 ⟨Nat.le_of_ble_eq_true rfl, Nat.le_of_ble_eq_true rfl⟩ (fun r ad1 ce2 H locs hp hw hS => ?_)
    obtain ⟨rfl, rfl, hV, hF2⟩ := hp
    have hF : ∀ j, 30 ≤ j → ce2 j = ce j := fun j hj => (hF2 j (by omega)).trans (hF j hj)
    have hm := hm.kept (hF2 h (by omega)) (hF2 (h + 1) (by omega))
    obtain ⟨r0, r1, ⟨h0, h1, h2, h3, h4⟩, ht0, ht1, hR0, hR1⟩ := hV
    refine W.eq (g2 := F0 m 69 ls [.int (cp_takesUpdated T Q M).1]) rfl ?_
    exact z_iret F (cl_bn (cp_takesUpdated_b _ _ _)) hw hS (by unfold cp_takesManaging0; rw [if_pos h4_2]; exact ⟨rfl, rfl, ⟨_, _, ⟨h0, h1, h2, h3, h4⟩, ht0, ht1, hR0, hR1⟩, hF⟩) dX1_takesManaging_69
  by_cases h4_4 : M.getD 1 0 = 4
  · refine lv_lookup (tgt := 70) (off := 66) hx hb dX1_takesManaging_4 (by decide) (by rw [h4_4]; rfl) (by decide) ?_
    refine lv_aload_n hx hb dX1_takesManaging_70 rfl (lv_at hl 0 rfl) ?_
    refine lv_aload_n hx hb dX1_takesManaging_71 rfl (lv_at hl 1 rfl) ?_
    refine lv_iconst (v := 2) hx hb dX1_takesManaging_72 (by decide) ?_
    refine lv_iconst (v := 1) hx hb dX1_takesManaging_73 (by decide) ?_
    have hV : clV G ad ce T Q := ⟨_, _, ⟨h0, h1, h2, h3, h4⟩, ht0, ht1, hR0, hR1⟩
    refine z_invV F (rest := []) (c_takesRefusal l T Q hV h M hm hg hM2 hh 2 1) yv_X1_62 ⟨Nat.le_of_ble_eq_true rfl, Nat.le_of_ble_eq_true rfl⟩ hw hA hS hl h1 rfl rfl rfl (Nat.le_of_ble_eq_true rfl) dX1_takesManaging_74 ⟨Nat.le_of_ble_eq_true rfl, Nat.le_of_ble_eq_true rfl⟩ (fun r ad1 ce3 H locs hp hw hS => ?_)
    obtain ⟨rfl, rfl, hV, hF2⟩ := hp
    have hF : ∀ j, 30 ≤ j → ce3 j = ce j := fun j hj => (hF2 j (by omega)).trans (hF j hj)
    have hm := hm.kept (hF2 h (by omega)) (hF2 (h + 1) (by omega))
    obtain ⟨r0, r1, ⟨h0, h1, h2, h3, h4⟩, ht0, ht1, hR0, hR1⟩ := hV
    refine W.eq (g2 := F0 m 77 ls [.int (cp_takesRefusal T Q M 2 1).1]) rfl ?_
    exact z_iret F (cl_bn (cp_takesRefusal_b _ _ _ _ _)) hw hS (by unfold cp_takesManaging0; rw [if_neg h4_2, if_pos h4_4]; exact ⟨rfl, rfl, ⟨_, _, ⟨h0, h1, h2, h3, h4⟩, ht0, ht1, hR0, hR1⟩, hF⟩) dX1_takesManaging_77
  by_cases h4_17 : M.getD 1 0 = 17
  · refine lv_lookup (tgt := 84) (off := 80) hx hb dX1_takesManaging_4 (by decide) (by rw [h4_17]; rfl) (by decide) ?_
    refine lv_aload_n hx hb dX1_takesManaging_84 rfl (lv_at hl 0 rfl) ?_
    have hV : clV G ad ce T Q := ⟨_, _, ⟨h0, h1, h2, h3, h4⟩, ht0, ht1, hR0, hR1⟩
    refine z_invV F (rest := []) (c_takesExpelled l T Q hV) yv_X1_69 ⟨Nat.le_of_ble_eq_true rfl, Nat.le_of_ble_eq_true rfl⟩ hw hA hS hl h1 rfl rfl rfl (Nat.le_of_ble_eq_true rfl) dX1_takesManaging_85 ⟨Nat.le_of_ble_eq_true rfl, Nat.le_of_ble_eq_true rfl⟩ (fun r ad1 ce4 H locs hp hw hS => ?_)
    obtain ⟨rfl, rfl, hV, hF2⟩ := hp
    have hF : ∀ j, 30 ≤ j → ce4 j = ce j := fun j hj => (hF2 j (by omega)).trans (hF j hj)
    have hm := hm.kept (hF2 h (by omega)) (hF2 (h + 1) (by omega))
    obtain ⟨r0, r1, ⟨h0, h1, h2, h3, h4⟩, ht0, ht1, hR0, hR1⟩ := hV
    refine W.eq (g2 := F0 m 88 ls [.int (cp_takesExpelled T Q).1]) rfl ?_
    exact z_iret F (cl_bn (cp_takesExpelled_b _ _)) hw hS (by unfold cp_takesManaging0; rw [if_neg h4_2, if_neg h4_4, if_pos h4_17]; exact ⟨rfl, rfl, ⟨_, _, ⟨h0, h1, h2, h3, h4⟩, ht0, ht1, hR0, hR1⟩, hF⟩) dX1_takesManaging_88
  by_cases h4_18 : M.getD 1 0 = 18
  · refine lv_lookup (tgt := 78) (off := 74) hx hb dX1_takesManaging_4 (by decide) (by rw [h4_18]; rfl) (by decide) ?_
    refine lv_aload_n hx hb dX1_takesManaging_78 rfl (lv_at hl 0 rfl) ?_
    refine lv_aload_n hx hb dX1_takesManaging_79 rfl (lv_at hl 1 rfl) ?_
    have hV : clV G ad ce T Q := ⟨_, _, ⟨h0, h1, h2, h3, h4⟩, ht0, ht1, hR0, hR1⟩
    refine z_invV F (rest := []) (c_takesChallenge l T Q hV h M hm hg hM2 hh) yv_X1_66 ⟨Nat.le_of_ble_eq_true rfl, Nat.le_of_ble_eq_true rfl⟩ hw hA hS hl h1 rfl rfl rfl (Nat.le_of_ble_eq_true rfl) dX1_takesManaging_80 ⟨Nat.le_of_ble_eq_true rfl, Nat.le_of_ble_eq_true rfl⟩ (fun r ad1 ce5 H locs hp hw hS => ?_)
    obtain ⟨rfl, rfl, hV, hF2⟩ := hp
    have hF : ∀ j, 30 ≤ j → ce5 j = ce j := fun j hj => (hF2 j (by omega)).trans (hF j hj)
    have hm := hm.kept (hF2 h (by omega)) (hF2 (h + 1) (by omega))
    obtain ⟨r0, r1, ⟨h0, h1, h2, h3, h4⟩, ht0, ht1, hR0, hR1⟩ := hV
    refine W.eq (g2 := F0 m 83 ls [.int (cp_takesChallenge T Q M).1]) rfl ?_
    exact z_iret F (cl_bn (cp_takesChallenge_b _ _ _)) hw hS (by unfold cp_takesManaging0; rw [if_neg h4_2, if_neg h4_4, if_neg h4_17, if_pos h4_18]; exact ⟨rfl, rfl, ⟨_, _, ⟨h0, h1, h2, h3, h4⟩, ht0, ht1, hR0, hR1⟩, hF⟩) dX1_takesManaging_83
  by_cases h4_33 : M.getD 1 0 = 33
  · refine lv_lookup (tgt := 89) (off := 85) hx hb dX1_takesManaging_4 (by decide) (by rw [h4_33]; rfl) (by decide) ?_
    refine lv_aload_n hx hb dX1_takesManaging_89 rfl (lv_at hl 0 rfl) ?_
    have hV : clV G ad ce T Q := ⟨_, _, ⟨h0, h1, h2, h3, h4⟩, ht0, ht1, hR0, hR1⟩
    refine z_invV F (rest := []) (c_takesServed l T Q hV d hd hdc) yv_X1_73 ⟨Nat.le_of_ble_eq_true rfl, Nat.le_of_ble_eq_true rfl⟩ hw hA hS hl h1 rfl rfl rfl (Nat.le_of_ble_eq_true rfl) dX1_takesManaging_90 ⟨Nat.le_of_ble_eq_true rfl, Nat.le_of_ble_eq_true rfl⟩ (fun r ad1 ce6 H locs hp hw hS => ?_)
    obtain ⟨rfl, rfl, hV, hF2⟩ := hp
    have hF : ∀ j, 30 ≤ j → ce6 j = ce j := fun j hj => (hF2 j (by omega)).trans (hF j hj)
    have hm := hm.kept (hF2 h (by omega)) (hF2 (h + 1) (by omega))
    obtain ⟨r0, r1, ⟨h0, h1, h2, h3, h4⟩, ht0, ht1, hR0, hR1⟩ := hV
    refine W.eq (g2 := F0 m 93 ls [.int (cp_takesServed T Q d).1]) rfl ?_
    exact z_iret F (cl_bn (cp_takesServed_b _ _ _)) hw hS (by unfold cp_takesManaging0; rw [if_neg h4_2, if_neg h4_4, if_neg h4_17, if_neg h4_18, if_pos h4_33]; exact ⟨rfl, rfl, ⟨_, _, ⟨h0, h1, h2, h3, h4⟩, ht0, ht1, hR0, hR1⟩, hF⟩) dX1_takesManaging_93
  by_cases h4_34 : M.getD 1 0 = 34
  · refine lv_lookup (tgt := 94) (off := 90) hx hb dX1_takesManaging_4 (by decide) (by rw [h4_34]; rfl) (by decide) ?_
    refine lv_aload_n hx hb dX1_takesManaging_94 rfl (lv_at hl 0 rfl) ?_
    refine lv_aload_n hx hb dX1_takesManaging_95 rfl (lv_at hl 1 rfl) ?_
    refine lv_iconst (v := 4) hx hb dX1_takesManaging_96 (by decide) ?_
    refine lv_iconst (v := 3) hx hb dX1_takesManaging_97 (by decide) ?_
    have hV : clV G ad ce T Q := ⟨_, _, ⟨h0, h1, h2, h3, h4⟩, ht0, ht1, hR0, hR1⟩
    refine z_invV F (rest := []) (c_takesRefusal l T Q hV h M hm hg hM2 hh 4 3) yv_X1_62 ⟨Nat.le_of_ble_eq_true rfl, Nat.le_of_ble_eq_true rfl⟩ hw hA hS hl h1 rfl rfl rfl (Nat.le_of_ble_eq_true rfl) dX1_takesManaging_98 ⟨Nat.le_of_ble_eq_true rfl, Nat.le_of_ble_eq_true rfl⟩ (fun r ad1 ce7 H locs hp hw hS => ?_)
    obtain ⟨rfl, rfl, hV, hF2⟩ := hp
    have hF : ∀ j, 30 ≤ j → ce7 j = ce j := fun j hj => (hF2 j (by omega)).trans (hF j hj)
    have hm := hm.kept (hF2 h (by omega)) (hF2 (h + 1) (by omega))
    obtain ⟨r0, r1, ⟨h0, h1, h2, h3, h4⟩, ht0, ht1, hR0, hR1⟩ := hV
    refine W.eq (g2 := F0 m 101 ls [.int (cp_takesRefusal T Q M 4 3).1]) rfl ?_
    exact z_iret F (cl_bn (cp_takesRefusal_b _ _ _ _ _)) hw hS (by unfold cp_takesManaging0; rw [if_neg h4_2, if_neg h4_4, if_neg h4_17, if_neg h4_18, if_neg h4_33, if_pos h4_34]; exact ⟨rfl, rfl, ⟨_, _, ⟨h0, h1, h2, h3, h4⟩, ht0, ht1, hR0, hR1⟩, hF⟩) dX1_takesManaging_101
  refine lv_lookup (tgt := 102) (off := 98) hx hb dX1_takesManaging_4 (by decide) ((lv_osw (k := 2) (fun q => h4_2 (rf_ei hty (by decide) q)) rfl).trans ((lv_osw (k := 4) (fun q => h4_4 (rf_ei hty (by decide) q)) rfl).trans ((lv_osw (k := 17) (fun q => h4_17 (rf_ei hty (by decide) q)) rfl).trans ((lv_osw (k := 18) (fun q => h4_18 (rf_ei hty (by decide) q)) rfl).trans ((lv_osw (k := 33) (fun q => h4_33 (rf_ei hty (by decide) q)) rfl).trans ((lv_osw (k := 34) (fun q => h4_34 (rf_ei hty (by decide) q)) rfl).trans (rfl))))))) (by decide) ?_
  refine lv_iconst (v := 0) hx hb dX1_takesManaging_102 (by decide) ?_
  exact z_iret F (rfl) hw hS (by unfold cp_takesManaging0; rw [if_neg h4_2, if_neg h4_4, if_neg h4_17, if_neg h4_18, if_neg h4_33, if_neg h4_34]; exact ⟨rfl, rfl, ⟨_, _, ⟨h0, h1, h2, h3, h4⟩, ht0, ht1, hR0, hR1⟩, hF⟩) dX1_takesManaging_103
def cp_takesCalling0 (T : rf_T) (Q : rf_Q) (M : List Nat) : rf_R := (if ((T 1 0) : Int32) = 5 then (if M.getD 1 0 = 1 then ((cp_takesProgress T Q 2 3).1, ((cp_takesProgress T Q 2 3).2.1), (cp_takesProgress T Q 2 3).2.2) else (if M.getD 1 0 = 2 then ((cp_takesProgress T Q 1 2).1, ((cp_takesProgress T Q 1 2).2.1), (cp_takesProgress T Q 1 2).2.2) else (if M.getD 1 0 = 7 then ((cp_takesConnect T Q).1, ((cp_takesConnect T Q).2.1), (cp_takesConnect T Q).2.2) else (if M.getD 1 0 = 37 then ((cp_takesEnd0 T Q M).1, ((cp_takesEnd0 T Q M).2.1), (cp_takesEnd0 T Q M).2.2) else (if M.getD 1 0 = 42 then ((cp_takesReleased0 T Q).1, ((cp_takesReleased0 T Q).2.1), (cp_takesReleased0 T Q).2.2) else (if M.getD 1 0 = 45 then ((cp_takesRelease0 T Q).1, ((cp_takesRelease0 T Q).2.1), (cp_takesRelease0 T Q).2.2) else (0, T, Q))))))) else (0, T, Q))
theorem cp_takesCalling0_b (T : rf_T) (Q : rf_Q) (M : List Nat) : (cp_takesCalling0 T Q M).1 = 0 ∨ (cp_takesCalling0 T Q M).1 = 1 := by unfold cp_takesCalling0; (repeat' split) <;> first | exact Or.inl rfl | exact Or.inr rfl | exact cp_takesEnd0_b _ _ _ | exact cp_takesRelease0_b _ _ | exact cp_takesReleased0_b _ _ | exact cp_takesProgress_b _ _ _ _ | exact cp_takesConnect_b _ _
set_option maxHeartbeats 4000000 in
set_option maxRecDepth 100000 in
theorem c_takesCalling0 (l : Launch) {G : zz_G} {ad : Nat → Nat} {ce : zz_C} {sz : Nat} (T : rf_T) (Q : rf_Q) (hV : clV G ad ce T Q) (h : Nat) (M : List Nat) (hm : cl_m G ad ce h M) (hg : rf_good M) (hM2 : 2 ≤ M.length) (hh : 30 ≤ h ∧ h + 1 < 50) : zz_M l yX1_takesCalling cX1_takesCalling 2 (some .boolean) 4 88 0 0 G [.ref (ad 1), .ref (ad h)] ad ce sz (fun r ad1 ce1 => r = some (.int (cp_takesCalling0 T Q M).1) ∧ ad = ad1 ∧ clV G ad ce1 (cp_takesCalling0 T Q M).2.1 (cp_takesCalling0 T Q M).2.2 ∧ (∀ j, 30 ≤ j → ce1 j = ce j)) := by
  refine zz_enter (by decide) (Nat.le_of_ble_eq_true rfl) ?_
  intro p e s m below meth c ls F hl hw hS hA
  obtain ⟨hx, hb, hr, hml, hown, hts, hlocks, hK, hnm⟩ := id F
  have hl : lv_has ls 2 [(0, .ref (ad 1)), (1, .ref (ad h))] := hl
  obtain ⟨r0, r1, ⟨h0, h1, h2, h3, h4⟩, ht0, ht1, hR0, hR1⟩ := hV
  have hF : ∀ j, 30 ≤ j → ce j = ce j := fun _ _ => rfl
  have hty : M.getD 1 0 < 256 := by obtain ⟨f9, -, -, hM9⟩ := id hm; exact (hM9.2 1 (by omega)).2
  refine lv_aload_n hx hb dX1_takesCalling_0 rfl (lv_at hl 0 rfl) ?_
  refine z_get F hw h1 fd_X1_25_X1 rfl dX1_takesCalling_1 ?_
  refine lv_iconst (v := 5) hx hb dX1_takesCalling_4 (by decide) ?_
  refine lv_icmp_eq (tgt := 10) hx hb dX1_takesCalling_5 (by decide) (fun c5 => ?_) (fun c5 => ?_)
  · refine lv_aload_n hx hb dX1_takesCalling_10 rfl (lv_at hl 1 rfl) ?_
    refine z_invV F (rest := []) (c_type l h M hm hM2) yv_X1_54 ⟨Nat.le_of_ble_eq_true rfl, Nat.le_of_ble_eq_true rfl⟩ hw hA hS hl hm.obj rfl rfl rfl (Nat.le_of_ble_eq_true rfl) dX1_takesCalling_11 ⟨Nat.le_of_ble_eq_true rfl, Nat.le_of_ble_eq_true rfl⟩ (fun r ad1 ce1 H locs hp hw hS => ?_)
    obtain ⟨rfl, rfl, rfl⟩ := hp
    refine W.eq (g2 := F0 m 14 ls [.int (nI (M.getD 1 0))]) rfl ?_
    by_cases h14_1 : M.getD 1 0 = 1
    · refine lv_lookup (tgt := 79) (off := 65) hx hb dX1_takesCalling_14 (by decide) (by rw [h14_1]; rfl) (by decide) ?_
      refine lv_aload_n hx hb dX1_takesCalling_79 rfl (lv_at hl 0 rfl) ?_
      refine lv_iconst (v := 2) hx hb dX1_takesCalling_80 (by decide) ?_
      refine lv_iconst (v := 3) hx hb dX1_takesCalling_81 (by decide) ?_
      have hV : clV G ad ce T Q := ⟨_, _, ⟨h0, h1, h2, h3, h4⟩, ht0, ht1, hR0, hR1⟩
      refine z_invV F (rest := []) (c_takesProgress l T Q hV 2 3) yv_X1_76 ⟨Nat.le_of_ble_eq_true rfl, Nat.le_of_ble_eq_true rfl⟩ hw hA hS hl h1 rfl rfl rfl (Nat.le_of_ble_eq_true rfl) dX1_takesCalling_82 ⟨Nat.le_of_ble_eq_true rfl, Nat.le_of_ble_eq_true rfl⟩ (fun r ad1 ce2 H locs hp hw hS => ?_)
      obtain ⟨rfl, rfl, hV, hF2⟩ := hp
      have hF : ∀ j, 30 ≤ j → ce2 j = ce j := fun j hj => (hF2 j (by omega)).trans (hF j hj)
      have hm := hm.kept (hF2 h (by omega)) (hF2 (h + 1) (by omega))
      obtain ⟨r0, r1, ⟨h0, h1, h2, h3, h4⟩, ht0, ht1, hR0, hR1⟩ := hV
      refine W.eq (g2 := F0 m 85 ls [.int (cp_takesProgress T Q 2 3).1]) rfl ?_
      exact z_iret F (cl_bn (cp_takesProgress_b _ _ _ _)) hw hS (by unfold cp_takesCalling0; rw [if_pos c5, if_pos h14_1]; exact ⟨rfl, rfl, ⟨_, _, ⟨h0, h1, h2, h3, h4⟩, ht0, ht1, hR0, hR1⟩, hF⟩) dX1_takesCalling_85
    by_cases h14_2 : M.getD 1 0 = 2
    · refine lv_lookup (tgt := 72) (off := 58) hx hb dX1_takesCalling_14 (by decide) (by rw [h14_2]; rfl) (by decide) ?_
      refine lv_aload_n hx hb dX1_takesCalling_72 rfl (lv_at hl 0 rfl) ?_
      refine lv_iconst (v := 1) hx hb dX1_takesCalling_73 (by decide) ?_
      refine lv_iconst (v := 2) hx hb dX1_takesCalling_74 (by decide) ?_
      have hV : clV G ad ce T Q := ⟨_, _, ⟨h0, h1, h2, h3, h4⟩, ht0, ht1, hR0, hR1⟩
      refine z_invV F (rest := []) (c_takesProgress l T Q hV 1 2) yv_X1_76 ⟨Nat.le_of_ble_eq_true rfl, Nat.le_of_ble_eq_true rfl⟩ hw hA hS hl h1 rfl rfl rfl (Nat.le_of_ble_eq_true rfl) dX1_takesCalling_75 ⟨Nat.le_of_ble_eq_true rfl, Nat.le_of_ble_eq_true rfl⟩ (fun r ad1 ce3 H locs hp hw hS => ?_)
      obtain ⟨rfl, rfl, hV, hF2⟩ := hp
      have hF : ∀ j, 30 ≤ j → ce3 j = ce j := fun j hj => (hF2 j (by omega)).trans (hF j hj)
      have hm := hm.kept (hF2 h (by omega)) (hF2 (h + 1) (by omega))
      obtain ⟨r0, r1, ⟨h0, h1, h2, h3, h4⟩, ht0, ht1, hR0, hR1⟩ := hV
      refine W.eq (g2 := F0 m 78 ls [.int (cp_takesProgress T Q 1 2).1]) rfl ?_
      exact z_iret F (cl_bn (cp_takesProgress_b _ _ _ _)) hw hS (by unfold cp_takesCalling0; rw [if_pos c5, if_neg h14_1, if_pos h14_2]; exact ⟨rfl, rfl, ⟨_, _, ⟨h0, h1, h2, h3, h4⟩, ht0, ht1, hR0, hR1⟩, hF⟩) dX1_takesCalling_78
    by_cases h14_7 : M.getD 1 0 = 7
    · refine lv_lookup (tgt := 86) (off := 72) hx hb dX1_takesCalling_14 (by decide) (by rw [h14_7]; rfl) (by decide) ?_
      refine lv_aload_n hx hb dX1_takesCalling_86 rfl (lv_at hl 0 rfl) ?_
      have hV : clV G ad ce T Q := ⟨_, _, ⟨h0, h1, h2, h3, h4⟩, ht0, ht1, hR0, hR1⟩
      refine z_invV F (rest := []) (c_takesConnect l T Q hV) yv_X1_80 ⟨Nat.le_of_ble_eq_true rfl, Nat.le_of_ble_eq_true rfl⟩ hw hA hS hl h1 rfl rfl rfl (Nat.le_of_ble_eq_true rfl) dX1_takesCalling_87 ⟨Nat.le_of_ble_eq_true rfl, Nat.le_of_ble_eq_true rfl⟩ (fun r ad1 ce4 H locs hp hw hS => ?_)
      obtain ⟨rfl, rfl, hV, hF2⟩ := hp
      have hF : ∀ j, 30 ≤ j → ce4 j = ce j := fun j hj => (hF2 j (by omega)).trans (hF j hj)
      have hm := hm.kept (hF2 h (by omega)) (hF2 (h + 1) (by omega))
      obtain ⟨r0, r1, ⟨h0, h1, h2, h3, h4⟩, ht0, ht1, hR0, hR1⟩ := hV
      refine W.eq (g2 := F0 m 90 ls [.int (cp_takesConnect T Q).1]) rfl ?_
      exact z_iret F (cl_bn (cp_takesConnect_b _ _)) hw hS (by unfold cp_takesCalling0; rw [if_pos c5, if_neg h14_1, if_neg h14_2, if_pos h14_7]; exact ⟨rfl, rfl, ⟨_, _, ⟨h0, h1, h2, h3, h4⟩, ht0, ht1, hR0, hR1⟩, hF⟩) dX1_takesCalling_90
    by_cases h14_37 : M.getD 1 0 = 37
    · refine lv_lookup (tgt := 91) (off := 77) hx hb dX1_takesCalling_14 (by decide) (by rw [h14_37]; rfl) (by decide) ?_
      refine lv_aload_n hx hb dX1_takesCalling_91 rfl (lv_at hl 0 rfl) ?_
      refine lv_aload_n hx hb dX1_takesCalling_92 rfl (lv_at hl 1 rfl) ?_
      have hV : clV G ad ce T Q := ⟨_, _, ⟨h0, h1, h2, h3, h4⟩, ht0, ht1, hR0, hR1⟩
      refine z_invU F (rest := []) (c_takesEnd0 l T Q hV h M hm hg hM2 hh) yu_X1_83_X1 ⟨Nat.le_of_ble_eq_true rfl, Nat.le_of_ble_eq_true rfl⟩ hw hA hS hl h1 rfl rfl rfl (Nat.le_of_ble_eq_true rfl) dX1_takesCalling_93 ⟨Nat.le_of_ble_eq_true rfl, Nat.le_of_ble_eq_true rfl⟩ (fun r ad1 ce5 H locs hp hw hS => ?_)
      obtain ⟨rfl, rfl, hV, hF2⟩ := hp
      have hF : ∀ j, 30 ≤ j → ce5 j = ce j := fun j hj => (hF2 j (by omega)).trans (hF j hj)
      have hm := hm.kept (hF2 h (by omega)) (hF2 (h + 1) (by omega))
      obtain ⟨r0, r1, ⟨h0, h1, h2, h3, h4⟩, ht0, ht1, hR0, hR1⟩ := hV
      refine W.eq (g2 := F0 m 96 ls [.int (cp_takesEnd0 T Q M).1]) rfl ?_
      exact z_iret F (cl_bn (cp_takesEnd0_b _ _ _)) hw hS (by unfold cp_takesCalling0; rw [if_pos c5, if_neg h14_1, if_neg h14_2, if_neg h14_7, if_pos h14_37]; exact ⟨rfl, rfl, ⟨_, _, ⟨h0, h1, h2, h3, h4⟩, ht0, ht1, hR0, hR1⟩, hF⟩) dX1_takesCalling_96
    by_cases h14_42 : M.getD 1 0 = 42
    · refine lv_lookup (tgt := 102) (off := 88) hx hb dX1_takesCalling_14 (by decide) (by rw [h14_42]; rfl) (by decide) ?_
      refine lv_aload_n hx hb dX1_takesCalling_102 rfl (lv_at hl 0 rfl) ?_
      have hV : clV G ad ce T Q := ⟨_, _, ⟨h0, h1, h2, h3, h4⟩, ht0, ht1, hR0, hR1⟩
      refine z_invU F (rest := []) (c_takesReleased0 l T Q hV) yu_X1_89_X1 ⟨Nat.le_of_ble_eq_true rfl, Nat.le_of_ble_eq_true rfl⟩ hw hA hS hl h1 rfl rfl rfl (Nat.le_of_ble_eq_true rfl) dX1_takesCalling_103 ⟨Nat.le_of_ble_eq_true rfl, Nat.le_of_ble_eq_true rfl⟩ (fun r ad1 ce6 H locs hp hw hS => ?_)
      obtain ⟨rfl, rfl, hV, hF2⟩ := hp
      have hF : ∀ j, 30 ≤ j → ce6 j = ce j := fun j hj => (hF2 j (by omega)).trans (hF j hj)
      have hm := hm.kept (hF2 h (by omega)) (hF2 (h + 1) (by omega))
      obtain ⟨r0, r1, ⟨h0, h1, h2, h3, h4⟩, ht0, ht1, hR0, hR1⟩ := hV
      refine W.eq (g2 := F0 m 106 ls [.int (cp_takesReleased0 T Q).1]) rfl ?_
      exact z_iret F (cl_bn (cp_takesReleased0_b _ _)) hw hS (by unfold cp_takesCalling0; rw [if_pos c5, if_neg h14_1, if_neg h14_2, if_neg h14_7, if_neg h14_37, if_pos h14_42]; exact ⟨rfl, rfl, ⟨_, _, ⟨h0, h1, h2, h3, h4⟩, ht0, ht1, hR0, hR1⟩, hF⟩) dX1_takesCalling_106
    by_cases h14_45 : M.getD 1 0 = 45
    · refine lv_lookup (tgt := 97) (off := 83) hx hb dX1_takesCalling_14 (by decide) (by rw [h14_45]; rfl) (by decide) ?_
      refine lv_aload_n hx hb dX1_takesCalling_97 rfl (lv_at hl 0 rfl) ?_
      have hV : clV G ad ce T Q := ⟨_, _, ⟨h0, h1, h2, h3, h4⟩, ht0, ht1, hR0, hR1⟩
      refine z_invU F (rest := []) (c_takesRelease0 l T Q hV) yu_X1_86_X1 ⟨Nat.le_of_ble_eq_true rfl, Nat.le_of_ble_eq_true rfl⟩ hw hA hS hl h1 rfl rfl rfl (Nat.le_of_ble_eq_true rfl) dX1_takesCalling_98 ⟨Nat.le_of_ble_eq_true rfl, Nat.le_of_ble_eq_true rfl⟩ (fun r ad1 ce7 H locs hp hw hS => ?_)
      obtain ⟨rfl, rfl, hV, hF2⟩ := hp
      have hF : ∀ j, 30 ≤ j → ce7 j = ce j := fun j hj => (hF2 j (by omega)).trans (hF j hj)
      have hm := hm.kept (hF2 h (by omega)) (hF2 (h + 1) (by omega))
      obtain ⟨r0, r1, ⟨h0, h1, h2, h3, h4⟩, ht0, ht1, hR0, hR1⟩ := hV
      refine W.eq (g2 := F0 m 101 ls [.int (cp_takesRelease0 T Q).1]) rfl ?_
      exact z_iret F (cl_bn (cp_takesRelease0_b _ _)) hw hS (by unfold cp_takesCalling0; rw [if_pos c5, if_neg h14_1, if_neg h14_2, if_neg h14_7, if_neg h14_37, if_neg h14_42, if_pos h14_45]; exact ⟨rfl, rfl, ⟨_, _, ⟨h0, h1, h2, h3, h4⟩, ht0, ht1, hR0, hR1⟩, hF⟩) dX1_takesCalling_101
    refine lv_lookup (tgt := 107) (off := 93) hx hb dX1_takesCalling_14 (by decide) ((lv_osw (k := 1) (fun q => h14_1 (rf_ei hty (by decide) q)) rfl).trans ((lv_osw (k := 2) (fun q => h14_2 (rf_ei hty (by decide) q)) rfl).trans ((lv_osw (k := 7) (fun q => h14_7 (rf_ei hty (by decide) q)) rfl).trans ((lv_osw (k := 37) (fun q => h14_37 (rf_ei hty (by decide) q)) rfl).trans ((lv_osw (k := 42) (fun q => h14_42 (rf_ei hty (by decide) q)) rfl).trans ((lv_osw (k := 45) (fun q => h14_45 (rf_ei hty (by decide) q)) rfl).trans (rfl))))))) (by decide) ?_
    refine lv_iconst (v := 0) hx hb dX1_takesCalling_107 (by decide) ?_
    exact z_iret F (rfl) hw hS (by unfold cp_takesCalling0; rw [if_pos c5, if_neg h14_1, if_neg h14_2, if_neg h14_7, if_neg h14_37, if_neg h14_42, if_neg h14_45]; exact ⟨rfl, rfl, ⟨_, _, ⟨h0, h1, h2, h3, h4⟩, ht0, ht1, hR0, hR1⟩, hF⟩) dX1_takesCalling_108
  · refine lv_iconst (v := 0) hx hb dX1_takesCalling_8 (by decide) ?_
    exact z_iret F (rfl) hw hS (by unfold cp_takesCalling0; rw [if_neg c5]; exact ⟨rfl, rfl, ⟨_, _, ⟨h0, h1, h2, h3, h4⟩, ht0, ht1, hR0, hR1⟩, hF⟩) dX1_takesCalling_9
