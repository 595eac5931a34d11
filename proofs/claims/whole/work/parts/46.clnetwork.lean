set_option maxHeartbeats 4000000 in
set_option maxRecDepth 100000 in
theorem c_setAccepted (l : Launch) {G : zz_G} {ad : Nat → Nat} {ce : zz_C} {sz : Nat} (T : rf_T) (Q : rf_Q) (hV : clV G ad ce T Q) (v x0 x1 : Int32) (hx0 : x0 = cl_b0 v) (hx1 : x1 = cl_b1 v) : zz_M l yX2_setAccepted cX2_setAccepted 3 none 0 0 0 0 G [.ref (ad 2), .int x0, .int x1] ad ce sz (fun r ad1 ce1 => r = none ∧ ad = ad1 ∧ clV G ad ce1 (va_up T 0 (va_up (T 0) 3 v)) (Q) ∧ (∀ j, (10 ≤ j ∧ j < 30) ∨ 50 ≤ j → ce1 j = ce j)) := by
  refine zz_enter (by decide) (Nat.le_of_ble_eq_true rfl) ?_
  intro p e s m below meth c ls F hl hw hS hA
  obtain ⟨hx, hb, hr, hml, hown, hts, hlocks, hK, hnm⟩ := id F
  have hl : lv_has ls 3 [(0, .ref (ad 2)), (1, .int x0), (2, .int x1)] := hl
  obtain ⟨r0, r1, ⟨h0, h1, h2, h3, h4⟩, ht0, ht1, hR0, hR1⟩ := hV
  have hF : ∀ j, (10 ≤ j ∧ j < 30) ∨ 50 ≤ j → ce j = ce j := fun _ _ => rfl
  refine lv_aload_n hx hb dX2_setAccepted_0 rfl (lv_at hl 0 rfl) ?_
  refine lv_iload_n hx hb dX2_setAccepted_1 rfl (lv_at hl 1 rfl) ?_
  refine z_put F hw hS (fs' := [.ref (ad 30), .int 0, .int (T 1 1), .int (T 2 1), .int (T 3 1), .int (T 5 1), .int r1, .int (T 0 1), .int (T 0 7), .int (T 0 2), .int (T 0 8), .int x0, .int (cl_b1 (T 0 3)), .ref (ad 4), .int (T 0 10)]) h2 fd_X2_24_X2 ptX2 rfl (by rw [hx0]; exact cl_b0b v) (by rw [hx0]; unfold cl_b0; split <;> rfl) (Nat.le_of_ble_eq_true rfl) rfl dX2_setAccepted_2 (fun ce1 H locs h2 fr2 hw hS => ?_)
  have h0 := (fr2 0 (by decide)).trans h0
  have h1 := (fr2 1 (by decide)).trans h1
  have h3 := (fr2 3 (by decide)).trans h3
  have h4 := (fr2 4 (by decide)).trans h4
  have hR0 := hR0.kept (fun j h1 h2 => fr2 j (by omega))
  have hR1 := hR1.kept (fun j h1 h2 => fr2 j (by omega))
  have hF : ∀ j, (10 ≤ j ∧ j < 30) ∨ 50 ≤ j → _ = ce j := fun j hj => (fr2 j (by omega)).trans (hF j hj)
  refine lv_aload_n hx hb dX2_setAccepted_5 rfl (lv_at hl 0 rfl) ?_
  refine lv_iload_n hx hb dX2_setAccepted_6 rfl (lv_at hl 2 rfl) ?_
  refine z_put F hw hS (fs' := [.ref (ad 30), .int 0, .int (T 1 1), .int (T 2 1), .int (T 3 1), .int (T 5 1), .int r1, .int (T 0 1), .int (T 0 7), .int (T 0 2), .int (T 0 8), .int x0, .int x1, .ref (ad 4), .int (T 0 10)]) h2 fd_X2_28_X2 ptX2 rfl (by rw [hx1]; exact cl_b1b v) (by rw [hx1]; unfold cl_b1; split <;> rfl) (Nat.le_of_ble_eq_true rfl) rfl dX2_setAccepted_7 (fun ce3 H locs h2 fr4 hw hS => ?_)
  have h0 := (fr4 0 (by decide)).trans h0
  have h1 := (fr4 1 (by decide)).trans h1
  have h3 := (fr4 3 (by decide)).trans h3
  have h4 := (fr4 4 (by decide)).trans h4
  have hR0 := hR0.kept (fun j h1 h2 => fr4 j (by omega))
  have hR1 := hR1.kept (fun j h1 h2 => fr4 j (by omega))
  have hF : ∀ j, (10 ≤ j ∧ j < 30) ∨ 50 ≤ j → _ = ce j := fun j hj => (fr4 j (by omega)).trans (hF j hj)
  exact z_vret F hw hS (⟨rfl, rfl, ⟨r0, r1, ⟨h0, h1, by rw [hx0, hx1] at h2; exact h2, h3, h4⟩, ht0, ht1, hR0, hR1⟩, hF⟩) dX2_setAccepted_10
def cp_startRinging (T : rf_T) (Q : rf_Q) : rf_R := (if ((T 2 1) : Int32) = 1 then (1, (rf_become T 1 (T 1 1) 2 0), rf_put T Q 1 ([3, 1])) else (0, T, Q))
theorem cp_startRinging_b (T : rf_T) (Q : rf_Q) : (cp_startRinging T Q).1 = 0 ∨ (cp_startRinging T Q).1 = 1 := by unfold cp_startRinging; (repeat' split) <;> first | exact Or.inl rfl | exact Or.inr rfl
set_option maxHeartbeats 4000000 in
set_option maxRecDepth 100000 in
theorem c_startRinging (l : Launch) {G : zz_G} {ad : Nat → Nat} {ce : zz_C} {sz : Nat} (T : rf_T) (Q : rf_Q) (hV : clV G ad ce T Q) : zz_M l yX2_startRinging cX2_startRinging 1 (some .boolean) 2 45 0 0 G [.ref (ad 2)] ad ce sz (fun r ad1 ce1 => r = some (.int (cp_startRinging T Q).1) ∧ ad = ad1 ∧ clV G ad ce1 (cp_startRinging T Q).2.1 (cp_startRinging T Q).2.2 ∧ (∀ j, (10 ≤ j ∧ j < 30) ∨ 50 ≤ j → ce1 j = ce j)) := by
  refine zz_enter (by decide) (Nat.le_of_ble_eq_true rfl) ?_
  intro p e s m below meth c ls F hl hw hS hA
  obtain ⟨hx, hb, hr, hml, hown, hts, hlocks, hK, hnm⟩ := id F
  have hl : lv_has ls 1 [(0, .ref (ad 2))] := hl
  obtain ⟨r0, r1, ⟨h0, h1, h2, h3, h4⟩, ht0, ht1, hR0, hR1⟩ := hV
  have hF : ∀ j, (10 ≤ j ∧ j < 30) ∨ 50 ≤ j → ce j = ce j := fun _ _ => rfl
  refine lv_aload_n hx hb dX2_startRinging_0 rfl (lv_at hl 0 rfl) ?_
  refine z_get F hw h2 fd_X2_38_X2 rfl dX2_startRinging_1 ?_
  refine lv_iconst (v := 1) hx hb dX2_startRinging_4 (by decide) ?_
  refine lv_icmp_eq (tgt := 10) hx hb dX2_startRinging_5 (by decide) (fun c5 => ?_) (fun c5 => ?_)
  · refine lv_aload_n hx hb dX2_startRinging_10 rfl (lv_at hl 0 rfl) ?_
    refine z_get F hw h2 fd_X2_41_X2 rfl dX2_startRinging_11 ?_
    refine lv_iconst (v := 3) hx hb dX2_startRinging_14 (by decide) ?_
    refine lv_iconst (v := 1) hx hb dX2_startRinging_15 (by decide) ?_
    obtain ⟨vs9, ho9⟩ := hR1.obj
    refine z_invV F (rest := []) (c_send l 30 _ _ hR1 3 1 (by decide) (by decide)) yv_X2_45 ⟨Nat.le_of_ble_eq_true rfl, Nat.le_of_ble_eq_true rfl⟩ hw hA hS hl ho9 rfl rfl rfl (Nat.le_of_ble_eq_true rfl) dX2_startRinging_16 ⟨Nat.le_of_ble_eq_true rfl, Nat.le_of_ble_eq_true rfl⟩ (fun r ad1 ce1 H locs hp hw hS => ?_)
    obtain ⟨rfl, ⟨h9, rfl, hp9⟩, hF2⟩ := hp
    have h0 := (hF2 0 (by decide)).trans h0
    have h1 := (hF2 1 (by decide)).trans h1
    have h2 := (hF2 2 (by decide)).trans h2
    have h3 := (hF2 3 (by decide)).trans h3
    have h4 := (hF2 4 (by decide)).trans h4
    have hR0 := hR0.kept (fun j h1 h2 => hF2 j (by omega))
    have hF : ∀ j, (10 ≤ j ∧ j < 30) ∨ 50 ≤ j → ce1 j = ce j := fun j hj => (hF2 j (by omega)).trans (hF j hj)
    have hR1 : cl_r G ad ce1 30 ((rf_put T Q 1 ([3, 1])) 1) (cl_op T) := cl_put (x := [3, 1]) hp9.end
    have hR0 : cl_r G ad ce1 10 ((rf_put T Q 1 ([3, 1])) 0) (cl_op T) := by rw [cl_putn _ _ _ (by decide)]; exact hR0
    refine W.eq (g2 := F0 m 19 ls [.ref (ad h9)]) rfl ?_
    refine lv_pop hx hb dX2_startRinging_19 rfl ?_
    refine lv_aload_n hx hb dX2_startRinging_20 rfl (lv_at hl 0 rfl) ?_
    refine lv_iconst (v := 2) hx hb dX2_startRinging_21 (by decide) ?_
    refine lv_iconst (v := 0) hx hb dX2_startRinging_22 (by decide) ?_
    have hV : clV G ad ce1 T (rf_put T Q 1 ([3, 1])) := ⟨_, _, ⟨h0, h1, h2, h3, h4⟩, ht0, ht1, hR0, hR1⟩
    refine z_invU F (rest := []) (c_setCall1 l T (rf_put T Q 1 ([3, 1])) hV 2 0) yu_X2_51_X2 ⟨Nat.le_of_ble_eq_true rfl, Nat.le_of_ble_eq_true rfl⟩ hw hA hS hl h2 rfl rfl rfl (Nat.le_of_ble_eq_true rfl) dX2_startRinging_23 ⟨Nat.le_of_ble_eq_true rfl, Nat.le_of_ble_eq_true rfl⟩ (fun r ad1 ce2 H locs hp hw hS => ?_)
    obtain ⟨rfl, rfl, hV, hF2⟩ := hp
    have hF : ∀ j, (10 ≤ j ∧ j < 30) ∨ 50 ≤ j → ce2 j = ce j := fun j hj => (hF2 j (by omega)).trans (hF j hj)
    obtain ⟨r0, r1, ⟨h0, h1, h2, h3, h4⟩, ht0, ht1, hR0, hR1⟩ := hV
    refine W.eq (g2 := F0 m 26 ls []) rfl ?_
    refine lv_iconst (v := 1) hx hb dX2_startRinging_26 (by decide) ?_
    exact z_iret F (rfl) hw hS (by unfold cp_startRinging; rw [if_pos c5]; exact ⟨rfl, rfl, ⟨_, _, ⟨h0, h1, h2, h3, h4⟩, ht0, ht1, hR0, hR1⟩, hF⟩) dX2_startRinging_27
  · refine lv_iconst (v := 0) hx hb dX2_startRinging_8 (by decide) ?_
    exact z_iret F (rfl) hw hS (by unfold cp_startRinging; rw [if_neg c5]; exact ⟨rfl, rfl, ⟨_, _, ⟨h0, h1, h2, h3, h4⟩, ht0, ht1, hR0, hR1⟩, hF⟩) dX2_startRinging_9
def cp_startAnswered (T : rf_T) (Q : rf_Q) : rf_R := (if rf_inC T 1 1 2 then (1, (rf_become T 1 (T 1 1) 3 10), rf_put T Q 1 ([3, 7])) else (0, T, Q))
theorem cp_startAnswered_b (T : rf_T) (Q : rf_Q) : (cp_startAnswered T Q).1 = 0 ∨ (cp_startAnswered T Q).1 = 1 := by unfold cp_startAnswered; (repeat' split) <;> first | exact Or.inl rfl | exact Or.inr rfl
set_option maxHeartbeats 4000000 in
set_option maxRecDepth 100000 in
theorem c_startAnswered (l : Launch) {G : zz_G} {ad : Nat → Nat} {ce : zz_C} {sz : Nat} (T : rf_T) (Q : rf_Q) (hV : clV G ad ce T Q) : zz_M l yX2_startAnswered cX2_startAnswered 1 (some .boolean) 2 45 0 0 G [.ref (ad 2)] ad ce sz (fun r ad1 ce1 => r = some (.int (cp_startAnswered T Q).1) ∧ ad = ad1 ∧ clV G ad ce1 (cp_startAnswered T Q).2.1 (cp_startAnswered T Q).2.2 ∧ (∀ j, (10 ≤ j ∧ j < 30) ∨ 50 ≤ j → ce1 j = ce j)) := by
  refine zz_enter (by decide) (Nat.le_of_ble_eq_true rfl) ?_
  intro p e s m below meth c ls F hl hw hS hA
  obtain ⟨hx, hb, hr, hml, hown, hts, hlocks, hK, hnm⟩ := id F
  have hl : lv_has ls 1 [(0, .ref (ad 2))] := hl
  obtain ⟨r0, r1, ⟨h0, h1, h2, h3, h4⟩, ht0, ht1, hR0, hR1⟩ := hV
  have hF : ∀ j, (10 ≤ j ∧ j < 30) ∨ 50 ≤ j → ce j = ce j := fun _ _ => rfl
  refine lv_aload_n hx hb dX2_startAnswered_0 rfl (lv_at hl 0 rfl) ?_
  refine lv_iconst (v := 1) hx hb dX2_startAnswered_1 (by decide) ?_
  refine lv_iconst (v := 2) hx hb dX2_startAnswered_2 (by decide) ?_
  have hV : clV G ad ce T Q := ⟨_, _, ⟨h0, h1, h2, h3, h4⟩, ht0, ht1, hR0, hR1⟩
  refine z_invU F (rest := []) (c_hasCall1 l T Q hV 1 2) yu_X2_54_X2 ⟨Nat.le_of_ble_eq_true rfl, Nat.le_of_ble_eq_true rfl⟩ hw hA hS hl h2 rfl rfl rfl (Nat.le_of_ble_eq_true rfl) dX2_startAnswered_3 ⟨Nat.le_of_ble_eq_true rfl, Nat.le_of_ble_eq_true rfl⟩ (fun r ad1 ce1 H locs hp hw hS => ?_)
  obtain ⟨hp, rfl, rfl⟩ := hp
  rcases hp with ⟨hc, rfl⟩ | ⟨hc, rfl⟩
  · refine W.eq (g2 := F0 m 6 ls [.int 1]) rfl ?_
    refine lv_if_ne (tgt := 11) hx hb dX2_startAnswered_6 (by decide) (fun c6 => ?_) (fun c6 => absurd c6 (by decide))
    refine lv_aload_n hx hb dX2_startAnswered_11 rfl (lv_at hl 0 rfl) ?_
    refine z_get F hw h2 fd_X2_41_X2 rfl dX2_startAnswered_12 ?_
    refine lv_iconst (v := 3) hx hb dX2_startAnswered_15 (by decide) ?_
    refine lv_bipush (v := 7) hx hb dX2_startAnswered_16 (by decide) ?_
    obtain ⟨vs9, ho9⟩ := hR1.obj
    refine z_invV F (rest := []) (c_send l 30 _ _ hR1 3 7 (by decide) (by decide)) yv_X2_45 ⟨Nat.le_of_ble_eq_true rfl, Nat.le_of_ble_eq_true rfl⟩ hw hA hS hl ho9 rfl rfl rfl (Nat.le_of_ble_eq_true rfl) dX2_startAnswered_18 ⟨Nat.le_of_ble_eq_true rfl, Nat.le_of_ble_eq_true rfl⟩ (fun r ad1 ce2 H locs hp hw hS => ?_)
    obtain ⟨rfl, ⟨h9, rfl, hp9⟩, hF2⟩ := hp
    have h0 := (hF2 0 (by decide)).trans h0
    have h1 := (hF2 1 (by decide)).trans h1
    have h2 := (hF2 2 (by decide)).trans h2
    have h3 := (hF2 3 (by decide)).trans h3
    have h4 := (hF2 4 (by decide)).trans h4
    have hR0 := hR0.kept (fun j h1 h2 => hF2 j (by omega))
    have hF : ∀ j, (10 ≤ j ∧ j < 30) ∨ 50 ≤ j → ce2 j = ce j := fun j hj => (hF2 j (by omega)).trans (hF j hj)
    have hR1 : cl_r G ad ce2 30 ((rf_put T Q 1 ([3, 7])) 1) (cl_op T) := cl_put (x := [3, 7]) hp9.end
    have hR0 : cl_r G ad ce2 10 ((rf_put T Q 1 ([3, 7])) 0) (cl_op T) := by rw [cl_putn _ _ _ (by decide)]; exact hR0
    refine W.eq (g2 := F0 m 21 ls [.ref (ad h9)]) rfl ?_
    refine lv_pop hx hb dX2_startAnswered_21 rfl ?_
    refine lv_aload_n hx hb dX2_startAnswered_22 rfl (lv_at hl 0 rfl) ?_
    refine lv_iconst (v := 3) hx hb dX2_startAnswered_23 (by decide) ?_
    refine lv_bipush (v := 10) hx hb dX2_startAnswered_24 (by decide) ?_
    have hV : clV G ad ce2 T (rf_put T Q 1 ([3, 7])) := ⟨_, _, ⟨h0, h1, h2, h3, h4⟩, ht0, ht1, hR0, hR1⟩
    refine z_invU F (rest := []) (c_setCall1 l T (rf_put T Q 1 ([3, 7])) hV 3 10) yu_X2_51_X2 ⟨Nat.le_of_ble_eq_true rfl, Nat.le_of_ble_eq_true rfl⟩ hw hA hS hl h2 rfl rfl rfl (Nat.le_of_ble_eq_true rfl) dX2_startAnswered_26 ⟨Nat.le_of_ble_eq_true rfl, Nat.le_of_ble_eq_true rfl⟩ (fun r ad1 ce3 H locs hp hw hS => ?_)
    obtain ⟨rfl, rfl, hV, hF2⟩ := hp
    have hF : ∀ j, (10 ≤ j ∧ j < 30) ∨ 50 ≤ j → ce3 j = ce j := fun j hj => (hF2 j (by omega)).trans (hF j hj)
    obtain ⟨r0, r1, ⟨h0, h1, h2, h3, h4⟩, ht0, ht1, hR0, hR1⟩ := hV
    refine W.eq (g2 := F0 m 29 ls []) rfl ?_
    refine lv_iconst (v := 1) hx hb dX2_startAnswered_29 (by decide) ?_
    exact z_iret F (rfl) hw hS (by unfold cp_startAnswered; rw [if_pos hc]; exact ⟨rfl, rfl, ⟨_, _, ⟨h0, h1, h2, h3, h4⟩, ht0, ht1, hR0, hR1⟩, hF⟩) dX2_startAnswered_30
  · refine W.eq (g2 := F0 m 6 ls [.int 0]) rfl ?_
    refine lv_if_ne (tgt := 11) hx hb dX2_startAnswered_6 (by decide) (fun c6 => absurd c6 (by decide)) (fun c6 => ?_)
    refine lv_iconst (v := 0) hx hb dX2_startAnswered_9 (by decide) ?_
    exact z_iret F (rfl) hw hS (by unfold cp_startAnswered; rw [if_neg hc]; exact ⟨rfl, rfl, ⟨_, _, ⟨h0, h1, h2, h3, h4⟩, ht0, ht1, hR0, hR1⟩, hF⟩) dX2_startAnswered_10
def cp_numberByte (T : rf_T) (Q : rf_Q) (v : Int32) : rf_R := (if ((T 2 1) : Int32) = 0 then ((-3), T, Q) else (if (v : Int32) < 0 then ((-3), T, Q) else (if ((T 0 10) : Int32) ≤ v then ((-3), T, Q) else (((T 7) v.toNatClampNeg), T, Q))))
set_option maxHeartbeats 4000000 in
set_option maxRecDepth 100000 in
theorem c_numberByte (l : Launch) {G : zz_G} {ad : Nat → Nat} {ce : zz_C} {sz : Nat} (T : rf_T) (Q : rf_Q) (hV : clV G ad ce T Q) (v : Int32) (cc : Nat) (hcc8 : cc ≤ 8) (hcc : T 0 10 = nI cc) : zz_M l yX2_numberByte cX2_numberByte 2 (some .int) 0 0 0 0 G [.ref (ad 2), .int v] ad ce sz (fun r ad1 ce1 => r = some (.int (cp_numberByte T Q v).1) ∧ ad = ad1 ∧ clV G ad ce1 (cp_numberByte T Q v).2.1 (cp_numberByte T Q v).2.2 ∧ (∀ j, (10 ≤ j ∧ j < 30) ∨ 50 ≤ j → ce1 j = ce j)) := by
  refine zz_enter (by decide) (Nat.le_of_ble_eq_true rfl) ?_
  intro p e s m below meth c ls F hl hw hS hA
  obtain ⟨hx, hb, hr, hml, hown, hts, hlocks, hK, hnm⟩ := id F
  have hl : lv_has ls 2 [(0, .ref (ad 2)), (1, .int v)] := hl
  obtain ⟨r0, r1, ⟨h0, h1, h2, h3, h4⟩, ht0, ht1, hR0, hR1⟩ := hV
  have hF : ∀ j, (10 ≤ j ∧ j < 30) ∨ 50 ≤ j → ce j = ce j := fun _ _ => rfl
  refine lv_aload_n hx hb dX2_numberByte_0 rfl (lv_at hl 0 rfl) ?_
  refine z_get F hw h2 fd_X2_38_X2 rfl dX2_numberByte_1 ?_
  refine lv_if_eq (tgt := 28) hx hb dX2_numberByte_4 (by decide) (fun c4 => ?_) (fun c4 => ?_)
  · refine lv_bipush (v := -3) hx hb dX2_numberByte_28 (by decide) ?_
    exact z_iret F (rfl) hw hS (by unfold cp_numberByte; rw [if_pos c4]; exact ⟨rfl, rfl, ⟨_, _, ⟨h0, h1, h2, h3, h4⟩, ht0, ht1, hR0, hR1⟩, hF⟩) dX2_numberByte_30
  · refine lv_iload_n hx hb dX2_numberByte_7 rfl (lv_at hl 1 rfl) ?_
    refine lv_if_lt (tgt := 28) hx hb dX2_numberByte_8 (by decide) (fun c8 => ?_) (fun c8 => ?_)
    · refine lv_bipush (v := -3) hx hb dX2_numberByte_28 (by decide) ?_
      exact z_iret F (rfl) hw hS (by unfold cp_numberByte; rw [if_neg c4, if_pos c8]; exact ⟨rfl, rfl, ⟨_, _, ⟨h0, h1, h2, h3, h4⟩, ht0, ht1, hR0, hR1⟩, hF⟩) dX2_numberByte_30
    · refine lv_iload_n hx hb dX2_numberByte_11 rfl (lv_at hl 1 rfl) ?_
      refine lv_aload_n hx hb dX2_numberByte_12 rfl (lv_at hl 0 rfl) ?_
      refine z_get F hw h2 fd_X2_35_X2 rfl dX2_numberByte_13 ?_
      refine lv_icmp_ge (tgt := 28) hx hb dX2_numberByte_16 (by decide) (fun c16 => ?_) (fun c16 => ?_)
      · refine lv_bipush (v := -3) hx hb dX2_numberByte_28 (by decide) ?_
        exact z_iret F (rfl) hw hS (by unfold cp_numberByte; rw [if_neg c4, if_neg c8, if_pos c16]; exact ⟨rfl, rfl, ⟨_, _, ⟨h0, h1, h2, h3, h4⟩, ht0, ht1, hR0, hR1⟩, hF⟩) dX2_numberByte_30
      · refine lv_aload_n hx hb dX2_numberByte_19 rfl (lv_at hl 0 rfl) ?_
        refine z_get F hw h2 fd_X2_31_X2 rfl dX2_numberByte_20 ?_
        refine lv_iload_n hx hb dX2_numberByte_23 rfl (lv_at hl 1 rfl) ?_
        refine z_ld F hw h4 (v.toNatClampNeg) (cl_ixv c8) (Nat.lt_of_lt_of_le (cl_ixl c8 (fun q => c16 (by rw [hcc]; exact q))) hcc8) (by decide) dX2_numberByte_24 ?_
        refine lv_goto (tgt := 30) hx hb dX2_numberByte_25 (by decide) ?_
        exact z_iret F (rfl) hw hS (by unfold cp_numberByte; rw [if_neg c4, if_neg c8, if_neg c16]; exact ⟨rfl, rfl, ⟨_, _, ⟨h0, h1, h2, h3, h4⟩, ht0, ht1, hR0, hR1⟩, hF⟩) dX2_numberByte_30
def cp_timeOut1 (T : rf_T) (Q : rf_Q) : rf_R := (if ((T 2 1) : Int32) = 3 then (0, ((cp_startEnding1 T Q 102).2.1), (cp_startEnding1 T Q 102).2.2) else (0, ((cp_timeOutClearing1 T Q).2.1), (cp_timeOutClearing1 T Q).2.2))
set_option maxHeartbeats 4000000 in
set_option maxRecDepth 100000 in
theorem c_timeOut1 (l : Launch) {G : zz_G} {ad : Nat → Nat} {ce : zz_C} {sz : Nat} (T : rf_T) (Q : rf_Q) (hV : clV G ad ce T Q) : zz_M l yX2_timeOut cX2_timeOut 1 none 4 85 0 0 G [.ref (ad 2)] ad ce sz (fun r ad1 ce1 => r = none ∧ ad = ad1 ∧ clV G ad ce1 (cp_timeOut1 T Q).2.1 (cp_timeOut1 T Q).2.2 ∧ (∀ j, (10 ≤ j ∧ j < 30) ∨ 50 ≤ j → ce1 j = ce j)) := by
  refine zz_enter (by decide) (Nat.le_of_ble_eq_true rfl) ?_
  intro p e s m below meth c ls F hl hw hS hA
  obtain ⟨hx, hb, hr, hml, hown, hts, hlocks, hK, hnm⟩ := id F
  have hl : lv_has ls 1 [(0, .ref (ad 2))] := hl
  obtain ⟨r0, r1, ⟨h0, h1, h2, h3, h4⟩, ht0, ht1, hR0, hR1⟩ := hV
  have hF : ∀ j, (10 ≤ j ∧ j < 30) ∨ 50 ≤ j → ce j = ce j := fun _ _ => rfl
  refine lv_aload_n hx hb dX2_timeOut_0 rfl (lv_at hl 0 rfl) ?_
  refine z_get F hw h2 fd_X2_38_X2 rfl dX2_timeOut_1 ?_
  refine lv_iconst (v := 3) hx hb dX2_timeOut_4 (by decide) ?_
  refine lv_icmp_ne (tgt := 18) hx hb dX2_timeOut_5 (by decide) (fun c5 => ?_) (fun c5 => ?_)
  · refine lv_aload_n hx hb dX2_timeOut_18 rfl (lv_at hl 0 rfl) ?_
    have hV : clV G ad ce T Q := ⟨_, _, ⟨h0, h1, h2, h3, h4⟩, ht0, ht1, hR0, hR1⟩
    refine z_invU F (rest := []) (c_timeOutClearing1 l T Q hV) yu_X2_100_X2 ⟨Nat.le_of_ble_eq_true rfl, Nat.le_of_ble_eq_true rfl⟩ hw hA hS hl h2 rfl rfl rfl (Nat.le_of_ble_eq_true rfl) dX2_timeOut_19 ⟨Nat.le_of_ble_eq_true rfl, Nat.le_of_ble_eq_true rfl⟩ (fun r ad1 ce1 H locs hp hw hS => ?_)
    obtain ⟨rfl, rfl, hV, hF2⟩ := hp
    have hF : ∀ j, (10 ≤ j ∧ j < 30) ∨ 50 ≤ j → ce1 j = ce j := fun j hj => (hF2 j (by omega)).trans (hF j hj)
    obtain ⟨r0, r1, ⟨h0, h1, h2, h3, h4⟩, ht0, ht1, hR0, hR1⟩ := hV
    refine W.eq (g2 := F0 m 22 ls []) rfl ?_
    exact z_vret F hw hS (by unfold cp_timeOut1; rw [if_neg c5]; exact ⟨rfl, rfl, ⟨_, _, ⟨h0, h1, h2, h3, h4⟩, ht0, ht1, hR0, hR1⟩, hF⟩) dX2_timeOut_22
  · refine lv_aload_n hx hb dX2_timeOut_8 rfl (lv_at hl 0 rfl) ?_
    refine lv_bipush (v := 102) hx hb dX2_timeOut_9 (by decide) ?_
    have hV : clV G ad ce T Q := ⟨_, _, ⟨h0, h1, h2, h3, h4⟩, ht0, ht1, hR0, hR1⟩
    refine z_invU F (rest := []) (c_startEnding1 l T Q hV 102) yu_X2_96_X2 ⟨Nat.le_of_ble_eq_true rfl, Nat.le_of_ble_eq_true rfl⟩ hw hA hS hl h2 rfl rfl rfl (Nat.le_of_ble_eq_true rfl) dX2_timeOut_11 ⟨Nat.le_of_ble_eq_true rfl, Nat.le_of_ble_eq_true rfl⟩ (fun r ad1 ce2 H locs hp hw hS => ?_)
    obtain ⟨rfl, rfl, hV, hF2⟩ := hp
    have hF : ∀ j, (10 ≤ j ∧ j < 30) ∨ 50 ≤ j → ce2 j = ce j := fun j hj => (hF2 j (by omega)).trans (hF j hj)
    obtain ⟨r0, r1, ⟨h0, h1, h2, h3, h4⟩, ht0, ht1, hR0, hR1⟩ := hV
    refine W.eq (g2 := F0 m 14 ls [.int (cp_startEnding1 T Q 102).1]) rfl ?_
    refine lv_pop hx hb dX2_timeOut_14 rfl ?_
    refine lv_goto (tgt := 22) hx hb dX2_timeOut_15 (by decide) ?_
    exact z_vret F hw hS (by unfold cp_timeOut1; rw [if_pos c5]; exact ⟨rfl, rfl, ⟨_, _, ⟨h0, h1, h2, h3, h4⟩, ht0, ht1, hR0, hR1⟩, hF⟩) dX2_timeOut_22
def cp_forgetMobile (T : rf_T) (Q : rf_Q) : rf_R := (0, (rf_become (va_up T 0 (va_up (T 0) 7 (-1))) 1 0 0 0), Q)
set_option maxHeartbeats 4000000 in
set_option maxRecDepth 100000 in
theorem c_forgetMobile (l : Launch) {G : zz_G} {ad : Nat → Nat} {ce : zz_C} {sz : Nat} (T : rf_T) (Q : rf_Q) (hV : clV G ad ce T Q) : zz_M l yX2_forgetMobile cX2_forgetMobile 1 none 2 42 0 0 G [.ref (ad 2)] ad ce sz (fun r ad1 ce1 => r = none ∧ ad = ad1 ∧ clV G ad ce1 (cp_forgetMobile T Q).2.1 (cp_forgetMobile T Q).2.2 ∧ (∀ j, (10 ≤ j ∧ j < 30) ∨ 50 ≤ j → ce1 j = ce j)) := by
  refine zz_enter (by decide) (Nat.le_of_ble_eq_true rfl) ?_
  intro p e s m below meth c ls F hl hw hS hA
  obtain ⟨hx, hb, hr, hml, hown, hts, hlocks, hK, hnm⟩ := id F
  have hl : lv_has ls 1 [(0, .ref (ad 2))] := hl
  obtain ⟨r0, r1, ⟨h0, h1, h2, h3, h4⟩, ht0, ht1, hR0, hR1⟩ := hV
  have hF : ∀ j, (10 ≤ j ∧ j < 30) ∨ 50 ≤ j → ce j = ce j := fun _ _ => rfl
  refine lv_aload_n hx hb dX2_forgetMobile_0 rfl (lv_at hl 0 rfl) ?_
  refine lv_iconst (v := -1) hx hb dX2_forgetMobile_1 (by decide) ?_
  refine z_put F hw hS (fs' := [.ref (ad 30), .int 0, .int (T 1 1), .int (T 2 1), .int (T 3 1), .int (T 5 1), .int r1, .int (T 0 1), .int (-1), .int (T 0 2), .int (T 0 8), .int (cl_b0 (T 0 3)), .int (cl_b1 (T 0 3)), .ref (ad 4), .int (T 0 10)]) h2 fd_X2_15_X2 ptX2 rfl (rfl) (rfl) (Nat.le_of_ble_eq_true rfl) rfl dX2_forgetMobile_2 (fun ce1 H locs h2 fr2 hw hS => ?_)
  have h0 := (fr2 0 (by decide)).trans h0
  have h1 := (fr2 1 (by decide)).trans h1
  have h3 := (fr2 3 (by decide)).trans h3
  have h4 := (fr2 4 (by decide)).trans h4
  have hR0 := hR0.kept (fun j h1 h2 => fr2 j (by omega))
  have hR1 := hR1.kept (fun j h1 h2 => fr2 j (by omega))
  have hF : ∀ j, (10 ≤ j ∧ j < 30) ∨ 50 ≤ j → _ = ce j := fun j hj => (fr2 j (by omega)).trans (hF j hj)
  refine lv_aload_n hx hb dX2_forgetMobile_5 rfl (lv_at hl 0 rfl) ?_
  have hV : clV G ad ce1 (va_up T 0 (va_up (T 0) 7 (-1))) Q := ⟨_, _, ⟨h0, h1, h2, h3, h4⟩, ht0, ht1, hR0, hR1⟩
  refine z_invU F (rest := []) (c_rest1 l (va_up T 0 (va_up (T 0) 7 (-1))) Q hV) yu_X2_107_X2 ⟨Nat.le_of_ble_eq_true rfl, Nat.le_of_ble_eq_true rfl⟩ hw hA hS hl h2 rfl rfl rfl (Nat.le_of_ble_eq_true rfl) dX2_forgetMobile_6 ⟨Nat.le_of_ble_eq_true rfl, Nat.le_of_ble_eq_true rfl⟩ (fun r ad1 ce3 H locs hp hw hS => ?_)
  obtain ⟨rfl, rfl, hV, hF2⟩ := hp
  have hF : ∀ j, (10 ≤ j ∧ j < 30) ∨ 50 ≤ j → ce3 j = ce j := fun j hj => (hF2 j (by omega)).trans (hF j hj)
  obtain ⟨r0, r1, ⟨h0, h1, h2, h3, h4⟩, ht0, ht1, hR0, hR1⟩ := hV
  refine W.eq (g2 := F0 m 9 ls []) rfl ?_
  exact z_vret F hw hS (by unfold cp_forgetMobile; exact ⟨rfl, rfl, ⟨_, _, ⟨h0, h1, h2, h3, h4⟩, ht0, ht1, hR0, hR1⟩, hF⟩) dX2_forgetMobile_9
def cp_takesDetach (T : rf_T) (Q : rf_Q) : rf_R := (1, ((cp_forgetMobile T Q).2.1), (cp_forgetMobile T Q).2.2)
theorem cp_takesDetach_b (T : rf_T) (Q : rf_Q) : (cp_takesDetach T Q).1 = 0 ∨ (cp_takesDetach T Q).1 = 1 := by unfold cp_takesDetach; (repeat' split) <;> first | exact Or.inl rfl | exact Or.inr rfl
set_option maxHeartbeats 4000000 in
set_option maxRecDepth 100000 in
theorem c_takesDetach (l : Launch) {G : zz_G} {ad : Nat → Nat} {ce : zz_C} {sz : Nat} (T : rf_T) (Q : rf_Q) (hV : clV G ad ce T Q) : zz_M l yX2_takesDetach cX2_takesDetach 1 (some .boolean) 3 62 0 0 G [.ref (ad 2)] ad ce sz (fun r ad1 ce1 => r = some (.int (cp_takesDetach T Q).1) ∧ ad = ad1 ∧ clV G ad ce1 (cp_takesDetach T Q).2.1 (cp_takesDetach T Q).2.2 ∧ (∀ j, (10 ≤ j ∧ j < 30) ∨ 50 ≤ j → ce1 j = ce j)) := by
  refine zz_enter (by decide) (Nat.le_of_ble_eq_true rfl) ?_
  intro p e s m below meth c ls F hl hw hS hA
  obtain ⟨hx, hb, hr, hml, hown, hts, hlocks, hK, hnm⟩ := id F
  have hl : lv_has ls 1 [(0, .ref (ad 2))] := hl
  obtain ⟨r0, r1, ⟨h0, h1, h2, h3, h4⟩, ht0, ht1, hR0, hR1⟩ := hV
  have hF : ∀ j, (10 ≤ j ∧ j < 30) ∨ 50 ≤ j → ce j = ce j := fun _ _ => rfl
  refine lv_aload_n hx hb dX2_takesDetach_0 rfl (lv_at hl 0 rfl) ?_
  have hV : clV G ad ce T Q := ⟨_, _, ⟨h0, h1, h2, h3, h4⟩, ht0, ht1, hR0, hR1⟩
  refine z_invV F (rest := []) (c_forgetMobile l T Q hV) yv_X2_104 ⟨Nat.le_of_ble_eq_true rfl, Nat.le_of_ble_eq_true rfl⟩ hw hA hS hl h2 rfl rfl rfl (Nat.le_of_ble_eq_true rfl) dX2_takesDetach_1 ⟨Nat.le_of_ble_eq_true rfl, Nat.le_of_ble_eq_true rfl⟩ (fun r ad1 ce1 H locs hp hw hS => ?_)
  obtain ⟨rfl, rfl, hV, hF2⟩ := hp
  have hF : ∀ j, (10 ≤ j ∧ j < 30) ∨ 50 ≤ j → ce1 j = ce j := fun j hj => (hF2 j (by omega)).trans (hF j hj)
  obtain ⟨r0, r1, ⟨h0, h1, h2, h3, h4⟩, ht0, ht1, hR0, hR1⟩ := hV
  refine W.eq (g2 := F0 m 4 ls []) rfl ?_
  refine lv_iconst (v := 1) hx hb dX2_takesDetach_4 (by decide) ?_
  exact z_iret F (rfl) hw hS (by unfold cp_takesDetach; exact ⟨rfl, rfl, ⟨_, _, ⟨h0, h1, h2, h3, h4⟩, ht0, ht1, hR0, hR1⟩, hF⟩) dX2_takesDetach_5
def cp_sendChallenge (T : rf_T) (Q : rf_Q) (vs : Int32) : rf_R := (0, (rf_become (va_up T 0 (va_up (T 0) 2 (((T 0 2) * 1103515245) + 12345))) 1 vs 0 12), rf_put (va_up T 0 (va_up (T 0) 2 (((T 0 2) * 1103515245) + 12345))) Q 1 ([5, 18, 33, 4] ++ rf_bytes 4 (((T 0 2) * 1103515245) + 12345)))
set_option maxHeartbeats 4000000 in
set_option maxRecDepth 100000 in
theorem c_sendChallenge (l : Launch) {G : zz_G} {ad : Nat → Nat} {ce : zz_C} {sz : Nat} (T : rf_T) (Q : rf_Q) (hV : clV G ad ce T Q) (vs : Int32) : zz_M l yX2_sendChallenge cX2_sendChallenge 2 none 2 45 0 0 G [.ref (ad 2), .int vs] ad ce sz (fun r ad1 ce1 => r = none ∧ ad = ad1 ∧ clV G ad ce1 (cp_sendChallenge T Q vs).2.1 (cp_sendChallenge T Q vs).2.2 ∧ (∀ j, (10 ≤ j ∧ j < 30) ∨ 50 ≤ j → ce1 j = ce j)) := by
  refine zz_enter (by decide) (Nat.le_of_ble_eq_true rfl) ?_
  intro p e s m below meth c ls F hl hw hS hA
  obtain ⟨hx, hb, hr, hml, hown, hts, hlocks, hK, hnm⟩ := id F
  have hl : lv_has ls 2 [(0, .ref (ad 2)), (1, .int vs)] := hl
  obtain ⟨r0, r1, ⟨h0, h1, h2, h3, h4⟩, ht0, ht1, hR0, hR1⟩ := hV
  have hF : ∀ j, (10 ≤ j ∧ j < 30) ∨ 50 ≤ j → ce j = ce j := fun _ _ => rfl
  refine lv_aload_n hx hb dX2_sendChallenge_0 rfl (lv_at hl 0 rfl) ?_
  refine lv_aload_n hx hb dX2_sendChallenge_1 rfl (lv_at hl 0 rfl) ?_
  refine z_get F hw h2 fd_X2_18_X2 rfl dX2_sendChallenge_2 ?_
  refine lv_ldc (v := 1103515245) hx hb hown (hts _ wd_446) dX2_sendChallenge_5 ?_
  refine lv_imul hx hb dX2_sendChallenge_7 ?_
  refine lv_sipush (v := 12345) hx hb dX2_sendChallenge_8 (by decide) ?_
  refine lv_iadd hx hb dX2_sendChallenge_11 ?_
  refine z_put F hw hS (fs' := [.ref (ad 30), .int 0, .int (T 1 1), .int (T 2 1), .int (T 3 1), .int (T 5 1), .int r1, .int (T 0 1), .int (T 0 7), .int (((T 0 2) * 1103515245) + 12345), .int (T 0 8), .int (cl_b0 (T 0 3)), .int (cl_b1 (T 0 3)), .ref (ad 4), .int (T 0 10)]) h2 fd_X2_18_X2 ptX2 rfl (rfl) (rfl) (Nat.le_of_ble_eq_true rfl) rfl dX2_sendChallenge_12 (fun ce1 H locs h2 fr2 hw hS => ?_)
  have h0 := (fr2 0 (by decide)).trans h0
  have h1 := (fr2 1 (by decide)).trans h1
  have h3 := (fr2 3 (by decide)).trans h3
  have h4 := (fr2 4 (by decide)).trans h4
  have hR0 := hR0.kept (fun j h1 h2 => fr2 j (by omega))
  have hR1 := hR1.kept (fun j h1 h2 => fr2 j (by omega))
  have hF : ∀ j, (10 ≤ j ∧ j < 30) ∨ 50 ≤ j → _ = ce j := fun j hj => (fr2 j (by omega)).trans (hF j hj)
  refine lv_aload_n hx hb dX2_sendChallenge_15 rfl (lv_at hl 0 rfl) ?_
  refine z_get F hw h2 fd_X2_41_X2 rfl dX2_sendChallenge_16 ?_
  refine lv_iconst (v := 5) hx hb dX2_sendChallenge_19 (by decide) ?_
  refine lv_bipush (v := 18) hx hb dX2_sendChallenge_20 (by decide) ?_
  obtain ⟨vs9, ho9⟩ := hR1.obj
  refine z_invV F (rest := []) (c_send l 30 _ _ hR1 5 18 (by decide) (by decide)) yv_X2_45 ⟨Nat.le_of_ble_eq_true rfl, Nat.le_of_ble_eq_true rfl⟩ hw hA hS hl ho9 rfl rfl rfl (Nat.le_of_ble_eq_true rfl) dX2_sendChallenge_22 ⟨Nat.le_of_ble_eq_true rfl, Nat.le_of_ble_eq_true rfl⟩ (fun r ad1 ce3 H locs hp hw hS => ?_)
  obtain ⟨rfl, ⟨h9, rfl, hp9⟩, hF2⟩ := hp
  have h0 := (hF2 0 (by decide)).trans h0
  have h1 := (hF2 1 (by decide)).trans h1
  have h2 := (hF2 2 (by decide)).trans h2
  have h3 := (hF2 3 (by decide)).trans h3
  have h4 := (hF2 4 (by decide)).trans h4
  have hR0 := hR0.kept (fun j h1 h2 => hF2 j (by omega))
  have hF : ∀ j, (10 ≤ j ∧ j < 30) ∨ 50 ≤ j → ce3 j = ce j := fun j hj => (hF2 j (by omega)).trans (hF j hj)
  have hR1 : cl_r G ad ce3 30 ((rf_put (va_up T 0 (va_up (T 0) 2 (((T 0 2) * 1103515245) + 12345))) Q 1 ([5, 18])) 1) (cl_op (va_up T 0 (va_up (T 0) 2 (((T 0 2) * 1103515245) + 12345)))) := cl_put (x := [5, 18]) hp9.end
  have hR0 : cl_r G ad ce3 10 ((rf_put (va_up T 0 (va_up (T 0) 2 (((T 0 2) * 1103515245) + 12345))) Q 1 ([5, 18])) 0) (cl_op (va_up T 0 (va_up (T 0) 2 (((T 0 2) * 1103515245) + 12345)))) := by rw [cl_putn _ _ _ (by decide)]; exact hR0
  refine W.eq (g2 := F0 m 25 ls [.ref (ad h9)]) rfl ?_
  refine lv_bipush (v := 33) hx hb dX2_sendChallenge_25 (by decide) ?_
  refine lv_iconst (v := 4) hx hb dX2_sendChallenge_27 (by decide) ?_
  refine lv_aload_n hx hb dX2_sendChallenge_28 rfl (lv_at hl 0 rfl) ?_
  refine z_get F hw h2 fd_X2_18_X2 rfl dX2_sendChallenge_29 ?_
  have hm9 := hp9.m
  refine z_invV F (rest := []) (c_addNumber4 l h9 [5, 18] hm9 rfl 33 (by decide) (((T 0 2) * 1103515245) + 12345)) yv_X2_120 ⟨Nat.le_of_ble_eq_true rfl, Nat.le_of_ble_eq_true rfl⟩ hw hA hS hl hm9.obj rfl rfl rfl (Nat.le_of_ble_eq_true rfl) dX2_sendChallenge_32 ⟨Nat.le_of_ble_eq_true rfl, Nat.le_of_ble_eq_true rfl⟩ (fun r ad1 ce4 H locs hp hw hS => ?_)
  obtain ⟨rfl, rfl, hm9, hF2⟩ := hp
  have hat9 := hp9.at
  have h0 := (hF2 0 (by omega) (by omega)).trans h0
  have h1 := (hF2 1 (by omega) (by omega)).trans h1
  have h2 := (hF2 2 (by omega) (by omega)).trans h2
  have h3 := (hF2 3 (by omega) (by omega)).trans h3
  have h4 := (hF2 4 (by omega) (by omega)).trans h4
  have hR0 : cl_r G ad ce4 10 (Q 0) (cl_op (va_up T 0 (va_up (T 0) 2 (((T 0 2) * 1103515245) + 12345)))) := by rw [cl_putn _ _ _ (by decide)] at hR0; exact hR0.kept (fun j h1 h2 => hF2 j (by omega) (by omega))
  have hF : ∀ j, (10 ≤ j ∧ j < 30) ∨ 50 ≤ j → ce4 j = ce j := fun j hj => (hF2 j (by omega) (by omega)).trans (hF j hj)
  have hp9 := hp9.step hF2 hm9 (by simp)
  rw [cl_apx] at hp9
  have hR1 : cl_r G ad ce4 30 ((rf_put (va_up T 0 (va_up (T 0) 2 (((T 0 2) * 1103515245) + 12345))) Q 1 ([5, 18, 33, 4] ++ rf_bytes 4 (((T 0 2) * 1103515245) + 12345))) 1) (cl_op (va_up T 0 (va_up (T 0) 2 (((T 0 2) * 1103515245) + 12345)))) := cl_put (x := [5, 18, 33, 4] ++ rf_bytes 4 (((T 0 2) * 1103515245) + 12345)) hp9.end
  have hR0 : cl_r G ad ce4 10 ((rf_put (va_up T 0 (va_up (T 0) 2 (((T 0 2) * 1103515245) + 12345))) Q 1 ([5, 18, 33, 4] ++ rf_bytes 4 (((T 0 2) * 1103515245) + 12345))) 0) (cl_op (va_up T 0 (va_up (T 0) 2 (((T 0 2) * 1103515245) + 12345)))) := by rw [cl_putn _ _ _ (by decide)]; exact hR0
  refine W.eq (g2 := F0 m 35 ls []) rfl ?_
  refine lv_aload_n hx hb dX2_sendChallenge_35 rfl (lv_at hl 0 rfl) ?_
  refine lv_iload_n hx hb dX2_sendChallenge_36 rfl (lv_at hl 1 rfl) ?_
  refine lv_bipush (v := 12) hx hb dX2_sendChallenge_37 (by decide) ?_
  have hV : clV G ad ce4 (va_up T 0 (va_up (T 0) 2 (((T 0 2) * 1103515245) + 12345))) (rf_put (va_up T 0 (va_up (T 0) 2 (((T 0 2) * 1103515245) + 12345))) Q 1 ([5, 18, 33, 4] ++ rf_bytes 4 (((T 0 2) * 1103515245) + 12345))) := ⟨_, _, ⟨h0, h1, h2, h3, h4⟩, ht0, ht1, hR0, hR1⟩
  refine z_invU F (rest := []) (c_setState1 l (va_up T 0 (va_up (T 0) 2 (((T 0 2) * 1103515245) + 12345))) (rf_put (va_up T 0 (va_up (T 0) 2 (((T 0 2) * 1103515245) + 12345))) Q 1 ([5, 18, 33, 4] ++ rf_bytes 4 (((T 0 2) * 1103515245) + 12345))) hV vs 12) yu_X2_125_X2 ⟨Nat.le_of_ble_eq_true rfl, Nat.le_of_ble_eq_true rfl⟩ hw hA hS hl h2 rfl rfl rfl (Nat.le_of_ble_eq_true rfl) dX2_sendChallenge_39 ⟨Nat.le_of_ble_eq_true rfl, Nat.le_of_ble_eq_true rfl⟩ (fun r ad1 ce5 H locs hp hw hS => ?_)
  obtain ⟨rfl, rfl, hV, hF2⟩ := hp
  have hF : ∀ j, (10 ≤ j ∧ j < 30) ∨ 50 ≤ j → ce5 j = ce j := fun j hj => (hF2 j (by omega)).trans (hF j hj)
  obtain ⟨r0, r1, ⟨h0, h1, h2, h3, h4⟩, ht0, ht1, hR0, hR1⟩ := hV
  refine W.eq (g2 := F0 m 42 ls []) rfl ?_
  exact z_vret F hw hS (by unfold cp_sendChallenge; exact ⟨rfl, rfl, ⟨_, _, ⟨h0, h1, h2, h3, h4⟩, ht0, ht1, hR0, hR1⟩, hF⟩) dX2_sendChallenge_42
def cp_takesUpdate (T : rf_T) (Q : rf_Q) (M : List Nat) : rf_R := (if ((T 1 1) : Int32) = 0 then (if rf_sz M 19 = some 2 then (1, ((cp_sendChallenge (va_up T 0 (va_up (T 0) 8 (rf_val M 19))) Q 1).2.1), (cp_sendChallenge (va_up T 0 (va_up (T 0) 8 (rf_val M 19))) Q 1).2.2) else (0, T, Q)) else (0, T, Q))
theorem cp_takesUpdate_b (T : rf_T) (Q : rf_Q) (M : List Nat) : (cp_takesUpdate T Q M).1 = 0 ∨ (cp_takesUpdate T Q M).1 = 1 := by unfold cp_takesUpdate; (repeat' split) <;> first | exact Or.inl rfl | exact Or.inr rfl
set_option maxHeartbeats 4000000 in
set_option maxRecDepth 100000 in
theorem c_takesUpdate (l : Launch) {G : zz_G} {ad : Nat → Nat} {ce : zz_C} {sz : Nat} (T : rf_T) (Q : rf_Q) (hV : clV G ad ce T Q) (h : Nat) (M : List Nat) (hm : cl_m G ad ce h M) (hg : rf_good M) (hM2 : 2 ≤ M.length) (hh : 10 ≤ h ∧ h + 1 < 30) : zz_M l yX2_takesUpdate cX2_takesUpdate 2 (some .boolean) 3 67 0 0 G [.ref (ad 2), .ref (ad h)] ad ce sz (fun r ad1 ce1 => r = some (.int (cp_takesUpdate T Q M).1) ∧ ad = ad1 ∧ clV G ad ce1 (cp_takesUpdate T Q M).2.1 (cp_takesUpdate T Q M).2.2 ∧ (∀ j, (10 ≤ j ∧ j < 30) ∨ 50 ≤ j → ce1 j = ce j)) := by
  refine zz_enter (by decide) (Nat.le_of_ble_eq_true rfl) ?_
  intro p e s m below meth c ls F hl hw hS hA
  obtain ⟨hx, hb, hr, hml, hown, hts, hlocks, hK, hnm⟩ := id F
  have hl : lv_has ls 2 [(0, .ref (ad 2)), (1, .ref (ad h))] := hl
  obtain ⟨r0, r1, ⟨h0, h1, h2, h3, h4⟩, ht0, ht1, hR0, hR1⟩ := hV
  have hF : ∀ j, (10 ≤ j ∧ j < 30) ∨ 50 ≤ j → ce j = ce j := fun _ _ => rfl
  refine lv_aload_n hx hb dX2_takesUpdate_0 rfl (lv_at hl 0 rfl) ?_
  refine z_get F hw h2 fd_X2_78_X2 rfl dX2_takesUpdate_1 ?_
  refine lv_if_ne (tgt := 17) hx hb dX2_takesUpdate_4 (by decide) (fun c4 => ?_) (fun c4 => ?_)
  · refine lv_iconst (v := 0) hx hb dX2_takesUpdate_17 (by decide) ?_
    exact z_iret F (rfl) hw hS (by unfold cp_takesUpdate; rw [if_neg c4]; exact ⟨rfl, rfl, ⟨_, _, ⟨h0, h1, h2, h3, h4⟩, ht0, ht1, hR0, hR1⟩, hF⟩) dX2_takesUpdate_18
  · refine lv_aload_n hx hb dX2_takesUpdate_7 rfl (lv_at hl 1 rfl) ?_
    refine lv_bipush (v := 19) hx hb dX2_takesUpdate_8 (by decide) ?_
    refine lv_iconst (v := 2) hx hb dX2_takesUpdate_10 (by decide) ?_
    refine z_invV F (rest := []) (c_has l h M hm 19 2 (by decide) (by decide)) yv_X2_110 ⟨Nat.le_of_ble_eq_true rfl, Nat.le_of_ble_eq_true rfl⟩ hw hA hS hl hm.obj rfl rfl rfl (Nat.le_of_ble_eq_true rfl) dX2_takesUpdate_11 ⟨Nat.le_of_ble_eq_true rfl, Nat.le_of_ble_eq_true rfl⟩ (fun r ad1 ce1 H locs hp hw hS => ?_)
    obtain ⟨hp, rfl, rfl⟩ := hp
    rcases hp with ⟨hs, rfl⟩ | ⟨hs, rfl⟩
    · refine W.eq (g2 := F0 m 14 ls [.int 1]) rfl ?_
      refine lv_if_ne (tgt := 19) hx hb dX2_takesUpdate_14 (by decide) (fun c14 => ?_) (fun c14 => absurd c14 (by decide))
      refine lv_aload_n hx hb dX2_takesUpdate_19 rfl (lv_at hl 0 rfl) ?_
      refine lv_aload_n hx hb dX2_takesUpdate_20 rfl (lv_at hl 1 rfl) ?_
      refine lv_bipush (v := 19) hx hb dX2_takesUpdate_21 (by decide) ?_
      refine lv_iconst (v := 2) hx hb dX2_takesUpdate_23 (by decide) ?_
      refine z_invV F (rest := [.ref (ad 2)]) (c_number l h M hm 19 2 (by decide) hg hs) yv_X2_113 ⟨Nat.le_of_ble_eq_true rfl, Nat.le_of_ble_eq_true rfl⟩ hw hA hS hl hm.obj rfl rfl rfl (Nat.le_of_ble_eq_true rfl) dX2_takesUpdate_24 ⟨Nat.le_of_ble_eq_true rfl, Nat.le_of_ble_eq_true rfl⟩ (fun r ad1 ce2 H locs hp hw hS => ?_)
      obtain ⟨rfl, rfl, rfl⟩ := hp
      refine W.eq (g2 := F0 m 27 ls [.int (rf_val M 19), .ref (ad 2)]) rfl ?_
      refine z_put F hw hS (fs' := [.ref (ad 30), .int 0, .int (T 1 1), .int (T 2 1), .int (T 3 1), .int (T 5 1), .int r1, .int (T 0 1), .int (T 0 7), .int (T 0 2), .int (rf_val M 19), .int (cl_b0 (T 0 3)), .int (cl_b1 (T 0 3)), .ref (ad 4), .int (T 0 10)]) h2 fd_X2_21_X2 ptX2 rfl (rfl) (rfl) (Nat.le_of_ble_eq_true rfl) rfl dX2_takesUpdate_27 (fun ce3 H locs h2 fr4 hw hS => ?_)
      have h0 := (fr4 0 (by decide)).trans h0
      have h1 := (fr4 1 (by decide)).trans h1
      have h3 := (fr4 3 (by decide)).trans h3
      have h4 := (fr4 4 (by decide)).trans h4
      have hR0 := hR0.kept (fun j h1 h2 => fr4 j (by omega))
      have hR1 := hR1.kept (fun j h1 h2 => fr4 j (by omega))
      have hF : ∀ j, (10 ≤ j ∧ j < 30) ∨ 50 ≤ j → _ = ce j := fun j hj => (fr4 j (by omega)).trans (hF j hj)
      have hm := hm.kept (fr4 h (by omega)) (fr4 (h + 1) (by omega))
      refine lv_aload_n hx hb dX2_takesUpdate_30 rfl (lv_at hl 0 rfl) ?_
      refine lv_iconst (v := 1) hx hb dX2_takesUpdate_31 (by decide) ?_
      have hV : clV G ad ce3 (va_up T 0 (va_up (T 0) 8 (rf_val M 19))) Q := ⟨_, _, ⟨h0, h1, h2, h3, h4⟩, ht0, ht1, hR0, hR1⟩
      refine z_invV F (rest := []) (c_sendChallenge l (va_up T 0 (va_up (T 0) 8 (rf_val M 19))) Q hV 1) yv_X2_116 ⟨Nat.le_of_ble_eq_true rfl, Nat.le_of_ble_eq_true rfl⟩ hw hA hS hl h2 rfl rfl rfl (Nat.le_of_ble_eq_true rfl) dX2_takesUpdate_32 ⟨Nat.le_of_ble_eq_true rfl, Nat.le_of_ble_eq_true rfl⟩ (fun r ad1 ce5 H locs hp hw hS => ?_)
      obtain ⟨rfl, rfl, hV, hF2⟩ := hp
      have hF : ∀ j, (10 ≤ j ∧ j < 30) ∨ 50 ≤ j → ce5 j = ce j := fun j hj => (hF2 j (by omega)).trans (hF j hj)
      have hm := hm.kept (hF2 h (by omega)) (hF2 (h + 1) (by omega))
      obtain ⟨r0, r1, ⟨h0, h1, h2, h3, h4⟩, ht0, ht1, hR0, hR1⟩ := hV
      refine W.eq (g2 := F0 m 35 ls []) rfl ?_
      refine lv_iconst (v := 1) hx hb dX2_takesUpdate_35 (by decide) ?_
      exact z_iret F (rfl) hw hS (by unfold cp_takesUpdate; rw [if_pos c4, if_pos hs]; exact ⟨rfl, rfl, ⟨_, _, ⟨h0, h1, h2, h3, h4⟩, ht0, ht1, hR0, hR1⟩, hF⟩) dX2_takesUpdate_36
    · refine W.eq (g2 := F0 m 14 ls [.int 0]) rfl ?_
      refine lv_if_ne (tgt := 19) hx hb dX2_takesUpdate_14 (by decide) (fun c14 => absurd c14 (by decide)) (fun c14 => ?_)
      refine lv_iconst (v := 0) hx hb dX2_takesUpdate_17 (by decide) ?_
      exact z_iret F (rfl) hw hS (by unfold cp_takesUpdate; rw [if_pos c4, if_neg hs]; exact ⟨rfl, rfl, ⟨_, _, ⟨h0, h1, h2, h3, h4⟩, ht0, ht1, hR0, hR1⟩, hF⟩) dX2_takesUpdate_18
def cp_takesService (T : rf_T) (Q : rf_Q) : rf_R := (if ((T 1 1) : Int32) = 0 then (if ((T 0 7) : Int32) = (-1) then (1, T, rf_put T Q 1 ([5, 34, 8, 1] ++ rf_bytes 1 4)) else (1, ((cp_sendChallenge T Q 2).2.1), (cp_sendChallenge T Q 2).2.2)) else (0, T, Q))
theorem cp_takesService_b (T : rf_T) (Q : rf_Q) : (cp_takesService T Q).1 = 0 ∨ (cp_takesService T Q).1 = 1 := by unfold cp_takesService; (repeat' split) <;> first | exact Or.inl rfl | exact Or.inr rfl
set_option maxHeartbeats 4000000 in
set_option maxRecDepth 100000 in
theorem c_takesService (l : Launch) {G : zz_G} {ad : Nat → Nat} {ce : zz_C} {sz : Nat} (T : rf_T) (Q : rf_Q) (hV : clV G ad ce T Q) : zz_M l yX2_takesService cX2_takesService 1 (some .boolean) 3 66 0 0 G [.ref (ad 2)] ad ce sz (fun r ad1 ce1 => r = some (.int (cp_takesService T Q).1) ∧ ad = ad1 ∧ clV G ad ce1 (cp_takesService T Q).2.1 (cp_takesService T Q).2.2 ∧ (∀ j, (10 ≤ j ∧ j < 30) ∨ 50 ≤ j → ce1 j = ce j)) := by
  refine zz_enter (by decide) (Nat.le_of_ble_eq_true rfl) ?_
  intro p e s m below meth c ls F hl hw hS hA
  obtain ⟨hx, hb, hr, hml, hown, hts, hlocks, hK, hnm⟩ := id F
  have hl : lv_has ls 1 [(0, .ref (ad 2))] := hl
  obtain ⟨r0, r1, ⟨h0, h1, h2, h3, h4⟩, ht0, ht1, hR0, hR1⟩ := hV
  have hF : ∀ j, (10 ≤ j ∧ j < 30) ∨ 50 ≤ j → ce j = ce j := fun _ _ => rfl
  refine lv_aload_n hx hb dX2_takesService_0 rfl (lv_at hl 0 rfl) ?_
  refine z_get F hw h2 fd_X2_78_X2 rfl dX2_takesService_1 ?_
  refine lv_if_eq (tgt := 9) hx hb dX2_takesService_4 (by decide) (fun c4 => ?_) (fun c4 => ?_)
  · refine lv_aload_n hx hb dX2_takesService_9 rfl (lv_at hl 0 rfl) ?_
    refine z_get F hw h2 fd_X2_15_X2 rfl dX2_takesService_10 ?_
    refine lv_iconst (v := -1) hx hb dX2_takesService_13 (by decide) ?_
    refine lv_icmp_ne (tgt := 37) hx hb dX2_takesService_14 (by decide) (fun c14 => ?_) (fun c14 => ?_)
    · refine lv_aload_n hx hb dX2_takesService_37 rfl (lv_at hl 0 rfl) ?_
      refine lv_iconst (v := 2) hx hb dX2_takesService_38 (by decide) ?_
      have hV : clV G ad ce T Q := ⟨_, _, ⟨h0, h1, h2, h3, h4⟩, ht0, ht1, hR0, hR1⟩
      refine z_invV F (rest := []) (c_sendChallenge l T Q hV 2) yv_X2_116 ⟨Nat.le_of_ble_eq_true rfl, Nat.le_of_ble_eq_true rfl⟩ hw hA hS hl h2 rfl rfl rfl (Nat.le_of_ble_eq_true rfl) dX2_takesService_39 ⟨Nat.le_of_ble_eq_true rfl, Nat.le_of_ble_eq_true rfl⟩ (fun r ad1 ce1 H locs hp hw hS => ?_)
      obtain ⟨rfl, rfl, hV, hF2⟩ := hp
      have hF : ∀ j, (10 ≤ j ∧ j < 30) ∨ 50 ≤ j → ce1 j = ce j := fun j hj => (hF2 j (by omega)).trans (hF j hj)
      obtain ⟨r0, r1, ⟨h0, h1, h2, h3, h4⟩, ht0, ht1, hR0, hR1⟩ := hV
      refine W.eq (g2 := F0 m 42 ls []) rfl ?_
      refine lv_iconst (v := 1) hx hb dX2_takesService_42 (by decide) ?_
      exact z_iret F (rfl) hw hS (by unfold cp_takesService; rw [if_pos c4, if_neg c14]; exact ⟨rfl, rfl, ⟨_, _, ⟨h0, h1, h2, h3, h4⟩, ht0, ht1, hR0, hR1⟩, hF⟩) dX2_takesService_43
    · refine lv_aload_n hx hb dX2_takesService_17 rfl (lv_at hl 0 rfl) ?_
      refine z_get F hw h2 fd_X2_41_X2 rfl dX2_takesService_18 ?_
      refine lv_iconst (v := 5) hx hb dX2_takesService_21 (by decide) ?_
      refine lv_bipush (v := 34) hx hb dX2_takesService_22 (by decide) ?_
      obtain ⟨vs9, ho9⟩ := hR1.obj
      refine z_invV F (rest := []) (c_send l 30 _ _ hR1 5 34 (by decide) (by decide)) yv_X2_45 ⟨Nat.le_of_ble_eq_true rfl, Nat.le_of_ble_eq_true rfl⟩ hw hA hS hl ho9 rfl rfl rfl (Nat.le_of_ble_eq_true rfl) dX2_takesService_24 ⟨Nat.le_of_ble_eq_true rfl, Nat.le_of_ble_eq_true rfl⟩ (fun r ad1 ce2 H locs hp hw hS => ?_)
      obtain ⟨rfl, ⟨h9, rfl, hp9⟩, hF2⟩ := hp
      have h0 := (hF2 0 (by decide)).trans h0
      have h1 := (hF2 1 (by decide)).trans h1
      have h2 := (hF2 2 (by decide)).trans h2
      have h3 := (hF2 3 (by decide)).trans h3
      have h4 := (hF2 4 (by decide)).trans h4
      have hR0 := hR0.kept (fun j h1 h2 => hF2 j (by omega))
      have hF : ∀ j, (10 ≤ j ∧ j < 30) ∨ 50 ≤ j → ce2 j = ce j := fun j hj => (hF2 j (by omega)).trans (hF j hj)
      have hR1 : cl_r G ad ce2 30 ((rf_put T Q 1 ([5, 34])) 1) (cl_op T) := cl_put (x := [5, 34]) hp9.end
      have hR0 : cl_r G ad ce2 10 ((rf_put T Q 1 ([5, 34])) 0) (cl_op T) := by rw [cl_putn _ _ _ (by decide)]; exact hR0
      refine W.eq (g2 := F0 m 27 ls [.ref (ad h9)]) rfl ?_
      refine lv_bipush (v := 8) hx hb dX2_takesService_27 (by decide) ?_
      refine lv_iconst (v := 1) hx hb dX2_takesService_29 (by decide) ?_
      refine lv_iconst (v := 4) hx hb dX2_takesService_30 (by decide) ?_
      have hm9 := hp9.m
      refine z_invV F (rest := []) (c_addNumber1 l h9 [5, 34] hm9 rfl 8 (by decide) 4) yv_X2_120 ⟨Nat.le_of_ble_eq_true rfl, Nat.le_of_ble_eq_true rfl⟩ hw hA hS hl hm9.obj rfl rfl rfl (Nat.le_of_ble_eq_true rfl) dX2_takesService_31 ⟨Nat.le_of_ble_eq_true rfl, Nat.le_of_ble_eq_true rfl⟩ (fun r ad1 ce3 H locs hp hw hS => ?_)
      obtain ⟨rfl, rfl, hm9, hF2⟩ := hp
      have hat9 := hp9.at
      have h0 := (hF2 0 (by omega) (by omega)).trans h0
      have h1 := (hF2 1 (by omega) (by omega)).trans h1
      have h2 := (hF2 2 (by omega) (by omega)).trans h2
      have h3 := (hF2 3 (by omega) (by omega)).trans h3
      have h4 := (hF2 4 (by omega) (by omega)).trans h4
      have hR0 : cl_r G ad ce3 10 (Q 0) (cl_op T) := by rw [cl_putn _ _ _ (by decide)] at hR0; exact hR0.kept (fun j h1 h2 => hF2 j (by omega) (by omega))
      have hF : ∀ j, (10 ≤ j ∧ j < 30) ∨ 50 ≤ j → ce3 j = ce j := fun j hj => (hF2 j (by omega) (by omega)).trans (hF j hj)
      have hp9 := hp9.step hF2 hm9 (by simp)
      rw [cl_apx] at hp9
      have hR1 : cl_r G ad ce3 30 ((rf_put T Q 1 ([5, 34, 8, 1] ++ rf_bytes 1 4)) 1) (cl_op T) := cl_put (x := [5, 34, 8, 1] ++ rf_bytes 1 4) hp9.end
      have hR0 : cl_r G ad ce3 10 ((rf_put T Q 1 ([5, 34, 8, 1] ++ rf_bytes 1 4)) 0) (cl_op T) := by rw [cl_putn _ _ _ (by decide)]; exact hR0
      refine W.eq (g2 := F0 m 34 ls []) rfl ?_
      refine lv_goto (tgt := 42) hx hb dX2_takesService_34 (by decide) ?_
      refine lv_iconst (v := 1) hx hb dX2_takesService_42 (by decide) ?_
      exact z_iret F (rfl) hw hS (by unfold cp_takesService; rw [if_pos c4, if_pos c14]; exact ⟨rfl, rfl, ⟨_, _, ⟨h0, h1, h2, h3, h4⟩, ht0, ht1, hR0, hR1⟩, hF⟩) dX2_takesService_43
  · refine lv_iconst (v := 0) hx hb dX2_takesService_7 (by decide) ?_
    exact z_iret F (rfl) hw hS (by unfold cp_takesService; rw [if_neg c4]; exact ⟨rfl, rfl, ⟨_, _, ⟨h0, h1, h2, h3, h4⟩, ht0, ht1, hR0, hR1⟩, hF⟩) dX2_takesService_8
def cp_decideUpdate (T : rf_T) (Q : rf_Q) : rf_R := (if ((cl_b0 (T 0 3)) : Int32) = 0 then (0, (rf_become T 1 0 0 0), rf_put T Q 1 ([5, 4, 8, 1] ++ rf_bytes 1 11)) else (0, (rf_become (va_up T 0 (va_up (T 0) 7 (T 0 8))) 1 0 0 0), rf_put (va_up T 0 (va_up (T 0) 7 (T 0 8))) Q 1 ([5, 2, 19, 2] ++ rf_bytes 2 (T 0 8))))
set_option maxHeartbeats 4000000 in
set_option maxRecDepth 100000 in
theorem c_decideUpdate (l : Launch) {G : zz_G} {ad : Nat → Nat} {ce : zz_C} {sz : Nat} (T : rf_T) (Q : rf_Q) (hV : clV G ad ce T Q) : zz_M l yX2_decideUpdate cX2_decideUpdate 1 none 2 45 0 0 G [.ref (ad 2)] ad ce sz (fun r ad1 ce1 => r = none ∧ ad = ad1 ∧ clV G ad ce1 (cp_decideUpdate T Q).2.1 (cp_decideUpdate T Q).2.2 ∧ (∀ j, (10 ≤ j ∧ j < 30) ∨ 50 ≤ j → ce1 j = ce j)) := by
  refine zz_enter (by decide) (Nat.le_of_ble_eq_true rfl) ?_
  intro p e s m below meth c ls F hl hw hS hA
  obtain ⟨hx, hb, hr, hml, hown, hts, hlocks, hK, hnm⟩ := id F
  have hl : lv_has ls 1 [(0, .ref (ad 2))] := hl
  obtain ⟨r0, r1, ⟨h0, h1, h2, h3, h4⟩, ht0, ht1, hR0, hR1⟩ := hV
  have hF : ∀ j, (10 ≤ j ∧ j < 30) ∨ 50 ≤ j → ce j = ce j := fun _ _ => rfl
  refine lv_aload_n hx hb dX2_decideUpdate_0 rfl (lv_at hl 0 rfl) ?_
  refine z_get F hw h2 fd_X2_24_X2 rfl dX2_decideUpdate_1 ?_
  refine lv_if_eq (tgt := 37) hx hb dX2_decideUpdate_4 (by decide) (fun c4 => ?_) (fun c4 => ?_)
  · refine lv_aload_n hx hb dX2_decideUpdate_37 rfl (lv_at hl 0 rfl) ?_
    refine z_get F hw h2 fd_X2_41_X2 rfl dX2_decideUpdate_38 ?_
    refine lv_iconst (v := 5) hx hb dX2_decideUpdate_41 (by decide) ?_
    refine lv_iconst (v := 4) hx hb dX2_decideUpdate_42 (by decide) ?_
    obtain ⟨vs9, ho9⟩ := hR1.obj
    refine z_invV F (rest := []) (c_send l 30 _ _ hR1 5 4 (by decide) (by decide)) yv_X2_45 ⟨Nat.le_of_ble_eq_true rfl, Nat.le_of_ble_eq_true rfl⟩ hw hA hS hl ho9 rfl rfl rfl (Nat.le_of_ble_eq_true rfl) dX2_decideUpdate_43 ⟨Nat.le_of_ble_eq_true rfl, Nat.le_of_ble_eq_true rfl⟩ (fun r ad1 ce1 H locs hp hw hS => ?_)
    obtain ⟨rfl, ⟨h9, rfl, hp9⟩, hF2⟩ := hp
    have h0 := (hF2 0 (by decide)).trans h0
    have h1 := (hF2 1 (by decide)).trans h1
    have h2 := (hF2 2 (by decide)).trans h2
    have h3 := (hF2 3 (by decide)).trans h3
    have h4 := (hF2 4 (by decide)).trans h4
    have hR0 := hR0.kept (fun j h1 h2 => hF2 j (by omega))
    have hF : ∀ j, (10 ≤ j ∧ j < 30) ∨ 50 ≤ j → ce1 j = ce j := fun j hj => (hF2 j (by omega)).trans (hF j hj)
    have hR1 : cl_r G ad ce1 30 ((rf_put T Q 1 ([5, 4])) 1) (cl_op T) := cl_put (x := [5, 4]) hp9.end
    have hR0 : cl_r G ad ce1 10 ((rf_put T Q 1 ([5, 4])) 0) (cl_op T) := by rw [cl_putn _ _ _ (by decide)]; exact hR0
    refine W.eq (g2 := F0 m 46 ls [.ref (ad h9)]) rfl ?_
    refine lv_bipush (v := 8) hx hb dX2_decideUpdate_46 (by decide) ?_
    refine lv_iconst (v := 1) hx hb dX2_decideUpdate_48 (by decide) ?_
    refine lv_bipush (v := 11) hx hb dX2_decideUpdate_49 (by decide) ?_
    have hm9 := hp9.m
    refine z_invV F (rest := []) (c_addNumber1 l h9 [5, 4] hm9 rfl 8 (by decide) 11) yv_X2_120 ⟨Nat.le_of_ble_eq_true rfl, Nat.le_of_ble_eq_true rfl⟩ hw hA hS hl hm9.obj rfl rfl rfl (Nat.le_of_ble_eq_true rfl) dX2_decideUpdate_51 ⟨Nat.le_of_ble_eq_true rfl, Nat.le_of_ble_eq_true rfl⟩ (fun r ad1 ce2 H locs hp hw hS => ?_)
    obtain ⟨rfl, rfl, hm9, hF2⟩ := hp
    have hat9 := hp9.at
    have h0 := (hF2 0 (by omega) (by omega)).trans h0
    have h1 := (hF2 1 (by omega) (by omega)).trans h1
    have h2 := (hF2 2 (by omega) (by omega)).trans h2
    have h3 := (hF2 3 (by omega) (by omega)).trans h3
    have h4 := (hF2 4 (by omega) (by omega)).trans h4
    have hR0 : cl_r G ad ce2 10 (Q 0) (cl_op T) := by rw [cl_putn _ _ _ (by decide)] at hR0; exact hR0.kept (fun j h1 h2 => hF2 j (by omega) (by omega))
    have hF : ∀ j, (10 ≤ j ∧ j < 30) ∨ 50 ≤ j → ce2 j = ce j := fun j hj => (hF2 j (by omega) (by omega)).trans (hF j hj)
    have hp9 := hp9.step hF2 hm9 (by simp)
    rw [cl_apx] at hp9
    have hR1 : cl_r G ad ce2 30 ((rf_put T Q 1 ([5, 4, 8, 1] ++ rf_bytes 1 11)) 1) (cl_op T) := cl_put (x := [5, 4, 8, 1] ++ rf_bytes 1 11) hp9.end
    have hR0 : cl_r G ad ce2 10 ((rf_put T Q 1 ([5, 4, 8, 1] ++ rf_bytes 1 11)) 0) (cl_op T) := by rw [cl_putn _ _ _ (by decide)]; exact hR0
    refine W.eq (g2 := F0 m 54 ls []) rfl ?_
    refine lv_aload_n hx hb dX2_decideUpdate_54 rfl (lv_at hl 0 rfl) ?_
    have hV : clV G ad ce2 T (rf_put T Q 1 ([5, 4, 8, 1] ++ rf_bytes 1 11)) := ⟨_, _, ⟨h0, h1, h2, h3, h4⟩, ht0, ht1, hR0, hR1⟩
    refine z_invU F (rest := []) (c_rest1 l T (rf_put T Q 1 ([5, 4, 8, 1] ++ rf_bytes 1 11)) hV) yu_X2_107_X2 ⟨Nat.le_of_ble_eq_true rfl, Nat.le_of_ble_eq_true rfl⟩ hw hA hS hl h2 rfl rfl rfl (Nat.le_of_ble_eq_true rfl) dX2_decideUpdate_55 ⟨Nat.le_of_ble_eq_true rfl, Nat.le_of_ble_eq_true rfl⟩ (fun r ad1 ce3 H locs hp hw hS => ?_)
    obtain ⟨rfl, rfl, hV, hF2⟩ := hp
    have hF : ∀ j, (10 ≤ j ∧ j < 30) ∨ 50 ≤ j → ce3 j = ce j := fun j hj => (hF2 j (by omega)).trans (hF j hj)
    obtain ⟨r0, r1, ⟨h0, h1, h2, h3, h4⟩, ht0, ht1, hR0, hR1⟩ := hV
    refine W.eq (g2 := F0 m 58 ls []) rfl ?_
    exact z_vret F hw hS (by unfold cp_decideUpdate; rw [if_pos c4]; exact ⟨rfl, rfl, ⟨_, _, ⟨h0, h1, h2, h3, h4⟩, ht0, ht1, hR0, hR1⟩, hF⟩) dX2_decideUpdate_58
  · refine lv_aload_n hx hb dX2_decideUpdate_7 rfl (lv_at hl 0 rfl) ?_
    refine lv_aload_n hx hb dX2_decideUpdate_8 rfl (lv_at hl 0 rfl) ?_
    refine z_get F hw h2 fd_X2_21_X2 rfl dX2_decideUpdate_9 ?_
    refine z_put F hw hS (fs' := [.ref (ad 30), .int 0, .int (T 1 1), .int (T 2 1), .int (T 3 1), .int (T 5 1), .int r1, .int (T 0 1), .int (T 0 8), .int (T 0 2), .int (T 0 8), .int (cl_b0 (T 0 3)), .int (cl_b1 (T 0 3)), .ref (ad 4), .int (T 0 10)]) h2 fd_X2_15_X2 ptX2 rfl (rfl) (rfl) (Nat.le_of_ble_eq_true rfl) rfl dX2_decideUpdate_12 (fun ce4 H locs h2 fr5 hw hS => ?_)
    have h0 := (fr5 0 (by decide)).trans h0
    have h1 := (fr5 1 (by decide)).trans h1
    have h3 := (fr5 3 (by decide)).trans h3
    have h4 := (fr5 4 (by decide)).trans h4
    have hR0 := hR0.kept (fun j h1 h2 => fr5 j (by omega))
    have hR1 := hR1.kept (fun j h1 h2 => fr5 j (by omega))
    have hF : ∀ j, (10 ≤ j ∧ j < 30) ∨ 50 ≤ j → _ = ce j := fun j hj => (fr5 j (by omega)).trans (hF j hj)
    refine lv_aload_n hx hb dX2_decideUpdate_15 rfl (lv_at hl 0 rfl) ?_
    refine z_get F hw h2 fd_X2_41_X2 rfl dX2_decideUpdate_16 ?_
    refine lv_iconst (v := 5) hx hb dX2_decideUpdate_19 (by decide) ?_
    refine lv_iconst (v := 2) hx hb dX2_decideUpdate_20 (by decide) ?_
    obtain ⟨vs9, ho9⟩ := hR1.obj
    refine z_invV F (rest := []) (c_send l 30 _ _ hR1 5 2 (by decide) (by decide)) yv_X2_45 ⟨Nat.le_of_ble_eq_true rfl, Nat.le_of_ble_eq_true rfl⟩ hw hA hS hl ho9 rfl rfl rfl (Nat.le_of_ble_eq_true rfl) dX2_decideUpdate_21 ⟨Nat.le_of_ble_eq_true rfl, Nat.le_of_ble_eq_true rfl⟩ (fun r ad1 ce6 H locs hp hw hS => ?_)
    obtain ⟨rfl, ⟨h9, rfl, hp9⟩, hF2⟩ := hp
    have h0 := (hF2 0 (by decide)).trans h0
    have h1 := (hF2 1 (by decide)).trans h1
    have h2 := (hF2 2 (by decide)).trans h2
    have h3 := (hF2 3 (by decide)).trans h3
    have h4 := (hF2 4 (by decide)).trans h4
    have hR0 := hR0.kept (fun j h1 h2 => hF2 j (by omega))
    have hF : ∀ j, (10 ≤ j ∧ j < 30) ∨ 50 ≤ j → ce6 j = ce j := fun j hj => (hF2 j (by omega)).trans (hF j hj)
    have hR1 : cl_r G ad ce6 30 ((rf_put (va_up T 0 (va_up (T 0) 7 (T 0 8))) Q 1 ([5, 2])) 1) (cl_op (va_up T 0 (va_up (T 0) 7 (T 0 8)))) := cl_put (x := [5, 2]) hp9.end
    have hR0 : cl_r G ad ce6 10 ((rf_put (va_up T 0 (va_up (T 0) 7 (T 0 8))) Q 1 ([5, 2])) 0) (cl_op (va_up T 0 (va_up (T 0) 7 (T 0 8)))) := by rw [cl_putn _ _ _ (by decide)]; exact hR0
    refine W.eq (g2 := F0 m 24 ls [.ref (ad h9)]) rfl ?_
    refine lv_bipush (v := 19) hx hb dX2_decideUpdate_24 (by decide) ?_
    refine lv_iconst (v := 2) hx hb dX2_decideUpdate_26 (by decide) ?_
    refine lv_aload_n hx hb dX2_decideUpdate_27 rfl (lv_at hl 0 rfl) ?_
    refine z_get F hw h2 fd_X2_15_X2 rfl dX2_decideUpdate_28 ?_
    have hm9 := hp9.m
    refine z_invV F (rest := []) (c_addNumber2 l h9 [5, 2] hm9 rfl 19 (by decide) (T 0 8)) yv_X2_120 ⟨Nat.le_of_ble_eq_true rfl, Nat.le_of_ble_eq_true rfl⟩ hw hA hS hl hm9.obj rfl rfl rfl (Nat.le_of_ble_eq_true rfl) dX2_decideUpdate_31 ⟨Nat.le_of_ble_eq_true rfl, Nat.le_of_ble_eq_true rfl⟩ (fun r ad1 ce7 H locs hp hw hS => ?_)
    obtain ⟨rfl, rfl, hm9, hF2⟩ := hp
    have hat9 := hp9.at
    have h0 := (hF2 0 (by omega) (by omega)).trans h0
    have h1 := (hF2 1 (by omega) (by omega)).trans h1
    have h2 := (hF2 2 (by omega) (by omega)).trans h2
    have h3 := (hF2 3 (by omega) (by omega)).trans h3
    have h4 := (hF2 4 (by omega) (by omega)).trans h4
    have hR0 : cl_r G ad ce7 10 (Q 0) (cl_op (va_up T 0 (va_up (T 0) 7 (T 0 8)))) := by rw [cl_putn _ _ _ (by decide)] at hR0; exact hR0.kept (fun j h1 h2 => hF2 j (by omega) (by omega))
    have hF : ∀ j, (10 ≤ j ∧ j < 30) ∨ 50 ≤ j → ce7 j = ce j := fun j hj => (hF2 j (by omega) (by omega)).trans (hF j hj)
    have hp9 := hp9.step hF2 hm9 (by simp)
    rw [cl_apx] at hp9
    have hR1 : cl_r G ad ce7 30 ((rf_put (va_up T 0 (va_up (T 0) 7 (T 0 8))) Q 1 ([5, 2, 19, 2] ++ rf_bytes 2 (T 0 8))) 1) (cl_op (va_up T 0 (va_up (T 0) 7 (T 0 8)))) := cl_put (x := [5, 2, 19, 2] ++ rf_bytes 2 (T 0 8)) hp9.end
    have hR0 : cl_r G ad ce7 10 ((rf_put (va_up T 0 (va_up (T 0) 7 (T 0 8))) Q 1 ([5, 2, 19, 2] ++ rf_bytes 2 (T 0 8))) 0) (cl_op (va_up T 0 (va_up (T 0) 7 (T 0 8)))) := by rw [cl_putn _ _ _ (by decide)]; exact hR0
    refine W.eq (g2 := F0 m 34 ls []) rfl ?_
    refine lv_goto (tgt := 54) hx hb dX2_decideUpdate_34 (by decide) ?_
    refine lv_aload_n hx hb dX2_decideUpdate_54 rfl (lv_at hl 0 rfl) ?_
    have hV : clV G ad ce7 (va_up T 0 (va_up (T 0) 7 (T 0 8))) (rf_put (va_up T 0 (va_up (T 0) 7 (T 0 8))) Q 1 ([5, 2, 19, 2] ++ rf_bytes 2 (T 0 8))) := ⟨_, _, ⟨h0, h1, h2, h3, h4⟩, ht0, ht1, hR0, hR1⟩
    refine z_invU F (rest := []) (c_rest1 l (va_up T 0 (va_up (T 0) 7 (T 0 8))) (rf_put (va_up T 0 (va_up (T 0) 7 (T 0 8))) Q 1 ([5, 2, 19, 2] ++ rf_bytes 2 (T 0 8))) hV) yu_X2_107_X2 ⟨Nat.le_of_ble_eq_true rfl, Nat.le_of_ble_eq_true rfl⟩ hw hA hS hl h2 rfl rfl rfl (Nat.le_of_ble_eq_true rfl) dX2_decideUpdate_55 ⟨Nat.le_of_ble_eq_true rfl, Nat.le_of_ble_eq_true rfl⟩ (fun r ad1 ce8 H locs hp hw hS => ?_)
    obtain ⟨rfl, rfl, hV, hF2⟩ := hp
    have hF : ∀ j, (10 ≤ j ∧ j < 30) ∨ 50 ≤ j → ce8 j = ce j := fun j hj => (hF2 j (by omega)).trans (hF j hj)
    obtain ⟨r0, r1, ⟨h0, h1, h2, h3, h4⟩, ht0, ht1, hR0, hR1⟩ := hV
    refine W.eq (g2 := F0 m 58 ls []) rfl ?_
    exact z_vret F hw hS (by unfold cp_decideUpdate; rw [if_neg c4]; exact ⟨rfl, rfl, ⟨_, _, ⟨h0, h1, h2, h3, h4⟩, ht0, ht1, hR0, hR1⟩, hF⟩) dX2_decideUpdate_58
def cp_decideService (T : rf_T) (Q : rf_Q) : rf_R := (if ((cl_b1 (T 0 3)) : Int32) = 0 then (0, (rf_become T 1 0 0 0), rf_put T Q 1 ([5, 34, 8, 1] ++ rf_bytes 1 32)) else (0, (rf_become T 1 3 0 0), rf_put T Q 1 ([5, 33])))
set_option maxHeartbeats 4000000 in
set_option maxRecDepth 100000 in
theorem c_decideService (l : Launch) {G : zz_G} {ad : Nat → Nat} {ce : zz_C} {sz : Nat} (T : rf_T) (Q : rf_Q) (hV : clV G ad ce T Q) : zz_M l yX2_decideService cX2_decideService 1 none 2 45 0 0 G [.ref (ad 2)] ad ce sz (fun r ad1 ce1 => r = none ∧ ad = ad1 ∧ clV G ad ce1 (cp_decideService T Q).2.1 (cp_decideService T Q).2.2 ∧ (∀ j, (10 ≤ j ∧ j < 30) ∨ 50 ≤ j → ce1 j = ce j)) := by
  refine zz_enter (by decide) (Nat.le_of_ble_eq_true rfl) ?_
  intro p e s m below meth c ls F hl hw hS hA
  obtain ⟨hx, hb, hr, hml, hown, hts, hlocks, hK, hnm⟩ := id F
  have hl : lv_has ls 1 [(0, .ref (ad 2))] := hl
  obtain ⟨r0, r1, ⟨h0, h1, h2, h3, h4⟩, ht0, ht1, hR0, hR1⟩ := hV
  have hF : ∀ j, (10 ≤ j ∧ j < 30) ∨ 50 ≤ j → ce j = ce j := fun _ _ => rfl
  refine lv_aload_n hx hb dX2_decideService_0 rfl (lv_at hl 0 rfl) ?_
  refine z_get F hw h2 fd_X2_28_X2 rfl dX2_decideService_1 ?_
  refine lv_if_eq (tgt := 27) hx hb dX2_decideService_4 (by decide) (fun c4 => ?_) (fun c4 => ?_)
  · refine lv_aload_n hx hb dX2_decideService_27 rfl (lv_at hl 0 rfl) ?_
    refine z_get F hw h2 fd_X2_41_X2 rfl dX2_decideService_28 ?_
    refine lv_iconst (v := 5) hx hb dX2_decideService_31 (by decide) ?_
    refine lv_bipush (v := 34) hx hb dX2_decideService_32 (by decide) ?_
    obtain ⟨vs9, ho9⟩ := hR1.obj
    refine z_invV F (rest := []) (c_send l 30 _ _ hR1 5 34 (by decide) (by decide)) yv_X2_45 ⟨Nat.le_of_ble_eq_true rfl, Nat.le_of_ble_eq_true rfl⟩ hw hA hS hl ho9 rfl rfl rfl (Nat.le_of_ble_eq_true rfl) dX2_decideService_34 ⟨Nat.le_of_ble_eq_true rfl, Nat.le_of_ble_eq_true rfl⟩ (fun r ad1 ce1 H locs hp hw hS => ?_)
    obtain ⟨rfl, ⟨h9, rfl, hp9⟩, hF2⟩ := hp
    have h0 := (hF2 0 (by decide)).trans h0
    have h1 := (hF2 1 (by decide)).trans h1
    have h2 := (hF2 2 (by decide)).trans h2
    have h3 := (hF2 3 (by decide)).trans h3
    have h4 := (hF2 4 (by decide)).trans h4
    have hR0 := hR0.kept (fun j h1 h2 => hF2 j (by omega))
    have hF : ∀ j, (10 ≤ j ∧ j < 30) ∨ 50 ≤ j → ce1 j = ce j := fun j hj => (hF2 j (by omega)).trans (hF j hj)
    have hR1 : cl_r G ad ce1 30 ((rf_put T Q 1 ([5, 34])) 1) (cl_op T) := cl_put (x := [5, 34]) hp9.end
    have hR0 : cl_r G ad ce1 10 ((rf_put T Q 1 ([5, 34])) 0) (cl_op T) := by rw [cl_putn _ _ _ (by decide)]; exact hR0
    refine W.eq (g2 := F0 m 37 ls [.ref (ad h9)]) rfl ?_
    refine lv_bipush (v := 8) hx hb dX2_decideService_37 (by decide) ?_
    refine lv_iconst (v := 1) hx hb dX2_decideService_39 (by decide) ?_
    refine lv_bipush (v := 32) hx hb dX2_decideService_40 (by decide) ?_
    have hm9 := hp9.m
    refine z_invV F (rest := []) (c_addNumber1 l h9 [5, 34] hm9 rfl 8 (by decide) 32) yv_X2_120 ⟨Nat.le_of_ble_eq_true rfl, Nat.le_of_ble_eq_true rfl⟩ hw hA hS hl hm9.obj rfl rfl rfl (Nat.le_of_ble_eq_true rfl) dX2_decideService_42 ⟨Nat.le_of_ble_eq_true rfl, Nat.le_of_ble_eq_true rfl⟩ (fun r ad1 ce2 H locs hp hw hS => ?_)
    obtain ⟨rfl, rfl, hm9, hF2⟩ := hp
    have hat9 := hp9.at
    have h0 := (hF2 0 (by omega) (by omega)).trans h0
    have h1 := (hF2 1 (by omega) (by omega)).trans h1
    have h2 := (hF2 2 (by omega) (by omega)).trans h2
    have h3 := (hF2 3 (by omega) (by omega)).trans h3
    have h4 := (hF2 4 (by omega) (by omega)).trans h4
    have hR0 : cl_r G ad ce2 10 (Q 0) (cl_op T) := by rw [cl_putn _ _ _ (by decide)] at hR0; exact hR0.kept (fun j h1 h2 => hF2 j (by omega) (by omega))
    have hF : ∀ j, (10 ≤ j ∧ j < 30) ∨ 50 ≤ j → ce2 j = ce j := fun j hj => (hF2 j (by omega) (by omega)).trans (hF j hj)
    have hp9 := hp9.step hF2 hm9 (by simp)
    rw [cl_apx] at hp9
    have hR1 : cl_r G ad ce2 30 ((rf_put T Q 1 ([5, 34, 8, 1] ++ rf_bytes 1 32)) 1) (cl_op T) := cl_put (x := [5, 34, 8, 1] ++ rf_bytes 1 32) hp9.end
    have hR0 : cl_r G ad ce2 10 ((rf_put T Q 1 ([5, 34, 8, 1] ++ rf_bytes 1 32)) 0) (cl_op T) := by rw [cl_putn _ _ _ (by decide)]; exact hR0
    refine W.eq (g2 := F0 m 45 ls []) rfl ?_
    refine lv_aload_n hx hb dX2_decideService_45 rfl (lv_at hl 0 rfl) ?_
    have hV : clV G ad ce2 T (rf_put T Q 1 ([5, 34, 8, 1] ++ rf_bytes 1 32)) := ⟨_, _, ⟨h0, h1, h2, h3, h4⟩, ht0, ht1, hR0, hR1⟩
    refine z_invU F (rest := []) (c_rest1 l T (rf_put T Q 1 ([5, 34, 8, 1] ++ rf_bytes 1 32)) hV) yu_X2_107_X2 ⟨Nat.le_of_ble_eq_true rfl, Nat.le_of_ble_eq_true rfl⟩ hw hA hS hl h2 rfl rfl rfl (Nat.le_of_ble_eq_true rfl) dX2_decideService_46 ⟨Nat.le_of_ble_eq_true rfl, Nat.le_of_ble_eq_true rfl⟩ (fun r ad1 ce3 H locs hp hw hS => ?_)
    obtain ⟨rfl, rfl, hV, hF2⟩ := hp
    have hF : ∀ j, (10 ≤ j ∧ j < 30) ∨ 50 ≤ j → ce3 j = ce j := fun j hj => (hF2 j (by omega)).trans (hF j hj)
    obtain ⟨r0, r1, ⟨h0, h1, h2, h3, h4⟩, ht0, ht1, hR0, hR1⟩ := hV
    refine W.eq (g2 := F0 m 49 ls []) rfl ?_
    exact z_vret F hw hS (by unfold cp_decideService; rw [if_pos c4]; exact ⟨rfl, rfl, ⟨_, _, ⟨h0, h1, h2, h3, h4⟩, ht0, ht1, hR0, hR1⟩, hF⟩) dX2_decideService_49
  · refine lv_aload_n hx hb dX2_decideService_7 rfl (lv_at hl 0 rfl) ?_
    refine z_get F hw h2 fd_X2_41_X2 rfl dX2_decideService_8 ?_
    refine lv_iconst (v := 5) hx hb dX2_decideService_11 (by decide) ?_
    refine lv_bipush (v := 33) hx hb dX2_decideService_12 (by decide) ?_
    obtain ⟨vs9, ho9⟩ := hR1.obj
    refine z_invV F (rest := []) (c_send l 30 _ _ hR1 5 33 (by decide) (by decide)) yv_X2_45 ⟨Nat.le_of_ble_eq_true rfl, Nat.le_of_ble_eq_true rfl⟩ hw hA hS hl ho9 rfl rfl rfl (Nat.le_of_ble_eq_true rfl) dX2_decideService_14 ⟨Nat.le_of_ble_eq_true rfl, Nat.le_of_ble_eq_true rfl⟩ (fun r ad1 ce4 H locs hp hw hS => ?_)
    obtain ⟨rfl, ⟨h9, rfl, hp9⟩, hF2⟩ := hp
    have h0 := (hF2 0 (by decide)).trans h0
    have h1 := (hF2 1 (by decide)).trans h1
    have h2 := (hF2 2 (by decide)).trans h2
    have h3 := (hF2 3 (by decide)).trans h3
    have h4 := (hF2 4 (by decide)).trans h4
    have hR0 := hR0.kept (fun j h1 h2 => hF2 j (by omega))
    have hF : ∀ j, (10 ≤ j ∧ j < 30) ∨ 50 ≤ j → ce4 j = ce j := fun j hj => (hF2 j (by omega)).trans (hF j hj)
    have hR1 : cl_r G ad ce4 30 ((rf_put T Q 1 ([5, 33])) 1) (cl_op T) := cl_put (x := [5, 33]) hp9.end
    have hR0 : cl_r G ad ce4 10 ((rf_put T Q 1 ([5, 33])) 0) (cl_op T) := by rw [cl_putn _ _ _ (by decide)]; exact hR0
    refine W.eq (g2 := F0 m 17 ls [.ref (ad h9)]) rfl ?_
    refine lv_pop hx hb dX2_decideService_17 rfl ?_
    refine lv_aload_n hx hb dX2_decideService_18 rfl (lv_at hl 0 rfl) ?_
    refine lv_iconst (v := 3) hx hb dX2_decideService_19 (by decide) ?_
    refine lv_iconst (v := 0) hx hb dX2_decideService_20 (by decide) ?_
    have hV : clV G ad ce4 T (rf_put T Q 1 ([5, 33])) := ⟨_, _, ⟨h0, h1, h2, h3, h4⟩, ht0, ht1, hR0, hR1⟩
    refine z_invU F (rest := []) (c_setState1 l T (rf_put T Q 1 ([5, 33])) hV 3 0) yu_X2_125_X2 ⟨Nat.le_of_ble_eq_true rfl, Nat.le_of_ble_eq_true rfl⟩ hw hA hS hl h2 rfl rfl rfl (Nat.le_of_ble_eq_true rfl) dX2_decideService_21 ⟨Nat.le_of_ble_eq_true rfl, Nat.le_of_ble_eq_true rfl⟩ (fun r ad1 ce5 H locs hp hw hS => ?_)
    obtain ⟨rfl, rfl, hV, hF2⟩ := hp
    have hF : ∀ j, (10 ≤ j ∧ j < 30) ∨ 50 ≤ j → ce5 j = ce j := fun j hj => (hF2 j (by omega)).trans (hF j hj)
    obtain ⟨r0, r1, ⟨h0, h1, h2, h3, h4⟩, ht0, ht1, hR0, hR1⟩ := hV
    refine W.eq (g2 := F0 m 24 ls []) rfl ?_
    refine lv_goto (tgt := 49) hx hb dX2_decideService_24 (by decide) ?_
    exact z_vret F hw hS (by unfold cp_decideService; rw [if_neg c4]; exact ⟨rfl, rfl, ⟨_, _, ⟨h0, h1, h2, h3, h4⟩, ht0, ht1, hR0, hR1⟩, hF⟩) dX2_decideService_49
def cp_takesAnswer (T : rf_T) (Q : rf_Q) (M : List Nat) : rf_R := (if ((T 1 1) : Int32) = 1 then (if rf_sz M 34 = some 4 then (if ((rf_val M 34) : Int32) = (rf_turned (T 0 2) (T 0 1)) then (if ((T 1 1) : Int32) = 1 then (1, ((cp_decideUpdate T Q).2.1), (cp_decideUpdate T Q).2.2) else (1, ((cp_decideService T Q).2.1), (cp_decideService T Q).2.2)) else (1, ((cp_forgetMobile T (rf_put T Q 1 ([5, 17]))).2.1), (cp_forgetMobile T (rf_put T Q 1 ([5, 17]))).2.2)) else (0, T, Q)) else (if ((T 1 1) : Int32) = 2 then (if rf_sz M 34 = some 4 then (if ((rf_val M 34) : Int32) = (rf_turned (T 0 2) (T 0 1)) then (if ((T 1 1) : Int32) = 1 then (1, ((cp_decideUpdate T Q).2.1), (cp_decideUpdate T Q).2.2) else (1, ((cp_decideService T Q).2.1), (cp_decideService T Q).2.2)) else (1, ((cp_forgetMobile T (rf_put T Q 1 ([5, 17]))).2.1), (cp_forgetMobile T (rf_put T Q 1 ([5, 17]))).2.2)) else (0, T, Q)) else (0, T, Q)))
theorem cp_takesAnswer_b (T : rf_T) (Q : rf_Q) (M : List Nat) : (cp_takesAnswer T Q M).1 = 0 ∨ (cp_takesAnswer T Q M).1 = 1 := by unfold cp_takesAnswer; (repeat' split) <;> first | exact Or.inl rfl | exact Or.inr rfl
set_option maxHeartbeats 4000000 in
set_option maxRecDepth 100000 in
theorem c_takesAnswer (l : Launch) {G : zz_G} {ad : Nat → Nat} {ce : zz_C} {sz : Nat} (T : rf_T) (Q : rf_Q) (hV : clV G ad ce T Q) (h : Nat) (M : List Nat) (hm : cl_m G ad ce h M) (hg : rf_good M) (hM2 : 2 ≤ M.length) (hh : 10 ≤ h ∧ h + 1 < 30) : zz_M l yX2_takesAnswer cX2_takesAnswer 3 (some .boolean) 3 67 0 0 G [.ref (ad 2), .ref (ad h)] ad ce sz (fun r ad1 ce1 => r = some (.int (cp_takesAnswer T Q M).1) ∧ ad = ad1 ∧ clV G ad ce1 (cp_takesAnswer T Q M).2.1 (cp_takesAnswer T Q M).2.2 ∧ (∀ j, (10 ≤ j ∧ j < 30) ∨ 50 ≤ j → ce1 j = ce j)) := by
  refine zz_enter (by decide) (Nat.le_of_ble_eq_true rfl) ?_
  intro p e s m below meth c ls F hl hw hS hA
  obtain ⟨hx, hb, hr, hml, hown, hts, hlocks, hK, hnm⟩ := id F
  have hl : lv_has ls 3 [(0, .ref (ad 2)), (1, .ref (ad h))] := hl
  obtain ⟨r0, r1, ⟨h0, h1, h2, h3, h4⟩, ht0, ht1, hR0, hR1⟩ := hV
  have hF : ∀ j, (10 ≤ j ∧ j < 30) ∨ 50 ≤ j → ce j = ce j := fun _ _ => rfl
  refine lv_aload_n hx hb dX2_takesAnswer_0 rfl (lv_at hl 0 rfl) ?_
  refine z_get F hw h2 fd_X2_78_X2 rfl dX2_takesAnswer_1 ?_
  refine lv_iconst (v := 1) hx hb dX2_takesAnswer_4 (by decide) ?_
  refine lv_icmp_eq (tgt := 16) hx hb dX2_takesAnswer_5 (by decide) (fun c5 => ?_) (fun c5 => ?_)
  · refine lv_iconst (v := 1) hx hb dX2_takesAnswer_16 (by decide) ?_
    refine lv_goto (tgt := 21) hx hb dX2_takesAnswer_17 (by decide) ?_
    refine lv_istore_n (lv' := [(2, .int 1), (0, .ref (ad 2)), (1, .ref (ad h))]) hx hb dX2_takesAnswer_21 rfl hl (by decide) rfl (fun ls hl => ?_)
    refine lv_iload_n hx hb dX2_takesAnswer_22 rfl (lv_at hl 0 rfl) ?_
    refine lv_if_eq (tgt := 36) hx hb dX2_takesAnswer_23 (by decide) (fun c23 => absurd c23 (by decide)) (fun c23 => ?_)
    refine lv_aload_n hx hb dX2_takesAnswer_26 rfl (lv_at hl 2 rfl) ?_
    refine lv_bipush (v := 34) hx hb dX2_takesAnswer_27 (by decide) ?_
    refine lv_iconst (v := 4) hx hb dX2_takesAnswer_29 (by decide) ?_
    refine z_invV F (rest := []) (c_has l h M hm 34 4 (by decide) (by decide)) yv_X2_110 ⟨Nat.le_of_ble_eq_true rfl, Nat.le_of_ble_eq_true rfl⟩ hw hA hS hl hm.obj rfl rfl rfl (Nat.le_of_ble_eq_true rfl) dX2_takesAnswer_30 ⟨Nat.le_of_ble_eq_true rfl, Nat.le_of_ble_eq_true rfl⟩ (fun r ad1 ce1 H locs hp hw hS => ?_)
    obtain ⟨hp, rfl, rfl⟩ := hp
    rcases hp with ⟨hs, rfl⟩ | ⟨hs, rfl⟩
    · refine W.eq (g2 := F0 m 33 ls [.int 1]) rfl ?_
      refine lv_if_ne (tgt := 38) hx hb dX2_takesAnswer_33 (by decide) (fun c33 => ?_) (fun c33 => absurd c33 (by decide))
      refine lv_aload_n hx hb dX2_takesAnswer_38 rfl (lv_at hl 2 rfl) ?_
      refine lv_bipush (v := 34) hx hb dX2_takesAnswer_39 (by decide) ?_
      refine lv_iconst (v := 4) hx hb dX2_takesAnswer_41 (by decide) ?_
      refine z_invV F (rest := []) (c_number l h M hm 34 4 (by decide) hg hs) yv_X2_113 ⟨Nat.le_of_ble_eq_true rfl, Nat.le_of_ble_eq_true rfl⟩ hw hA hS hl hm.obj rfl rfl rfl (Nat.le_of_ble_eq_true rfl) dX2_takesAnswer_42 ⟨Nat.le_of_ble_eq_true rfl, Nat.le_of_ble_eq_true rfl⟩ (fun r ad1 ce2 H locs hp hw hS => ?_)
      obtain ⟨rfl, rfl, rfl⟩ := hp
      refine W.eq (g2 := F0 m 45 ls [.int (rf_val M 34)]) rfl ?_
      refine lv_aload_n hx hb dX2_takesAnswer_45 rfl (lv_at hl 1 rfl) ?_
      refine z_get F hw h2 fd_X2_18_X2 rfl dX2_takesAnswer_46 ?_
      refine lv_aload_n hx hb dX2_takesAnswer_49 rfl (lv_at hl 1 rfl) ?_
      refine z_get F hw h2 fd_X2_11_X2 rfl dX2_takesAnswer_50 ?_
      refine z_invX F (rest := [.int (rf_val M 34)]) (c_answerTo l (T 0 2) (T 0 1)) yx_X2_128 ⟨Nat.le_of_ble_eq_true rfl, Nat.le_of_ble_eq_true rfl⟩ hw hA hS hl rfl rfl (Nat.le_of_ble_eq_true rfl) dX2_takesAnswer_53 ⟨Nat.le_of_ble_eq_true rfl, Nat.le_of_ble_eq_true rfl⟩ (fun r ad1 ce3 H locs hp hw hS => ?_)
      obtain ⟨rfl, rfl, rfl⟩ := hp
      refine W.eq (g2 := F0 m 56 ls [.int (rf_turned (T 0 2) (T 0 1)), .int (rf_val M 34)]) rfl ?_
      refine lv_icmp_eq (tgt := 77) hx hb dX2_takesAnswer_56 (by decide) (fun c56 => ?_) (fun c56 => ?_)
      · refine lv_aload_n hx hb dX2_takesAnswer_77 rfl (lv_at hl 1 rfl) ?_
        refine z_get F hw h2 fd_X2_78_X2 rfl dX2_takesAnswer_78 ?_
        refine lv_iconst (v := 1) hx hb dX2_takesAnswer_81 (by decide) ?_
        refine lv_icmp_ne (tgt := 92) hx hb dX2_takesAnswer_82 (by decide) (fun c82 => ?_) (fun c82 => ?_)
        · refine lv_aload_n hx hb dX2_takesAnswer_92 rfl (lv_at hl 1 rfl) ?_
          have hV : clV G ad ce T Q := ⟨_, _, ⟨h0, h1, h2, h3, h4⟩, ht0, ht1, hR0, hR1⟩
          refine z_invV F (rest := []) (c_decideService l T Q hV) yv_X2_134 ⟨Nat.le_of_ble_eq_true rfl, Nat.le_of_ble_eq_true rfl⟩ hw hA hS hl h2 rfl rfl rfl (Nat.le_of_ble_eq_true rfl) dX2_takesAnswer_93 ⟨Nat.le_of_ble_eq_true rfl, Nat.le_of_ble_eq_true rfl⟩ (fun r ad1 ce4 H locs hp hw hS => ?_)
          obtain ⟨rfl, rfl, hV, hF2⟩ := hp
          have hF : ∀ j, (10 ≤ j ∧ j < 30) ∨ 50 ≤ j → ce4 j = ce j := fun j hj => (hF2 j (by omega)).trans (hF j hj)
          have hm := hm.kept (hF2 h (by omega)) (hF2 (h + 1) (by omega))
          obtain ⟨r0, r1, ⟨h0, h1, h2, h3, h4⟩, ht0, ht1, hR0, hR1⟩ := hV
          refine W.eq (g2 := F0 m 96 ls []) rfl ?_
          refine lv_iconst (v := 1) hx hb dX2_takesAnswer_96 (by decide) ?_
          exact z_iret F (rfl) hw hS (by unfold cp_takesAnswer; rw [if_pos c5, if_pos hs, if_pos c56, if_neg c82]; exact ⟨rfl, rfl, ⟨_, _, ⟨h0, h1, h2, h3, h4⟩, ht0, ht1, hR0, hR1⟩, hF⟩) dX2_takesAnswer_97
        · refine lv_aload_n hx hb dX2_takesAnswer_85 rfl (lv_at hl 1 rfl) ?_
          have hV : clV G ad ce T Q := ⟨_, _, ⟨h0, h1, h2, h3, h4⟩, ht0, ht1, hR0, hR1⟩
          refine z_invV F (rest := []) (c_decideUpdate l T Q hV) yv_X2_131 ⟨Nat.le_of_ble_eq_true rfl, Nat.le_of_ble_eq_true rfl⟩ hw hA hS hl h2 rfl rfl rfl (Nat.le_of_ble_eq_true rfl) dX2_takesAnswer_86 ⟨Nat.le_of_ble_eq_true rfl, Nat.le_of_ble_eq_true rfl⟩ (fun r ad1 ce5 H locs hp hw hS => ?_)
          obtain ⟨rfl, rfl, hV, hF2⟩ := hp
          have hF : ∀ j, (10 ≤ j ∧ j < 30) ∨ 50 ≤ j → ce5 j = ce j := fun j hj => (hF2 j (by omega)).trans (hF j hj)
          have hm := hm.kept (hF2 h (by omega)) (hF2 (h + 1) (by omega))
          obtain ⟨r0, r1, ⟨h0, h1, h2, h3, h4⟩, ht0, ht1, hR0, hR1⟩ := hV
          refine W.eq (g2 := F0 m 89 ls []) rfl ?_
          refine lv_goto (tgt := 96) hx hb dX2_takesAnswer_89 (by decide) ?_
          refine lv_iconst (v := 1) hx hb dX2_takesAnswer_96 (by decide) ?_
          exact z_iret F (rfl) hw hS (by unfold cp_takesAnswer; rw [if_pos c5, if_pos hs, if_pos c56, if_pos c82]; exact ⟨rfl, rfl, ⟨_, _, ⟨h0, h1, h2, h3, h4⟩, ht0, ht1, hR0, hR1⟩, hF⟩) dX2_takesAnswer_97
      · refine lv_aload_n hx hb dX2_takesAnswer_59 rfl (lv_at hl 1 rfl) ?_
        refine z_get F hw h2 fd_X2_41_X2 rfl dX2_takesAnswer_60 ?_
        refine lv_iconst (v := 5) hx hb dX2_takesAnswer_63 (by decide) ?_
        refine lv_bipush (v := 17) hx hb dX2_takesAnswer_64 (by decide) ?_
        obtain ⟨vs9, ho9⟩ := hR1.obj
        refine z_invV F (rest := []) (c_send l 30 _ _ hR1 5 17 (by decide) (by decide)) yv_X2_45 ⟨Nat.le_of_ble_eq_true rfl, Nat.le_of_ble_eq_true rfl⟩ hw hA hS hl ho9 rfl rfl rfl (Nat.le_of_ble_eq_true rfl) dX2_takesAnswer_66 ⟨Nat.le_of_ble_eq_true rfl, Nat.le_of_ble_eq_true rfl⟩ (fun r ad1 ce6 H locs hp hw hS => ?_)
        obtain ⟨rfl, ⟨h9, rfl, hp9⟩, hF2⟩ := hp
        have h0 := (hF2 0 (by decide)).trans h0
        have h1 := (hF2 1 (by decide)).trans h1
        have h2 := (hF2 2 (by decide)).trans h2
        have h3 := (hF2 3 (by decide)).trans h3
        have h4 := (hF2 4 (by decide)).trans h4
        have hR0 := hR0.kept (fun j h1 h2 => hF2 j (by omega))
        have hF : ∀ j, (10 ≤ j ∧ j < 30) ∨ 50 ≤ j → ce6 j = ce j := fun j hj => (hF2 j (by omega)).trans (hF j hj)
        have hm := hm.kept (hF2 h (by omega)) (hF2 (h + 1) (by omega))
        have hR1 : cl_r G ad ce6 30 ((rf_put T Q 1 ([5, 17])) 1) (cl_op T) := cl_put (x := [5, 17]) hp9.end
        have hR0 : cl_r G ad ce6 10 ((rf_put T Q 1 ([5, 17])) 0) (cl_op T) := by rw [cl_putn _ _ _ (by decide)]; exact hR0
        refine W.eq (g2 := F0 m 69 ls [.ref (ad h9)]) rfl ?_
        refine lv_pop hx hb dX2_takesAnswer_69 rfl ?_
        refine lv_aload_n hx hb dX2_takesAnswer_70 rfl (lv_at hl 1 rfl) ?_
        have hV : clV G ad ce6 T (rf_put T Q 1 ([5, 17])) := ⟨_, _, ⟨h0, h1, h2, h3, h4⟩, ht0, ht1, hR0, hR1⟩
        refine z_invV F (rest := []) (c_forgetMobile l T (rf_put T Q 1 ([5, 17])) hV) yv_X2_104 ⟨Nat.le_of_ble_eq_true rfl, Nat.le_of_ble_eq_true rfl⟩ hw hA hS hl h2 rfl rfl rfl (Nat.le_of_ble_eq_true rfl) dX2_takesAnswer_71 ⟨Nat.le_of_ble_eq_true rfl, Nat.le_of_ble_eq_true rfl⟩ (fun r ad1 ce7 H locs hp hw hS => ?_)
        obtain ⟨rfl, rfl, hV, hF2⟩ := hp
        have hF : ∀ j, (10 ≤ j ∧ j < 30) ∨ 50 ≤ j → ce7 j = ce j := fun j hj => (hF2 j (by omega)).trans (hF j hj)
        have hm := hm.kept (hF2 h (by omega)) (hF2 (h + 1) (by omega))
        obtain ⟨r0, r1, ⟨h0, h1, h2, h3, h4⟩, ht0, ht1, hR0, hR1⟩ := hV
        refine W.eq (g2 := F0 m 74 ls []) rfl ?_
        refine lv_goto (tgt := 96) hx hb dX2_takesAnswer_74 (by decide) ?_
        refine lv_iconst (v := 1) hx hb dX2_takesAnswer_96 (by decide) ?_
        exact z_iret F (rfl) hw hS (by unfold cp_takesAnswer; rw [if_pos c5, if_pos hs, if_neg c56]; exact ⟨rfl, rfl, ⟨_, _, ⟨h0, h1, h2, h3, h4⟩, ht0, ht1, hR0, hR1⟩, hF⟩) dX2_takesAnswer_97
    · refine W.eq (g2 := F0 m 33 ls [.int 0]) rfl ?_
      refine lv_if_ne (tgt := 38) hx hb dX2_takesAnswer_33 (by decide) (fun c33 => absurd c33 (by decide)) (fun c33 => ?_)
      refine lv_iconst (v := 0) hx hb dX2_takesAnswer_36 (by decide) ?_
      exact z_iret F (rfl) hw hS (by unfold cp_takesAnswer; rw [if_pos c5, if_neg hs]; exact ⟨rfl, rfl, ⟨_, _, ⟨h0, h1, h2, h3, h4⟩, ht0, ht1, hR0, hR1⟩, hF⟩) dX2_takesAnswer_37
  · refine lv_aload_n hx hb dX2_takesAnswer_8 rfl (lv_at hl 0 rfl) ?_
    refine z_get F hw h2 fd_X2_78_X2 rfl dX2_takesAnswer_9 ?_
    refine lv_iconst (v := 2) hx hb dX2_takesAnswer_12 (by decide) ?_
    refine lv_icmp_ne (tgt := 20) hx hb dX2_takesAnswer_13 (by decide) (fun c13 => ?_) (fun c13 => ?_)
    · refine lv_iconst (v := 0) hx hb dX2_takesAnswer_20 (by decide) ?_
      refine lv_istore_n (lv' := [(2, .int 0), (0, .ref (ad 2)), (1, .ref (ad h))]) hx hb dX2_takesAnswer_21 rfl hl (by decide) rfl (fun ls hl => ?_)
      refine lv_iload_n hx hb dX2_takesAnswer_22 rfl (lv_at hl 0 rfl) ?_
      refine lv_if_eq (tgt := 36) hx hb dX2_takesAnswer_23 (by decide) (fun c23 => ?_) (fun c23 => absurd c23 (by decide))
      refine lv_iconst (v := 0) hx hb dX2_takesAnswer_36 (by decide) ?_
      exact z_iret F (rfl) hw hS (by unfold cp_takesAnswer; rw [if_neg c5, if_neg c13]; exact ⟨rfl, rfl, ⟨_, _, ⟨h0, h1, h2, h3, h4⟩, ht0, ht1, hR0, hR1⟩, hF⟩) dX2_takesAnswer_37
    · refine lv_iconst (v := 1) hx hb dX2_takesAnswer_16 (by decide) ?_
      refine lv_goto (tgt := 21) hx hb dX2_takesAnswer_17 (by decide) ?_
      refine lv_istore_n (lv' := [(2, .int 1), (0, .ref (ad 2)), (1, .ref (ad h))]) hx hb dX2_takesAnswer_21 rfl hl (by decide) rfl (fun ls hl => ?_)
      refine lv_iload_n hx hb dX2_takesAnswer_22 rfl (lv_at hl 0 rfl) ?_
      refine lv_if_eq (tgt := 36) hx hb dX2_takesAnswer_23 (by decide) (fun c23 => absurd c23 (by decide)) (fun c23 => ?_)
      refine lv_aload_n hx hb dX2_takesAnswer_26 rfl (lv_at hl 2 rfl) ?_
      refine lv_bipush (v := 34) hx hb dX2_takesAnswer_27 (by decide) ?_
      refine lv_iconst (v := 4) hx hb dX2_takesAnswer_29 (by decide) ?_
      refine z_invV F (rest := []) (c_has l h M hm 34 4 (by decide) (by decide)) yv_X2_110 ⟨Nat.le_of_ble_eq_true rfl, Nat.le_of_ble_eq_true rfl⟩ hw hA hS hl hm.obj rfl rfl rfl (Nat.le_of_ble_eq_true rfl) dX2_takesAnswer_30 ⟨Nat.le_of_ble_eq_true rfl, Nat.le_of_ble_eq_true rfl⟩ (fun r ad1 ce8 H locs hp hw hS => ?_)
      obtain ⟨hp, rfl, rfl⟩ := hp
      rcases hp with ⟨hs, rfl⟩ | ⟨hs, rfl⟩
      · refine W.eq (g2 := F0 m 33 ls [.int 1]) rfl ?_
        refine lv_if_ne (tgt := 38) hx hb dX2_takesAnswer_33 (by decide) (fun c33 => ?_) (fun c33 => absurd c33 (by decide))
        refine lv_aload_n hx hb dX2_takesAnswer_38 rfl (lv_at hl 2 rfl) ?_
        refine lv_bipush (v := 34) hx hb dX2_takesAnswer_39 (by decide) ?_
        refine lv_iconst (v := 4) hx hb dX2_takesAnswer_41 (by decide) ?_
        refine z_invV F (rest := []) (c_number l h M hm 34 4 (by decide) hg hs) yv_X2_113 ⟨Nat.le_of_ble_eq_true rfl, Nat.le_of_ble_eq_true rfl⟩ hw hA hS hl hm.obj rfl rfl rfl (Nat.le_of_ble_eq_true rfl) dX2_takesAnswer_42 ⟨Nat.le_of_ble_eq_true rfl, Nat.le_of_ble_eq_true rfl⟩ (fun r ad1 ce9 H locs hp hw hS => ?_)
        obtain ⟨rfl, rfl, rfl⟩ := hp
        refine W.eq (g2 := F0 m 45 ls [.int (rf_val M 34)]) rfl ?_
        refine lv_aload_n hx hb dX2_takesAnswer_45 rfl (lv_at hl 1 rfl) ?_
        refine z_get F hw h2 fd_X2_18_X2 rfl dX2_takesAnswer_46 ?_
        refine lv_aload_n hx hb dX2_takesAnswer_49 rfl (lv_at hl 1 rfl) ?_
        refine z_get F hw h2 fd_X2_11_X2 rfl dX2_takesAnswer_50 ?_
        refine z_invX F (rest := [.int (rf_val M 34)]) (c_answerTo l (T 0 2) (T 0 1)) yx_X2_128 ⟨Nat.le_of_ble_eq_true rfl, Nat.le_of_ble_eq_true rfl⟩ hw hA hS hl rfl rfl (Nat.le_of_ble_eq_true rfl) dX2_takesAnswer_53 ⟨Nat.le_of_ble_eq_true rfl, Nat.le_of_ble_eq_true rfl⟩ (fun r ad1 ce10 H locs hp hw hS => ?_)
        obtain ⟨rfl, rfl, rfl⟩ := hp
        refine W.eq (g2 := F0 m 56 ls [.int (rf_turned (T 0 2) (T 0 1)), .int (rf_val M 34)]) rfl ?_
        refine lv_icmp_eq (tgt := 77) hx hb dX2_takesAnswer_56 (by decide) (fun c56 => ?_) (fun c56 => ?_)
        · refine lv_aload_n hx hb dX2_takesAnswer_77 rfl (lv_at hl 1 rfl) ?_
          refine z_get F hw h2 fd_X2_78_X2 rfl dX2_takesAnswer_78 ?_
          refine lv_iconst (v := 1) hx hb dX2_takesAnswer_81 (by decide) ?_
          refine lv_icmp_ne (tgt := 92) hx hb dX2_takesAnswer_82 (by decide) (fun c82 => ?_) (fun c82 => ?_)
          · refine lv_aload_n hx hb dX2_takesAnswer_92 rfl (lv_at hl 1 rfl) ?_
            have hV : clV G ad ce T Q := ⟨_, _, ⟨h0, h1, h2, h3, h4⟩, ht0, ht1, hR0, hR1⟩
            refine z_invV F (rest := []) (c_decideService l T Q hV) yv_X2_134 ⟨Nat.le_of_ble_eq_true rfl, Nat.le_of_ble_eq_true rfl⟩ hw hA hS hl h2 rfl rfl rfl (Nat.le_of_ble_eq_true rfl) dX2_takesAnswer_93 ⟨Nat.le_of_ble_eq_true rfl, Nat.le_of_ble_eq_true rfl⟩ (fun r ad1 ce11 H locs hp hw hS => ?_)
            obtain ⟨rfl, rfl, hV, hF2⟩ := hp
            have hF : ∀ j, (10 ≤ j ∧ j < 30) ∨ 50 ≤ j → ce11 j = ce j := fun j hj => (hF2 j (by omega)).trans (hF j hj)
            have hm := hm.kept (hF2 h (by omega)) (hF2 (h + 1) (by omega))
            obtain ⟨r0, r1, ⟨h0, h1, h2, h3, h4⟩, ht0, ht1, hR0, hR1⟩ := hV
            refine W.eq (g2 := F0 m 96 ls []) rfl ?_
            refine lv_iconst (v := 1) hx hb dX2_takesAnswer_96 (by decide) ?_
            exact z_iret F (rfl) hw hS (by unfold cp_takesAnswer; rw [if_neg c5, if_pos c13, if_pos hs, if_pos c56, if_neg c82]; exact ⟨rfl, rfl, ⟨_, _, ⟨h0, h1, h2, h3, h4⟩, ht0, ht1, hR0, hR1⟩, hF⟩) dX2_takesAnswer_97
          · refine lv_aload_n hx hb dX2_takesAnswer_85 rfl (lv_at hl 1 rfl) ?_
            have hV : clV G ad ce T Q := ⟨_, _, ⟨h0, h1, h2, h3, h4⟩, ht0, ht1, hR0, hR1⟩
            refine z_invV F (rest := []) (c_decideUpdate l T Q hV) yv_X2_131 ⟨Nat.le_of_ble_eq_true rfl, Nat.le_of_ble_eq_true rfl⟩ hw hA hS hl h2 rfl rfl rfl (Nat.le_of_ble_eq_true rfl) dX2_takesAnswer_86 ⟨Nat.le_of_ble_eq_true rfl, Nat.le_of_ble_eq_true rfl⟩ (fun r ad1 ce12 H locs hp hw hS => ?_)
            obtain ⟨rfl, rfl, hV, hF2⟩ := hp
            have hF : ∀ j, (10 ≤ j ∧ j < 30) ∨ 50 ≤ j → ce12 j = ce j := fun j hj => (hF2 j (by omega)).trans (hF j hj)
            have hm := hm.kept (hF2 h (by omega)) (hF2 (h + 1) (by omega))
            obtain ⟨r0, r1, ⟨h0, h1, h2, h3, h4⟩, ht0, ht1, hR0, hR1⟩ := hV
            refine W.eq (g2 := F0 m 89 ls []) rfl ?_
            refine lv_goto (tgt := 96) hx hb dX2_takesAnswer_89 (by decide) ?_
            refine lv_iconst (v := 1) hx hb dX2_takesAnswer_96 (by decide) ?_
            exact z_iret F (rfl) hw hS (by unfold cp_takesAnswer; rw [if_neg c5, if_pos c13, if_pos hs, if_pos c56, if_pos c82]; exact ⟨rfl, rfl, ⟨_, _, ⟨h0, h1, h2, h3, h4⟩, ht0, ht1, hR0, hR1⟩, hF⟩) dX2_takesAnswer_97
        · refine lv_aload_n hx hb dX2_takesAnswer_59 rfl (lv_at hl 1 rfl) ?_
          refine z_get F hw h2 fd_X2_41_X2 rfl dX2_takesAnswer_60 ?_
          refine lv_iconst (v := 5) hx hb dX2_takesAnswer_63 (by decide) ?_
          refine lv_bipush (v := 17) hx hb dX2_takesAnswer_64 (by decide) ?_
          obtain ⟨vs9, ho9⟩ := hR1.obj
          refine z_invV F (rest := []) (c_send l 30 _ _ hR1 5 17 (by decide) (by decide)) yv_X2_45 ⟨Nat.le_of_ble_eq_true rfl, Nat.le_of_ble_eq_true rfl⟩ hw hA hS hl ho9 rfl rfl rfl (Nat.le_of_ble_eq_true rfl) dX2_takesAnswer_66 ⟨Nat.le_of_ble_eq_true rfl, Nat.le_of_ble_eq_true rfl⟩ (fun r ad1 ce13 H locs hp hw hS => ?_)
          obtain ⟨rfl, ⟨h9, rfl, hp9⟩, hF2⟩ := hp
          have h0 := (hF2 0 (by decide)).trans h0
          have h1 := (hF2 1 (by decide)).trans h1
          have h2 := (hF2 2 (by decide)).trans h2
          have h3 := (hF2 3 (by decide)).trans h3
          have h4 := (hF2 4 (by decide)).trans h4
          have hR0 := hR0.kept (fun j h1 h2 => hF2 j (by omega))
          have hF : ∀ j, (10 ≤ j ∧ j < 30) ∨ 50 ≤ j → ce13 j = ce j := fun j hj => (hF2 j (by omega)).trans (hF j hj)
          have hm := hm.kept (hF2 h (by omega)) (hF2 (h + 1) (by omega))
          have hR1 : cl_r G ad ce13 30 ((rf_put T Q 1 ([5, 17])) 1) (cl_op T) := cl_put (x := [5, 17]) hp9.end
          have hR0 : cl_r G ad ce13 10 ((rf_put T Q 1 ([5, 17])) 0) (cl_op T) := by rw [cl_putn _ _ _ (by decide)]; exact hR0
          refine W.eq (g2 := F0 m 69 ls [.ref (ad h9)]) rfl ?_
          refine lv_pop hx hb dX2_takesAnswer_69 rfl ?_
          refine lv_aload_n hx hb dX2_takesAnswer_70 rfl (lv_at hl 1 rfl) ?_
          have hV : clV G ad ce13 T (rf_put T Q 1 ([5, 17])) := ⟨_, _, ⟨h0, h1, h2, h3, h4⟩, ht0, ht1, hR0, hR1⟩
          refine z_invV F (rest := []) (c_forgetMobile l T (rf_put T Q 1 ([5, 17])) hV) yv_X2_104 ⟨Nat.le_of_ble_eq_true rfl, Nat.le_of_ble_eq_true rfl⟩ hw hA hS hl h2 rfl rfl rfl (Nat.le_of_ble_eq_true rfl) dX2_takesAnswer_71 ⟨Nat.le_of_ble_eq_true rfl, Nat.le_of_ble_eq_true rfl⟩ (fun r ad1 ce14 H locs hp hw hS => ?_)
          obtain ⟨rfl, rfl, hV, hF2⟩ := hp
          have hF : ∀ j, (10 ≤ j ∧ j < 30) ∨ 50 ≤ j → ce14 j = ce j := fun j hj => (hF2 j (by omega)).trans (hF j hj)
          have hm := hm.kept (hF2 h (by omega)) (hF2 (h + 1) (by omega))
          obtain ⟨r0, r1, ⟨h0, h1, h2, h3, h4⟩, ht0, ht1, hR0, hR1⟩ := hV
          refine W.eq (g2 := F0 m 74 ls []) rfl ?_
          refine lv_goto (tgt := 96) hx hb dX2_takesAnswer_74 (by decide) ?_
          refine lv_iconst (v := 1) hx hb dX2_takesAnswer_96 (by decide) ?_
          exact z_iret F (rfl) hw hS (by unfold cp_takesAnswer; rw [if_neg c5, if_pos c13, if_pos hs, if_neg c56]; exact ⟨rfl, rfl, ⟨_, _, ⟨h0, h1, h2, h3, h4⟩, ht0, ht1, hR0, hR1⟩, hF⟩) dX2_takesAnswer_97
      · refine W.eq (g2 := F0 m 33 ls [.int 0]) rfl ?_
        refine lv_if_ne (tgt := 38) hx hb dX2_takesAnswer_33 (by decide) (fun c33 => absurd c33 (by decide)) (fun c33 => ?_)
        refine lv_iconst (v := 0) hx hb dX2_takesAnswer_36 (by decide) ?_
        exact z_iret F (rfl) hw hS (by unfold cp_takesAnswer; rw [if_neg c5, if_pos c13, if_neg hs]; exact ⟨rfl, rfl, ⟨_, _, ⟨h0, h1, h2, h3, h4⟩, ht0, ht1, hR0, hR1⟩, hF⟩) dX2_takesAnswer_37
def cp_takesConnected (T : rf_T) (Q : rf_Q) : rf_R := (if ((T 2 1) : Int32) = 3 then (1, (rf_become T 1 (T 1 1) 4 0), Q) else (0, T, Q))
theorem cp_takesConnected_b (T : rf_T) (Q : rf_Q) : (cp_takesConnected T Q).1 = 0 ∨ (cp_takesConnected T Q).1 = 1 := by unfold cp_takesConnected; (repeat' split) <;> first | exact Or.inl rfl | exact Or.inr rfl
set_option maxHeartbeats 4000000 in
set_option maxRecDepth 100000 in
theorem c_takesConnected (l : Launch) {G : zz_G} {ad : Nat → Nat} {ce : zz_C} {sz : Nat} (T : rf_T) (Q : rf_Q) (hV : clV G ad ce T Q) : zz_M l yX2_takesConnected cX2_takesConnected 1 (some .boolean) 1 22 0 0 G [.ref (ad 2)] ad ce sz (fun r ad1 ce1 => r = some (.int (cp_takesConnected T Q).1) ∧ ad = ad1 ∧ clV G ad ce1 (cp_takesConnected T Q).2.1 (cp_takesConnected T Q).2.2 ∧ (∀ j, (10 ≤ j ∧ j < 30) ∨ 50 ≤ j → ce1 j = ce j)) := by
  refine zz_enter (by decide) (Nat.le_of_ble_eq_true rfl) ?_
  intro p e s m below meth c ls F hl hw hS hA
  obtain ⟨hx, hb, hr, hml, hown, hts, hlocks, hK, hnm⟩ := id F
  have hl : lv_has ls 1 [(0, .ref (ad 2))] := hl
  obtain ⟨r0, r1, ⟨h0, h1, h2, h3, h4⟩, ht0, ht1, hR0, hR1⟩ := hV
  have hF : ∀ j, (10 ≤ j ∧ j < 30) ∨ 50 ≤ j → ce j = ce j := fun _ _ => rfl
  refine lv_aload_n hx hb dX2_takesConnected_0 rfl (lv_at hl 0 rfl) ?_
  refine z_get F hw h2 fd_X2_38_X2 rfl dX2_takesConnected_1 ?_
  refine lv_iconst (v := 3) hx hb dX2_takesConnected_4 (by decide) ?_
  refine lv_icmp_eq (tgt := 10) hx hb dX2_takesConnected_5 (by decide) (fun c5 => ?_) (fun c5 => ?_)
  · refine lv_aload_n hx hb dX2_takesConnected_10 rfl (lv_at hl 0 rfl) ?_
    refine lv_iconst (v := 4) hx hb dX2_takesConnected_11 (by decide) ?_
    refine lv_iconst (v := 0) hx hb dX2_takesConnected_12 (by decide) ?_
    have hV : clV G ad ce T Q := ⟨_, _, ⟨h0, h1, h2, h3, h4⟩, ht0, ht1, hR0, hR1⟩
    refine z_invU F (rest := []) (c_setCall1 l T Q hV 4 0) yu_X2_51_X2 ⟨Nat.le_of_ble_eq_true rfl, Nat.le_of_ble_eq_true rfl⟩ hw hA hS hl h2 rfl rfl rfl (Nat.le_of_ble_eq_true rfl) dX2_takesConnected_13 ⟨Nat.le_of_ble_eq_true rfl, Nat.le_of_ble_eq_true rfl⟩ (fun r ad1 ce1 H locs hp hw hS => ?_)
    obtain ⟨rfl, rfl, hV, hF2⟩ := hp
    have hF : ∀ j, (10 ≤ j ∧ j < 30) ∨ 50 ≤ j → ce1 j = ce j := fun j hj => (hF2 j (by omega)).trans (hF j hj)
    obtain ⟨r0, r1, ⟨h0, h1, h2, h3, h4⟩, ht0, ht1, hR0, hR1⟩ := hV
    refine W.eq (g2 := F0 m 16 ls []) rfl ?_
    refine lv_iconst (v := 1) hx hb dX2_takesConnected_16 (by decide) ?_
    exact z_iret F (rfl) hw hS (by unfold cp_takesConnected; rw [if_pos c5]; exact ⟨rfl, rfl, ⟨_, _, ⟨h0, h1, h2, h3, h4⟩, ht0, ht1, hR0, hR1⟩, hF⟩) dX2_takesConnected_17
  · refine lv_iconst (v := 0) hx hb dX2_takesConnected_8 (by decide) ?_
    exact z_iret F (rfl) hw hS (by unfold cp_takesConnected; rw [if_neg c5]; exact ⟨rfl, rfl, ⟨_, _, ⟨h0, h1, h2, h3, h4⟩, ht0, ht1, hR0, hR1⟩, hF⟩) dX2_takesConnected_9
def cp_takesSetUp (T : rf_T) (Q : rf_Q) (M : List Nat) : rf_R := (if rf_fd M 94 = none then (if ((T 2 1) : Int32) = 0 then (0, T, Q) else (0, T, Q)) else (if ((T 2 1) : Int32) = 0 then (if ((nI (M.getD (rf_i M 94 + 1) 0)) : Int32) < 1 then (0, T, Q) else (if ((nI (M.getD (rf_i M 94 + 1) 0)) : Int32) ≤ 8 then (1, (rf_become (va_up (va_up T 0 (va_up (T 0) 10 (nI (M.getD (rf_i M 94 + 1) 0)))) 7 (rf_cp (T 7) M (rf_i M 94) (M.getD (rf_i M 94 + 1) 0))) 1 ((va_up (va_up T 0 (va_up (T 0) 10 (nI (M.getD (rf_i M 94 + 1) 0)))) 7 (rf_cp (T 7) M (rf_i M 94) (M.getD (rf_i M 94 + 1) 0))) 1 1) 1 0), rf_put (va_up (va_up T 0 (va_up (T 0) 10 (nI (M.getD (rf_i M 94 + 1) 0)))) 7 (rf_cp (T 7) M (rf_i M 94) (M.getD (rf_i M 94 + 1) 0))) Q 1 ([3, 2])) else (0, T, Q))) else (0, T, Q)))
theorem cp_takesSetUp_b (T : rf_T) (Q : rf_Q) (M : List Nat) : (cp_takesSetUp T Q M).1 = 0 ∨ (cp_takesSetUp T Q M).1 = 1 := by unfold cp_takesSetUp; (repeat' split) <;> first | exact Or.inl rfl | exact Or.inr rfl
set_option maxHeartbeats 4000000 in
set_option maxRecDepth 100000 in
theorem c_takesSetUp (l : Launch) {G : zz_G} {ad : Nat → Nat} {ce : zz_C} {sz : Nat} (T : rf_T) (Q : rf_Q) (hV : clV G ad ce T Q) (h : Nat) (M : List Nat) (hm : cl_m G ad ce h M) (hg : rf_good M) (hM2 : 2 ≤ M.length) (hh : 10 ≤ h ∧ h + 1 < 30) : zz_M l yX2_takesSetUp cX2_takesSetUp 4 (some .boolean) 3 65 0 0 G [.ref (ad 2), .ref (ad h)] ad ce sz (fun r ad1 ce1 => r = some (.int (cp_takesSetUp T Q M).1) ∧ ad = ad1 ∧ clV G ad ce1 (cp_takesSetUp T Q M).2.1 (cp_takesSetUp T Q M).2.2 ∧ (∀ j, (10 ≤ j ∧ j < 30) ∨ 50 ≤ j → ce1 j = ce j)) := by
  refine zz_enter (by decide) (Nat.le_of_ble_eq_true rfl) ?_
  intro p e s m below meth c ls F hl hw hS hA
  obtain ⟨hx, hb, hr, hml, hown, hts, hlocks, hK, hnm⟩ := id F
  have hl : lv_has ls 4 [(0, .ref (ad 2)), (1, .ref (ad h))] := hl
  obtain ⟨r0, r1, ⟨h0, h1, h2, h3, h4⟩, ht0, ht1, hR0, hR1⟩ := hV
  have hF : ∀ j, (10 ≤ j ∧ j < 30) ∨ 50 ≤ j → ce j = ce j := fun _ _ => rfl
  refine lv_aload_n hx hb dX2_takesSetUp_0 rfl (lv_at hl 1 rfl) ?_
  refine lv_bipush (v := 94) hx hb dX2_takesSetUp_1 (by decide) ?_
  refine z_invV F (rest := []) (c_sizeOf l h M hm 94 (by decide)) yv_X2_137 ⟨Nat.le_of_ble_eq_true rfl, Nat.le_of_ble_eq_true rfl⟩ hw hA hS hl hm.obj rfl rfl rfl (Nat.le_of_ble_eq_true rfl) dX2_takesSetUp_3 ⟨Nat.le_of_ble_eq_true rfl, Nat.le_of_ble_eq_true rfl⟩ (fun r ad1 ce1 H locs hp hw hS => ?_)
  obtain ⟨rfl, rfl, rfl⟩ := hp
  by_cases hfn : rf_fd M 94 = none
  · refine W.eq (g2 := F0 m 6 ls [.int (-3)]) (by unfold cl_size rf_sz; rw [hfn]; rfl) ?_
    refine lv_istore_n (lv' := [(2, .int (-3)), (0, .ref (ad 2)), (1, .ref (ad h))]) hx hb dX2_takesSetUp_6 rfl hl (by decide) rfl (fun ls hl => ?_)
    refine lv_aload_n hx hb dX2_takesSetUp_7 rfl (lv_at hl 1 rfl) ?_
    refine z_get F hw h2 fd_X2_38_X2 rfl dX2_takesSetUp_8 ?_
    refine lv_if_ne (tgt := 25) hx hb dX2_takesSetUp_11 (by decide) (fun c11 => ?_) (fun c11 => ?_)
    · refine lv_iconst (v := 0) hx hb dX2_takesSetUp_25 (by decide) ?_
      exact z_iret F (rfl) hw hS (by unfold cp_takesSetUp; rw [if_pos hfn, if_neg c11]; exact ⟨rfl, rfl, ⟨_, _, ⟨h0, h1, h2, h3, h4⟩, ht0, ht1, hR0, hR1⟩, hF⟩) dX2_takesSetUp_26
    · refine lv_iload_n hx hb dX2_takesSetUp_14 rfl (lv_at hl 0 rfl) ?_
      refine lv_iconst (v := 1) hx hb dX2_takesSetUp_15 (by decide) ?_
      refine lv_icmp_lt (tgt := 25) hx hb dX2_takesSetUp_16 (by decide) (fun c16 => ?_) (fun c16 => absurd c16 (by decide))
      refine lv_iconst (v := 0) hx hb dX2_takesSetUp_25 (by decide) ?_
      exact z_iret F (rfl) hw hS (by unfold cp_takesSetUp; rw [if_pos hfn, if_pos c11]; exact ⟨rfl, rfl, ⟨_, _, ⟨h0, h1, h2, h3, h4⟩, ht0, ht1, hR0, hR1⟩, hF⟩) dX2_takesSetUp_26
  · obtain ⟨f8, -, -, hM8⟩ := id hm
    have hfd := rf_i_s hfn
    obtain ⟨hi2, hlt⟩ := rf_find_in M 94 24 2 _ hfd
    have hin := rf_find_good M 94 24 2 _ hfd hg
    have hM24 := hM8.1
    have hb8 := (hM8.2 (rf_i M 94 + 1) hlt).2
    refine W.eq (g2 := F0 m 6 ls [.int (nI (M.getD (rf_i M 94 + 1) 0))]) (by unfold cl_size rf_sz; rw [hfd]; rfl) ?_
    refine lv_istore_n (lv' := [(2, .int (nI (M.getD (rf_i M 94 + 1) 0))), (0, .ref (ad 2)), (1, .ref (ad h))]) hx hb dX2_takesSetUp_6 rfl hl (by decide) rfl (fun ls hl => ?_)
    refine lv_aload_n hx hb dX2_takesSetUp_7 rfl (lv_at hl 1 rfl) ?_
    refine z_get F hw h2 fd_X2_38_X2 rfl dX2_takesSetUp_8 ?_
    refine lv_if_ne (tgt := 25) hx hb dX2_takesSetUp_11 (by decide) (fun c11 => ?_) (fun c11 => ?_)
    · refine lv_iconst (v := 0) hx hb dX2_takesSetUp_25 (by decide) ?_
      exact z_iret F (rfl) hw hS (by unfold cp_takesSetUp; rw [if_neg hfn, if_neg c11]; exact ⟨rfl, rfl, ⟨_, _, ⟨h0, h1, h2, h3, h4⟩, ht0, ht1, hR0, hR1⟩, hF⟩) dX2_takesSetUp_26
    · refine lv_iload_n hx hb dX2_takesSetUp_14 rfl (lv_at hl 0 rfl) ?_
      refine lv_iconst (v := 1) hx hb dX2_takesSetUp_15 (by decide) ?_
      refine lv_icmp_lt (tgt := 25) hx hb dX2_takesSetUp_16 (by decide) (fun c16 => ?_) (fun c16 => ?_)
      · refine lv_iconst (v := 0) hx hb dX2_takesSetUp_25 (by decide) ?_
        exact z_iret F (rfl) hw hS (by unfold cp_takesSetUp; rw [if_neg hfn, if_pos c11, if_pos c16]; exact ⟨rfl, rfl, ⟨_, _, ⟨h0, h1, h2, h3, h4⟩, ht0, ht1, hR0, hR1⟩, hF⟩) dX2_takesSetUp_26
      · refine lv_iload_n hx hb dX2_takesSetUp_19 rfl (lv_at hl 0 rfl) ?_
        refine lv_bipush (v := 8) hx hb dX2_takesSetUp_20 (by decide) ?_
        refine lv_icmp_le (tgt := 27) hx hb dX2_takesSetUp_22 (by decide) (fun c22 => ?_) (fun c22 => ?_)
        · have hn8 : M.getD (rf_i M 94 + 1) 0 ≤ 8 := Nat.le_of_not_lt (fun q => absurd c22 (nI_ge (a := 8) q (by omega)))
          refine lv_aload_n hx hb dX2_takesSetUp_27 rfl (lv_at hl 1 rfl) ?_
          refine lv_iload_n hx hb dX2_takesSetUp_28 rfl (lv_at hl 0 rfl) ?_
          refine z_put F hw hS (fs' := [.ref (ad 30), .int 0, .int (T 1 1), .int (T 2 1), .int (T 3 1), .int (T 5 1), .int r1, .int (T 0 1), .int (T 0 7), .int (T 0 2), .int (T 0 8), .int (cl_b0 (T 0 3)), .int (cl_b1 (T 0 3)), .ref (ad 4), .int (nI (M.getD (rf_i M 94 + 1) 0))]) h2 fd_X2_35_X2 ptX2 rfl (rfl) (rfl) (Nat.le_of_ble_eq_true rfl) rfl dX2_takesSetUp_29 (fun ce2 H locs h2 fr3 hw hS => ?_)
          have h0 := (fr3 0 (by decide)).trans h0
          have h1 := (fr3 1 (by decide)).trans h1
          have h3 := (fr3 3 (by decide)).trans h3
          have h4 := (fr3 4 (by decide)).trans h4
          have hR0 := hR0.kept (fun j h1 h2 => fr3 j (by omega))
          have hR1 := hR1.kept (fun j h1 h2 => fr3 j (by omega))
          have hF : ∀ j, (10 ≤ j ∧ j < 30) ∨ 50 ≤ j → _ = ce j := fun j hj => (fr3 j (by omega)).trans (hF j hj)
          have hm := hm.kept (fr3 h (by omega)) (fr3 (h + 1) (by omega))
          refine lv_iconst (v := 0) hx hb dX2_takesSetUp_32 (by decide) ?_
          refine lv_istore_n (lv' := [(3, .int 0), (2, .int (nI (M.getD (rf_i M 94 + 1) 0))), (0, .ref (ad 2)), (1, .ref (ad h))]) hx hb dX2_takesSetUp_33 rfl hl (by decide) rfl (fun ls hl => ?_)
          refine z_loop (α := Nat) (fun t => M.getD (rf_i M 94 + 1) 0 - t) (fun t ce9 ls9 => lv_has ls9 4 [(0, .ref (ad 2)), (1, .ref (ad h)), (2, .int (nI (M.getD (rf_i M 94 + 1) 0))), (3, .int (nI t))] ∧ ce9 4 = some (.inl (zz_cI G, 8, .inl (rf_cp (T 7) M (rf_i M 94) t))) ∧ (∀ j, j ≠ 4 → ce9 j = ce2 j) ∧ t ≤ M.getD (rf_i M 94 + 1) 0) 0 ⟨lv_sub hl [2, 3, 1, 0] rfl, h4, fun _ _ => rfl, Nat.zero_le _⟩ hw hS (fun t ih34 ce9 H locs ls hI hw hS => ?_)
          obtain ⟨hl, h4, frA, htn⟩ := hI
          have h0 := (frA 0 (by decide)).trans h0
          have h1 := (frA 1 (by decide)).trans h1
          have h2 := (frA 2 (by decide)).trans h2
          have h3 := (frA 3 (by decide)).trans h3
          have hR0 := hR0.kept (fun j h1 h2 => frA j (by omega))
          have hR1 := hR1.kept (fun j h1 h2 => frA j (by omega))
          have hm := hm.kept (frA h (by omega)) (frA (h + 1) (by omega))
          have hF : ∀ j, (10 ≤ j ∧ j < 30) ∨ 50 ≤ j → ce9 j = ce j := fun j hj => (frA j (by omega)).trans (hF j hj)
          refine lv_iload_n hx hb dX2_takesSetUp_34 rfl (lv_at hl 3 rfl) ?_
          refine lv_iload_n hx hb dX2_takesSetUp_35 rfl (lv_at hl 2 rfl) ?_
          refine lv_icmp_ge (tgt := 58) hx hb dX2_takesSetUp_36 (by decide) (fun c36 => ?_) (fun c36 => ?_)
          · have hte : t = M.getD (rf_i M 94 + 1) 0 := Nat.le_antisymm htn (Nat.le_of_not_lt (fun q => absurd c36 (nI_ge q (by omega))))
            rw [hte] at h4
            refine lv_aload_n hx hb dX2_takesSetUp_58 rfl (lv_at hl 0 rfl) ?_
            refine z_get F hw h2 fd_X2_41_X2 rfl dX2_takesSetUp_59 ?_
            refine lv_iconst (v := 3) hx hb dX2_takesSetUp_62 (by decide) ?_
            refine lv_iconst (v := 2) hx hb dX2_takesSetUp_63 (by decide) ?_
            obtain ⟨vs9, ho9⟩ := hR1.obj
            refine z_invV F (rest := []) (c_send l 30 _ _ hR1 3 2 (by decide) (by decide)) yv_X2_45 ⟨Nat.le_of_ble_eq_true rfl, Nat.le_of_ble_eq_true rfl⟩ hw hA hS hl ho9 rfl rfl rfl (Nat.le_of_ble_eq_true rfl) dX2_takesSetUp_64 ⟨Nat.le_of_ble_eq_true rfl, Nat.le_of_ble_eq_true rfl⟩ (fun r ad1 ce4 H locs hp hw hS => ?_)
            obtain ⟨rfl, ⟨h9, rfl, hp9⟩, hF2⟩ := hp
            have h0 := (hF2 0 (by decide)).trans h0
            have h1 := (hF2 1 (by decide)).trans h1
            have h2 := (hF2 2 (by decide)).trans h2
            have h3 := (hF2 3 (by decide)).trans h3
            have h4 := (hF2 4 (by decide)).trans h4
            have hR0 := hR0.kept (fun j h1 h2 => hF2 j (by omega))
            have hF : ∀ j, (10 ≤ j ∧ j < 30) ∨ 50 ≤ j → ce4 j = ce j := fun j hj => (hF2 j (by omega)).trans (hF j hj)
            have hm := hm.kept (hF2 h (by omega)) (hF2 (h + 1) (by omega))
            have hR1 : cl_r G ad ce4 30 ((rf_put (va_up (va_up T 0 (va_up (T 0) 10 (nI (M.getD (rf_i M 94 + 1) 0)))) 7 (rf_cp (T 7) M (rf_i M 94) (M.getD (rf_i M 94 + 1) 0))) Q 1 ([3, 2])) 1) (cl_op (va_up (va_up T 0 (va_up (T 0) 10 (nI (M.getD (rf_i M 94 + 1) 0)))) 7 (rf_cp (T 7) M (rf_i M 94) (M.getD (rf_i M 94 + 1) 0)))) := cl_put (x := [3, 2]) hp9.end
            have hR0 : cl_r G ad ce4 10 ((rf_put (va_up (va_up T 0 (va_up (T 0) 10 (nI (M.getD (rf_i M 94 + 1) 0)))) 7 (rf_cp (T 7) M (rf_i M 94) (M.getD (rf_i M 94 + 1) 0))) Q 1 ([3, 2])) 0) (cl_op (va_up (va_up T 0 (va_up (T 0) 10 (nI (M.getD (rf_i M 94 + 1) 0)))) 7 (rf_cp (T 7) M (rf_i M 94) (M.getD (rf_i M 94 + 1) 0)))) := by rw [cl_putn _ _ _ (by decide)]; exact hR0
            refine W.eq (g2 := F0 m 67 ls [.ref (ad h9)]) rfl ?_
            refine lv_pop hx hb dX2_takesSetUp_67 rfl ?_
            refine lv_aload_n hx hb dX2_takesSetUp_68 rfl (lv_at hl 0 rfl) ?_
            refine lv_iconst (v := 1) hx hb dX2_takesSetUp_69 (by decide) ?_
            refine lv_iconst (v := 0) hx hb dX2_takesSetUp_70 (by decide) ?_
            have hV : clV G ad ce4 (va_up (va_up T 0 (va_up (T 0) 10 (nI (M.getD (rf_i M 94 + 1) 0)))) 7 (rf_cp (T 7) M (rf_i M 94) (M.getD (rf_i M 94 + 1) 0))) (rf_put (va_up (va_up T 0 (va_up (T 0) 10 (nI (M.getD (rf_i M 94 + 1) 0)))) 7 (rf_cp (T 7) M (rf_i M 94) (M.getD (rf_i M 94 + 1) 0))) Q 1 ([3, 2])) := ⟨_, _, ⟨h0, h1, h2, h3, h4⟩, ht0, ht1, hR0, hR1⟩
            refine z_invU F (rest := []) (c_setCall1 l (va_up (va_up T 0 (va_up (T 0) 10 (nI (M.getD (rf_i M 94 + 1) 0)))) 7 (rf_cp (T 7) M (rf_i M 94) (M.getD (rf_i M 94 + 1) 0))) (rf_put (va_up (va_up T 0 (va_up (T 0) 10 (nI (M.getD (rf_i M 94 + 1) 0)))) 7 (rf_cp (T 7) M (rf_i M 94) (M.getD (rf_i M 94 + 1) 0))) Q 1 ([3, 2])) hV 1 0) yu_X2_51_X2 ⟨Nat.le_of_ble_eq_true rfl, Nat.le_of_ble_eq_true rfl⟩ hw hA hS hl h2 rfl rfl rfl (Nat.le_of_ble_eq_true rfl) dX2_takesSetUp_71 ⟨Nat.le_of_ble_eq_true rfl, Nat.le_of_ble_eq_true rfl⟩ (fun r ad1 ce5 H locs hp hw hS => ?_)
            obtain ⟨rfl, rfl, hV, hF2⟩ := hp
            have hF : ∀ j, (10 ≤ j ∧ j < 30) ∨ 50 ≤ j → ce5 j = ce j := fun j hj => (hF2 j (by omega)).trans (hF j hj)
            have hm := hm.kept (hF2 h (by omega)) (hF2 (h + 1) (by omega))
            obtain ⟨r0, r1, ⟨h0, h1, h2, h3, h4⟩, ht0, ht1, hR0, hR1⟩ := hV
            refine W.eq (g2 := F0 m 74 ls []) rfl ?_
            refine lv_iconst (v := 1) hx hb dX2_takesSetUp_74 (by decide) ?_
            exact z_iret F (rfl) hw hS (by unfold cp_takesSetUp; rw [if_neg hfn, if_pos c11, if_neg c16, if_pos c22]; exact ⟨rfl, rfl, ⟨_, _, ⟨h0, h1, h2, h3, h4⟩, ht0, ht1, hR0, hR1⟩, hF⟩) dX2_takesSetUp_75
          · have htl : t < M.getD (rf_i M 94 + 1) 0 := Nat.lt_of_not_le (fun q => c36 (nI_le q (by omega)))
            refine lv_aload_n hx hb dX2_takesSetUp_39 rfl (lv_at hl 0 rfl) ?_
            refine z_get F hw h2 fd_X2_31_X2 rfl dX2_takesSetUp_40 ?_
            refine lv_iload_n hx hb dX2_takesSetUp_43 rfl (lv_at hl 3 rfl) ?_
            refine lv_aload_n hx hb dX2_takesSetUp_44 rfl (lv_at hl 1 rfl) ?_
            refine lv_bipush (v := 94) hx hb dX2_takesSetUp_45 (by decide) ?_
            refine lv_iload_n hx hb dX2_takesSetUp_47 rfl (lv_at hl 3 rfl) ?_
            refine z_invV F (rest := [.int (nI t), .ref (ad 4)]) (c_elementByte l h M hm 94 t (rf_i M 94) (by decide) hg hfd htl) yv_X2_141 ⟨Nat.le_of_ble_eq_true rfl, Nat.le_of_ble_eq_true rfl⟩ hw hA hS hl hm.obj rfl rfl rfl (Nat.le_of_ble_eq_true rfl) dX2_takesSetUp_48 ⟨Nat.le_of_ble_eq_true rfl, Nat.le_of_ble_eq_true rfl⟩ (fun r ad1 ce6 H locs hp hw hS => ?_)
            obtain ⟨rfl, rfl, rfl⟩ := hp
            refine W.eq (g2 := F0 m 51 ls [.int (nI (M.getD (rf_i M 94 + 2 + t) 0)), .int (nI t), .ref (ad 4)]) rfl ?_
            refine z_st F hw hS h4 (t) (rfl) (by omega) (by decide) dX2_takesSetUp_51 (fun ce7 H locs h4 fr8 hw hS => ?_)
            have h0 := (fr8 0 (by decide)).trans h0
            have h1 := (fr8 1 (by decide)).trans h1
            have h2 := (fr8 2 (by decide)).trans h2
            have h3 := (fr8 3 (by decide)).trans h3
            have hR0 := hR0.kept (fun j h1 h2 => fr8 j (by omega))
            have hR1 := hR1.kept (fun j h1 h2 => fr8 j (by omega))
            have hF : ∀ j, (10 ≤ j ∧ j < 30) ∨ 50 ≤ j → _ = ce j := fun j hj => (fr8 j (by omega)).trans (hF j hj)
            have hm := hm.kept (fr8 h (by omega)) (fr8 (h + 1) (by omega))
            refine lv_iinc (v := nI (t + 1)) (lv' := [(3, .int (nI (t + 1))), (0, .ref (ad 2)), (1, .ref (ad h)), (2, .int (nI (M.getD (rf_i M 94 + 1) 0)))]) hx hb dX2_takesSetUp_52 hl (k := 3) rfl (nI_1 t) (by decide) rfl (fun ls hl => ?_)
            refine lv_goto (tgt := 34) hx hb dX2_takesSetUp_55 (by decide) ?_
            exact ih34 (t + 1) _ _ _ _ (by omega) ⟨lv_sub hl [1, 2, 3, 0] rfl, h4, fun j hj => (fr8 j hj).trans (frA j hj), by omega⟩ hw hS
        · refine lv_iconst (v := 0) hx hb dX2_takesSetUp_25 (by decide) ?_
          exact z_iret F (rfl) hw hS (by unfold cp_takesSetUp; rw [if_neg hfn, if_pos c11, if_neg c16, if_neg c22]; exact ⟨rfl, rfl, ⟨_, _, ⟨h0, h1, h2, h3, h4⟩, ht0, ht1, hR0, hR1⟩, hF⟩) dX2_takesSetUp_26
def cp_takesManaging1 (T : rf_T) (Q : rf_Q) (M : List Nat) : rf_R := (if M.getD 1 0 = 1 then ((cp_takesDetach T Q).1, ((cp_takesDetach T Q).2.1), (cp_takesDetach T Q).2.2) else (if M.getD 1 0 = 8 then ((cp_takesUpdate T Q M).1, ((cp_takesUpdate T Q M).2.1), (cp_takesUpdate T Q M).2.2) else (if M.getD 1 0 = 20 then ((cp_takesAnswer T Q M).1, ((cp_takesAnswer T Q M).2.1), (cp_takesAnswer T Q M).2.2) else (if M.getD 1 0 = 36 then ((cp_takesService T Q).1, ((cp_takesService T Q).2.1), (cp_takesService T Q).2.2) else (0, T, Q)))))
theorem cp_takesManaging1_b (T : rf_T) (Q : rf_Q) (M : List Nat) : (cp_takesManaging1 T Q M).1 = 0 ∨ (cp_takesManaging1 T Q M).1 = 1 := by unfold cp_takesManaging1; (repeat' split) <;> first | exact Or.inl rfl | exact Or.inr rfl | exact cp_takesDetach_b _ _ | exact cp_takesUpdate_b _ _ _ | exact cp_takesService_b _ _ | exact cp_takesAnswer_b _ _ _
set_option maxHeartbeats 4000000 in
set_option maxRecDepth 100000 in
theorem c_takesManaging1 (l : Launch) {G : zz_G} {ad : Nat → Nat} {ce : zz_C} {sz : Nat} (T : rf_T) (Q : rf_Q) (hV : clV G ad ce T Q) (h : Nat) (M : List Nat) (hm : cl_m G ad ce h M) (hg : rf_good M) (hM2 : 2 ≤ M.length) (hh : 10 ≤ h ∧ h + 1 < 30) : zz_M l yX2_takesManaging cX2_takesManaging 2 (some .boolean) 4 89 0 0 G [.ref (ad 2), .ref (ad h)] ad ce sz (fun r ad1 ce1 => r = some (.int (cp_takesManaging1 T Q M).1) ∧ ad = ad1 ∧ clV G ad ce1 (cp_takesManaging1 T Q M).2.1 (cp_takesManaging1 T Q M).2.2 ∧ (∀ j, (10 ≤ j ∧ j < 30) ∨ 50 ≤ j → ce1 j = ce j)) := by
  refine zz_enter (by decide) (Nat.le_of_ble_eq_true rfl) ?_
  intro p e s m below meth c ls F hl hw hS hA
  obtain ⟨hx, hb, hr, hml, hown, hts, hlocks, hK, hnm⟩ := id F
  have hl : lv_has ls 2 [(0, .ref (ad 2)), (1, .ref (ad h))] := hl
  obtain ⟨r0, r1, ⟨h0, h1, h2, h3, h4⟩, ht0, ht1, hR0, hR1⟩ := hV
  have hF : ∀ j, (10 ≤ j ∧ j < 30) ∨ 50 ≤ j → ce j = ce j := fun _ _ => rfl
  have hty : M.getD 1 0 < 256 := by obtain ⟨f9, -, -, hM9⟩ := id hm; exact (hM9.2 1 (by omega)).2
  refine lv_aload_n hx hb dX2_takesManaging_0 rfl (lv_at hl 1 rfl) ?_
  refine z_invV F (rest := []) (c_type l h M hm hM2) yv_X2_58 ⟨Nat.le_of_ble_eq_true rfl, Nat.le_of_ble_eq_true rfl⟩ hw hA hS hl hm.obj rfl rfl rfl (Nat.le_of_ble_eq_true rfl) dX2_takesManaging_1 ⟨Nat.le_of_ble_eq_true rfl, Nat.le_of_ble_eq_true rfl⟩ (fun r ad1 ce1 H locs hp hw hS => ?_)
  obtain ⟨rfl, rfl, rfl⟩ := hp
  refine W.eq (g2 := F0 m 4 ls [.int (nI (M.getD 1 0))]) rfl ?_
  by_cases h4_1 : M.getD 1 0 = 1
  · refine lv_lookup (tgt := 65) (off := 61) hx hb dX2_takesManaging_4 (by decide) (by rw [h4_1]; rfl) (by decide) ?_
    refine lv_aload_n hx hb dX2_takesManaging_65 rfl (lv_at hl 0 rfl) ?_
    have hV : clV G ad ce T Q := ⟨_, _, ⟨h0, h1, h2, h3, h4⟩, ht0, ht1, hR0, hR1⟩
    refine z_invV F (rest := []) (c_takesDetach l T Q hV) yv_X2_75 ⟨Nat.le_of_ble_eq_true rfl, Nat.le_of_ble_eq_true rfl⟩ hw hA hS hl h2 rfl rfl rfl (Nat.le_of_ble_eq_true rfl) dX2_takesManaging_66 ⟨Nat.le_of_ble_eq_true rfl, Nat.le_of_ble_eq_true rfl⟩ (fun r ad1 ce2 H locs hp hw hS => ?_)
    obtain ⟨rfl, rfl, hV, hF2⟩ := hp
    have hF : ∀ j, (10 ≤ j ∧ j < 30) ∨ 50 ≤ j → ce2 j = ce j := fun j hj => (hF2 j (by omega)).trans (hF j hj)
    have hm := hm.kept (hF2 h (by omega)) (hF2 (h + 1) (by omega))
    obtain ⟨r0, r1, ⟨h0, h1, h2, h3, h4⟩, ht0, ht1, hR0, hR1⟩ := hV
    refine W.eq (g2 := F0 m 69 ls [.int (cp_takesDetach T Q).1]) rfl ?_
    exact z_iret F (cl_bn (cp_takesDetach_b _ _)) hw hS (by unfold cp_takesManaging1; rw [if_pos h4_1]; exact ⟨rfl, rfl, ⟨_, _, ⟨h0, h1, h2, h3, h4⟩, ht0, ht1, hR0, hR1⟩, hF⟩) dX2_takesManaging_69
  by_cases h4_8 : M.getD 1 0 = 8
  · refine lv_lookup (tgt := 48) (off := 44) hx hb dX2_takesManaging_4 (by decide) (by rw [h4_8]; rfl) (by decide) ?_
    refine lv_aload_n hx hb dX2_takesManaging_48 rfl (lv_at hl 0 rfl) ?_
    refine lv_aload_n hx hb dX2_takesManaging_49 rfl (lv_at hl 1 rfl) ?_
    have hV : clV G ad ce T Q := ⟨_, _, ⟨h0, h1, h2, h3, h4⟩, ht0, ht1, hR0, hR1⟩
    refine z_invV F (rest := []) (c_takesUpdate l T Q hV h M hm hg hM2 hh) yv_X2_64 ⟨Nat.le_of_ble_eq_true rfl, Nat.le_of_ble_eq_true rfl⟩ hw hA hS hl h2 rfl rfl rfl (Nat.le_of_ble_eq_true rfl) dX2_takesManaging_50 ⟨Nat.le_of_ble_eq_true rfl, Nat.le_of_ble_eq_true rfl⟩ (fun r ad1 ce3 H locs hp hw hS => ?_)
    obtain ⟨rfl, rfl, hV, hF2⟩ := hp
    have hF : ∀ j, (10 ≤ j ∧ j < 30) ∨ 50 ≤ j → ce3 j = ce j := fun j hj => (hF2 j (by omega)).trans (hF j hj)
    have hm := hm.kept (hF2 h (by omega)) (hF2 (h + 1) (by omega))
    obtain ⟨r0, r1, ⟨h0, h1, h2, h3, h4⟩, ht0, ht1, hR0, hR1⟩ := hV
    refine W.eq (g2 := F0 m 53 ls [.int (cp_takesUpdate T Q M).1]) rfl ?_
    exact z_iret F (cl_bn (cp_takesUpdate_b _ _ _)) hw hS (by unfold cp_takesManaging1; rw [if_neg h4_1, if_pos h4_8]; exact ⟨rfl, rfl, ⟨_, _, ⟨h0, h1, h2, h3, h4⟩, ht0, ht1, hR0, hR1⟩, hF⟩) dX2_takesManaging_53
  by_cases h4_20 : M.getD 1 0 = 20
  · refine lv_lookup (tgt := 59) (off := 55) hx hb dX2_takesManaging_4 (by decide) (by rw [h4_20]; rfl) (by decide) ?_
    refine lv_aload_n hx hb dX2_takesManaging_59 rfl (lv_at hl 0 rfl) ?_
    refine lv_aload_n hx hb dX2_takesManaging_60 rfl (lv_at hl 1 rfl) ?_
    have hV : clV G ad ce T Q := ⟨_, _, ⟨h0, h1, h2, h3, h4⟩, ht0, ht1, hR0, hR1⟩
    refine z_invV F (rest := []) (c_takesAnswer l T Q hV h M hm hg hM2 hh) yv_X2_72 ⟨Nat.le_of_ble_eq_true rfl, Nat.le_of_ble_eq_true rfl⟩ hw hA hS hl h2 rfl rfl rfl (Nat.le_of_ble_eq_true rfl) dX2_takesManaging_61 ⟨Nat.le_of_ble_eq_true rfl, Nat.le_of_ble_eq_true rfl⟩ (fun r ad1 ce4 H locs hp hw hS => ?_)
    obtain ⟨rfl, rfl, hV, hF2⟩ := hp
    have hF : ∀ j, (10 ≤ j ∧ j < 30) ∨ 50 ≤ j → ce4 j = ce j := fun j hj => (hF2 j (by omega)).trans (hF j hj)
    have hm := hm.kept (hF2 h (by omega)) (hF2 (h + 1) (by omega))
    obtain ⟨r0, r1, ⟨h0, h1, h2, h3, h4⟩, ht0, ht1, hR0, hR1⟩ := hV
    refine W.eq (g2 := F0 m 64 ls [.int (cp_takesAnswer T Q M).1]) rfl ?_
    exact z_iret F (cl_bn (cp_takesAnswer_b _ _ _)) hw hS (by unfold cp_takesManaging1; rw [if_neg h4_1, if_neg h4_8, if_pos h4_20]; exact ⟨rfl, rfl, ⟨_, _, ⟨h0, h1, h2, h3, h4⟩, ht0, ht1, hR0, hR1⟩, hF⟩) dX2_takesManaging_64
  by_cases h4_36 : M.getD 1 0 = 36
  · refine lv_lookup (tgt := 54) (off := 50) hx hb dX2_takesManaging_4 (by decide) (by rw [h4_36]; rfl) (by decide) ?_
    refine lv_aload_n hx hb dX2_takesManaging_54 rfl (lv_at hl 0 rfl) ?_
    have hV : clV G ad ce T Q := ⟨_, _, ⟨h0, h1, h2, h3, h4⟩, ht0, ht1, hR0, hR1⟩
    refine z_invV F (rest := []) (c_takesService l T Q hV) yv_X2_68 ⟨Nat.le_of_ble_eq_true rfl, Nat.le_of_ble_eq_true rfl⟩ hw hA hS hl h2 rfl rfl rfl (Nat.le_of_ble_eq_true rfl) dX2_takesManaging_55 ⟨Nat.le_of_ble_eq_true rfl, Nat.le_of_ble_eq_true rfl⟩ (fun r ad1 ce5 H locs hp hw hS => ?_)
    obtain ⟨rfl, rfl, hV, hF2⟩ := hp
    have hF : ∀ j, (10 ≤ j ∧ j < 30) ∨ 50 ≤ j → ce5 j = ce j := fun j hj => (hF2 j (by omega)).trans (hF j hj)
    have hm := hm.kept (hF2 h (by omega)) (hF2 (h + 1) (by omega))
    obtain ⟨r0, r1, ⟨h0, h1, h2, h3, h4⟩, ht0, ht1, hR0, hR1⟩ := hV
    refine W.eq (g2 := F0 m 58 ls [.int (cp_takesService T Q).1]) rfl ?_
    exact z_iret F (cl_bn (cp_takesService_b _ _)) hw hS (by unfold cp_takesManaging1; rw [if_neg h4_1, if_neg h4_8, if_neg h4_20, if_pos h4_36]; exact ⟨rfl, rfl, ⟨_, _, ⟨h0, h1, h2, h3, h4⟩, ht0, ht1, hR0, hR1⟩, hF⟩) dX2_takesManaging_58
  refine lv_lookup (tgt := 70) (off := 66) hx hb dX2_takesManaging_4 (by decide) ((lv_osw (k := 1) (fun q => h4_1 (rf_ei hty (by decide) q)) rfl).trans ((lv_osw (k := 8) (fun q => h4_8 (rf_ei hty (by decide) q)) rfl).trans ((lv_osw (k := 20) (fun q => h4_20 (rf_ei hty (by decide) q)) rfl).trans ((lv_osw (k := 36) (fun q => h4_36 (rf_ei hty (by decide) q)) rfl).trans (rfl))))) (by decide) ?_
  refine lv_iconst (v := 0) hx hb dX2_takesManaging_70 (by decide) ?_
  exact z_iret F (rfl) hw hS (by unfold cp_takesManaging1; rw [if_neg h4_1, if_neg h4_8, if_neg h4_20, if_neg h4_36]; exact ⟨rfl, rfl, ⟨_, _, ⟨h0, h1, h2, h3, h4⟩, ht0, ht1, hR0, hR1⟩, hF⟩) dX2_takesManaging_71
def cp_takesCalling1 (T : rf_T) (Q : rf_Q) (M : List Nat) : rf_R := (if ((T 1 1) : Int32) = 3 then (if M.getD 1 0 = 5 then ((cp_takesSetUp T Q M).1, ((cp_takesSetUp T Q M).2.1), (cp_takesSetUp T Q M).2.2) else (if M.getD 1 0 = 15 then ((cp_takesConnected T Q).1, ((cp_takesConnected T Q).2.1), (cp_takesConnected T Q).2.2) else (if M.getD 1 0 = 37 then ((cp_takesEnd1 T Q M).1, ((cp_takesEnd1 T Q M).2.1), (cp_takesEnd1 T Q M).2.2) else (if M.getD 1 0 = 42 then ((cp_takesReleased1 T Q).1, ((cp_takesReleased1 T Q).2.1), (cp_takesReleased1 T Q).2.2) else (if M.getD 1 0 = 45 then ((cp_takesRelease1 T Q).1, ((cp_takesRelease1 T Q).2.1), (cp_takesRelease1 T Q).2.2) else (0, T, Q)))))) else (0, T, Q))
theorem cp_takesCalling1_b (T : rf_T) (Q : rf_Q) (M : List Nat) : (cp_takesCalling1 T Q M).1 = 0 ∨ (cp_takesCalling1 T Q M).1 = 1 := by unfold cp_takesCalling1; (repeat' split) <;> first | exact Or.inl rfl | exact Or.inr rfl | exact cp_takesEnd1_b _ _ _ | exact cp_takesRelease1_b _ _ | exact cp_takesReleased1_b _ _ | exact cp_takesConnected_b _ _ | exact cp_takesSetUp_b _ _ _
set_option maxHeartbeats 4000000 in
set_option maxRecDepth 100000 in
theorem c_takesCalling1 (l : Launch) {G : zz_G} {ad : Nat → Nat} {ce : zz_C} {sz : Nat} (T : rf_T) (Q : rf_Q) (hV : clV G ad ce T Q) (h : Nat) (M : List Nat) (hm : cl_m G ad ce h M) (hg : rf_good M) (hM2 : 2 ≤ M.length) (hh : 10 ≤ h ∧ h + 1 < 30) : zz_M l yX2_takesCalling cX2_takesCalling 2 (some .boolean) 4 88 0 0 G [.ref (ad 2), .ref (ad h)] ad ce sz (fun r ad1 ce1 => r = some (.int (cp_takesCalling1 T Q M).1) ∧ ad = ad1 ∧ clV G ad ce1 (cp_takesCalling1 T Q M).2.1 (cp_takesCalling1 T Q M).2.2 ∧ (∀ j, (10 ≤ j ∧ j < 30) ∨ 50 ≤ j → ce1 j = ce j)) := by
  refine zz_enter (by decide) (Nat.le_of_ble_eq_true rfl) ?_
  intro p e s m below meth c ls F hl hw hS hA
  obtain ⟨hx, hb, hr, hml, hown, hts, hlocks, hK, hnm⟩ := id F
  have hl : lv_has ls 2 [(0, .ref (ad 2)), (1, .ref (ad h))] := hl
  obtain ⟨r0, r1, ⟨h0, h1, h2, h3, h4⟩, ht0, ht1, hR0, hR1⟩ := hV
  have hF : ∀ j, (10 ≤ j ∧ j < 30) ∨ 50 ≤ j → ce j = ce j := fun _ _ => rfl
  have hty : M.getD 1 0 < 256 := by obtain ⟨f9, -, -, hM9⟩ := id hm; exact (hM9.2 1 (by omega)).2
  refine lv_aload_n hx hb dX2_takesCalling_0 rfl (lv_at hl 0 rfl) ?_
  refine z_get F hw h2 fd_X2_78_X2 rfl dX2_takesCalling_1 ?_
  refine lv_iconst (v := 3) hx hb dX2_takesCalling_4 (by decide) ?_
  refine lv_icmp_eq (tgt := 10) hx hb dX2_takesCalling_5 (by decide) (fun c5 => ?_) (fun c5 => ?_)
  · refine lv_aload_n hx hb dX2_takesCalling_10 rfl (lv_at hl 1 rfl) ?_
    refine z_invV F (rest := []) (c_type l h M hm hM2) yv_X2_58 ⟨Nat.le_of_ble_eq_true rfl, Nat.le_of_ble_eq_true rfl⟩ hw hA hS hl hm.obj rfl rfl rfl (Nat.le_of_ble_eq_true rfl) dX2_takesCalling_11 ⟨Nat.le_of_ble_eq_true rfl, Nat.le_of_ble_eq_true rfl⟩ (fun r ad1 ce1 H locs hp hw hS => ?_)
    obtain ⟨rfl, rfl, rfl⟩ := hp
    refine W.eq (g2 := F0 m 14 ls [.int (nI (M.getD 1 0))]) rfl ?_
    by_cases h14_5 : M.getD 1 0 = 5
    · refine lv_lookup (tgt := 64) (off := 50) hx hb dX2_takesCalling_14 (by decide) (by rw [h14_5]; rfl) (by decide) ?_
      refine lv_aload_n hx hb dX2_takesCalling_64 rfl (lv_at hl 0 rfl) ?_
      refine lv_aload_n hx hb dX2_takesCalling_65 rfl (lv_at hl 1 rfl) ?_
      have hV : clV G ad ce T Q := ⟨_, _, ⟨h0, h1, h2, h3, h4⟩, ht0, ht1, hR0, hR1⟩
      refine z_invV F (rest := []) (c_takesSetUp l T Q hV h M hm hg hM2 hh) yv_X2_81 ⟨Nat.le_of_ble_eq_true rfl, Nat.le_of_ble_eq_true rfl⟩ hw hA hS hl h2 rfl rfl rfl (Nat.le_of_ble_eq_true rfl) dX2_takesCalling_66 ⟨Nat.le_of_ble_eq_true rfl, Nat.le_of_ble_eq_true rfl⟩ (fun r ad1 ce2 H locs hp hw hS => ?_)
      obtain ⟨rfl, rfl, hV, hF2⟩ := hp
      have hF : ∀ j, (10 ≤ j ∧ j < 30) ∨ 50 ≤ j → ce2 j = ce j := fun j hj => (hF2 j (by omega)).trans (hF j hj)
      have hm := hm.kept (hF2 h (by omega)) (hF2 (h + 1) (by omega))
      obtain ⟨r0, r1, ⟨h0, h1, h2, h3, h4⟩, ht0, ht1, hR0, hR1⟩ := hV
      refine W.eq (g2 := F0 m 69 ls [.int (cp_takesSetUp T Q M).1]) rfl ?_
      exact z_iret F (cl_bn (cp_takesSetUp_b _ _ _)) hw hS (by unfold cp_takesCalling1; rw [if_pos c5, if_pos h14_5]; exact ⟨rfl, rfl, ⟨_, _, ⟨h0, h1, h2, h3, h4⟩, ht0, ht1, hR0, hR1⟩, hF⟩) dX2_takesCalling_69
    by_cases h14_15 : M.getD 1 0 = 15
    · refine lv_lookup (tgt := 70) (off := 56) hx hb dX2_takesCalling_14 (by decide) (by rw [h14_15]; rfl) (by decide) ?_
      refine lv_aload_n hx hb dX2_takesCalling_70 rfl (lv_at hl 0 rfl) ?_
      have hV : clV G ad ce T Q := ⟨_, _, ⟨h0, h1, h2, h3, h4⟩, ht0, ht1, hR0, hR1⟩
      refine z_invV F (rest := []) (c_takesConnected l T Q hV) yv_X2_84 ⟨Nat.le_of_ble_eq_true rfl, Nat.le_of_ble_eq_true rfl⟩ hw hA hS hl h2 rfl rfl rfl (Nat.le_of_ble_eq_true rfl) dX2_takesCalling_71 ⟨Nat.le_of_ble_eq_true rfl, Nat.le_of_ble_eq_true rfl⟩ (fun r ad1 ce3 H locs hp hw hS => ?_)
      obtain ⟨rfl, rfl, hV, hF2⟩ := hp
      have hF : ∀ j, (10 ≤ j ∧ j < 30) ∨ 50 ≤ j → ce3 j = ce j := fun j hj => (hF2 j (by omega)).trans (hF j hj)
      have hm := hm.kept (hF2 h (by omega)) (hF2 (h + 1) (by omega))
      obtain ⟨r0, r1, ⟨h0, h1, h2, h3, h4⟩, ht0, ht1, hR0, hR1⟩ := hV
      refine W.eq (g2 := F0 m 74 ls [.int (cp_takesConnected T Q).1]) rfl ?_
      exact z_iret F (cl_bn (cp_takesConnected_b _ _)) hw hS (by unfold cp_takesCalling1; rw [if_pos c5, if_neg h14_5, if_pos h14_15]; exact ⟨rfl, rfl, ⟨_, _, ⟨h0, h1, h2, h3, h4⟩, ht0, ht1, hR0, hR1⟩, hF⟩) dX2_takesCalling_74
    by_cases h14_37 : M.getD 1 0 = 37
    · refine lv_lookup (tgt := 75) (off := 61) hx hb dX2_takesCalling_14 (by decide) (by rw [h14_37]; rfl) (by decide) ?_
      refine lv_aload_n hx hb dX2_takesCalling_75 rfl (lv_at hl 0 rfl) ?_
      refine lv_aload_n hx hb dX2_takesCalling_76 rfl (lv_at hl 1 rfl) ?_
      have hV : clV G ad ce T Q := ⟨_, _, ⟨h0, h1, h2, h3, h4⟩, ht0, ht1, hR0, hR1⟩
      refine z_invU F (rest := []) (c_takesEnd1 l T Q hV h M hm hg hM2 hh) yu_X2_87_X2 ⟨Nat.le_of_ble_eq_true rfl, Nat.le_of_ble_eq_true rfl⟩ hw hA hS hl h2 rfl rfl rfl (Nat.le_of_ble_eq_true rfl) dX2_takesCalling_77 ⟨Nat.le_of_ble_eq_true rfl, Nat.le_of_ble_eq_true rfl⟩ (fun r ad1 ce4 H locs hp hw hS => ?_)
      obtain ⟨rfl, rfl, hV, hF2⟩ := hp
      have hF : ∀ j, (10 ≤ j ∧ j < 30) ∨ 50 ≤ j → ce4 j = ce j := fun j hj => (hF2 j (by omega)).trans (hF j hj)
      have hm := hm.kept (hF2 h (by omega)) (hF2 (h + 1) (by omega))
      obtain ⟨r0, r1, ⟨h0, h1, h2, h3, h4⟩, ht0, ht1, hR0, hR1⟩ := hV
      refine W.eq (g2 := F0 m 80 ls [.int (cp_takesEnd1 T Q M).1]) rfl ?_
      exact z_iret F (cl_bn (cp_takesEnd1_b _ _ _)) hw hS (by unfold cp_takesCalling1; rw [if_pos c5, if_neg h14_5, if_neg h14_15, if_pos h14_37]; exact ⟨rfl, rfl, ⟨_, _, ⟨h0, h1, h2, h3, h4⟩, ht0, ht1, hR0, hR1⟩, hF⟩) dX2_takesCalling_80
    by_cases h14_42 : M.getD 1 0 = 42
    · refine lv_lookup (tgt := 86) (off := 72) hx hb dX2_takesCalling_14 (by decide) (by rw [h14_42]; rfl) (by decide) ?_
      refine lv_aload_n hx hb dX2_takesCalling_86 rfl (lv_at hl 0 rfl) ?_
      have hV : clV G ad ce T Q := ⟨_, _, ⟨h0, h1, h2, h3, h4⟩, ht0, ht1, hR0, hR1⟩
      refine z_invU F (rest := []) (c_takesReleased1 l T Q hV) yu_X2_93_X2 ⟨Nat.le_of_ble_eq_true rfl, Nat.le_of_ble_eq_true rfl⟩ hw hA hS hl h2 rfl rfl rfl (Nat.le_of_ble_eq_true rfl) dX2_takesCalling_87 ⟨Nat.le_of_ble_eq_true rfl, Nat.le_of_ble_eq_true rfl⟩ (fun r ad1 ce5 H locs hp hw hS => ?_)
      obtain ⟨rfl, rfl, hV, hF2⟩ := hp
      have hF : ∀ j, (10 ≤ j ∧ j < 30) ∨ 50 ≤ j → ce5 j = ce j := fun j hj => (hF2 j (by omega)).trans (hF j hj)
      have hm := hm.kept (hF2 h (by omega)) (hF2 (h + 1) (by omega))
      obtain ⟨r0, r1, ⟨h0, h1, h2, h3, h4⟩, ht0, ht1, hR0, hR1⟩ := hV
      refine W.eq (g2 := F0 m 90 ls [.int (cp_takesReleased1 T Q).1]) rfl ?_
      exact z_iret F (cl_bn (cp_takesReleased1_b _ _)) hw hS (by unfold cp_takesCalling1; rw [if_pos c5, if_neg h14_5, if_neg h14_15, if_neg h14_37, if_pos h14_42]; exact ⟨rfl, rfl, ⟨_, _, ⟨h0, h1, h2, h3, h4⟩, ht0, ht1, hR0, hR1⟩, hF⟩) dX2_takesCalling_90
    by_cases h14_45 : M.getD 1 0 = 45
    · refine lv_lookup (tgt := 81) (off := 67) hx hb dX2_takesCalling_14 (by decide) (by rw [h14_45]; rfl) (by decide) ?_
      refine lv_aload_n hx hb dX2_takesCalling_81 rfl (lv_at hl 0 rfl) ?_
      have hV : clV G ad ce T Q := ⟨_, _, ⟨h0, h1, h2, h3, h4⟩, ht0, ht1, hR0, hR1⟩
      refine z_invU F (rest := []) (c_takesRelease1 l T Q hV) yu_X2_90_X2 ⟨Nat.le_of_ble_eq_true rfl, Nat.le_of_ble_eq_true rfl⟩ hw hA hS hl h2 rfl rfl rfl (Nat.le_of_ble_eq_true rfl) dX2_takesCalling_82 ⟨Nat.le_of_ble_eq_true rfl, Nat.le_of_ble_eq_true rfl⟩ (fun r ad1 ce6 H locs hp hw hS => ?_)
      obtain ⟨rfl, rfl, hV, hF2⟩ := hp
      have hF : ∀ j, (10 ≤ j ∧ j < 30) ∨ 50 ≤ j → ce6 j = ce j := fun j hj => (hF2 j (by omega)).trans (hF j hj)
      have hm := hm.kept (hF2 h (by omega)) (hF2 (h + 1) (by omega))
      obtain ⟨r0, r1, ⟨h0, h1, h2, h3, h4⟩, ht0, ht1, hR0, hR1⟩ := hV
      refine W.eq (g2 := F0 m 85 ls [.int (cp_takesRelease1 T Q).1]) rfl ?_
      exact z_iret F (cl_bn (cp_takesRelease1_b _ _)) hw hS (by unfold cp_takesCalling1; rw [if_pos c5, if_neg h14_5, if_neg h14_15, if_neg h14_37, if_neg h14_42, if_pos h14_45]; exact ⟨rfl, rfl, ⟨_, _, ⟨h0, h1, h2, h3, h4⟩, ht0, ht1, hR0, hR1⟩, hF⟩) dX2_takesCalling_85
    refine lv_lookup (tgt := 91) (off := 77) hx hb dX2_takesCalling_14 (by decide) ((lv_osw (k := 5) (fun q => h14_5 (rf_ei hty (by decide) q)) rfl).trans ((lv_osw (k := 15) (fun q => h14_15 (rf_ei hty (by decide) q)) rfl).trans ((lv_osw (k := 37) (fun q => h14_37 (rf_ei hty (by decide) q)) rfl).trans ((lv_osw (k := 42) (fun q => h14_42 (rf_ei hty (by decide) q)) rfl).trans ((lv_osw (k := 45) (fun q => h14_45 (rf_ei hty (by decide) q)) rfl).trans (rfl)))))) (by decide) ?_
    refine lv_iconst (v := 0) hx hb dX2_takesCalling_91 (by decide) ?_
    exact z_iret F (rfl) hw hS (by unfold cp_takesCalling1; rw [if_pos c5, if_neg h14_5, if_neg h14_15, if_neg h14_37, if_neg h14_42, if_neg h14_45]; exact ⟨rfl, rfl, ⟨_, _, ⟨h0, h1, h2, h3, h4⟩, ht0, ht1, hR0, hR1⟩, hF⟩) dX2_takesCalling_92
  · refine lv_iconst (v := 0) hx hb dX2_takesCalling_8 (by decide) ?_
    exact z_iret F (rfl) hw hS (by unfold cp_takesCalling1; rw [if_neg c5]; exact ⟨rfl, rfl, ⟨_, _, ⟨h0, h1, h2, h3, h4⟩, ht0, ht1, hR0, hR1⟩, hF⟩) dX2_takesCalling_9
def cp_takes0 (T : rf_T) (Q : rf_Q) (M : List Nat) (d : Nat) : rf_R := (if rf_good M then (if M.getD 0 0 = 3 then ((cp_takesCalling0 T Q M).1, ((cp_takesCalling0 T Q M).2.1), (cp_takesCalling0 T Q M).2.2) else (if M.getD 0 0 = 5 then ((cp_takesManaging0 T Q M d).1, ((cp_takesManaging0 T Q M d).2.1), (cp_takesManaging0 T Q M d).2.2) else (0, T, Q))) else (0, T, Q))
theorem cp_takes0_b (T : rf_T) (Q : rf_Q) (M : List Nat) (d : Nat) : (cp_takes0 T Q M d).1 = 0 ∨ (cp_takes0 T Q M d).1 = 1 := by unfold cp_takes0; (repeat' split) <;> first | exact Or.inl rfl | exact Or.inr rfl | exact cp_takesManaging0_b _ _ _ _ | exact cp_takesCalling0_b _ _ _
set_option maxHeartbeats 4000000 in
set_option maxRecDepth 100000 in
theorem c_takes0 (l : Launch) {G : zz_G} {ad : Nat → Nat} {ce : zz_C} {sz : Nat} (T : rf_T) (Q : rf_Q) (hV : clV G ad ce T Q) (h : Nat) (M : List Nat) (hm : cl_m G ad ce h M) (hM2 : 2 ≤ M.length) (hh : 30 ≤ h ∧ h + 1 < 50) (d : Nat) (hd : d ≤ 8) (hdc : T 0 9 = nI d) : zz_M l yX3_takes cX3_takes 2 (some .boolean) 5 111 0 0 G [.ref (ad 1), .ref (ad h)] ad ce sz (fun r ad1 ce1 => r = some (.int (cp_takes0 T Q M d).1) ∧ ad = ad1 ∧ clV G ad ce1 (cp_takes0 T Q M d).2.1 (cp_takes0 T Q M d).2.2 ∧ (∀ j, 30 ≤ j → ce1 j = ce j)) := by
  refine zz_enter (by decide) (Nat.le_of_ble_eq_true rfl) ?_
  intro p e s m below meth c ls F hl hw hS hA
  obtain ⟨hx, hb, hr, hml, hown, hts, hlocks, hK, hnm⟩ := id F
  have hl : lv_has ls 2 [(0, .ref (ad 1)), (1, .ref (ad h))] := hl
  obtain ⟨r0, r1, ⟨h0, h1, h2, h3, h4⟩, ht0, ht1, hR0, hR1⟩ := hV
  have hF : ∀ j, 30 ≤ j → ce j = ce j := fun _ _ => rfl
  have hpt : M.getD 0 0 < 256 := by obtain ⟨f9, -, -, hM9⟩ := id hm; exact (hM9.2 0 (by omega)).2
  refine lv_aload_n hx hb dX3_takes_0 rfl (lv_at hl 1 rfl) ?_
  refine z_invV F (rest := []) (c_isGood l h M hm) yv_X3_38 ⟨Nat.le_of_ble_eq_true rfl, Nat.le_of_ble_eq_true rfl⟩ hw hA hS hl hm.obj rfl rfl rfl (Nat.le_of_ble_eq_true rfl) dX3_takes_1 ⟨Nat.le_of_ble_eq_true rfl, Nat.le_of_ble_eq_true rfl⟩ (fun r ad1 ce1 H locs hp hw hS => ?_)
  obtain ⟨hp, rfl, rfl⟩ := hp
  rcases hp with ⟨hg, rfl⟩ | ⟨hg, rfl⟩
  · refine W.eq (g2 := F0 m 4 ls [.int 1]) rfl ?_
    refine lv_if_ne (tgt := 9) hx hb dX3_takes_4 (by decide) (fun c4 => ?_) (fun c4 => absurd c4 (by decide))
    refine lv_aload_n hx hb dX3_takes_9 rfl (lv_at hl 1 rfl) ?_
    refine z_invV F (rest := []) (c_protocol l h M hm hM2) yv_X3_44 ⟨Nat.le_of_ble_eq_true rfl, Nat.le_of_ble_eq_true rfl⟩ hw hA hS hl hm.obj rfl rfl rfl (Nat.le_of_ble_eq_true rfl) dX3_takes_10 ⟨Nat.le_of_ble_eq_true rfl, Nat.le_of_ble_eq_true rfl⟩ (fun r ad1 ce2 H locs hp hw hS => ?_)
    obtain ⟨rfl, rfl, rfl⟩ := hp
    refine W.eq (g2 := F0 m 13 ls [.int (nI (M.getD 0 0))]) rfl ?_
    by_cases h13_3 : M.getD 0 0 = 3
    · refine lv_lookup (tgt := 46) (off := 33) hx hb dX3_takes_13 (by decide) (by rw [h13_3]; rfl) (by decide) ?_
      refine lv_aload_n hx hb dX3_takes_46 rfl (lv_at hl 0 rfl) ?_
      refine lv_aload_n hx hb dX3_takes_47 rfl (lv_at hl 1 rfl) ?_
      have hV : clV G ad ce T Q := ⟨_, _, ⟨h0, h1, h2, h3, h4⟩, ht0, ht1, hR0, hR1⟩
      refine z_invU F (rest := []) (c_takesCalling0 l T Q hV h M hm hg hM2 hh) yu_X3_52_X1 ⟨Nat.le_of_ble_eq_true rfl, Nat.le_of_ble_eq_true rfl⟩ hw hA hS hl h1 rfl rfl rfl (Nat.le_of_ble_eq_true rfl) dX3_takes_48 ⟨Nat.le_of_ble_eq_true rfl, Nat.le_of_ble_eq_true rfl⟩ (fun r ad1 ce3 H locs hp hw hS => ?_)
      obtain ⟨rfl, rfl, hV, hF2⟩ := hp
      have hF : ∀ j, 30 ≤ j → ce3 j = ce j := fun j hj => (hF2 j (by omega)).trans (hF j hj)
      have hm := hm.kept (hF2 h (by omega)) (hF2 (h + 1) (by omega))
      obtain ⟨r0, r1, ⟨h0, h1, h2, h3, h4⟩, ht0, ht1, hR0, hR1⟩ := hV
      refine W.eq (g2 := F0 m 51 ls [.int (cp_takesCalling0 T Q M).1]) rfl ?_
      exact z_iret F (cl_bn (cp_takesCalling0_b _ _ _)) hw hS (by unfold cp_takes0; rw [if_pos hg, if_pos h13_3]; exact ⟨rfl, rfl, ⟨_, _, ⟨h0, h1, h2, h3, h4⟩, ht0, ht1, hR0, hR1⟩, hF⟩) dX3_takes_51
    by_cases h13_5 : M.getD 0 0 = 5
    · refine lv_lookup (tgt := 40) (off := 27) hx hb dX3_takes_13 (by decide) (by rw [h13_5]; rfl) (by decide) ?_
      refine lv_aload_n hx hb dX3_takes_40 rfl (lv_at hl 0 rfl) ?_
      refine lv_aload_n hx hb dX3_takes_41 rfl (lv_at hl 1 rfl) ?_
      have hV : clV G ad ce T Q := ⟨_, _, ⟨h0, h1, h2, h3, h4⟩, ht0, ht1, hR0, hR1⟩
      refine z_invU F (rest := []) (c_takesManaging0 l T Q hV h M hm hg hM2 hh d hd hdc) yu_X3_48_X1 ⟨Nat.le_of_ble_eq_true rfl, Nat.le_of_ble_eq_true rfl⟩ hw hA hS hl h1 rfl rfl rfl (Nat.le_of_ble_eq_true rfl) dX3_takes_42 ⟨Nat.le_of_ble_eq_true rfl, Nat.le_of_ble_eq_true rfl⟩ (fun r ad1 ce4 H locs hp hw hS => ?_)
      obtain ⟨rfl, rfl, hV, hF2⟩ := hp
      have hF : ∀ j, 30 ≤ j → ce4 j = ce j := fun j hj => (hF2 j (by omega)).trans (hF j hj)
      have hm := hm.kept (hF2 h (by omega)) (hF2 (h + 1) (by omega))
      obtain ⟨r0, r1, ⟨h0, h1, h2, h3, h4⟩, ht0, ht1, hR0, hR1⟩ := hV
      refine W.eq (g2 := F0 m 45 ls [.int (cp_takesManaging0 T Q M d).1]) rfl ?_
      exact z_iret F (cl_bn (cp_takesManaging0_b _ _ _ _)) hw hS (by unfold cp_takes0; rw [if_pos hg, if_neg h13_3, if_pos h13_5]; exact ⟨rfl, rfl, ⟨_, _, ⟨h0, h1, h2, h3, h4⟩, ht0, ht1, hR0, hR1⟩, hF⟩) dX3_takes_45
    refine lv_lookup (tgt := 52) (off := 39) hx hb dX3_takes_13 (by decide) ((lv_osw (k := 3) (fun q => h13_3 (rf_ei hpt (by decide) q)) rfl).trans ((lv_osw (k := 5) (fun q => h13_5 (rf_ei hpt (by decide) q)) rfl).trans (rfl))) (by decide) ?_
    refine lv_iconst (v := 0) hx hb dX3_takes_52 (by decide) ?_
    exact z_iret F (rfl) hw hS (by unfold cp_takes0; rw [if_pos hg, if_neg h13_3, if_neg h13_5]; exact ⟨rfl, rfl, ⟨_, _, ⟨h0, h1, h2, h3, h4⟩, ht0, ht1, hR0, hR1⟩, hF⟩) dX3_takes_53
  · refine W.eq (g2 := F0 m 4 ls [.int 0]) rfl ?_
    refine lv_if_ne (tgt := 9) hx hb dX3_takes_4 (by decide) (fun c4 => absurd c4 (by decide)) (fun c4 => ?_)
    refine lv_iconst (v := 0) hx hb dX3_takes_7 (by decide) ?_
    exact z_iret F (rfl) hw hS (by unfold cp_takes0; rw [if_neg hg]; exact ⟨rfl, rfl, ⟨_, _, ⟨h0, h1, h2, h3, h4⟩, ht0, ht1, hR0, hR1⟩, hF⟩) dX3_takes_8
def cp_takes1 (T : rf_T) (Q : rf_Q) (M : List Nat) : rf_R := (if rf_good M then (if M.getD 0 0 = 3 then ((cp_takesCalling1 T Q M).1, ((cp_takesCalling1 T Q M).2.1), (cp_takesCalling1 T Q M).2.2) else (if M.getD 0 0 = 5 then ((cp_takesManaging1 T Q M).1, ((cp_takesManaging1 T Q M).2.1), (cp_takesManaging1 T Q M).2.2) else (0, T, Q))) else (0, T, Q))
theorem cp_takes1_b (T : rf_T) (Q : rf_Q) (M : List Nat) : (cp_takes1 T Q M).1 = 0 ∨ (cp_takes1 T Q M).1 = 1 := by unfold cp_takes1; (repeat' split) <;> first | exact Or.inl rfl | exact Or.inr rfl | exact cp_takesManaging1_b _ _ _ | exact cp_takesCalling1_b _ _ _
set_option maxHeartbeats 4000000 in
set_option maxRecDepth 100000 in
theorem c_takes1 (l : Launch) {G : zz_G} {ad : Nat → Nat} {ce : zz_C} {sz : Nat} (T : rf_T) (Q : rf_Q) (hV : clV G ad ce T Q) (h : Nat) (M : List Nat) (hm : cl_m G ad ce h M) (hM2 : 2 ≤ M.length) (hh : 10 ≤ h ∧ h + 1 < 30) : zz_M l yX3_takes cX3_takes 2 (some .boolean) 5 111 0 0 G [.ref (ad 2), .ref (ad h)] ad ce sz (fun r ad1 ce1 => r = some (.int (cp_takes1 T Q M).1) ∧ ad = ad1 ∧ clV G ad ce1 (cp_takes1 T Q M).2.1 (cp_takes1 T Q M).2.2 ∧ (∀ j, (10 ≤ j ∧ j < 30) ∨ 50 ≤ j → ce1 j = ce j)) := by
  refine zz_enter (by decide) (Nat.le_of_ble_eq_true rfl) ?_
  intro p e s m below meth c ls F hl hw hS hA
  obtain ⟨hx, hb, hr, hml, hown, hts, hlocks, hK, hnm⟩ := id F
  have hl : lv_has ls 2 [(0, .ref (ad 2)), (1, .ref (ad h))] := hl
  obtain ⟨r0, r1, ⟨h0, h1, h2, h3, h4⟩, ht0, ht1, hR0, hR1⟩ := hV
  have hF : ∀ j, (10 ≤ j ∧ j < 30) ∨ 50 ≤ j → ce j = ce j := fun _ _ => rfl
  have hpt : M.getD 0 0 < 256 := by obtain ⟨f9, -, -, hM9⟩ := id hm; exact (hM9.2 0 (by omega)).2
  refine lv_aload_n hx hb dX3_takes_0 rfl (lv_at hl 1 rfl) ?_
  refine z_invV F (rest := []) (c_isGood l h M hm) yv_X3_38 ⟨Nat.le_of_ble_eq_true rfl, Nat.le_of_ble_eq_true rfl⟩ hw hA hS hl hm.obj rfl rfl rfl (Nat.le_of_ble_eq_true rfl) dX3_takes_1 ⟨Nat.le_of_ble_eq_true rfl, Nat.le_of_ble_eq_true rfl⟩ (fun r ad1 ce1 H locs hp hw hS => ?_)
  obtain ⟨hp, rfl, rfl⟩ := hp
  rcases hp with ⟨hg, rfl⟩ | ⟨hg, rfl⟩
  · refine W.eq (g2 := F0 m 4 ls [.int 1]) rfl ?_
    refine lv_if_ne (tgt := 9) hx hb dX3_takes_4 (by decide) (fun c4 => ?_) (fun c4 => absurd c4 (by decide))
    refine lv_aload_n hx hb dX3_takes_9 rfl (lv_at hl 1 rfl) ?_
    refine z_invV F (rest := []) (c_protocol l h M hm hM2) yv_X3_44 ⟨Nat.le_of_ble_eq_true rfl, Nat.le_of_ble_eq_true rfl⟩ hw hA hS hl hm.obj rfl rfl rfl (Nat.le_of_ble_eq_true rfl) dX3_takes_10 ⟨Nat.le_of_ble_eq_true rfl, Nat.le_of_ble_eq_true rfl⟩ (fun r ad1 ce2 H locs hp hw hS => ?_)
    obtain ⟨rfl, rfl, rfl⟩ := hp
    refine W.eq (g2 := F0 m 13 ls [.int (nI (M.getD 0 0))]) rfl ?_
    by_cases h13_3 : M.getD 0 0 = 3
    · refine lv_lookup (tgt := 46) (off := 33) hx hb dX3_takes_13 (by decide) (by rw [h13_3]; rfl) (by decide) ?_
      refine lv_aload_n hx hb dX3_takes_46 rfl (lv_at hl 0 rfl) ?_
      refine lv_aload_n hx hb dX3_takes_47 rfl (lv_at hl 1 rfl) ?_
      have hV : clV G ad ce T Q := ⟨_, _, ⟨h0, h1, h2, h3, h4⟩, ht0, ht1, hR0, hR1⟩
      refine z_invU F (rest := []) (c_takesCalling1 l T Q hV h M hm hg hM2 hh) yu_X3_52_X2 ⟨Nat.le_of_ble_eq_true rfl, Nat.le_of_ble_eq_true rfl⟩ hw hA hS hl h2 rfl rfl rfl (Nat.le_of_ble_eq_true rfl) dX3_takes_48 ⟨Nat.le_of_ble_eq_true rfl, Nat.le_of_ble_eq_true rfl⟩ (fun r ad1 ce3 H locs hp hw hS => ?_)
      obtain ⟨rfl, rfl, hV, hF2⟩ := hp
      have hF : ∀ j, (10 ≤ j ∧ j < 30) ∨ 50 ≤ j → ce3 j = ce j := fun j hj => (hF2 j (by omega)).trans (hF j hj)
      have hm := hm.kept (hF2 h (by omega)) (hF2 (h + 1) (by omega))
      obtain ⟨r0, r1, ⟨h0, h1, h2, h3, h4⟩, ht0, ht1, hR0, hR1⟩ := hV
      refine W.eq (g2 := F0 m 51 ls [.int (cp_takesCalling1 T Q M).1]) rfl ?_
      exact z_iret F (cl_bn (cp_takesCalling1_b _ _ _)) hw hS (by unfold cp_takes1; rw [if_pos hg, if_pos h13_3]; exact ⟨rfl, rfl, ⟨_, _, ⟨h0, h1, h2, h3, h4⟩, ht0, ht1, hR0, hR1⟩, hF⟩) dX3_takes_51
    by_cases h13_5 : M.getD 0 0 = 5
    · refine lv_lookup (tgt := 40) (off := 27) hx hb dX3_takes_13 (by decide) (by rw [h13_5]; rfl) (by decide) ?_
      refine lv_aload_n hx hb dX3_takes_40 rfl (lv_at hl 0 rfl) ?_
      refine lv_aload_n hx hb dX3_takes_41 rfl (lv_at hl 1 rfl) ?_
      have hV : clV G ad ce T Q := ⟨_, _, ⟨h0, h1, h2, h3, h4⟩, ht0, ht1, hR0, hR1⟩
      refine z_invU F (rest := []) (c_takesManaging1 l T Q hV h M hm hg hM2 hh) yu_X3_48_X2 ⟨Nat.le_of_ble_eq_true rfl, Nat.le_of_ble_eq_true rfl⟩ hw hA hS hl h2 rfl rfl rfl (Nat.le_of_ble_eq_true rfl) dX3_takes_42 ⟨Nat.le_of_ble_eq_true rfl, Nat.le_of_ble_eq_true rfl⟩ (fun r ad1 ce4 H locs hp hw hS => ?_)
      obtain ⟨rfl, rfl, hV, hF2⟩ := hp
      have hF : ∀ j, (10 ≤ j ∧ j < 30) ∨ 50 ≤ j → ce4 j = ce j := fun j hj => (hF2 j (by omega)).trans (hF j hj)
      have hm := hm.kept (hF2 h (by omega)) (hF2 (h + 1) (by omega))
      obtain ⟨r0, r1, ⟨h0, h1, h2, h3, h4⟩, ht0, ht1, hR0, hR1⟩ := hV
      refine W.eq (g2 := F0 m 45 ls [.int (cp_takesManaging1 T Q M).1]) rfl ?_
      exact z_iret F (cl_bn (cp_takesManaging1_b _ _ _)) hw hS (by unfold cp_takes1; rw [if_pos hg, if_neg h13_3, if_pos h13_5]; exact ⟨rfl, rfl, ⟨_, _, ⟨h0, h1, h2, h3, h4⟩, ht0, ht1, hR0, hR1⟩, hF⟩) dX3_takes_45
    refine lv_lookup (tgt := 52) (off := 39) hx hb dX3_takes_13 (by decide) ((lv_osw (k := 3) (fun q => h13_3 (rf_ei hpt (by decide) q)) rfl).trans ((lv_osw (k := 5) (fun q => h13_5 (rf_ei hpt (by decide) q)) rfl).trans (rfl))) (by decide) ?_
    refine lv_iconst (v := 0) hx hb dX3_takes_52 (by decide) ?_
    exact z_iret F (rfl) hw hS (by unfold cp_takes1; rw [if_pos hg, if_neg h13_3, if_neg h13_5]; exact ⟨rfl, rfl, ⟨_, _, ⟨h0, h1, h2, h3, h4⟩, ht0, ht1, hR0, hR1⟩, hF⟩) dX3_takes_53
  · refine W.eq (g2 := F0 m 4 ls [.int 0]) rfl ?_
    refine lv_if_ne (tgt := 9) hx hb dX3_takes_4 (by decide) (fun c4 => absurd c4 (by decide)) (fun c4 => ?_)
    refine lv_iconst (v := 0) hx hb dX3_takes_7 (by decide) ?_
    exact z_iret F (rfl) hw hS (by unfold cp_takes1; rw [if_neg hg]; exact ⟨rfl, rfl, ⟨_, _, ⟨h0, h1, h2, h3, h4⟩, ht0, ht1, hR0, hR1⟩, hF⟩) dX3_takes_8
def cp_endsTimer0 (T : rf_T) (Q : rf_Q) : rf_R := (if ((T 3 0) : Int32) = 0 then (0, T, Q) else (if (((T 3 0) - 1) : Int32) ≤ 0 then (1, ((cp_timeOut0 (va_up T 3 (upd (T 3) 0 ((T 3 0) - 1))) Q).2.1), (cp_timeOut0 (va_up T 3 (upd (T 3) 0 ((T 3 0) - 1))) Q).2.2) else (0, va_up T 3 (upd (T 3) 0 ((T 3 0) - 1)), Q)))
theorem cp_endsTimer0_b (T : rf_T) (Q : rf_Q) : (cp_endsTimer0 T Q).1 = 0 ∨ (cp_endsTimer0 T Q).1 = 1 := by unfold cp_endsTimer0; (repeat' split) <;> first | exact Or.inl rfl | exact Or.inr rfl
set_option maxHeartbeats 4000000 in
set_option maxRecDepth 100000 in
theorem c_endsTimer0 (l : Launch) {G : zz_G} {ad : Nat → Nat} {ce : zz_C} {sz : Nat} (T : rf_T) (Q : rf_Q) (hV : clV G ad ce T Q) : zz_M l yX3_endsTimer cX3_endsTimer 1 (some .boolean) 5 105 0 0 G [.ref (ad 1)] ad ce sz (fun r ad1 ce1 => r = some (.int (cp_endsTimer0 T Q).1) ∧ ad = ad1 ∧ clV G ad ce1 (cp_endsTimer0 T Q).2.1 (cp_endsTimer0 T Q).2.2 ∧ (∀ j, 30 ≤ j → ce1 j = ce j)) := by
  refine zz_enter (by decide) (Nat.le_of_ble_eq_true rfl) ?_
  intro p e s m below meth c ls F hl hw hS hA
  obtain ⟨hx, hb, hr, hml, hown, hts, hlocks, hK, hnm⟩ := id F
  have hl : lv_has ls 1 [(0, .ref (ad 1))] := hl
  obtain ⟨r0, r1, ⟨h0, h1, h2, h3, h4⟩, ht0, ht1, hR0, hR1⟩ := hV
  have hF : ∀ j, 30 ≤ j → ce j = ce j := fun _ _ => rfl
  refine lv_aload_n hx hb dX3_endsTimer_0 rfl (lv_at hl 0 rfl) ?_
  refine z_get F hw h1 fd_X3_28_X1 rfl dX3_endsTimer_1 ?_
  refine lv_if_ne (tgt := 9) hx hb dX3_endsTimer_4 (by decide) (fun c4 => ?_) (fun c4 => ?_)
  · refine lv_aload_n hx hb dX3_endsTimer_9 rfl (lv_at hl 0 rfl) ?_
    refine lv_dup hx hb dX3_endsTimer_10 rfl ?_
    refine z_get F hw h1 fd_X3_28_X1 rfl dX3_endsTimer_11 ?_
    refine lv_iconst (v := 1) hx hb dX3_endsTimer_14 (by decide) ?_
    refine lv_isub hx hb dX3_endsTimer_15 ?_
    refine z_put F hw hS (fs' := [.ref (ad 10), .int 3, .int (T 1 0), .int (T 2 0), .int ((T 3 0) - 1), .int (T 5 0), .int r0, .int (T 0 0), .int (T 0 6), .ref (ad 3), .int (T 0 9)]) h1 fd_X3_28_X1 ptX1 rfl (rfl) (rfl) (Nat.le_of_ble_eq_true rfl) rfl dX3_endsTimer_16 (fun ce1 H locs h1 fr2 hw hS => ?_)
    have h0 := (fr2 0 (by decide)).trans h0
    have h2 := (fr2 2 (by decide)).trans h2
    have h3 := (fr2 3 (by decide)).trans h3
    have h4 := (fr2 4 (by decide)).trans h4
    have hR0 := hR0.kept (fun j h1 h2 => fr2 j (by omega))
    have hR1 := hR1.kept (fun j h1 h2 => fr2 j (by omega))
    have hF : ∀ j, 30 ≤ j → _ = ce j := fun j hj => (fr2 j (by omega)).trans (hF j hj)
    refine lv_aload_n hx hb dX3_endsTimer_19 rfl (lv_at hl 0 rfl) ?_
    refine z_get F hw h1 fd_X3_28_X1 rfl dX3_endsTimer_20 ?_
    refine lv_if_le (tgt := 28) hx hb dX3_endsTimer_23 (by decide) (fun c23 => ?_) (fun c23 => ?_)
    · refine lv_aload_n hx hb dX3_endsTimer_28 rfl (lv_at hl 0 rfl) ?_
      have hV : clV G ad ce1 (va_up T 3 (upd (T 3) 0 ((T 3 0) - 1))) Q := ⟨_, _, ⟨h0, h1, h2, h3, h4⟩, ht0, ht1, hR0, hR1⟩
      refine z_invU F (rest := []) (c_timeOut0 l (va_up T 3 (upd (T 3) 0 ((T 3 0) - 1))) Q hV) yu_X3_55_X1 ⟨Nat.le_of_ble_eq_true rfl, Nat.le_of_ble_eq_true rfl⟩ hw hA hS hl h1 rfl rfl rfl (Nat.le_of_ble_eq_true rfl) dX3_endsTimer_29 ⟨Nat.le_of_ble_eq_true rfl, Nat.le_of_ble_eq_true rfl⟩ (fun r ad1 ce3 H locs hp hw hS => ?_)
      obtain ⟨rfl, rfl, hV, hF2⟩ := hp
      have hF : ∀ j, 30 ≤ j → ce3 j = ce j := fun j hj => (hF2 j (by omega)).trans (hF j hj)
      obtain ⟨r0, r1, ⟨h0, h1, h2, h3, h4⟩, ht0, ht1, hR0, hR1⟩ := hV
      refine W.eq (g2 := F0 m 32 ls []) rfl ?_
      refine lv_iconst (v := 1) hx hb dX3_endsTimer_32 (by decide) ?_
      exact z_iret F (rfl) hw hS (by unfold cp_endsTimer0; rw [if_neg c4, if_pos c23]; exact ⟨rfl, rfl, ⟨_, _, ⟨h0, h1, h2, h3, h4⟩, ht0, ht1, hR0, hR1⟩, hF⟩) dX3_endsTimer_33
    · refine lv_iconst (v := 0) hx hb dX3_endsTimer_26 (by decide) ?_
      exact z_iret F (rfl) hw hS (by unfold cp_endsTimer0; rw [if_neg c4, if_neg c23]; exact ⟨rfl, rfl, ⟨_, _, ⟨h0, h1, h2, h3, h4⟩, ht0, ht1, hR0, hR1⟩, hF⟩) dX3_endsTimer_27
  · refine lv_iconst (v := 0) hx hb dX3_endsTimer_7 (by decide) ?_
    exact z_iret F (rfl) hw hS (by unfold cp_endsTimer0; rw [if_pos c4]; exact ⟨rfl, rfl, ⟨_, _, ⟨h0, h1, h2, h3, h4⟩, ht0, ht1, hR0, hR1⟩, hF⟩) dX3_endsTimer_8
def cp_endsTimer1 (T : rf_T) (Q : rf_Q) : rf_R := (if ((T 3 1) : Int32) = 0 then (0, T, Q) else (if (((T 3 1) - 1) : Int32) ≤ 0 then (1, ((cp_timeOut1 (va_up T 3 (upd (T 3) 1 ((T 3 1) - 1))) Q).2.1), (cp_timeOut1 (va_up T 3 (upd (T 3) 1 ((T 3 1) - 1))) Q).2.2) else (0, va_up T 3 (upd (T 3) 1 ((T 3 1) - 1)), Q)))
theorem cp_endsTimer1_b (T : rf_T) (Q : rf_Q) : (cp_endsTimer1 T Q).1 = 0 ∨ (cp_endsTimer1 T Q).1 = 1 := by unfold cp_endsTimer1; (repeat' split) <;> first | exact Or.inl rfl | exact Or.inr rfl
set_option maxHeartbeats 4000000 in
set_option maxRecDepth 100000 in
theorem c_endsTimer1 (l : Launch) {G : zz_G} {ad : Nat → Nat} {ce : zz_C} {sz : Nat} (T : rf_T) (Q : rf_Q) (hV : clV G ad ce T Q) : zz_M l yX3_endsTimer cX3_endsTimer 1 (some .boolean) 5 105 0 0 G [.ref (ad 2)] ad ce sz (fun r ad1 ce1 => r = some (.int (cp_endsTimer1 T Q).1) ∧ ad = ad1 ∧ clV G ad ce1 (cp_endsTimer1 T Q).2.1 (cp_endsTimer1 T Q).2.2 ∧ (∀ j, (10 ≤ j ∧ j < 30) ∨ 50 ≤ j → ce1 j = ce j)) := by
  refine zz_enter (by decide) (Nat.le_of_ble_eq_true rfl) ?_
  intro p e s m below meth c ls F hl hw hS hA
  obtain ⟨hx, hb, hr, hml, hown, hts, hlocks, hK, hnm⟩ := id F
  have hl : lv_has ls 1 [(0, .ref (ad 2))] := hl
  obtain ⟨r0, r1, ⟨h0, h1, h2, h3, h4⟩, ht0, ht1, hR0, hR1⟩ := hV
  have hF : ∀ j, (10 ≤ j ∧ j < 30) ∨ 50 ≤ j → ce j = ce j := fun _ _ => rfl
  refine lv_aload_n hx hb dX3_endsTimer_0 rfl (lv_at hl 0 rfl) ?_
  refine z_get F hw h2 fd_X3_28_X2 rfl dX3_endsTimer_1 ?_
  refine lv_if_ne (tgt := 9) hx hb dX3_endsTimer_4 (by decide) (fun c4 => ?_) (fun c4 => ?_)
  · refine lv_aload_n hx hb dX3_endsTimer_9 rfl (lv_at hl 0 rfl) ?_
    refine lv_dup hx hb dX3_endsTimer_10 rfl ?_
    refine z_get F hw h2 fd_X3_28_X2 rfl dX3_endsTimer_11 ?_
    refine lv_iconst (v := 1) hx hb dX3_endsTimer_14 (by decide) ?_
    refine lv_isub hx hb dX3_endsTimer_15 ?_
    refine z_put F hw hS (fs' := [.ref (ad 30), .int 0, .int (T 1 1), .int (T 2 1), .int ((T 3 1) - 1), .int (T 5 1), .int r1, .int (T 0 1), .int (T 0 7), .int (T 0 2), .int (T 0 8), .int (cl_b0 (T 0 3)), .int (cl_b1 (T 0 3)), .ref (ad 4), .int (T 0 10)]) h2 fd_X3_28_X2 ptX2 rfl (rfl) (rfl) (Nat.le_of_ble_eq_true rfl) rfl dX3_endsTimer_16 (fun ce1 H locs h2 fr2 hw hS => ?_)
    have h0 := (fr2 0 (by decide)).trans h0
    have h1 := (fr2 1 (by decide)).trans h1
    have h3 := (fr2 3 (by decide)).trans h3
    have h4 := (fr2 4 (by decide)).trans h4
    have hR0 := hR0.kept (fun j h1 h2 => fr2 j (by omega))
    have hR1 := hR1.kept (fun j h1 h2 => fr2 j (by omega))
    have hF : ∀ j, (10 ≤ j ∧ j < 30) ∨ 50 ≤ j → _ = ce j := fun j hj => (fr2 j (by omega)).trans (hF j hj)
    refine lv_aload_n hx hb dX3_endsTimer_19 rfl (lv_at hl 0 rfl) ?_
    refine z_get F hw h2 fd_X3_28_X2 rfl dX3_endsTimer_20 ?_
    refine lv_if_le (tgt := 28) hx hb dX3_endsTimer_23 (by decide) (fun c23 => ?_) (fun c23 => ?_)
    · refine lv_aload_n hx hb dX3_endsTimer_28 rfl (lv_at hl 0 rfl) ?_
      have hV : clV G ad ce1 (va_up T 3 (upd (T 3) 1 ((T 3 1) - 1))) Q := ⟨_, _, ⟨h0, h1, h2, h3, h4⟩, ht0, ht1, hR0, hR1⟩
      refine z_invU F (rest := []) (c_timeOut1 l (va_up T 3 (upd (T 3) 1 ((T 3 1) - 1))) Q hV) yu_X3_55_X2 ⟨Nat.le_of_ble_eq_true rfl, Nat.le_of_ble_eq_true rfl⟩ hw hA hS hl h2 rfl rfl rfl (Nat.le_of_ble_eq_true rfl) dX3_endsTimer_29 ⟨Nat.le_of_ble_eq_true rfl, Nat.le_of_ble_eq_true rfl⟩ (fun r ad1 ce3 H locs hp hw hS => ?_)
      obtain ⟨rfl, rfl, hV, hF2⟩ := hp
      have hF : ∀ j, (10 ≤ j ∧ j < 30) ∨ 50 ≤ j → ce3 j = ce j := fun j hj => (hF2 j (by omega)).trans (hF j hj)
      obtain ⟨r0, r1, ⟨h0, h1, h2, h3, h4⟩, ht0, ht1, hR0, hR1⟩ := hV
      refine W.eq (g2 := F0 m 32 ls []) rfl ?_
      refine lv_iconst (v := 1) hx hb dX3_endsTimer_32 (by decide) ?_
      exact z_iret F (rfl) hw hS (by unfold cp_endsTimer1; rw [if_neg c4, if_pos c23]; exact ⟨rfl, rfl, ⟨_, _, ⟨h0, h1, h2, h3, h4⟩, ht0, ht1, hR0, hR1⟩, hF⟩) dX3_endsTimer_33
    · refine lv_iconst (v := 0) hx hb dX3_endsTimer_26 (by decide) ?_
      exact z_iret F (rfl) hw hS (by unfold cp_endsTimer1; rw [if_neg c4, if_neg c23]; exact ⟨rfl, rfl, ⟨_, _, ⟨h0, h1, h2, h3, h4⟩, ht0, ht1, hR0, hR1⟩, hF⟩) dX3_endsTimer_27
  · refine lv_iconst (v := 0) hx hb dX3_endsTimer_7 (by decide) ?_
    exact z_iret F (rfl) hw hS (by unfold cp_endsTimer1; rw [if_pos c4]; exact ⟨rfl, rfl, ⟨_, _, ⟨h0, h1, h2, h3, h4⟩, ht0, ht1, hR0, hR1⟩, hF⟩) dX3_endsTimer_8
