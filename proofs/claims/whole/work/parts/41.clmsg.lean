theorem cl_n2 : ∀ k, k ≤ 3 → (((nI (8 * k)).toUInt32 &&& Int32.toUInt32 31).toBitVec.toNat % 32) = 8 * k := by decide +kernel
theorem cl_ush (v : Int32) (k : Nat) (s : UInt32) (hs : s.toBitVec.toNat % 32 = 8 * k) (hk : k ≤ 3) : rf_zb (v.toUInt32 >>> s).toInt32 = rf_rb v k := by
  unfold rf_zb rf_rb
  have e : (v.toUInt32 >>> s).toInt32.toBitVec = v.toBitVec >>> (8 * k) := by
    show v.toUInt32.toBitVec >>> (s.toBitVec % 32) = _
    have h2 : (s.toBitVec % 32).toNat = 8 * k := by
      rw [BitVec.toNat_umod]
      exact hs
    show v.toBitVec >>> (s.toBitVec % 32) = _
    rw [BitVec.ushiftRight_eq', h2]
  rw [e, BitVec.toNat_ushiftRight, Nat.shiftRight_eq_div_pow]
theorem cl_ush0 (v : Int32) : rf_zb (v.toUInt32 >>> ((0 : Int32).toUInt32 &&& Int32.toUInt32 31)).toInt32 = rf_rb v 0 := cl_ush v 0 _ (by decide) (by decide)
theorem cl_ush8 (v : Int32) : rf_zb (v.toUInt32 >>> ((8 : Int32).toUInt32 &&& Int32.toUInt32 31)).toInt32 = rf_rb v 1 := cl_ush v 1 _ (by decide) (by decide)
theorem cl_ush16 (v : Int32) : rf_zb (v.toUInt32 >>> ((16 : Int32).toUInt32 &&& Int32.toUInt32 31)).toInt32 = rf_rb v 2 := cl_ush v 2 _ (by decide) (by decide)
theorem cl_ush24 (v : Int32) : rf_zb (v.toUInt32 >>> ((24 : Int32).toUInt32 &&& Int32.toUInt32 31)).toInt32 = rf_rb v 3 := cl_ush v 3 _ (by decide) (by decide)
set_option maxHeartbeats 4000000 in
set_option maxRecDepth 100000 in
theorem c_begin (l : Launch) {G : zz_G} {ad : Nat → Nat} {ce : zz_C} {sz : Nat} (n : Nat) (x : List Nat) (hV : cl_m G ad ce n x) (a b : Nat) (ha : a < 256) (hb0 : b < 256) : zz_M l yX0_begin cX0_begin 3 none 0 0 0 0 G [.ref (ad n), .int (nI a), .int (nI b)] ad ce sz (fun r ad1 ce1 => r = none ∧ ad = ad1 ∧ cl_m G ad ce1 n [a, b] ∧ (∀ j, j ≠ n → j ≠ n + 1 → ce1 j = ce j)) := by
  refine zz_enter (by decide) (Nat.le_of_ble_eq_true rfl) ?_
  intro p e s m below meth c ls F hl hw hS hA
  obtain ⟨hx, hb, hr, hml, hown, hts, hlocks, hK, hnm⟩ := id F
  have hl : lv_has ls 3 [(0, .ref (ad n)), (1, .int (nI a)), (2, .int (nI b))] := hl
  obtain ⟨f, h0, h1, hM⟩ := id hV
  have hM24 := hM.1
  have hF : ∀ j, j ≠ n → j ≠ n + 1 → ce j = ce j := fun _ _ _ => rfl
  refine lv_aload_n hx hb dX0_begin_0 rfl (lv_at hl 0 rfl) ?_
  refine z_get F hw h0 fd_X0_11_X0 rfl dX0_begin_1 ?_
  refine lv_iconst (v := 0) hx hb dX0_begin_4 (by decide) ?_
  refine lv_iload_n hx hb dX0_begin_5 rfl (lv_at hl 1 rfl) ?_
  refine z_st F hw hS h1 (0) (rfl) (by decide) (by decide) dX0_begin_6 (fun ce1 H locs h1 fr2 hw hS => ?_)
  have h0 := (fr2 n (by omega)).trans h0
  have hF : ∀ j, j ≠ n → j ≠ n + 1 → _ = ce j := fun j hj hk => (fr2 j (by omega)).trans (hF j hj hk)
  refine lv_aload_n hx hb dX0_begin_7 rfl (lv_at hl 0 rfl) ?_
  refine z_get F hw h0 fd_X0_11_X0 rfl dX0_begin_8 ?_
  refine lv_iconst (v := 1) hx hb dX0_begin_11 (by decide) ?_
  refine lv_iload_n hx hb dX0_begin_12 rfl (lv_at hl 2 rfl) ?_
  refine z_st F hw hS h1 (1) (rfl) (by decide) (by decide) dX0_begin_13 (fun ce3 H locs h1 fr4 hw hS => ?_)
  have h0 := (fr4 n (by omega)).trans h0
  have hF : ∀ j, j ≠ n → j ≠ n + 1 → _ = ce j := fun j hj hk => (fr4 j (by omega)).trans (hF j hj hk)
  refine lv_aload_n hx hb dX0_begin_14 rfl (lv_at hl 0 rfl) ?_
  refine lv_iconst (v := 2) hx hb dX0_begin_15 (by decide) ?_
  refine z_put F hw hS (fs' := [.ref (ad (n + 1)), .int 2]) h0 fd_X0_15_X0 ptX0 rfl (rfl) (rfl) (Nat.le_of_ble_eq_true rfl) rfl dX0_begin_16 (fun ce5 H locs h0 fr6 hw hS => ?_)
  have h1 := (fr6 (n + 1) (by omega)).trans h1
  have hF : ∀ j, j ≠ n → j ≠ n + 1 → _ = ce j := fun j hj hk => (fr6 j (by omega)).trans (hF j hj hk)
  exact z_vret F hw hS (⟨rfl, rfl, ⟨_, h0, h1, rfM_2 ha hb0⟩, hF⟩) dX0_begin_19
set_option maxHeartbeats 4000000 in
set_option maxRecDepth 100000 in
theorem c_add (l : Launch) {G : zz_G} {ad : Nat → Nat} {ce : zz_C} {sz : Nat} (n : Nat) (x : List Nat) (hV : cl_m G ad ce n x) (hx24 : x.length < 24) (v : Int32) : zz_M l yX0_add cX0_add 2 none 0 0 0 0 G [.ref (ad n), .int v] ad ce sz (fun r ad1 ce1 => r = none ∧ ad = ad1 ∧ cl_m G ad ce1 n (x ++ [rf_zb v]) ∧ (∀ j, j ≠ n → j ≠ n + 1 → ce1 j = ce j)) := by
  refine zz_enter (by decide) (Nat.le_of_ble_eq_true rfl) ?_
  intro p e s m below meth c ls F hl hw hS hA
  obtain ⟨hx, hb, hr, hml, hown, hts, hlocks, hK, hnm⟩ := id F
  have hl : lv_has ls 2 [(0, .ref (ad n)), (1, .int v)] := hl
  obtain ⟨f, h0, h1, hM⟩ := id hV
  have hM24 := hM.1
  have hF : ∀ j, j ≠ n → j ≠ n + 1 → ce j = ce j := fun _ _ _ => rfl
  refine lv_aload_n hx hb dX0_add_0 rfl (lv_at hl 0 rfl) ?_
  refine z_get F hw h0 fd_X0_15_X0 rfl dX0_add_1 ?_
  refine lv_bipush (v := 24) hx hb dX0_add_4 (by decide) ?_
  refine lv_icmp_ge (tgt := 33) hx hb dX0_add_6 (by decide) (fun c6 => absurd c6 (nI_ge (b := 24) hx24 (by decide))) (fun c6 => ?_)
  refine lv_aload_n hx hb dX0_add_9 rfl (lv_at hl 0 rfl) ?_
  refine z_get F hw h0 fd_X0_11_X0 rfl dX0_add_10 ?_
  refine lv_aload_n hx hb dX0_add_13 rfl (lv_at hl 0 rfl) ?_
  refine z_get F hw h0 fd_X0_15_X0 rfl dX0_add_14 ?_
  refine lv_iload_n hx hb dX0_add_17 rfl (lv_at hl 1 rfl) ?_
  refine lv_sipush (v := 255) hx hb dX0_add_18 (by decide) ?_
  refine lv_iand hx hb dX0_add_21 ?_
  refine z_top (nI (rf_zb v)) (rf_and v) ?_
  refine z_st F hw hS h1 (x.length) (rfl) (hx24) (by decide) dX0_add_22 (fun ce1 H locs h1 fr2 hw hS => ?_)
  have h0 := (fr2 n (by omega)).trans h0
  have hF : ∀ j, j ≠ n → j ≠ n + 1 → _ = ce j := fun j hj hk => (fr2 j (by omega)).trans (hF j hj hk)
  refine lv_aload_n hx hb dX0_add_23 rfl (lv_at hl 0 rfl) ?_
  refine lv_dup hx hb dX0_add_24 rfl ?_
  refine z_get F hw h0 fd_X0_15_X0 rfl dX0_add_25 ?_
  refine lv_iconst (v := 1) hx hb dX0_add_28 (by decide) ?_
  refine lv_iadd hx hb dX0_add_29 ?_
  refine z_top (nI (x ++ [rf_zb v]).length) (by rw [nI_1, List.length_append]; rfl) ?_
  refine z_put F hw hS (fs' := [.ref (ad (n + 1)), .int (nI (x ++ [rf_zb v]).length)]) h0 fd_X0_15_X0 ptX0 rfl (rfl) (rfl) (Nat.le_of_ble_eq_true rfl) rfl dX0_add_30 (fun ce3 H locs h0 fr4 hw hS => ?_)
  have h1 := (fr4 (n + 1) (by omega)).trans h1
  have hF : ∀ j, j ≠ n → j ≠ n + 1 → _ = ce j := fun j hj hk => (fr4 j (by omega)).trans (hF j hj hk)
  exact z_vret F hw hS (⟨rfl, rfl, ⟨_, h0, h1, rfM_add hM hx24 (rf_zb_lt v)⟩, hF⟩) dX0_add_33
set_option maxHeartbeats 4000000 in
set_option maxRecDepth 100000 in
theorem c_addNumber1 (l : Launch) {G : zz_G} {ad : Nat → Nat} {ce : zz_C} {sz : Nat} (n : Nat) (x : List Nat) (hV : cl_m G ad ce n x) (hx2 : x.length = 2) (tg : Nat) (htg : tg < 256) (v : Int32) : zz_M l yX0_addNumber cX0_addNumber 5 none 1 21 0 0 G [.ref (ad n), .int (nI tg), .int 1, .int v] ad ce sz (fun r ad1 ce1 => r = none ∧ ad = ad1 ∧ cl_m G ad ce1 n (x ++ (tg :: 1 :: rf_bytes 1 v)) ∧ (∀ j, j ≠ n → j ≠ n + 1 → ce1 j = ce j)) := by
  refine zz_enter (by decide) (Nat.le_of_ble_eq_true rfl) ?_
  intro p e s m below meth c ls F hl hw hS hA
  obtain ⟨hx, hb, hr, hml, hown, hts, hlocks, hK, hnm⟩ := id F
  have hl : lv_has ls 5 [(0, .ref (ad n)), (1, .int (nI tg)), (2, .int 1), (3, .int v)] := hl
  have hF : ∀ j, j ≠ n → j ≠ n + 1 → ce j = ce j := fun _ _ _ => rfl
  refine lv_aload_n hx hb dX0_addNumber_0 rfl (lv_at hl 0 rfl) ?_
  refine lv_iload_n hx hb dX0_addNumber_1 rfl (lv_at hl 1 rfl) ?_
  refine z_invV F (rest := []) (c_add l n x hV (by simp [hx2]) (nI tg)) yv_X0_19 ⟨Nat.le_of_ble_eq_true rfl, Nat.le_of_ble_eq_true rfl⟩ hw hA hS hl hV.obj rfl rfl rfl (Nat.le_of_ble_eq_true rfl) dX0_addNumber_2 ⟨Nat.le_of_ble_eq_true rfl, Nat.le_of_ble_eq_true rfl⟩ (fun r ad1 ce1 H locs hp hw hS => ?_)
  obtain ⟨rfl, rfl, hV, hF2⟩ := hp
  have hF : ∀ j, j ≠ n → j ≠ n + 1 → ce1 j = ce j := fun j hj hk => (hF2 j hj hk).trans (hF j hj hk)
  refine W.eq (g2 := F0 m 5 ls []) rfl ?_
  refine lv_aload_n hx hb dX0_addNumber_5 rfl (lv_at hl 0 rfl) ?_
  refine lv_iload_n hx hb dX0_addNumber_6 rfl (lv_at hl 2 rfl) ?_
  refine z_invV F (rest := []) (c_add l n (x ++ [rf_zb (nI tg)]) hV (by simp [hx2]) 1) yv_X0_19 ⟨Nat.le_of_ble_eq_true rfl, Nat.le_of_ble_eq_true rfl⟩ hw hA hS hl hV.obj rfl rfl rfl (Nat.le_of_ble_eq_true rfl) dX0_addNumber_7 ⟨Nat.le_of_ble_eq_true rfl, Nat.le_of_ble_eq_true rfl⟩ (fun r ad1 ce2 H locs hp hw hS => ?_)
  obtain ⟨rfl, rfl, hV, hF2⟩ := hp
  have hF : ∀ j, j ≠ n → j ≠ n + 1 → ce2 j = ce j := fun j hj hk => (hF2 j hj hk).trans (hF j hj hk)
  refine W.eq (g2 := F0 m 10 ls []) rfl ?_
  refine lv_iload_n hx hb dX0_addNumber_10 rfl (lv_at hl 2 rfl) ?_
  refine lv_iconst (v := 1) hx hb dX0_addNumber_11 (by decide) ?_
  refine lv_isub hx hb dX0_addNumber_12 ?_
  refine z_top 0 (by decide) ?_
  refine lv_istore (lv' := [(4, .int 0), (0, .ref (ad n)), (1, .int (nI tg)), (2, .int 1), (3, .int v)]) hx hb dX0_addNumber_13 hl (by decide) rfl (fun ls hl => ?_)
  refine lv_iload hx hb dX0_addNumber_15 (lv_at hl 0 rfl) ?_
  refine lv_if_lt (tgt := 37) hx hb dX0_addNumber_17 (by decide) (fun c17 => absurd c17 (by decide)) (fun c17 => ?_)
  refine lv_aload_n hx hb dX0_addNumber_20 rfl (lv_at hl 1 rfl) ?_
  refine lv_iload_n hx hb dX0_addNumber_21 rfl (lv_at hl 4 rfl) ?_
  refine lv_bipush (v := 8) hx hb dX0_addNumber_22 (by decide) ?_
  refine lv_iload hx hb dX0_addNumber_24 (lv_at hl 0 rfl) ?_
  refine lv_imul hx hb dX0_addNumber_26 ?_
  refine z_top 0 (by decide) ?_
  refine lv_iushr hx hb dX0_addNumber_27 rfl ?_
  refine z_invV F (rest := []) (c_add l n ((x ++ [rf_zb (nI tg)]) ++ [rf_zb 1]) hV (by simp [hx2]) ((v.toUInt32 >>> ((0 : Int32).toUInt32 &&& Int32.toUInt32 31)).toInt32)) yv_X0_19 ⟨Nat.le_of_ble_eq_true rfl, Nat.le_of_ble_eq_true rfl⟩ hw hA hS hl hV.obj rfl rfl rfl (Nat.le_of_ble_eq_true rfl) dX0_addNumber_28 ⟨Nat.le_of_ble_eq_true rfl, Nat.le_of_ble_eq_true rfl⟩ (fun r ad1 ce3 H locs hp hw hS => ?_)
  obtain ⟨rfl, rfl, hV, hF2⟩ := hp
  have hF : ∀ j, j ≠ n → j ≠ n + 1 → ce3 j = ce j := fun j hj hk => (hF2 j hj hk).trans (hF j hj hk)
  refine W.eq (g2 := F0 m 31 ls []) rfl ?_
  refine lv_iinc (v := (-1)) (lv' := [(4, .int (-1)), (0, .ref (ad n)), (1, .int (nI tg)), (2, .int 1), (3, .int v)]) hx hb dX0_addNumber_31 hl (k := 0) rfl (by decide) (by decide) rfl (fun ls hl => ?_)
  refine lv_goto (tgt := 15) hx hb dX0_addNumber_34 (by decide) ?_
  refine lv_iload hx hb dX0_addNumber_15 (lv_at hl 0 rfl) ?_
  refine lv_if_lt (tgt := 37) hx hb dX0_addNumber_17 (by decide) (fun c17_1 => ?_) (fun c17_1 => absurd c17_1 (by decide))
  exact z_vret F hw hS (by rw [rf_zb_nI htg, cl_ush0] at hV; simp only [List.append_assoc, List.cons_append, List.nil_append] at hV; exact ⟨rfl, rfl, hV, hF⟩) dX0_addNumber_37
set_option maxHeartbeats 4000000 in
set_option maxRecDepth 100000 in
theorem c_addNumber2 (l : Launch) {G : zz_G} {ad : Nat → Nat} {ce : zz_C} {sz : Nat} (n : Nat) (x : List Nat) (hV : cl_m G ad ce n x) (hx2 : x.length = 2) (tg : Nat) (htg : tg < 256) (v : Int32) : zz_M l yX0_addNumber cX0_addNumber 5 none 1 21 0 0 G [.ref (ad n), .int (nI tg), .int 2, .int v] ad ce sz (fun r ad1 ce1 => r = none ∧ ad = ad1 ∧ cl_m G ad ce1 n (x ++ (tg :: 2 :: rf_bytes 2 v)) ∧ (∀ j, j ≠ n → j ≠ n + 1 → ce1 j = ce j)) := by
  refine zz_enter (by decide) (Nat.le_of_ble_eq_true rfl) ?_
  intro p e s m below meth c ls F hl hw hS hA
  obtain ⟨hx, hb, hr, hml, hown, hts, hlocks, hK, hnm⟩ := id F
  have hl : lv_has ls 5 [(0, .ref (ad n)), (1, .int (nI tg)), (2, .int 2), (3, .int v)] := hl
  have hF : ∀ j, j ≠ n → j ≠ n + 1 → ce j = ce j := fun _ _ _ => rfl
  refine lv_aload_n hx hb dX0_addNumber_0 rfl (lv_at hl 0 rfl) ?_
  refine lv_iload_n hx hb dX0_addNumber_1 rfl (lv_at hl 1 rfl) ?_
  refine z_invV F (rest := []) (c_add l n x hV (by simp [hx2]) (nI tg)) yv_X0_19 ⟨Nat.le_of_ble_eq_true rfl, Nat.le_of_ble_eq_true rfl⟩ hw hA hS hl hV.obj rfl rfl rfl (Nat.le_of_ble_eq_true rfl) dX0_addNumber_2 ⟨Nat.le_of_ble_eq_true rfl, Nat.le_of_ble_eq_true rfl⟩ (fun r ad1 ce1 H locs hp hw hS => ?_)
  obtain ⟨rfl, rfl, hV, hF2⟩ := hp
  have hF : ∀ j, j ≠ n → j ≠ n + 1 → ce1 j = ce j := fun j hj hk => (hF2 j hj hk).trans (hF j hj hk)
  refine W.eq (g2 := F0 m 5 ls []) rfl ?_
  refine lv_aload_n hx hb dX0_addNumber_5 rfl (lv_at hl 0 rfl) ?_
  refine lv_iload_n hx hb dX0_addNumber_6 rfl (lv_at hl 2 rfl) ?_
  refine z_invV F (rest := []) (c_add l n (x ++ [rf_zb (nI tg)]) hV (by simp [hx2]) 2) yv_X0_19 ⟨Nat.le_of_ble_eq_true rfl, Nat.le_of_ble_eq_true rfl⟩ hw hA hS hl hV.obj rfl rfl rfl (Nat.le_of_ble_eq_true rfl) dX0_addNumber_7 ⟨Nat.le_of_ble_eq_true rfl, Nat.le_of_ble_eq_true rfl⟩ (fun r ad1 ce2 H locs hp hw hS => ?_)
  obtain ⟨rfl, rfl, hV, hF2⟩ := hp
  have hF : ∀ j, j ≠ n → j ≠ n + 1 → ce2 j = ce j := fun j hj hk => (hF2 j hj hk).trans (hF j hj hk)
  refine W.eq (g2 := F0 m 10 ls []) rfl ?_
  refine lv_iload_n hx hb dX0_addNumber_10 rfl (lv_at hl 2 rfl) ?_
  refine lv_iconst (v := 1) hx hb dX0_addNumber_11 (by decide) ?_
  refine lv_isub hx hb dX0_addNumber_12 ?_
  refine z_top 1 (by decide) ?_
  refine lv_istore (lv' := [(4, .int 1), (0, .ref (ad n)), (1, .int (nI tg)), (2, .int 2), (3, .int v)]) hx hb dX0_addNumber_13 hl (by decide) rfl (fun ls hl => ?_)
  refine lv_iload hx hb dX0_addNumber_15 (lv_at hl 0 rfl) ?_
  refine lv_if_lt (tgt := 37) hx hb dX0_addNumber_17 (by decide) (fun c17 => absurd c17 (by decide)) (fun c17 => ?_)
  refine lv_aload_n hx hb dX0_addNumber_20 rfl (lv_at hl 1 rfl) ?_
  refine lv_iload_n hx hb dX0_addNumber_21 rfl (lv_at hl 4 rfl) ?_
  refine lv_bipush (v := 8) hx hb dX0_addNumber_22 (by decide) ?_
  refine lv_iload hx hb dX0_addNumber_24 (lv_at hl 0 rfl) ?_
  refine lv_imul hx hb dX0_addNumber_26 ?_
  refine z_top 8 (by decide) ?_
  refine lv_iushr hx hb dX0_addNumber_27 rfl ?_
  refine z_invV F (rest := []) (c_add l n ((x ++ [rf_zb (nI tg)]) ++ [rf_zb 2]) hV (by simp [hx2]) ((v.toUInt32 >>> ((8 : Int32).toUInt32 &&& Int32.toUInt32 31)).toInt32)) yv_X0_19 ⟨Nat.le_of_ble_eq_true rfl, Nat.le_of_ble_eq_true rfl⟩ hw hA hS hl hV.obj rfl rfl rfl (Nat.le_of_ble_eq_true rfl) dX0_addNumber_28 ⟨Nat.le_of_ble_eq_true rfl, Nat.le_of_ble_eq_true rfl⟩ (fun r ad1 ce3 H locs hp hw hS => ?_)
  obtain ⟨rfl, rfl, hV, hF2⟩ := hp
  have hF : ∀ j, j ≠ n → j ≠ n + 1 → ce3 j = ce j := fun j hj hk => (hF2 j hj hk).trans (hF j hj hk)
  refine W.eq (g2 := F0 m 31 ls []) rfl ?_
  refine lv_iinc (v := 0) (lv' := [(4, .int 0), (0, .ref (ad n)), (1, .int (nI tg)), (2, .int 2), (3, .int v)]) hx hb dX0_addNumber_31 hl (k := 0) rfl (by decide) (by decide) rfl (fun ls hl => ?_)
  refine lv_goto (tgt := 15) hx hb dX0_addNumber_34 (by decide) ?_
  refine lv_iload hx hb dX0_addNumber_15 (lv_at hl 0 rfl) ?_
  refine lv_if_lt (tgt := 37) hx hb dX0_addNumber_17 (by decide) (fun c17_1 => absurd c17_1 (by decide)) (fun c17_1 => ?_)
  refine lv_aload_n hx hb dX0_addNumber_20 rfl (lv_at hl 1 rfl) ?_
  refine lv_iload_n hx hb dX0_addNumber_21 rfl (lv_at hl 4 rfl) ?_
  refine lv_bipush (v := 8) hx hb dX0_addNumber_22 (by decide) ?_
  refine lv_iload hx hb dX0_addNumber_24 (lv_at hl 0 rfl) ?_
  refine lv_imul hx hb dX0_addNumber_26 ?_
  refine z_top 0 (by decide) ?_
  refine lv_iushr hx hb dX0_addNumber_27 rfl ?_
  refine z_invV F (rest := []) (c_add l n (((x ++ [rf_zb (nI tg)]) ++ [rf_zb 2]) ++ [rf_zb ((v.toUInt32 >>> ((8 : Int32).toUInt32 &&& Int32.toUInt32 31)).toInt32)]) hV (by simp [hx2]) ((v.toUInt32 >>> ((0 : Int32).toUInt32 &&& Int32.toUInt32 31)).toInt32)) yv_X0_19 ⟨Nat.le_of_ble_eq_true rfl, Nat.le_of_ble_eq_true rfl⟩ hw hA hS hl hV.obj rfl rfl rfl (Nat.le_of_ble_eq_true rfl) dX0_addNumber_28 ⟨Nat.le_of_ble_eq_true rfl, Nat.le_of_ble_eq_true rfl⟩ (fun r ad1 ce4 H locs hp hw hS => ?_)
  obtain ⟨rfl, rfl, hV, hF2⟩ := hp
  have hF : ∀ j, j ≠ n → j ≠ n + 1 → ce4 j = ce j := fun j hj hk => (hF2 j hj hk).trans (hF j hj hk)
  refine W.eq (g2 := F0 m 31 ls []) rfl ?_
  refine lv_iinc (v := (-1)) (lv' := [(4, .int (-1)), (0, .ref (ad n)), (1, .int (nI tg)), (2, .int 2), (3, .int v)]) hx hb dX0_addNumber_31 hl (k := 0) rfl (by decide) (by decide) rfl (fun ls hl => ?_)
  refine lv_goto (tgt := 15) hx hb dX0_addNumber_34 (by decide) ?_
  refine lv_iload hx hb dX0_addNumber_15 (lv_at hl 0 rfl) ?_
  refine lv_if_lt (tgt := 37) hx hb dX0_addNumber_17 (by decide) (fun c17_2 => ?_) (fun c17_2 => absurd c17_2 (by decide))
  exact z_vret F hw hS (by rw [rf_zb_nI htg, cl_ush8, cl_ush0] at hV; simp only [List.append_assoc, List.cons_append, List.nil_append] at hV; exact ⟨rfl, rfl, hV, hF⟩) dX0_addNumber_37
set_option maxHeartbeats 4000000 in
set_option maxRecDepth 100000 in
theorem c_addNumber4 (l : Launch) {G : zz_G} {ad : Nat → Nat} {ce : zz_C} {sz : Nat} (n : Nat) (x : List Nat) (hV : cl_m G ad ce n x) (hx2 : x.length = 2) (tg : Nat) (htg : tg < 256) (v : Int32) : zz_M l yX0_addNumber cX0_addNumber 5 none 1 21 0 0 G [.ref (ad n), .int (nI tg), .int 4, .int v] ad ce sz (fun r ad1 ce1 => r = none ∧ ad = ad1 ∧ cl_m G ad ce1 n (x ++ (tg :: 4 :: rf_bytes 4 v)) ∧ (∀ j, j ≠ n → j ≠ n + 1 → ce1 j = ce j)) := by
  refine zz_enter (by decide) (Nat.le_of_ble_eq_true rfl) ?_
  intro p e s m below meth c ls F hl hw hS hA
  obtain ⟨hx, hb, hr, hml, hown, hts, hlocks, hK, hnm⟩ := id F
  have hl : lv_has ls 5 [(0, .ref (ad n)), (1, .int (nI tg)), (2, .int 4), (3, .int v)] := hl
  have hF : ∀ j, j ≠ n → j ≠ n + 1 → ce j = ce j := fun _ _ _ => rfl
  refine lv_aload_n hx hb dX0_addNumber_0 rfl (lv_at hl 0 rfl) ?_
  refine lv_iload_n hx hb dX0_addNumber_1 rfl (lv_at hl 1 rfl) ?_
  refine z_invV F (rest := []) (c_add l n x hV (by simp [hx2]) (nI tg)) yv_X0_19 ⟨Nat.le_of_ble_eq_true rfl, Nat.le_of_ble_eq_true rfl⟩ hw hA hS hl hV.obj rfl rfl rfl (Nat.le_of_ble_eq_true rfl) dX0_addNumber_2 ⟨Nat.le_of_ble_eq_true rfl, Nat.le_of_ble_eq_true rfl⟩ (fun r ad1 ce1 H locs hp hw hS => ?_)
  obtain ⟨rfl, rfl, hV, hF2⟩ := hp
  have hF : ∀ j, j ≠ n → j ≠ n + 1 → ce1 j = ce j := fun j hj hk => (hF2 j hj hk).trans (hF j hj hk)
  refine W.eq (g2 := F0 m 5 ls []) rfl ?_
  refine lv_aload_n hx hb dX0_addNumber_5 rfl (lv_at hl 0 rfl) ?_
  refine lv_iload_n hx hb dX0_addNumber_6 rfl (lv_at hl 2 rfl) ?_
  refine z_invV F (rest := []) (c_add l n (x ++ [rf_zb (nI tg)]) hV (by simp [hx2]) 4) yv_X0_19 ⟨Nat.le_of_ble_eq_true rfl, Nat.le_of_ble_eq_true rfl⟩ hw hA hS hl hV.obj rfl rfl rfl (Nat.le_of_ble_eq_true rfl) dX0_addNumber_7 ⟨Nat.le_of_ble_eq_true rfl, Nat.le_of_ble_eq_true rfl⟩ (fun r ad1 ce2 H locs hp hw hS => ?_)
  obtain ⟨rfl, rfl, hV, hF2⟩ := hp
  have hF : ∀ j, j ≠ n → j ≠ n + 1 → ce2 j = ce j := fun j hj hk => (hF2 j hj hk).trans (hF j hj hk)
  refine W.eq (g2 := F0 m 10 ls []) rfl ?_
  refine lv_iload_n hx hb dX0_addNumber_10 rfl (lv_at hl 2 rfl) ?_
  refine lv_iconst (v := 1) hx hb dX0_addNumber_11 (by decide) ?_
  refine lv_isub hx hb dX0_addNumber_12 ?_
  refine z_top 3 (by decide) ?_
  refine lv_istore (lv' := [(4, .int 3), (0, .ref (ad n)), (1, .int (nI tg)), (2, .int 4), (3, .int v)]) hx hb dX0_addNumber_13 hl (by decide) rfl (fun ls hl => ?_)
  refine lv_iload hx hb dX0_addNumber_15 (lv_at hl 0 rfl) ?_
  refine lv_if_lt (tgt := 37) hx hb dX0_addNumber_17 (by decide) (fun c17 => absurd c17 (by decide)) (fun c17 => ?_)
  refine lv_aload_n hx hb dX0_addNumber_20 rfl (lv_at hl 1 rfl) ?_
  refine lv_iload_n hx hb dX0_addNumber_21 rfl (lv_at hl 4 rfl) ?_
  refine lv_bipush (v := 8) hx hb dX0_addNumber_22 (by decide) ?_
  refine lv_iload hx hb dX0_addNumber_24 (lv_at hl 0 rfl) ?_
  refine lv_imul hx hb dX0_addNumber_26 ?_
  refine z_top 24 (by decide) ?_
  refine lv_iushr hx hb dX0_addNumber_27 rfl ?_
  refine z_invV F (rest := []) (c_add l n ((x ++ [rf_zb (nI tg)]) ++ [rf_zb 4]) hV (by simp [hx2]) ((v.toUInt32 >>> ((24 : Int32).toUInt32 &&& Int32.toUInt32 31)).toInt32)) yv_X0_19 ⟨Nat.le_of_ble_eq_true rfl, Nat.le_of_ble_eq_true rfl⟩ hw hA hS hl hV.obj rfl rfl rfl (Nat.le_of_ble_eq_true rfl) dX0_addNumber_28 ⟨Nat.le_of_ble_eq_true rfl, Nat.le_of_ble_eq_true rfl⟩ (fun r ad1 ce3 H locs hp hw hS => ?_)
  obtain ⟨rfl, rfl, hV, hF2⟩ := hp
  have hF : ∀ j, j ≠ n → j ≠ n + 1 → ce3 j = ce j := fun j hj hk => (hF2 j hj hk).trans (hF j hj hk)
  refine W.eq (g2 := F0 m 31 ls []) rfl ?_
  refine lv_iinc (v := 2) (lv' := [(4, .int 2), (0, .ref (ad n)), (1, .int (nI tg)), (2, .int 4), (3, .int v)]) hx hb dX0_addNumber_31 hl (k := 0) rfl (by decide) (by decide) rfl (fun ls hl => ?_)
  refine lv_goto (tgt := 15) hx hb dX0_addNumber_34 (by decide) ?_
  refine lv_iload hx hb dX0_addNumber_15 (lv_at hl 0 rfl) ?_
  refine lv_if_lt (tgt := 37) hx hb dX0_addNumber_17 (by decide) (fun c17_1 => absurd c17_1 (by decide)) (fun c17_1 => ?_)
  refine lv_aload_n hx hb dX0_addNumber_20 rfl (lv_at hl 1 rfl) ?_
  refine lv_iload_n hx hb dX0_addNumber_21 rfl (lv_at hl 4 rfl) ?_
  refine lv_bipush (v := 8) hx hb dX0_addNumber_22 (by decide) ?_
  refine lv_iload hx hb dX0_addNumber_24 (lv_at hl 0 rfl) ?_
  refine lv_imul hx hb dX0_addNumber_26 ?_
  refine z_top 16 (by decide) ?_
  refine lv_iushr hx hb dX0_addNumber_27 rfl ?_
  refine z_invV F (rest := []) (c_add l n (((x ++ [rf_zb (nI tg)]) ++ [rf_zb 4]) ++ [rf_zb ((v.toUInt32 >>> ((24 : Int32).toUInt32 &&& Int32.toUInt32 31)).toInt32)]) hV (by simp [hx2]) ((v.toUInt32 >>> ((16 : Int32).toUInt32 &&& Int32.toUInt32 31)).toInt32)) yv_X0_19 ⟨Nat.le_of_ble_eq_true rfl, Nat.le_of_ble_eq_true rfl⟩ hw hA hS hl hV.obj rfl rfl rfl (Nat.le_of_ble_eq_true rfl) dX0_addNumber_28 ⟨Nat.le_of_ble_eq_true rfl, Nat.le_of_ble_eq_true rfl⟩ (fun r ad1 ce4 H locs hp hw hS => ?_)
  obtain ⟨rfl, rfl, hV, hF2⟩ := hp
  have hF : ∀ j, j ≠ n → j ≠ n + 1 → ce4 j = ce j := fun j hj hk => (hF2 j hj hk).trans (hF j hj hk)
  refine W.eq (g2 := F0 m 31 ls []) rfl ?_
  refine lv_iinc (v := 1) (lv' := [(4, .int 1), (0, .ref (ad n)), (1, .int (nI tg)), (2, .int 4), (3, .int v)]) hx hb dX0_addNumber_31 hl (k := 0) rfl (by decide) (by decide) rfl (fun ls hl => ?_)
  refine lv_goto (tgt := 15) hx hb dX0_addNumber_34 (by decide) ?_
  refine lv_iload hx hb dX0_addNumber_15 (lv_at hl 0 rfl) ?_
  refine lv_if_lt (tgt := 37) hx hb dX0_addNumber_17 (by decide) (fun c17_2 => absurd c17_2 (by decide)) (fun c17_2 => ?_)
  refine lv_aload_n hx hb dX0_addNumber_20 rfl (lv_at hl 1 rfl) ?_
  refine lv_iload_n hx hb dX0_addNumber_21 rfl (lv_at hl 4 rfl) ?_
  refine lv_bipush (v := 8) hx hb dX0_addNumber_22 (by decide) ?_
  refine lv_iload hx hb dX0_addNumber_24 (lv_at hl 0 rfl) ?_
  refine lv_imul hx hb dX0_addNumber_26 ?_
  refine z_top 8 (by decide) ?_
  refine lv_iushr hx hb dX0_addNumber_27 rfl ?_
  refine z_invV F (rest := []) (c_add l n ((((x ++ [rf_zb (nI tg)]) ++ [rf_zb 4]) ++ [rf_zb ((v.toUInt32 >>> ((24 : Int32).toUInt32 &&& Int32.toUInt32 31)).toInt32)]) ++ [rf_zb ((v.toUInt32 >>> ((16 : Int32).toUInt32 &&& Int32.toUInt32 31)).toInt32)]) hV (by simp [hx2]) ((v.toUInt32 >>> ((8 : Int32).toUInt32 &&& Int32.toUInt32 31)).toInt32)) yv_X0_19 ⟨Nat.le_of_ble_eq_true rfl, Nat.le_of_ble_eq_true rfl⟩ hw hA hS hl hV.obj rfl rfl rfl (Nat.le_of_ble_eq_true rfl) dX0_addNumber_28 ⟨Nat.le_of_ble_eq_true rfl, Nat.le_of_ble_eq_true rfl⟩ (fun r ad1 ce5 H locs hp hw hS => ?_)
  obtain ⟨rfl, rfl, hV, hF2⟩ := hp
  have hF : ∀ j, j ≠ n → j ≠ n + 1 → ce5 j = ce j := fun j hj hk => (hF2 j hj hk).trans (hF j hj hk)
  refine W.eq (g2 := F0 m 31 ls []) rfl ?_
  refine lv_iinc (v := 0) (lv' := [(4, .int 0), (0, .ref (ad n)), (1, .int (nI tg)), (2, .int 4), (3, .int v)]) hx hb dX0_addNumber_31 hl (k := 0) rfl (by decide) (by decide) rfl (fun ls hl => ?_)
  refine lv_goto (tgt := 15) hx hb dX0_addNumber_34 (by decide) ?_
  refine lv_iload hx hb dX0_addNumber_15 (lv_at hl 0 rfl) ?_
  refine lv_if_lt (tgt := 37) hx hb dX0_addNumber_17 (by decide) (fun c17_3 => absurd c17_3 (by decide)) (fun c17_3 => ?_)
  refine lv_aload_n hx hb dX0_addNumber_20 rfl (lv_at hl 1 rfl) ?_
  refine lv_iload_n hx hb dX0_addNumber_21 rfl (lv_at hl 4 rfl) ?_
  refine lv_bipush (v := 8) hx hb dX0_addNumber_22 (by decide) ?_
  refine lv_iload hx hb dX0_addNumber_24 (lv_at hl 0 rfl) ?_
  refine lv_imul hx hb dX0_addNumber_26 ?_
  refine z_top 0 (by decide) ?_
  refine lv_iushr hx hb dX0_addNumber_27 rfl ?_
  refine z_invV F (rest := []) (c_add l n (((((x ++ [rf_zb (nI tg)]) ++ [rf_zb 4]) ++ [rf_zb ((v.toUInt32 >>> ((24 : Int32).toUInt32 &&& Int32.toUInt32 31)).toInt32)]) ++ [rf_zb ((v.toUInt32 >>> ((16 : Int32).toUInt32 &&& Int32.toUInt32 31)).toInt32)]) ++ [rf_zb ((v.toUInt32 >>> ((8 : Int32).toUInt32 &&& Int32.toUInt32 31)).toInt32)]) hV (by simp [hx2]) ((v.toUInt32 >>> ((0 : Int32).toUInt32 &&& Int32.toUInt32 31)).toInt32)) yv_X0_19 ⟨Nat.le_of_ble_eq_true rfl, Nat.le_of_ble_eq_true rfl⟩ hw hA hS hl hV.obj rfl rfl rfl (Nat.le_of_ble_eq_true rfl) dX0_addNumber_28 ⟨Nat.le_of_ble_eq_true rfl, Nat.le_of_ble_eq_true rfl⟩ (fun r ad1 ce6 H locs hp hw hS => ?_)
  obtain ⟨rfl, rfl, hV, hF2⟩ := hp
  have hF : ∀ j, j ≠ n → j ≠ n + 1 → ce6 j = ce j := fun j hj hk => (hF2 j hj hk).trans (hF j hj hk)
  refine W.eq (g2 := F0 m 31 ls []) rfl ?_
  refine lv_iinc (v := (-1)) (lv' := [(4, .int (-1)), (0, .ref (ad n)), (1, .int (nI tg)), (2, .int 4), (3, .int v)]) hx hb dX0_addNumber_31 hl (k := 0) rfl (by decide) (by decide) rfl (fun ls hl => ?_)
  refine lv_goto (tgt := 15) hx hb dX0_addNumber_34 (by decide) ?_
  refine lv_iload hx hb dX0_addNumber_15 (lv_at hl 0 rfl) ?_
  refine lv_if_lt (tgt := 37) hx hb dX0_addNumber_17 (by decide) (fun c17_4 => ?_) (fun c17_4 => absurd c17_4 (by decide))
  exact z_vret F hw hS (by rw [rf_zb_nI htg, cl_ush24, cl_ush16, cl_ush8, cl_ush0] at hV; simp only [List.append_assoc, List.cons_append, List.nil_append] at hV; exact ⟨rfl, rfl, hV, hF⟩) dX0_addNumber_37
set_option maxHeartbeats 4000000 in
set_option maxRecDepth 100000 in
theorem c_hasByte (l : Launch) {G : zz_G} {ad : Nat → Nat} {ce : zz_C} {sz : Nat} (n : Nat) (x : List Nat) (hV : cl_m G ad ce n x) (v : Int32) : zz_M l yX0_hasByte cX0_hasByte 2 (some .boolean) 0 0 0 0 G [.ref (ad n), .int v] ad ce sz (fun r ad1 ce1 => ((cl_in x v ∧ r = some (.int 1)) ∨ (¬ cl_in x v ∧ r = some (.int 0))) ∧ ad = ad1 ∧ ce = ce1) := by
  refine zz_enter (by decide) (Nat.le_of_ble_eq_true rfl) ?_
  intro p e s m below meth c ls F hl hw hS hA
  obtain ⟨hx, hb, hr, hml, hown, hts, hlocks, hK, hnm⟩ := id F
  have hl : lv_has ls 2 [(0, .ref (ad n)), (1, .int v)] := hl
  obtain ⟨f, h0, h1, hM⟩ := id hV
  have hM24 := hM.1
  have hF : ∀ j, j ≠ n → j ≠ n + 1 → ce j = ce j := fun _ _ _ => rfl
  refine lv_iload_n hx hb dX0_hasByte_0 rfl (lv_at hl 1 rfl) ?_
  refine lv_if_lt (tgt := 16) hx hb dX0_hasByte_1 (by decide) (fun c1 => ?_) (fun c1 => ?_)
  · refine lv_iconst (v := 0) hx hb dX0_hasByte_16 (by decide) ?_
    exact z_iret F (rfl) hw hS (⟨Or.inr ⟨fun q => q.1 c1, rfl⟩, rfl, rfl⟩) dX0_hasByte_17
  · refine lv_iload_n hx hb dX0_hasByte_4 rfl (lv_at hl 1 rfl) ?_
    refine lv_aload_n hx hb dX0_hasByte_5 rfl (lv_at hl 0 rfl) ?_
    refine z_get F hw h0 fd_X0_15_X0 rfl dX0_hasByte_6 ?_
    refine lv_icmp_ge (tgt := 16) hx hb dX0_hasByte_9 (by decide) (fun c9 => ?_) (fun c9 => ?_)
    · refine lv_iconst (v := 0) hx hb dX0_hasByte_16 (by decide) ?_
      exact z_iret F (rfl) hw hS (⟨Or.inr ⟨fun q => q.2 c9, rfl⟩, rfl, rfl⟩) dX0_hasByte_17
    · refine lv_iconst (v := 1) hx hb dX0_hasByte_12 (by decide) ?_
      refine lv_goto (tgt := 17) hx hb dX0_hasByte_13 (by decide) ?_
      exact z_iret F (rfl) hw hS (⟨Or.inl ⟨⟨c1, c9⟩, rfl⟩, rfl, rfl⟩) dX0_hasByte_17
def cl_chg (x : List Nat) (i mv : Int32) : List Nat := if cl_in x i then x.set i.toNatClampNeg (x.getD i.toNatClampNeg 0 ^^^ mv.toNatClampNeg) else x
def cl_byte (x : List Nat) (i : Int32) : Int32 := if cl_in x i then nI (x.getD i.toNatClampNeg 0) else -3
theorem cl_xor (a b : Nat) : nI a ^^^ nI b = nI (a ^^^ b) := by
  apply Int32.toBitVec_inj.1
  show BitVec.ofNat 32 a ^^^ BitVec.ofNat 32 b = BitVec.ofNat 32 (a ^^^ b)
  apply BitVec.eq_of_getLsbD_eq
  intro i hi
  simp [hi]
set_option maxHeartbeats 4000000 in
set_option maxRecDepth 100000 in
theorem c_change (l : Launch) {G : zz_G} {ad : Nat → Nat} {ce : zz_C} {sz : Nat} (n : Nat) (x : List Nat) (hV : cl_m G ad ce n x) (v mv : Int32) (hm0 : ¬ mv < 0) (hmm : mv.toNatClampNeg < 256) : zz_M l yX0_change cX0_change 3 none 1 21 0 0 G [.ref (ad n), .int v, .int mv] ad ce sz (fun r ad1 ce1 => r = none ∧ ad = ad1 ∧ cl_m G ad ce1 n (cl_chg x v mv) ∧ (∀ j, j ≠ n → j ≠ n + 1 → ce1 j = ce j)) := by
  refine zz_enter (by decide) (Nat.le_of_ble_eq_true rfl) ?_
  intro p e s m below meth c ls F hl hw hS hA
  obtain ⟨hx, hb, hr, hml, hown, hts, hlocks, hK, hnm⟩ := id F
  have hl : lv_has ls 3 [(0, .ref (ad n)), (1, .int v), (2, .int mv)] := hl
  obtain ⟨f, h0, h1, hM⟩ := id hV
  have hM24 := hM.1
  have hF : ∀ j, j ≠ n → j ≠ n + 1 → ce j = ce j := fun _ _ _ => rfl
  refine lv_aload_n hx hb dX0_change_0 rfl (lv_at hl 0 rfl) ?_
  refine lv_iload_n hx hb dX0_change_1 rfl (lv_at hl 1 rfl) ?_
  refine z_invV F (rest := []) (c_hasByte l n x hV v) yv_X0_23 ⟨Nat.le_of_ble_eq_true rfl, Nat.le_of_ble_eq_true rfl⟩ hw hA hS hl h0 rfl rfl rfl (Nat.le_of_ble_eq_true rfl) dX0_change_2 ⟨Nat.le_of_ble_eq_true rfl, Nat.le_of_ble_eq_true rfl⟩ (fun r ad1 ce1 H locs hp hw hS => ?_)
  obtain ⟨hp, rfl, rfl⟩ := hp
  rcases hp with ⟨hin, rfl⟩ | ⟨hin, rfl⟩
  · refine W.eq (g2 := F0 m 5 ls [.int 1]) rfl ?_
    refine lv_if_eq (tgt := 18) hx hb dX0_change_5 (by decide) (fun c5 => absurd c5 (by decide)) (fun c5 => ?_)
    have hii : v.toNatClampNeg < x.length := cl_ixl hin.1 hin.2
    have hb8 := (hM.2 v.toNatClampNeg hii).2
    refine lv_aload_n hx hb dX0_change_8 rfl (lv_at hl 0 rfl) ?_
    refine z_get F hw h0 fd_X0_11_X0 rfl dX0_change_9 ?_
    refine lv_iload_n hx hb dX0_change_12 rfl (lv_at hl 1 rfl) ?_
    refine lv_dup2_11 hx hb dX0_change_13 rfl rfl ?_
    refine z_ld F hw h1 (v.toNatClampNeg) (cl_ixv hin.1) (by omega) (by decide) dX0_change_14 ?_
    refine z_top (nI (x.getD v.toNatClampNeg 0)) ((hM.2 v.toNatClampNeg hii).1) ?_
    refine lv_iload_n hx hb dX0_change_15 rfl (lv_at hl 2 rfl) ?_
    refine lv_ixor hx hb dX0_change_16 ?_
    refine z_top (nI (x.getD v.toNatClampNeg 0 ^^^ mv.toNatClampNeg)) ((congrArg (fun z => nI (x.getD v.toNatClampNeg 0) ^^^ z) (cl_ixv hm0)).trans (cl_xor _ _)) ?_
    refine z_st F hw hS h1 (v.toNatClampNeg) (cl_ixv hin.1) (by omega) (by decide) dX0_change_17 (fun ce2 H locs h1 fr3 hw hS => ?_)
    have h0 := (fr3 n (by omega)).trans h0
    have hF : ∀ j, j ≠ n → j ≠ n + 1 → _ = ce j := fun j hj hk => (fr3 j (by omega)).trans (hF j hj hk)
    exact z_vret F hw hS (by unfold cl_chg; rw [if_pos hin]; exact ⟨rfl, rfl, ⟨_, by rw [List.length_set]; exact h0, h1, rfM_set hM hii (Nat.xor_lt_two_pow (n := 8) hb8 hmm)⟩, hF⟩) dX0_change_18
  · refine W.eq (g2 := F0 m 5 ls [.int 0]) rfl ?_
    refine lv_if_eq (tgt := 18) hx hb dX0_change_5 (by decide) (fun c5 => ?_) (fun c5 => absurd c5 (by decide))
    exact z_vret F hw hS (by unfold cl_chg; rw [if_neg hin]; exact ⟨rfl, rfl, hV, hF⟩) dX0_change_18
set_option maxHeartbeats 4000000 in
set_option maxRecDepth 100000 in
theorem c_byteAt (l : Launch) {G : zz_G} {ad : Nat → Nat} {ce : zz_C} {sz : Nat} (n : Nat) (x : List Nat) (hV : cl_m G ad ce n x) (v : Int32) : zz_M l yX0_byteAt cX0_byteAt 2 (some .int) 1 21 0 0 G [.ref (ad n), .int v] ad ce sz (fun r ad1 ce1 => r = some (.int (cl_byte x v)) ∧ ad = ad1 ∧ ce = ce1) := by
  refine zz_enter (by decide) (Nat.le_of_ble_eq_true rfl) ?_
  intro p e s m below meth c ls F hl hw hS hA
  obtain ⟨hx, hb, hr, hml, hown, hts, hlocks, hK, hnm⟩ := id F
  have hl : lv_has ls 2 [(0, .ref (ad n)), (1, .int v)] := hl
  obtain ⟨f, h0, h1, hM⟩ := id hV
  have hM24 := hM.1
  have hF : ∀ j, j ≠ n → j ≠ n + 1 → ce j = ce j := fun _ _ _ => rfl
  refine lv_aload_n hx hb dX0_byteAt_0 rfl (lv_at hl 0 rfl) ?_
  refine lv_iload_n hx hb dX0_byteAt_1 rfl (lv_at hl 1 rfl) ?_
  refine z_invV F (rest := []) (c_hasByte l n x hV v) yv_X0_23 ⟨Nat.le_of_ble_eq_true rfl, Nat.le_of_ble_eq_true rfl⟩ hw hA hS hl h0 rfl rfl rfl (Nat.le_of_ble_eq_true rfl) dX0_byteAt_2 ⟨Nat.le_of_ble_eq_true rfl, Nat.le_of_ble_eq_true rfl⟩ (fun r ad1 ce1 H locs hp hw hS => ?_)
  obtain ⟨hp, rfl, rfl⟩ := hp
  rcases hp with ⟨hin, rfl⟩ | ⟨hin, rfl⟩
  · refine W.eq (g2 := F0 m 5 ls [.int 1]) rfl ?_
    refine lv_if_eq (tgt := 17) hx hb dX0_byteAt_5 (by decide) (fun c5 => absurd c5 (by decide)) (fun c5 => ?_)
    have hii : v.toNatClampNeg < x.length := cl_ixl hin.1 hin.2
    refine lv_aload_n hx hb dX0_byteAt_8 rfl (lv_at hl 0 rfl) ?_
    refine z_get F hw h0 fd_X0_11_X0 rfl dX0_byteAt_9 ?_
    refine lv_iload_n hx hb dX0_byteAt_12 rfl (lv_at hl 1 rfl) ?_
    refine z_ld F hw h1 (v.toNatClampNeg) (cl_ixv hin.1) (by omega) (by decide) dX0_byteAt_13 ?_
    refine z_top (nI (x.getD v.toNatClampNeg 0)) ((hM.2 v.toNatClampNeg hii).1) ?_
    refine lv_goto (tgt := 19) hx hb dX0_byteAt_14 (by decide) ?_
    exact z_iret F (rfl) hw hS (by unfold cl_byte; rw [if_pos hin]; exact ⟨rfl, rfl, rfl⟩) dX0_byteAt_19
  · refine W.eq (g2 := F0 m 5 ls [.int 0]) rfl ?_
    refine lv_if_eq (tgt := 17) hx hb dX0_byteAt_5 (by decide) (fun c5 => ?_) (fun c5 => absurd c5 (by decide))
    refine lv_bipush (v := -3) hx hb dX0_byteAt_17 (by decide) ?_
    exact z_iret F (rfl) hw hS (by unfold cl_byte; rw [if_neg hin]; exact ⟨rfl, rfl, rfl⟩) dX0_byteAt_19
set_option maxHeartbeats 4000000 in
set_option maxRecDepth 100000 in
theorem c_protocol (l : Launch) {G : zz_G} {ad : Nat → Nat} {ce : zz_C} {sz : Nat} (n : Nat) (x : List Nat) (hV : cl_m G ad ce n x) (hx2 : 2 ≤ x.length) : zz_M l yX0_protocol cX0_protocol 1 (some .int) 0 0 0 0 G [.ref (ad n)] ad ce sz (fun r ad1 ce1 => r = some (.int (nI (x.getD 0 0))) ∧ ad = ad1 ∧ ce = ce1) := by
  refine zz_enter (by decide) (Nat.le_of_ble_eq_true rfl) ?_
  intro p e s m below meth c ls F hl hw hS hA
  obtain ⟨hx, hb, hr, hml, hown, hts, hlocks, hK, hnm⟩ := id F
  have hl : lv_has ls 1 [(0, .ref (ad n))] := hl
  obtain ⟨f, h0, h1, hM⟩ := id hV
  have hM24 := hM.1
  have hF : ∀ j, j ≠ n → j ≠ n + 1 → ce j = ce j := fun _ _ _ => rfl
  refine lv_aload_n hx hb dX0_protocol_0 rfl (lv_at hl 0 rfl) ?_
  refine z_get F hw h0 fd_X0_11_X0 rfl dX0_protocol_1 ?_
  refine lv_iconst (v := 0) hx hb dX0_protocol_4 (by decide) ?_
  refine z_ld F hw h1 (0) (rfl) (by decide) (by decide) dX0_protocol_5 ?_
  refine z_top (nI (x.getD 0 0)) ((hM.2 0 (by omega)).1) ?_
  exact z_iret F (rfl) hw hS (⟨rfl, rfl, rfl⟩) dX0_protocol_6
set_option maxHeartbeats 4000000 in
set_option maxRecDepth 100000 in
theorem c_type (l : Launch) {G : zz_G} {ad : Nat → Nat} {ce : zz_C} {sz : Nat} (n : Nat) (x : List Nat) (hV : cl_m G ad ce n x) (hx2 : 2 ≤ x.length) : zz_M l yX0_type cX0_type 1 (some .int) 0 0 0 0 G [.ref (ad n)] ad ce sz (fun r ad1 ce1 => r = some (.int (nI (x.getD 1 0))) ∧ ad = ad1 ∧ ce = ce1) := by
  refine zz_enter (by decide) (Nat.le_of_ble_eq_true rfl) ?_
  intro p e s m below meth c ls F hl hw hS hA
  obtain ⟨hx, hb, hr, hml, hown, hts, hlocks, hK, hnm⟩ := id F
  have hl : lv_has ls 1 [(0, .ref (ad n))] := hl
  obtain ⟨f, h0, h1, hM⟩ := id hV
  have hM24 := hM.1
  have hF : ∀ j, j ≠ n → j ≠ n + 1 → ce j = ce j := fun _ _ _ => rfl
  refine lv_aload_n hx hb dX0_type_0 rfl (lv_at hl 0 rfl) ?_
  refine z_get F hw h0 fd_X0_11_X0 rfl dX0_type_1 ?_
  refine lv_iconst (v := 1) hx hb dX0_type_4 (by decide) ?_
  refine z_ld F hw h1 (1) (rfl) (by decide) (by decide) dX0_type_5 ?_
  refine z_top (nI (x.getD 1 0)) ((hM.2 1 (by omega)).1) ?_
  exact z_iret F (rfl) hw hS (⟨rfl, rfl, rfl⟩) dX0_type_6
theorem cl_end_s (M : List Nat) {i t : Nat} (ht : t < 24) (h : i + 1 < M.length) : rf_end M (24 - t) i = rf_end M (24 - (t + 1)) (i + 2 + M.getD (i + 1) 0) := by
  rw [show 24 - t = (24 - (t + 1)) + 1 by omega, rf_end, if_pos h]
theorem cl_end_e (M : List Nat) {i t : Nat} (h : t < 24 → ¬ i + 1 < M.length) : rf_end M (24 - t) i = i := by
  by_cases ht : t < 24
  · rw [show 24 - t = (24 - (t + 1)) + 1 by omega, rf_end, if_neg (h ht)]
  · rw [show 24 - t = 0 by omega, rf_end]
theorem cl_find_s (M : List Nat) (tg : Nat) {i t : Nat} (ht : t < 24) (h : i + 1 < M.length) (hn : ¬ M.getD i 0 = tg) : rf_find M tg (24 - t) i = rf_find M tg (24 - (t + 1)) (i + 2 + M.getD (i + 1) 0) := by
  rw [show 24 - t = (24 - (t + 1)) + 1 by omega, rf_find, if_pos h, if_neg hn]
theorem cl_find_e (M : List Nat) (tg : Nat) {i t : Nat} (h : t < 24 → ¬ i + 1 < M.length) : rf_find M tg (24 - t) i = none := by
  by_cases ht : t < 24
  · rw [show 24 - t = (24 - (t + 1)) + 1 by omega, rf_find, if_neg (h ht)]
  · rw [show 24 - t = 0 by omega, rf_find]
theorem cl_find_h (M : List Nat) (tg : Nat) {i t : Nat} (ht : t < 24) (h : i + 1 < M.length) (hn : M.getD i 0 = tg) : rf_find M tg (24 - t) i = some i := by
  rw [show 24 - t = (24 - (t + 1)) + 1 by omega, rf_find, if_pos h, if_pos hn]
def cl_at (M : List Nat) (tg : Nat) : Int32 := match rf_fd M tg with | some i => nI i | none => -3
def cl_size (M : List Nat) (tg : Nat) : Int32 := match rf_sz M tg with | some n => nI n | none => -3
set_option maxHeartbeats 4000000 in
set_option maxRecDepth 100000 in
theorem c_isGood (l : Launch) {G : zz_G} {ad : Nat → Nat} {ce : zz_C} {sz : Nat} (n : Nat) (x : List Nat) (hV : cl_m G ad ce n x) : zz_M l yX0_isGood cX0_isGood 3 (some .boolean) 0 0 0 0 G [.ref (ad n)] ad ce sz (fun r ad1 ce1 => ((rf_good x ∧ r = some (.int 1)) ∨ (¬ rf_good x ∧ r = some (.int 0))) ∧ ad = ad1 ∧ ce = ce1) := by
  refine zz_enter (by decide) (Nat.le_of_ble_eq_true rfl) ?_
  intro p e s m below meth c ls F hl hw hS hA
  obtain ⟨hx, hb, hr, hml, hown, hts, hlocks, hK, hnm⟩ := id F
  have hl : lv_has ls 3 [(0, .ref (ad n))] := hl
  obtain ⟨f, h0, h1, hM⟩ := id hV
  have hM24 := hM.1
  have hF : ∀ j, j ≠ n → j ≠ n + 1 → ce j = ce j := fun _ _ _ => rfl
  refine lv_iconst (v := 2) hx hb dX0_isGood_0 (by decide) ?_
  refine lv_istore_n (lv' := [(1, .int 2), (0, .ref (ad n))]) hx hb dX0_isGood_1 rfl hl (by decide) rfl (fun ls hl => ?_)
  refine lv_iconst (v := 0) hx hb dX0_isGood_2 (by decide) ?_
  refine lv_istore_n (lv' := [(2, .int 0), (1, .int 2), (0, .ref (ad n))]) hx hb dX0_isGood_3 rfl hl (by decide) rfl (fun ls hl => ?_)
  refine z_loop (α := Nat × Nat) (fun a => 24 - a.2) (fun a ce9 ls9 => lv_has ls9 3 [(0, .ref (ad n)), (1, .int (nI a.1)), (2, .int (nI a.2))] ∧ ce = ce9 ∧ a.1 ≤ 300 ∧ a.2 ≤ 24 ∧ rf_end x (24 - a.2) a.1 = rf_end x 24 2) (2, 0) ⟨lv_sub hl [2, 1, 0] rfl, rfl, by decide, by decide, rfl⟩ hw hS (fun a ih4 ce9 H locs ls hI hw hS => ?_)
  obtain ⟨hl, hce, hi3, ht, hie⟩ := hI
  subst hce
  refine lv_iload_n hx hb dX0_isGood_4 rfl (lv_at hl 2 rfl) ?_
  refine lv_bipush (v := 24) hx hb dX0_isGood_5 (by decide) ?_
  refine lv_icmp_ge (tgt := 39) hx hb dX0_isGood_7 (by decide) (fun c7 => ?_) (fun c7 => ?_)
  · have hge : a.2 < 24 → ¬ a.1 + 1 < x.length := fun h1 h2 => absurd c7 (nI_ge (b := 24) h1 (by decide))
    have hee : rf_end x 24 2 = a.1 := by rw [← hie]; exact cl_end_e x hge
    refine lv_iload_n hx hb dX0_isGood_39 rfl (lv_at hl 1 rfl) ?_
    refine lv_aload_n hx hb dX0_isGood_40 rfl (lv_at hl 0 rfl) ?_
    refine z_get F hw h0 fd_X0_15_X0 rfl dX0_isGood_41 ?_
    refine lv_icmp_ne (tgt := 51) hx hb dX0_isGood_44 (by decide) (fun c44 => ?_) (fun c44 => ?_)
    · refine lv_iconst (v := 0) hx hb dX0_isGood_51 (by decide) ?_
      exact z_iret F (rfl) hw hS (⟨Or.inr ⟨fun q => c44 (by unfold rf_good at q; rw [← q, hee]), rfl⟩, rfl, rfl⟩) dX0_isGood_52
    · refine lv_iconst (v := 1) hx hb dX0_isGood_47 (by decide) ?_
      refine lv_goto (tgt := 52) hx hb dX0_isGood_48 (by decide) ?_
      exact z_iret F (rfl) hw hS (⟨Or.inl ⟨by unfold rf_good; rw [hee]; exact (nI_eq (by omega) (by omega)).mp c44, rfl⟩, rfl, rfl⟩) dX0_isGood_52
  · refine lv_iload_n hx hb dX0_isGood_10 rfl (lv_at hl 1 rfl) ?_
    refine lv_iconst (v := 1) hx hb dX0_isGood_11 (by decide) ?_
    refine lv_iadd hx hb dX0_isGood_12 ?_
    refine z_top (nI (a.1 + 1)) (nI_1 a.1) ?_
    refine lv_aload_n hx hb dX0_isGood_13 rfl (lv_at hl 0 rfl) ?_
    refine z_get F hw h0 fd_X0_15_X0 rfl dX0_isGood_14 ?_
    refine lv_icmp_ge (tgt := 39) hx hb dX0_isGood_17 (by decide) (fun c17 => ?_) (fun c17 => ?_)
    · have hge : a.2 < 24 → ¬ a.1 + 1 < x.length := fun h1 h2 => absurd c17 (nI_ge h2 (by omega))
      have hee : rf_end x 24 2 = a.1 := by rw [← hie]; exact cl_end_e x hge
      refine lv_iload_n hx hb dX0_isGood_39 rfl (lv_at hl 1 rfl) ?_
      refine lv_aload_n hx hb dX0_isGood_40 rfl (lv_at hl 0 rfl) ?_
      refine z_get F hw h0 fd_X0_15_X0 rfl dX0_isGood_41 ?_
      refine lv_icmp_ne (tgt := 51) hx hb dX0_isGood_44 (by decide) (fun c44 => ?_) (fun c44 => ?_)
      · refine lv_iconst (v := 0) hx hb dX0_isGood_51 (by decide) ?_
        exact z_iret F (rfl) hw hS (⟨Or.inr ⟨fun q => c44 (by unfold rf_good at q; rw [← q, hee]), rfl⟩, rfl, rfl⟩) dX0_isGood_52
      · refine lv_iconst (v := 1) hx hb dX0_isGood_47 (by decide) ?_
        refine lv_goto (tgt := 52) hx hb dX0_isGood_48 (by decide) ?_
        exact z_iret F (rfl) hw hS (⟨Or.inl ⟨by unfold rf_good; rw [hee]; exact (nI_eq (by omega) (by omega)).mp c44, rfl⟩, rfl, rfl⟩) dX0_isGood_52
    · have hlt : a.1 + 1 < x.length := Nat.lt_of_not_le (fun q => c17 (nI_le q (by omega)))
      have ht24 : a.2 < 24 := Nat.lt_of_not_le (fun q => c7 (nI_le (a := 24) q (by omega)))
      have hb8 := (hM.2 (a.1 + 1) hlt).2
      have hb7 := (hM.2 a.1 (by omega)).2
      refine lv_iload_n hx hb dX0_isGood_20 rfl (lv_at hl 1 rfl) ?_
      refine lv_iconst (v := 2) hx hb dX0_isGood_21 (by decide) ?_
      refine lv_aload_n hx hb dX0_isGood_22 rfl (lv_at hl 0 rfl) ?_
      refine z_get F hw h0 fd_X0_11_X0 rfl dX0_isGood_23 ?_
      refine lv_iload_n hx hb dX0_isGood_26 rfl (lv_at hl 1 rfl) ?_
      refine lv_iconst (v := 1) hx hb dX0_isGood_27 (by decide) ?_
      refine lv_iadd hx hb dX0_isGood_28 ?_
      refine z_top (nI (a.1 + 1)) (nI_1 a.1) ?_
      refine z_ld F hw h1 (a.1 + 1) (rfl) (by omega) (by decide) dX0_isGood_29 ?_
      refine z_top (nI (x.getD (a.1 + 1) 0)) ((hM.2 (a.1 + 1) hlt).1) ?_
      refine lv_iadd hx hb dX0_isGood_30 ?_
      refine z_top (nI (2 + x.getD (a.1 + 1) 0)) (nI_add 2 _) ?_
      refine lv_iadd hx hb dX0_isGood_31 ?_
      refine z_top (nI (a.1 + 2 + x.getD (a.1 + 1) 0)) ((nI_add _ _).trans (congrArg nI (by omega))) ?_
      refine lv_istore_n (lv' := [(1, .int (nI (a.1 + 2 + x.getD (a.1 + 1) 0))), (0, .ref (ad n)), (2, .int (nI a.2))]) hx hb dX0_isGood_32 rfl hl (by decide) rfl (fun ls hl => ?_)
      refine lv_iinc (v := nI (a.2 + 1)) (lv' := [(2, .int (nI (a.2 + 1))), (1, .int (nI (a.1 + 2 + x.getD (a.1 + 1) 0))), (0, .ref (ad n))]) hx hb dX0_isGood_33 hl (k := 2) rfl (nI_1 a.2) (by decide) rfl (fun ls hl => ?_)
      refine lv_goto (tgt := 4) hx hb dX0_isGood_36 (by decide) ?_
      exact ih4 (a.1 + 2 + x.getD (a.1 + 1) 0, a.2 + 1) _ _ _ _ (by show 24 - (a.2 + 1) < 24 - a.2; omega) ⟨lv_sub hl [2, 1, 0] rfl, rfl, (by show a.1 + 2 + x.getD (a.1 + 1) 0 ≤ 300; omega), (by show a.2 + 1 ≤ 24; omega), by rw [← cl_end_s x ht24 hlt]; exact hie⟩ hw hS
set_option maxHeartbeats 4000000 in
set_option maxRecDepth 100000 in
theorem c_find (l : Launch) {G : zz_G} {ad : Nat → Nat} {ce : zz_C} {sz : Nat} (n : Nat) (x : List Nat) (hV : cl_m G ad ce n x) (tg : Nat) (htg : tg < 256) : zz_M l yX0_find cX0_find 4 (some .int) 0 0 0 0 G [.ref (ad n), .int (nI tg)] ad ce sz (fun r ad1 ce1 => r = some (.int (cl_at x tg)) ∧ ad = ad1 ∧ ce = ce1) := by
  refine zz_enter (by decide) (Nat.le_of_ble_eq_true rfl) ?_
  intro p e s m below meth c ls F hl hw hS hA
  obtain ⟨hx, hb, hr, hml, hown, hts, hlocks, hK, hnm⟩ := id F
  have hl : lv_has ls 4 [(0, .ref (ad n)), (1, .int (nI tg))] := hl
  obtain ⟨f, h0, h1, hM⟩ := id hV
  have hM24 := hM.1
  have hF : ∀ j, j ≠ n → j ≠ n + 1 → ce j = ce j := fun _ _ _ => rfl
  refine lv_iconst (v := 2) hx hb dX0_find_0 (by decide) ?_
  refine lv_istore_n (lv' := [(2, .int 2), (0, .ref (ad n)), (1, .int (nI tg))]) hx hb dX0_find_1 rfl hl (by decide) rfl (fun ls hl => ?_)
  refine lv_iconst (v := 0) hx hb dX0_find_2 (by decide) ?_
  refine lv_istore_n (lv' := [(3, .int 0), (2, .int 2), (0, .ref (ad n)), (1, .int (nI tg))]) hx hb dX0_find_3 rfl hl (by decide) rfl (fun ls hl => ?_)
  refine z_loop (α := Nat × Nat) (fun a => 24 - a.2) (fun a ce9 ls9 => lv_has ls9 4 [(0, .ref (ad n)), (1, .int (nI tg)), (2, .int (nI a.1)), (3, .int (nI a.2))] ∧ ce = ce9 ∧ a.1 ≤ 300 ∧ a.2 ≤ 24 ∧ rf_find x tg (24 - a.2) a.1 = rf_fd x tg) (2, 0) ⟨lv_sub hl [2, 3, 1, 0] rfl, rfl, by decide, by decide, rfl⟩ hw hS (fun a ih4 ce9 H locs ls hI hw hS => ?_)
  obtain ⟨hl, hce, hi3, ht, hie⟩ := hI
  subst hce
  refine lv_iload_n hx hb dX0_find_4 rfl (lv_at hl 3 rfl) ?_
  refine lv_bipush (v := 24) hx hb dX0_find_5 (by decide) ?_
  refine lv_icmp_ge (tgt := 51) hx hb dX0_find_7 (by decide) (fun c7 => ?_) (fun c7 => ?_)
  · have hge : a.2 < 24 → ¬ a.1 + 1 < x.length := fun h1 h2 => absurd c7 (nI_ge (b := 24) h1 (by decide))
    refine lv_bipush (v := -3) hx hb dX0_find_51 (by decide) ?_
    exact z_iret F (rfl) hw hS (⟨by rw [cl_at, ← hie, cl_find_e x tg hge], rfl, rfl⟩) dX0_find_53
  · refine lv_iload_n hx hb dX0_find_10 rfl (lv_at hl 2 rfl) ?_
    refine lv_iconst (v := 1) hx hb dX0_find_11 (by decide) ?_
    refine lv_iadd hx hb dX0_find_12 ?_
    refine z_top (nI (a.1 + 1)) (nI_1 a.1) ?_
    refine lv_aload_n hx hb dX0_find_13 rfl (lv_at hl 0 rfl) ?_
    refine z_get F hw h0 fd_X0_15_X0 rfl dX0_find_14 ?_
    refine lv_icmp_ge (tgt := 51) hx hb dX0_find_17 (by decide) (fun c17 => ?_) (fun c17 => ?_)
    · have hge : a.2 < 24 → ¬ a.1 + 1 < x.length := fun h1 h2 => absurd c17 (nI_ge h2 (by omega))
      refine lv_bipush (v := -3) hx hb dX0_find_51 (by decide) ?_
      exact z_iret F (rfl) hw hS (⟨by rw [cl_at, ← hie, cl_find_e x tg hge], rfl, rfl⟩) dX0_find_53
    · have hlt : a.1 + 1 < x.length := Nat.lt_of_not_le (fun q => c17 (nI_le q (by omega)))
      have ht24 : a.2 < 24 := Nat.lt_of_not_le (fun q => c7 (nI_le (a := 24) q (by omega)))
      have hb8 := (hM.2 (a.1 + 1) hlt).2
      have hb7 := (hM.2 a.1 (by omega)).2
      refine lv_aload_n hx hb dX0_find_20 rfl (lv_at hl 0 rfl) ?_
      refine z_get F hw h0 fd_X0_11_X0 rfl dX0_find_21 ?_
      refine lv_iload_n hx hb dX0_find_24 rfl (lv_at hl 2 rfl) ?_
      refine z_ld F hw h1 (a.1) (rfl) (by omega) (by decide) dX0_find_25 ?_
      refine z_top (nI (x.getD a.1 0)) ((hM.2 a.1 (by omega)).1) ?_
      refine lv_iload_n hx hb dX0_find_26 rfl (lv_at hl 1 rfl) ?_
      refine lv_icmp_ne (tgt := 32) hx hb dX0_find_27 (by decide) (fun c27 => ?_) (fun c27 => ?_)
      · refine lv_iload_n hx hb dX0_find_32 rfl (lv_at hl 2 rfl) ?_
        refine lv_iconst (v := 2) hx hb dX0_find_33 (by decide) ?_
        refine lv_aload_n hx hb dX0_find_34 rfl (lv_at hl 0 rfl) ?_
        refine z_get F hw h0 fd_X0_11_X0 rfl dX0_find_35 ?_
        refine lv_iload_n hx hb dX0_find_38 rfl (lv_at hl 2 rfl) ?_
        refine lv_iconst (v := 1) hx hb dX0_find_39 (by decide) ?_
        refine lv_iadd hx hb dX0_find_40 ?_
        refine z_top (nI (a.1 + 1)) (nI_1 a.1) ?_
        refine z_ld F hw h1 (a.1 + 1) (rfl) (by omega) (by decide) dX0_find_41 ?_
        refine z_top (nI (x.getD (a.1 + 1) 0)) ((hM.2 (a.1 + 1) hlt).1) ?_
        refine lv_iadd hx hb dX0_find_42 ?_
        refine z_top (nI (2 + x.getD (a.1 + 1) 0)) (nI_add 2 _) ?_
        refine lv_iadd hx hb dX0_find_43 ?_
        refine z_top (nI (a.1 + 2 + x.getD (a.1 + 1) 0)) ((nI_add _ _).trans (congrArg nI (by omega))) ?_
        refine lv_istore_n (lv' := [(2, .int (nI (a.1 + 2 + x.getD (a.1 + 1) 0))), (0, .ref (ad n)), (1, .int (nI tg)), (3, .int (nI a.2))]) hx hb dX0_find_44 rfl hl (by decide) rfl (fun ls hl => ?_)
        refine lv_iinc (v := nI (a.2 + 1)) (lv' := [(3, .int (nI (a.2 + 1))), (2, .int (nI (a.1 + 2 + x.getD (a.1 + 1) 0))), (0, .ref (ad n)), (1, .int (nI tg))]) hx hb dX0_find_45 hl (k := 3) rfl (nI_1 a.2) (by decide) rfl (fun ls hl => ?_)
        refine lv_goto (tgt := 4) hx hb dX0_find_48 (by decide) ?_
        exact ih4 (a.1 + 2 + x.getD (a.1 + 1) 0, a.2 + 1) _ _ _ _ (by show 24 - (a.2 + 1) < 24 - a.2; omega) ⟨lv_sub hl [2, 3, 1, 0] rfl, rfl, (by show a.1 + 2 + x.getD (a.1 + 1) 0 ≤ 300; omega), (by show a.2 + 1 ≤ 24; omega), by rw [← cl_find_s x tg ht24 hlt (fun q => c27 (by rw [q]))]; exact hie⟩ hw hS
      · refine lv_iload_n hx hb dX0_find_30 rfl (lv_at hl 2 rfl) ?_
        exact z_iret F (rfl) hw hS (⟨by rw [cl_at, ← hie, cl_find_h x tg ht24 hlt ((nI_eq (by omega) (by omega)).mp c27)], rfl, rfl⟩) dX0_find_31
set_option maxHeartbeats 4000000 in
set_option maxRecDepth 100000 in
theorem c_sizeOf (l : Launch) {G : zz_G} {ad : Nat → Nat} {ce : zz_C} {sz : Nat} (n : Nat) (x : List Nat) (hV : cl_m G ad ce n x) (tg : Nat) (htg : tg < 256) : zz_M l yX0_sizeOf cX0_sizeOf 3 (some .int) 1 23 0 0 G [.ref (ad n), .int (nI tg)] ad ce sz (fun r ad1 ce1 => r = some (.int (cl_size x tg)) ∧ ad = ad1 ∧ ce = ce1) := by
  refine zz_enter (by decide) (Nat.le_of_ble_eq_true rfl) ?_
  intro p e s m below meth c ls F hl hw hS hA
  obtain ⟨hx, hb, hr, hml, hown, hts, hlocks, hK, hnm⟩ := id F
  have hl : lv_has ls 3 [(0, .ref (ad n)), (1, .int (nI tg))] := hl
  obtain ⟨f, h0, h1, hM⟩ := id hV
  have hM24 := hM.1
  have hF : ∀ j, j ≠ n → j ≠ n + 1 → ce j = ce j := fun _ _ _ => rfl
  refine lv_aload_n hx hb dX0_sizeOf_0 rfl (lv_at hl 0 rfl) ?_
  refine lv_iload_n hx hb dX0_sizeOf_1 rfl (lv_at hl 1 rfl) ?_
  refine z_invV F (rest := []) (c_find l n x hV tg htg) yv_X0_31 ⟨Nat.le_of_ble_eq_true rfl, Nat.le_of_ble_eq_true rfl⟩ hw hA hS hl h0 rfl rfl rfl (Nat.le_of_ble_eq_true rfl) dX0_sizeOf_2 ⟨Nat.le_of_ble_eq_true rfl, Nat.le_of_ble_eq_true rfl⟩ (fun r ad1 ce1 H locs hp hw hS => ?_)
  obtain ⟨rfl, rfl, rfl⟩ := hp
  rcases hfd : rf_fd x tg with _ | i
  · refine W.eq (g2 := F0 m 5 ls [.int (-3)]) (by rw [cl_at, hfd]; rfl) ?_
    refine lv_istore_n (lv' := [(2, .int (-3)), (0, .ref (ad n)), (1, .int (nI tg))]) hx hb dX0_sizeOf_5 rfl hl (by decide) rfl (fun ls hl => ?_)
    refine lv_iload_n hx hb dX0_sizeOf_6 rfl (lv_at hl 0 rfl) ?_
    refine lv_bipush (v := -3) hx hb dX0_sizeOf_7 (by decide) ?_
    refine lv_icmp_ne (tgt := 17) hx hb dX0_sizeOf_9 (by decide) (fun c9 => absurd rfl c9) (fun c9 => ?_)
    refine lv_bipush (v := -3) hx hb dX0_sizeOf_12 (by decide) ?_
    refine lv_goto (tgt := 25) hx hb dX0_sizeOf_14 (by decide) ?_
    exact z_iret F (rfl) hw hS (⟨by unfold cl_size rf_sz; rw [hfd]; rfl, rfl, rfl⟩) dX0_sizeOf_25
  · refine W.eq (g2 := F0 m 5 ls [.int (nI i)]) (by rw [cl_at, hfd]; rfl) ?_
    obtain ⟨hi2, hlt⟩ := rf_find_in x tg 24 2 i hfd
    have hb8 := (hM.2 (i + 1) hlt).2
    refine lv_istore_n (lv' := [(2, .int (nI i)), (0, .ref (ad n)), (1, .int (nI tg))]) hx hb dX0_sizeOf_5 rfl hl (by decide) rfl (fun ls hl => ?_)
    refine lv_iload_n hx hb dX0_sizeOf_6 rfl (lv_at hl 0 rfl) ?_
    refine lv_bipush (v := -3) hx hb dX0_sizeOf_7 (by decide) ?_
    refine lv_icmp_ne (tgt := 17) hx hb dX0_sizeOf_9 (by decide) (fun c9 => ?_) (fun c9 => absurd c9 (fun q => nI_pos (n := i) (by omega) (by rw [q]; decide)))
    refine lv_aload_n hx hb dX0_sizeOf_17 rfl (lv_at hl 1 rfl) ?_
    refine z_get F hw h0 fd_X0_11_X0 rfl dX0_sizeOf_18 ?_
    refine lv_iload_n hx hb dX0_sizeOf_21 rfl (lv_at hl 0 rfl) ?_
    refine lv_iconst (v := 1) hx hb dX0_sizeOf_22 (by decide) ?_
    refine lv_iadd hx hb dX0_sizeOf_23 ?_
    refine z_top (nI (i + 1)) (nI_1 i) ?_
    refine z_ld F hw h1 (i + 1) (rfl) (by omega) (by decide) dX0_sizeOf_24 ?_
    refine z_top (nI (x.getD (i + 1) 0)) ((hM.2 (i + 1) hlt).1) ?_
    exact z_iret F (rfl) hw hS (⟨by unfold cl_size rf_sz; rw [hfd]; rfl, rfl, rfl⟩) dX0_sizeOf_25
theorem cl_size_eq {x : List Nat} {tg k : Nat} (hk : k < 256) (hb : ∀ i, i < x.length → x.getD i 0 < 256) : cl_size x tg = nI k ↔ rf_sz x tg = some k := by
  unfold cl_size
  rcases h : rf_sz x tg with _ | j
  · refine ⟨fun q => absurd (q : (-3 : Int32) = nI k) (fun q => nI_pos (n := k) (by omega) (by rw [← q]; decide)), fun q => by cases q⟩
  · have hj : j < 256 := by
      unfold rf_sz at h
      obtain ⟨i, h1, h2⟩ := Option.map_eq_some_iff.mp h
      obtain ⟨-, h3⟩ := rf_find_in x tg 24 2 i h1
      rw [← h2]
      exact hb _ h3
    refine ⟨fun q => ?_, fun q => ?_⟩
    · rw [show j = k from (nI_eq (by omega) (by omega)).mp q]
    · cases q; rfl
set_option maxHeartbeats 4000000 in
set_option maxRecDepth 100000 in
theorem c_has (l : Launch) {G : zz_G} {ad : Nat → Nat} {ce : zz_C} {sz : Nat} (n : Nat) (x : List Nat) (hV : cl_m G ad ce n x) (tg k : Nat) (htg : tg < 256) (hk : k < 256) : zz_M l yX0_has cX0_has 3 (some .boolean) 2 45 0 0 G [.ref (ad n), .int (nI tg), .int (nI k)] ad ce sz (fun r ad1 ce1 => ((rf_sz x tg = some k ∧ r = some (.int 1)) ∨ (¬ rf_sz x tg = some k ∧ r = some (.int 0))) ∧ ad = ad1 ∧ ce = ce1) := by
  refine zz_enter (by decide) (Nat.le_of_ble_eq_true rfl) ?_
  intro p e s m below meth c ls F hl hw hS hA
  obtain ⟨hx, hb, hr, hml, hown, hts, hlocks, hK, hnm⟩ := id F
  have hl : lv_has ls 3 [(0, .ref (ad n)), (1, .int (nI tg)), (2, .int (nI k))] := hl
  obtain ⟨f, h0, h1, hM⟩ := id hV
  have hM24 := hM.1
  have hF : ∀ j, j ≠ n → j ≠ n + 1 → ce j = ce j := fun _ _ _ => rfl
  refine lv_aload_n hx hb dX0_has_0 rfl (lv_at hl 0 rfl) ?_
  refine lv_iload_n hx hb dX0_has_1 rfl (lv_at hl 1 rfl) ?_
  refine z_invV F (rest := []) (c_sizeOf l n x hV tg htg) yv_X0_27 ⟨Nat.le_of_ble_eq_true rfl, Nat.le_of_ble_eq_true rfl⟩ hw hA hS hl h0 rfl rfl rfl (Nat.le_of_ble_eq_true rfl) dX0_has_2 ⟨Nat.le_of_ble_eq_true rfl, Nat.le_of_ble_eq_true rfl⟩ (fun r ad1 ce1 H locs hp hw hS => ?_)
  obtain ⟨rfl, rfl, rfl⟩ := hp
  refine W.eq (g2 := F0 m 5 ls [.int (cl_size x tg)]) rfl ?_
  refine lv_iload_n hx hb dX0_has_5 rfl (lv_at hl 2 rfl) ?_
  refine lv_icmp_ne (tgt := 13) hx hb dX0_has_6 (by decide) (fun c6 => ?_) (fun c6 => ?_)
  · refine lv_iconst (v := 0) hx hb dX0_has_13 (by decide) ?_
    exact z_iret F (rfl) hw hS (⟨Or.inr ⟨fun q => c6 ((cl_size_eq hk (fun i hi => (hM.2 i hi).2)).mpr q), rfl⟩, rfl, rfl⟩) dX0_has_14
  · refine lv_iconst (v := 1) hx hb dX0_has_9 (by decide) ?_
    refine lv_goto (tgt := 14) hx hb dX0_has_10 (by decide) ?_
    exact z_iret F (rfl) hw hS (⟨Or.inl ⟨(cl_size_eq hk (fun i hi => (hM.2 i hi).2)).mp c6, rfl⟩, rfl, rfl⟩) dX0_has_14
set_option maxHeartbeats 4000000 in
set_option maxRecDepth 100000 in
theorem c_elementByte (l : Launch) {G : zz_G} {ad : Nat → Nat} {ce : zz_C} {sz : Nat} (n : Nat) (x : List Nat) (hV : cl_m G ad ce n x) (tg k j : Nat) (htg : tg < 256) (hg : rf_good x) (hfj : rf_fd x tg = some j) (hk : k < x.getD (j + 1) 0) : zz_M l yX0_elementByte cX0_elementByte 4 (some .int) 2 42 0 0 G [.ref (ad n), .int (nI tg), .int (nI k)] ad ce sz (fun r ad1 ce1 => r = some (.int (nI (x.getD (j + 2 + k) 0))) ∧ ad = ad1 ∧ ce = ce1) := by
  refine zz_enter (by decide) (Nat.le_of_ble_eq_true rfl) ?_
  intro p e s m below meth c ls F hl hw hS hA
  obtain ⟨hx, hb, hr, hml, hown, hts, hlocks, hK, hnm⟩ := id F
  have hl : lv_has ls 4 [(0, .ref (ad n)), (1, .int (nI tg)), (2, .int (nI k))] := hl
  obtain ⟨f, h0, h1, hM⟩ := id hV
  have hM24 := hM.1
  have hF : ∀ j, j ≠ n → j ≠ n + 1 → ce j = ce j := fun _ _ _ => rfl
  refine lv_aload_n hx hb dX0_elementByte_0 rfl (lv_at hl 0 rfl) ?_
  refine lv_iload_n hx hb dX0_elementByte_1 rfl (lv_at hl 1 rfl) ?_
  refine z_invV F (rest := []) (c_find l n x hV tg htg) yv_X0_31 ⟨Nat.le_of_ble_eq_true rfl, Nat.le_of_ble_eq_true rfl⟩ hw hA hS hl h0 rfl rfl rfl (Nat.le_of_ble_eq_true rfl) dX0_elementByte_2 ⟨Nat.le_of_ble_eq_true rfl, Nat.le_of_ble_eq_true rfl⟩ (fun r ad1 ce1 H locs hp hw hS => ?_)
  obtain ⟨rfl, rfl, rfl⟩ := hp
  rcases hfd : rf_fd x tg with _ | i
  · refine W.eq (g2 := F0 m 5 ls [.int (-3)]) (by rw [cl_at, hfd]; rfl) ?_
    refine lv_istore_n (lv' := [(3, .int (-3)), (0, .ref (ad n)), (1, .int (nI tg)), (2, .int (nI k))]) hx hb dX0_elementByte_5 rfl hl (by decide) rfl (fun ls hl => ?_)
    refine lv_iload_n hx hb dX0_elementByte_6 rfl (lv_at hl 0 rfl) ?_
    refine lv_bipush (v := -3) hx hb dX0_elementByte_7 (by decide) ?_
    refine lv_icmp_ne (tgt := 17) hx hb dX0_elementByte_9 (by decide) (fun c9 => absurd rfl c9) (fun c9 => ?_)
    have h9 : (none : Option Nat) = some j := hfd.symm.trans hfj
    cases h9
  · refine W.eq (g2 := F0 m 5 ls [.int (nI i)]) (by rw [cl_at, hfd]; rfl) ?_
    obtain ⟨hi2, hlt⟩ := rf_find_in x tg 24 2 i hfd
    have hb8 := (hM.2 (i + 1) hlt).2
    refine lv_istore_n (lv' := [(3, .int (nI i)), (0, .ref (ad n)), (1, .int (nI tg)), (2, .int (nI k))]) hx hb dX0_elementByte_5 rfl hl (by decide) rfl (fun ls hl => ?_)
    refine lv_iload_n hx hb dX0_elementByte_6 rfl (lv_at hl 0 rfl) ?_
    refine lv_bipush (v := -3) hx hb dX0_elementByte_7 (by decide) ?_
    refine lv_icmp_ne (tgt := 17) hx hb dX0_elementByte_9 (by decide) (fun c9 => ?_) (fun c9 => absurd c9 (fun q => nI_pos (n := i) (by omega) (by rw [q]; decide)))
    have hij : i = j := Option.some.inj (hfd.symm.trans hfj)
    subst hij
    have hin := rf_find_good x tg 24 2 i hfd hg
    refine lv_aload_n hx hb dX0_elementByte_17 rfl (lv_at hl 1 rfl) ?_
    refine lv_iload_n hx hb dX0_elementByte_18 rfl (lv_at hl 0 rfl) ?_
    refine lv_iconst (v := 2) hx hb dX0_elementByte_19 (by decide) ?_
    refine lv_iadd hx hb dX0_elementByte_20 ?_
    refine z_top (nI (i + 2)) (nI_add i 2) ?_
    refine lv_iload_n hx hb dX0_elementByte_21 rfl (lv_at hl 3 rfl) ?_
    refine lv_iadd hx hb dX0_elementByte_22 ?_
    refine z_top (nI (i + 2 + k)) (nI_add _ _) ?_
    refine z_invV F (rest := []) (c_byteAt l n x hV (nI (i + 2 + k))) yv_X0_34 ⟨Nat.le_of_ble_eq_true rfl, Nat.le_of_ble_eq_true rfl⟩ hw hA hS hl h0 rfl rfl rfl (Nat.le_of_ble_eq_true rfl) dX0_elementByte_23 ⟨Nat.le_of_ble_eq_true rfl, Nat.le_of_ble_eq_true rfl⟩ (fun r ad1 ce2 H locs hp hw hS => ?_)
    obtain ⟨rfl, rfl, rfl⟩ := hp
    refine W.eq (g2 := F0 m 26 ls [.int (cl_byte x (nI (i + 2 + k)))]) rfl ?_
    exact z_iret F (rfl) hw hS (by rw [show cl_byte x (nI (i + 2 + k)) = nI (x.getD (i + 2 + k) 0) from by unfold cl_byte; rw [if_pos ⟨nI_pos (by omega), nI_ge (by omega) (by omega)⟩, nI_clamp (by omega)]]; exact ⟨rfl, rfl, rfl⟩) dX0_elementByte_26
set_option maxHeartbeats 4000000 in
set_option maxRecDepth 100000 in
theorem c_number (l : Launch) {G : zz_G} {ad : Nat → Nat} {ce : zz_C} {sz : Nat} (n : Nat) (x : List Nat) (hV : cl_m G ad ce n x) (tg k : Nat) (htg : tg < 256) (hg : rf_good x) (hsz : rf_sz x tg = some k) : zz_M l yX0_number cX0_number 6 (some .int) 1 23 0 0 G [.ref (ad n), .int (nI tg), .int (nI k)] ad ce sz (fun r ad1 ce1 => r = some (.int (rf_val x tg)) ∧ ad = ad1 ∧ ce = ce1) := by
  refine zz_enter (by decide) (Nat.le_of_ble_eq_true rfl) ?_
  intro p e s m below meth c ls F hl hw hS hA
  obtain ⟨hx, hb, hr, hml, hown, hts, hlocks, hK, hnm⟩ := id F
  have hl : lv_has ls 6 [(0, .ref (ad n)), (1, .int (nI tg)), (2, .int (nI k))] := hl
  obtain ⟨f, h0, h1, hM⟩ := id hV
  have hM24 := hM.1
  have hF : ∀ j, j ≠ n → j ≠ n + 1 → ce j = ce j := fun _ _ _ => rfl
  refine lv_aload_n hx hb dX0_number_0 rfl (lv_at hl 0 rfl) ?_
  refine lv_iload_n hx hb dX0_number_1 rfl (lv_at hl 1 rfl) ?_
  refine z_invV F (rest := []) (c_find l n x hV tg htg) yv_X0_31 ⟨Nat.le_of_ble_eq_true rfl, Nat.le_of_ble_eq_true rfl⟩ hw hA hS hl h0 rfl rfl rfl (Nat.le_of_ble_eq_true rfl) dX0_number_2 ⟨Nat.le_of_ble_eq_true rfl, Nat.le_of_ble_eq_true rfl⟩ (fun r ad1 ce1 H locs hp hw hS => ?_)
  obtain ⟨rfl, rfl, rfl⟩ := hp
  rcases hfd : rf_fd x tg with _ | i
  · refine W.eq (g2 := F0 m 5 ls [.int (-3)]) (by rw [cl_at, hfd]; rfl) ?_
    refine lv_istore_n (lv' := [(3, .int (-3)), (0, .ref (ad n)), (1, .int (nI tg)), (2, .int (nI k))]) hx hb dX0_number_5 rfl hl (by decide) rfl (fun ls hl => ?_)
    refine lv_iload_n hx hb dX0_number_6 rfl (lv_at hl 0 rfl) ?_
    refine lv_bipush (v := -3) hx hb dX0_number_7 (by decide) ?_
    refine lv_icmp_eq (tgt := 24) hx hb dX0_number_9 (by decide) (fun c9 => ?_) (fun c9 => absurd rfl c9)
    have h9 := hsz
    unfold rf_sz at h9
    rw [hfd] at h9
    cases h9
  · refine W.eq (g2 := F0 m 5 ls [.int (nI i)]) (by rw [cl_at, hfd]; rfl) ?_
    obtain ⟨hi2, hlt⟩ := rf_find_in x tg 24 2 i hfd
    have hb8 := (hM.2 (i + 1) hlt).2
    refine lv_istore_n (lv' := [(3, .int (nI i)), (0, .ref (ad n)), (1, .int (nI tg)), (2, .int (nI k))]) hx hb dX0_number_5 rfl hl (by decide) rfl (fun ls hl => ?_)
    refine lv_iload_n hx hb dX0_number_6 rfl (lv_at hl 0 rfl) ?_
    refine lv_bipush (v := -3) hx hb dX0_number_7 (by decide) ?_
    refine lv_icmp_eq (tgt := 24) hx hb dX0_number_9 (by decide) (fun c9 => absurd c9 (fun q => nI_pos (n := i) (by omega) (by rw [q]; decide))) (fun c9 => ?_)
    have hin := rf_find_good x tg 24 2 i hfd hg
    have hn : x.getD (i + 1) 0 = k := by unfold rf_sz at hsz; rw [hfd] at hsz; exact Option.some.inj hsz
    rw [hn] at hin hb8
    have hval : rf_val x tg = rf_num x i k := by rw [rf_val, hfd, ← hn]
    refine lv_iload_n hx hb dX0_number_12 rfl (lv_at hl 0 rfl) ?_
    refine lv_iconst (v := 2) hx hb dX0_number_13 (by decide) ?_
    refine lv_iadd hx hb dX0_number_14 ?_
    refine z_top (nI (i + 2)) (nI_add i 2) ?_
    refine lv_iload_n hx hb dX0_number_15 rfl (lv_at hl 3 rfl) ?_
    refine lv_iadd hx hb dX0_number_16 ?_
    refine z_top (nI (i + 2 + k)) (nI_add _ _) ?_
    refine lv_aload_n hx hb dX0_number_17 rfl (lv_at hl 1 rfl) ?_
    refine z_get F hw h0 fd_X0_15_X0 rfl dX0_number_18 ?_
    refine lv_icmp_le (tgt := 26) hx hb dX0_number_21 (by decide) (fun c21 => ?_) (fun c21 => absurd (nI_le (a := i + 2 + k) (by omega) (by omega)) c21)
    refine lv_iconst (v := 0) hx hb dX0_number_26 (by decide) ?_
    refine lv_istore (lv' := [(4, .int 0), (3, .int (nI i)), (0, .ref (ad n)), (1, .int (nI tg)), (2, .int (nI k))]) hx hb dX0_number_27 hl (by decide) rfl (fun ls hl => ?_)
    refine lv_iconst (v := 0) hx hb dX0_number_29 (by decide) ?_
    refine lv_istore (lv' := [(5, .int 0), (4, .int 0), (3, .int (nI i)), (0, .ref (ad n)), (1, .int (nI tg)), (2, .int (nI k))]) hx hb dX0_number_30 hl (by decide) rfl (fun ls hl => ?_)
    refine z_loop (α := Nat) (fun t => k - t) (fun t ce9 ls9 => lv_has ls9 6 [(0, .ref (ad n)), (1, .int (nI tg)), (2, .int (nI k)), (3, .int (nI i)), (4, .int (rf_num x i t)), (5, .int (nI t))] ∧ ce = ce9 ∧ t ≤ k) 0 ⟨lv_sub hl [3, 4, 5, 2, 1, 0] rfl, rfl, Nat.zero_le _⟩ hw hS (fun t ih32 ce9 H locs ls hI hw hS => ?_)
    obtain ⟨hl, hce, hkn⟩ := hI
    subst hce
    refine lv_iload hx hb dX0_number_32 (lv_at hl 5 rfl) ?_
    refine lv_iload_n hx hb dX0_number_34 rfl (lv_at hl 2 rfl) ?_
    refine lv_icmp_ge (tgt := 63) hx hb dX0_number_35 (by decide) (fun c35 => ?_) (fun c35 => ?_)
    · refine lv_iload hx hb dX0_number_63 (lv_at hl 4 rfl) ?_
      exact z_iret F (rfl) hw hS (⟨by rw [hval, show t = k from Nat.le_antisymm hkn (Nat.le_of_not_lt (fun q => absurd c35 (nI_ge q (by omega))))], rfl, rfl⟩) dX0_number_65
    · have hklt : t < k := Nat.lt_of_not_le (fun q => c35 (nI_le q (by omega)))
      refine lv_iload hx hb dX0_number_38 (lv_at hl 4 rfl) ?_
      refine lv_bipush (v := 8) hx hb dX0_number_40 (by decide) ?_
      refine lv_ishl hx hb dX0_number_42 ?_
      refine lv_aload_n hx hb dX0_number_43 rfl (lv_at hl 0 rfl) ?_
      refine z_get F hw h0 fd_X0_11_X0 rfl dX0_number_44 ?_
      refine lv_iload_n hx hb dX0_number_47 rfl (lv_at hl 3 rfl) ?_
      refine lv_iconst (v := 2) hx hb dX0_number_48 (by decide) ?_
      refine lv_iadd hx hb dX0_number_49 ?_
      refine z_top (nI (i + 2)) (nI_add i 2) ?_
      refine lv_iload hx hb dX0_number_50 (lv_at hl 5 rfl) ?_
      refine lv_iadd hx hb dX0_number_52 ?_
      refine z_top (nI (i + 2 + t)) (nI_add _ _) ?_
      refine z_ld F hw h1 (i + 2 + t) (rfl) (by omega) (by decide) dX0_number_53 ?_
      refine z_top (nI (x.getD (i + 2 + t) 0)) ((hM.2 (i + 2 + t) (by omega)).1) ?_
      refine lv_ior hx hb dX0_number_54 ?_
      refine z_top (rf_num x i (t + 1)) (rfl) ?_
      refine lv_istore (lv' := [(4, .int (rf_num x i (t + 1))), (0, .ref (ad n)), (1, .int (nI tg)), (2, .int (nI k)), (3, .int (nI i)), (5, .int (nI t))]) hx hb dX0_number_55 hl (by decide) rfl (fun ls hl => ?_)
      refine lv_iinc (v := nI (t + 1)) (lv' := [(5, .int (nI (t + 1))), (4, .int (rf_num x i (t + 1))), (0, .ref (ad n)), (1, .int (nI tg)), (2, .int (nI k)), (3, .int (nI i))]) hx hb dX0_number_57 hl (k := 5) rfl (nI_1 t) (by decide) rfl (fun ls hl => ?_)
      refine lv_goto (tgt := 32) hx hb dX0_number_60 (by decide) ?_
      exact ih32 (t + 1) _ _ _ _ (by omega) ⟨lv_sub hl [2, 3, 4, 5, 1, 0] rfl, rfl, by omega⟩ hw hS
