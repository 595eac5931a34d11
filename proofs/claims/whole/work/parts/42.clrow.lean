abbrev cl_has (q : List (List Nat)) (v : Int32) : Prop := ¬ v < 0 ∧ ¬ nI q.length ≤ v
set_option maxHeartbeats 4000000 in
set_option maxRecDepth 100000 in
theorem c_size (l : Launch) {G : zz_G} {ad : Nat → Nat} {ce : zz_C} {sz : Nat} (b : Nat) (q : List (List Nat)) (op : Int32) (hV : cl_r G ad ce b q op) : zz_M l yX4_size cX4_size 1 (some .int) 0 0 0 0 G [.ref (ad b)] ad ce sz (fun r ad1 ce1 => r = some (.int (nI q.length)) ∧ ad = ad1 ∧ ce = ce1) := by
  refine zz_enter (by decide) (Nat.le_of_ble_eq_true rfl) ?_
  intro p e s m below meth c ls F hl hw hS hA
  obtain ⟨hx, hb, hr, hml, hown, hts, hlocks, hK, hnm⟩ := id F
  have hl : lv_has ls 1 [(0, .ref (ad b))] := hl
  obtain ⟨fs, xs, y0, hw0, hq⟩ := id hV
  obtain ⟨g0, ⟨sl, g1, hsl⟩, hfs, -⟩ := id hw0
  have hq8 := hq.1
  have hB : ∀ j, j ≠ b → ce j = ce j := fun _ _ => rfl
  refine lv_aload_n hx hb dX4_size_0 rfl (lv_at hl 0 rfl) ?_
  refine z_get F hw g0 fd_X4_24_X4 rfl dX4_size_1 ?_
  exact z_iret F (rfl) hw hS (⟨rfl, rfl, rfl⟩) dX4_size_4
set_option maxHeartbeats 4000000 in
set_option maxRecDepth 100000 in
theorem c_isOpen (l : Launch) {G : zz_G} {ad : Nat → Nat} {ce : zz_C} {sz : Nat} (b : Nat) (q : List (List Nat)) (op : Int32) (hV : cl_r G ad ce b q op) (hop : narrow .boolean (.int op) = .int op) : zz_M l yX4_isOpen cX4_isOpen 1 (some .boolean) 0 0 0 0 G [.ref (ad b)] ad ce sz (fun r ad1 ce1 => r = some (.int op) ∧ ad = ad1 ∧ ce = ce1) := by
  refine zz_enter (by decide) (Nat.le_of_ble_eq_true rfl) ?_
  intro p e s m below meth c ls F hl hw hS hA
  obtain ⟨hx, hb, hr, hml, hown, hts, hlocks, hK, hnm⟩ := id F
  have hl : lv_has ls 1 [(0, .ref (ad b))] := hl
  obtain ⟨fs, xs, y0, hw0, hq⟩ := id hV
  obtain ⟨g0, ⟨sl, g1, hsl⟩, hfs, -⟩ := id hw0
  have hq8 := hq.1
  have hB : ∀ j, j ≠ b → ce j = ce j := fun _ _ => rfl
  refine lv_aload_n hx hb dX4_isOpen_0 rfl (lv_at hl 0 rfl) ?_
  refine z_get F hw g0 fd_X4_27_X4 rfl dX4_isOpen_1 ?_
  exact z_iret F (hop) hw hS (⟨rfl, rfl, rfl⟩) dX4_isOpen_4
set_option maxHeartbeats 4000000 in
set_option maxRecDepth 100000 in
theorem c_open (l : Launch) {G : zz_G} {ad : Nat → Nat} {ce : zz_C} {sz : Nat} (b : Nat) (q : List (List Nat)) (op : Int32) (hV : cl_r G ad ce b q op) : zz_M l yX4_open cX4_open 1 none 0 0 0 0 G [.ref (ad b)] ad ce sz (fun r ad1 ce1 => r = none ∧ ad = ad1 ∧ cl_r G ad ce1 b q 1 ∧ (∀ j, j < b ∨ b + 20 ≤ j → ce1 j = ce j)) := by
  refine zz_enter (by decide) (Nat.le_of_ble_eq_true rfl) ?_
  intro p e s m below meth c ls F hl hw hS hA
  obtain ⟨hx, hb, hr, hml, hown, hts, hlocks, hK, hnm⟩ := id F
  have hl : lv_has ls 1 [(0, .ref (ad b))] := hl
  obtain ⟨fs, xs, y0, hw0, hq⟩ := id hV
  obtain ⟨g0, ⟨sl, g1, hsl⟩, hfs, -⟩ := id hw0
  have hq8 := hq.1
  have hB : ∀ j, j ≠ b → ce j = ce j := fun _ _ => rfl
  refine lv_aload_n hx hb dX4_open_0 rfl (lv_at hl 0 rfl) ?_
  refine lv_iconst (v := 1) hx hb dX4_open_1 (by decide) ?_
  refine z_put F hw hS (fs' := [.ref (ad (b + 1)), .ref (ad (b + 2)), .int (nI fs), .int (nI q.length), .int 1]) g0 fd_X4_27_X4 ptX4 rfl (rfl) (rfl) (Nat.le_of_ble_eq_true rfl) rfl dX4_open_2 (fun ce1 H locs g0 fr2 hw hS => ?_)
  have g1 := (fr2 (b + 1) (by omega)).trans g1
  have hB : ∀ j, j ≠ b → _ = ce j := fun j hj => (fr2 j hj).trans (hB j hj)
  exact z_vret F hw hS (⟨rfl, rfl, ⟨fs, xs, y0, hw0.re g0 hB hfs, hq⟩, fun j hj => hB j (by omega)⟩) dX4_open_5
set_option maxHeartbeats 4000000 in
set_option maxRecDepth 100000 in
theorem c_close (l : Launch) {G : zz_G} {ad : Nat → Nat} {ce : zz_C} {sz : Nat} (b : Nat) (q : List (List Nat)) (op : Int32) (hV : cl_r G ad ce b q op) : zz_M l yX4_close cX4_close 1 none 0 0 0 0 G [.ref (ad b)] ad ce sz (fun r ad1 ce1 => r = none ∧ ad = ad1 ∧ cl_r G ad ce1 b [] 0 ∧ (∀ j, j < b ∨ b + 20 ≤ j → ce1 j = ce j)) := by
  refine zz_enter (by decide) (Nat.le_of_ble_eq_true rfl) ?_
  intro p e s m below meth c ls F hl hw hS hA
  obtain ⟨hx, hb, hr, hml, hown, hts, hlocks, hK, hnm⟩ := id F
  have hl : lv_has ls 1 [(0, .ref (ad b))] := hl
  obtain ⟨fs, xs, y0, hw0, hq⟩ := id hV
  obtain ⟨g0, ⟨sl, g1, hsl⟩, hfs, -⟩ := id hw0
  have hq8 := hq.1
  have hB : ∀ j, j ≠ b → ce j = ce j := fun _ _ => rfl
  refine lv_aload_n hx hb dX4_close_0 rfl (lv_at hl 0 rfl) ?_
  refine lv_iconst (v := 0) hx hb dX4_close_1 (by decide) ?_
  refine z_put F hw hS (fs' := [.ref (ad (b + 1)), .ref (ad (b + 2)), .int (nI fs), .int (nI q.length), .int 0]) g0 fd_X4_27_X4 ptX4 rfl (rfl) (rfl) (Nat.le_of_ble_eq_true rfl) rfl dX4_close_2 (fun ce1 H locs g0 fr2 hw hS => ?_)
  have g1 := (fr2 (b + 1) (by omega)).trans g1
  have hB : ∀ j, j ≠ b → _ = ce j := fun j hj => (fr2 j hj).trans (hB j hj)
  refine lv_aload_n hx hb dX4_close_5 rfl (lv_at hl 0 rfl) ?_
  refine lv_iconst (v := 0) hx hb dX4_close_6 (by decide) ?_
  refine z_put F hw hS (fs' := [.ref (ad (b + 1)), .ref (ad (b + 2)), .int (nI fs), .int 0, .int 0]) g0 fd_X4_24_X4 ptX4 rfl (rfl) (rfl) (Nat.le_of_ble_eq_true rfl) rfl dX4_close_7 (fun ce3 H locs g0 fr4 hw hS => ?_)
  have g1 := (fr4 (b + 1) (by omega)).trans g1
  have hB : ∀ j, j ≠ b → _ = ce j := fun j hj => (fr4 j hj).trans (hB j hj)
  exact z_vret F hw hS (⟨rfl, rfl, ⟨fs, xs, y0, hw0.re g0 hB hfs, by simp, fun k hk => by simp at hk⟩, fun j hj => hB j (by omega)⟩) dX4_close_10
set_option maxHeartbeats 4000000 in
set_option maxRecDepth 100000 in
theorem c_hasRoom (l : Launch) {G : zz_G} {ad : Nat → Nat} {ce : zz_C} {sz : Nat} (b : Nat) (q : List (List Nat)) (op : Int32) (hV : cl_r G ad ce b q op) : zz_M l yX4_hasRoom cX4_hasRoom 1 (some .boolean) 0 0 0 0 G [.ref (ad b)] ad ce sz (fun r ad1 ce1 => ((cl_rm q op ∧ r = some (.int 1)) ∨ (¬ cl_rm q op ∧ r = some (.int 0))) ∧ ad = ad1 ∧ ce = ce1) := by
  refine zz_enter (by decide) (Nat.le_of_ble_eq_true rfl) ?_
  intro p e s m below meth c ls F hl hw hS hA
  obtain ⟨hx, hb, hr, hml, hown, hts, hlocks, hK, hnm⟩ := id F
  have hl : lv_has ls 1 [(0, .ref (ad b))] := hl
  obtain ⟨fs, xs, y0, hw0, hq⟩ := id hV
  obtain ⟨g0, ⟨sl, g1, hsl⟩, hfs, -⟩ := id hw0
  have hq8 := hq.1
  have hB : ∀ j, j ≠ b → ce j = ce j := fun _ _ => rfl
  refine lv_aload_n hx hb dX4_hasRoom_0 rfl (lv_at hl 0 rfl) ?_
  refine z_get F hw g0 fd_X4_27_X4 rfl dX4_hasRoom_1 ?_
  refine lv_if_eq (tgt := 20) hx hb dX4_hasRoom_4 (by decide) (fun c4 => ?_) (fun c4 => ?_)
  · refine lv_iconst (v := 0) hx hb dX4_hasRoom_20 (by decide) ?_
    exact z_iret F (rfl) hw hS (⟨Or.inr ⟨fun h => h.1 c4, rfl⟩, rfl, rfl⟩) dX4_hasRoom_21
  · refine lv_aload_n hx hb dX4_hasRoom_7 rfl (lv_at hl 0 rfl) ?_
    refine z_get F hw g0 fd_X4_24_X4 rfl dX4_hasRoom_8 ?_
    refine lv_bipush (v := 8) hx hb dX4_hasRoom_11 (by decide) ?_
    refine lv_icmp_ge (tgt := 20) hx hb dX4_hasRoom_13 (by decide) (fun c13 => ?_) (fun c13 => ?_)
    · refine lv_iconst (v := 0) hx hb dX4_hasRoom_20 (by decide) ?_
      exact z_iret F (rfl) hw hS (⟨Or.inr ⟨fun h => absurd c13 (nI_ge (b := 8) h.2 (by decide)), rfl⟩, rfl, rfl⟩) dX4_hasRoom_21
    · refine lv_iconst (v := 1) hx hb dX4_hasRoom_16 (by decide) ?_
      refine lv_goto (tgt := 21) hx hb dX4_hasRoom_17 (by decide) ?_
      exact z_iret F (rfl) hw hS (⟨Or.inl ⟨⟨c4, Nat.lt_of_not_le (fun h => c13 (nI_le (a := 8) h (by omega)))⟩, rfl⟩, rfl, rfl⟩) dX4_hasRoom_21
set_option maxHeartbeats 4000000 in
set_option maxRecDepth 100000 in
theorem c_at (l : Launch) {G : zz_G} {ad : Nat → Nat} {ce : zz_C} {sz : Nat} (b : Nat) (q : List (List Nat)) (op : Int32) (hV : cl_r G ad ce b q op) (v : Int32) : zz_M l yX4_at cX4_at 2 (some (.object "MobileCall$Message")) 0 0 0 0 G [.ref (ad b), .int v] ad ce sz (fun r ad1 ce1 => ((cl_has q v ∧ ∃ h, r = some (.ref (ad h)) ∧ cl_h G ad ce b q op v.toNatClampNeg h) ∨ (¬ cl_has q v ∧ r = some .null)) ∧ ad = ad1 ∧ ce = ce1) := by
  refine zz_enter (by decide) (Nat.le_of_ble_eq_true rfl) ?_
  intro p e s m below meth c ls F hl hw hS hA
  obtain ⟨hx, hb, hr, hml, hown, hts, hlocks, hK, hnm⟩ := id F
  have hl : lv_has ls 2 [(0, .ref (ad b)), (1, .int v)] := hl
  obtain ⟨fs, xs, y0, hw0, hq⟩ := id hV
  obtain ⟨g0, ⟨sl, g1, hsl⟩, hfs, -⟩ := id hw0
  have hq8 := hq.1
  have hB : ∀ j, j ≠ b → ce j = ce j := fun _ _ => rfl
  refine lv_iload_n hx hb dX4_at_0 rfl (lv_at hl 1 rfl) ?_
  refine lv_if_lt (tgt := 29) hx hb dX4_at_1 (by decide) (fun c1 => ?_) (fun c1 => ?_)
  · refine lv_null hx hb dX4_at_29 ?_
    exact z_aret F (Or.inl rfl) hw hS (⟨Or.inr ⟨fun h => h.1 c1, rfl⟩, rfl, rfl⟩) dX4_at_30
  · refine lv_iload_n hx hb dX4_at_4 rfl (lv_at hl 1 rfl) ?_
    refine lv_aload_n hx hb dX4_at_5 rfl (lv_at hl 0 rfl) ?_
    refine z_get F hw g0 fd_X4_24_X4 rfl dX4_at_6 ?_
    refine lv_icmp_ge (tgt := 29) hx hb dX4_at_9 (by decide) (fun c9 => ?_) (fun c9 => ?_)
    · refine lv_null hx hb dX4_at_29 ?_
      exact z_aret F (Or.inl rfl) hw hS (⟨Or.inr ⟨fun h => h.2 c9, rfl⟩, rfl, rfl⟩) dX4_at_30
    · have hkk : v.toNatClampNeg < q.length := cl_ixl c1 c9
      refine lv_aload_n hx hb dX4_at_12 rfl (lv_at hl 0 rfl) ?_
      refine z_get F hw g0 fd_X4_11_X4 rfl dX4_at_13 ?_
      refine lv_aload_n hx hb dX4_at_16 rfl (lv_at hl 0 rfl) ?_
      refine z_get F hw g0 fd_X4_20_X4 rfl dX4_at_17 ?_
      refine lv_iload_n hx hb dX4_at_20 rfl (lv_at hl 1 rfl) ?_
      refine lv_iadd hx hb dX4_at_21 ?_
      refine z_top (nI (fs + v.toNatClampNeg)) ((congrArg (fun z => nI fs + z) (cl_ixv c1)).trans (nI_add _ _)) ?_
      refine lv_bipush (v := 8) hx hb dX4_at_22 (by decide) ?_
      refine lv_irem hx hb dX4_at_24 (by decide) ?_
      refine z_top (nI ((fs + v.toNatClampNeg) % 8)) (cl_mod8 _ (by omega)) ?_
      refine z_ald F hw g1 ((fs + v.toNatClampNeg) % 8) (rfl) (Nat.mod_lt _ (by decide)) (by decide) dX4_at_25 ?_
      refine W.eq (g2 := F0 m 26 ls [.ref (ad (b + 4 + 2 * ((fs + v.toNatClampNeg) % 8)))]) (by rw [hsl ((fs + v.toNatClampNeg) % 8) (Nat.mod_lt _ (by decide))]; rfl) ?_
      refine lv_goto (tgt := 30) hx hb dX4_at_26 (by decide) ?_
      exact z_aret F (Or.inr ⟨_, rfl⟩) hw hS (⟨Or.inl ⟨⟨c1, c9⟩, _, rfl, fs, xs, y0, hw0, hq, hkk, rfl⟩, rfl, rfl⟩) dX4_at_30
set_option maxHeartbeats 4000000 in
set_option maxRecDepth 100000 in
theorem c_send (l : Launch) {G : zz_G} {ad : Nat → Nat} {ce : zz_C} {sz : Nat} (b : Nat) (q : List (List Nat)) (op : Int32) (hV : cl_r G ad ce b q op) (a c0 : Nat) (ha : a < 256) (hc0 : c0 < 256) : zz_M l yX4_send cX4_send 4 (some (.object "MobileCall$Message")) 1 22 0 0 G [.ref (ad b), .int (nI a), .int (nI c0)] ad ce sz (fun r ad1 ce1 => ad = ad1 ∧ (∃ h, r = some (.ref (ad h)) ∧ cl_p G ad ce1 b q op h [a, c0]) ∧ (∀ j, j < b ∨ b + 20 ≤ j → ce1 j = ce j)) := by
  refine zz_enter (by decide) (Nat.le_of_ble_eq_true rfl) ?_
  intro p e s m below meth c ls F hl hw hS hA
  obtain ⟨hx, hb, hr, hml, hown, hts, hlocks, hK, hnm⟩ := id F
  have hl : lv_has ls 4 [(0, .ref (ad b)), (1, .int (nI a)), (2, .int (nI c0))] := hl
  obtain ⟨fs, xs, y0, hw0, hq⟩ := id hV
  obtain ⟨g0, ⟨sl, g1, hsl⟩, hfs, -⟩ := id hw0
  have hq8 := hq.1
  have hB : ∀ j, j ≠ b → ce j = ce j := fun _ _ => rfl
  refine lv_aload_n hx hb dX4_send_0 rfl (lv_at hl 0 rfl) ?_
  refine z_get F hw g0 fd_X4_16_X4 rfl dX4_send_1 ?_
  refine lv_astore_n (lv' := [(3, .ref (ad (b + 2))), (0, .ref (ad b)), (1, .int (nI a)), (2, .int (nI c0))]) hx hb dX4_send_4 rfl hl (by decide) rfl (fun ls hl => ?_)
  refine lv_aload_n hx hb dX4_send_5 rfl (lv_at hl 1 rfl) ?_
  refine z_invV F (rest := []) (c_hasRoom l b q op hV) yv_X4_31 ⟨Nat.le_of_ble_eq_true rfl, Nat.le_of_ble_eq_true rfl⟩ hw hA hS hl g0 rfl rfl rfl (Nat.le_of_ble_eq_true rfl) dX4_send_6 ⟨Nat.le_of_ble_eq_true rfl, Nat.le_of_ble_eq_true rfl⟩ (fun r ad1 ce1 H locs hp hw hS => ?_)
  obtain ⟨hp, rfl, rfl⟩ := hp
  rcases hp with ⟨hrm, rfl⟩ | ⟨hrm, rfl⟩
  · refine W.eq (g2 := F0 m 9 ls [.int 1]) rfl ?_
    refine lv_if_eq (tgt := 40) hx hb dX4_send_9 (by decide) (fun c9 => absurd c9 (by decide)) (fun c9 => ?_)
    refine lv_aload_n hx hb dX4_send_12 rfl (lv_at hl 1 rfl) ?_
    refine z_get F hw g0 fd_X4_11_X4 rfl dX4_send_13 ?_
    refine lv_aload_n hx hb dX4_send_16 rfl (lv_at hl 1 rfl) ?_
    refine z_get F hw g0 fd_X4_20_X4 rfl dX4_send_17 ?_
    refine lv_aload_n hx hb dX4_send_20 rfl (lv_at hl 1 rfl) ?_
    refine z_get F hw g0 fd_X4_24_X4 rfl dX4_send_21 ?_
    refine lv_iadd hx hb dX4_send_24 ?_
    refine z_top (nI (fs + q.length)) (nI_add _ _) ?_
    refine lv_bipush (v := 8) hx hb dX4_send_25 (by decide) ?_
    refine lv_irem hx hb dX4_send_27 (by decide) ?_
    refine z_top (nI ((fs + q.length) % 8)) (cl_mod8 _ (by have := hrm.2; omega)) ?_
    refine z_ald F hw g1 ((fs + q.length) % 8) (rfl) (Nat.mod_lt _ (by decide)) (by decide) dX4_send_28 ?_
    refine W.eq (g2 := F0 m 29 ls [.ref (ad (b + 4 + 2 * ((fs + q.length) % 8)))]) (by rw [hsl ((fs + q.length) % 8) (Nat.mod_lt _ (by decide))]; rfl) ?_
    refine lv_astore_n (lv' := [(3, .ref (ad (b + 4 + 2 * ((fs + q.length) % 8)))), (0, .ref (ad b)), (1, .int (nI a)), (2, .int (nI c0))]) hx hb dX4_send_29 rfl hl (by decide) rfl (fun ls hl => ?_)
    refine lv_aload_n hx hb dX4_send_30 rfl (lv_at hl 1 rfl) ?_
    refine lv_dup hx hb dX4_send_31 rfl ?_
    refine z_get F hw g0 fd_X4_24_X4 rfl dX4_send_32 ?_
    refine lv_iconst (v := 1) hx hb dX4_send_35 (by decide) ?_
    refine lv_iadd hx hb dX4_send_36 ?_
    refine z_top (nI (q.length + 1)) (nI_1 _) ?_
    refine z_put F hw hS (fs' := [.ref (ad (b + 1)), .ref (ad (b + 2)), .int (nI fs), .int (nI (q.length + 1)), .int op]) g0 fd_X4_24_X4 ptX4 rfl (rfl) (rfl) (Nat.le_of_ble_eq_true rfl) rfl dX4_send_37 (fun ce2 H locs g0 fr3 hw hS => ?_)
    have g1 := (fr3 (b + 1) (by omega)).trans g1
    have hB : ∀ j, j ≠ b → _ = ce j := fun j hj => (fr3 j hj).trans (hB j hj)
    refine lv_aload_n hx hb dX4_send_40 rfl (lv_at hl 0 rfl) ?_
    refine lv_iload_n hx hb dX4_send_41 rfl (lv_at hl 2 rfl) ?_
    refine lv_iload_n hx hb dX4_send_42 rfl (lv_at hl 3 rfl) ?_
    have hw1 : cl_w G ad ce2 b fs (nI (q.length + 1)) op xs y0 := hw0.re g0 hB hfs
    have hm1 : cl_m G ad ce2 (b + 4 + 2 * ((fs + q.length) % 8)) _ := hw1.2.2.2.1 _ (Nat.mod_lt _ (by decide))
    refine z_invV F (rest := []) (c_begin l _ _ hm1 a c0 ha hc0) yv_X4_35 ⟨Nat.le_of_ble_eq_true rfl, Nat.le_of_ble_eq_true rfl⟩ hw hA hS hl hm1.obj rfl rfl rfl (Nat.le_of_ble_eq_true rfl) dX4_send_43 ⟨Nat.le_of_ble_eq_true rfl, Nat.le_of_ble_eq_true rfl⟩ (fun r ad1 ce4 H locs hp hw hS => ?_)
    obtain ⟨rfl, rfl, hm2, hF2⟩ := hp
    refine W.eq (g2 := F0 m 46 ls []) rfl ?_
    refine lv_aload_n hx hb dX4_send_46 rfl (lv_at hl 0 rfl) ?_
    exact z_aret F (Or.inr ⟨_, rfl⟩) hw hS (⟨rfl, ⟨_, rfl, fs, _, y0, hq.up (fun k hk => by have := hrm.2; omega), by simp, Or.inl ⟨hrm, hw1.one (Nat.mod_lt _ (by decide)) hF2 hm2, rfl, rf_vu_s _ _ _⟩⟩, fun j hj => (hF2 j (by omega) (by omega)).trans (hB j (by omega))⟩) dX4_send_47
  · refine W.eq (g2 := F0 m 9 ls [.int 0]) rfl ?_
    refine lv_if_eq (tgt := 40) hx hb dX4_send_9 (by decide) (fun c9 => ?_) (fun c9 => absurd c9 (by decide))
    refine lv_aload_n hx hb dX4_send_40 rfl (lv_at hl 0 rfl) ?_
    refine lv_iload_n hx hb dX4_send_41 rfl (lv_at hl 2 rfl) ?_
    refine lv_iload_n hx hb dX4_send_42 rfl (lv_at hl 3 rfl) ?_
    have hw1 : cl_w G ad ce b fs (nI q.length) op xs y0 := hw0
    have hm1 : cl_m G ad ce (b + 2) _ := hw1.2.2.2.2
    refine z_invV F (rest := []) (c_begin l _ _ hm1 a c0 ha hc0) yv_X4_35 ⟨Nat.le_of_ble_eq_true rfl, Nat.le_of_ble_eq_true rfl⟩ hw hA hS hl hm1.obj rfl rfl rfl (Nat.le_of_ble_eq_true rfl) dX4_send_43 ⟨Nat.le_of_ble_eq_true rfl, Nat.le_of_ble_eq_true rfl⟩ (fun r ad1 ce5 H locs hp hw hS => ?_)
    obtain ⟨rfl, rfl, hm2, hF2⟩ := hp
    refine W.eq (g2 := F0 m 46 ls []) rfl ?_
    refine lv_aload_n hx hb dX4_send_46 rfl (lv_at hl 0 rfl) ?_
    exact z_aret F (Or.inr ⟨_, rfl⟩) hw hS (⟨rfl, ⟨_, rfl, fs, xs, _, hq, by simp, Or.inr ⟨hrm, hw1.spare hF2 hm2, rfl, rfl⟩⟩, fun j hj => (hF2 j (by omega) (by omega)).trans (hB j (by omega))⟩) dX4_send_47
set_option maxHeartbeats 4000000 in
set_option maxRecDepth 100000 in
theorem c_dropFirst (l : Launch) {G : zz_G} {ad : Nat → Nat} {ce : zz_C} {sz : Nat} (b : Nat) (q : List (List Nat)) (op : Int32) (hV : cl_r G ad ce b q op) : zz_M l yX4_dropFirst cX4_dropFirst 1 none 0 0 0 0 G [.ref (ad b)] ad ce sz (fun r ad1 ce1 => r = none ∧ ad = ad1 ∧ cl_r G ad ce1 b q.tail op ∧ (∀ j, j ≠ b → ce1 j = ce j)) := by
  refine zz_enter (by decide) (Nat.le_of_ble_eq_true rfl) ?_
  intro p e s m below meth c ls F hl hw hS hA
  obtain ⟨hx, hb, hr, hml, hown, hts, hlocks, hK, hnm⟩ := id F
  have hl : lv_has ls 1 [(0, .ref (ad b))] := hl
  obtain ⟨fs, xs, y0, hw0, hq⟩ := id hV
  obtain ⟨g0, ⟨sl, g1, hsl⟩, hfs, -⟩ := id hw0
  have hq8 := hq.1
  have hB : ∀ j, j ≠ b → ce j = ce j := fun _ _ => rfl
  refine lv_aload_n hx hb dX4_dropFirst_0 rfl (lv_at hl 0 rfl) ?_
  refine z_get F hw g0 fd_X4_24_X4 rfl dX4_dropFirst_1 ?_
  refine lv_if_le (tgt := 30) hx hb dX4_dropFirst_4 (by decide) (fun c4 => ?_) (fun c4 => ?_)
  · exact z_vret F hw hS (⟨rfl, rfl, (by cases q with | nil => exact hV | cons a t => exact absurd c4 (nI_ge (b := (a :: t).length) (Nat.succ_pos _) (by omega))), hB⟩) dX4_dropFirst_30
  · have hlen : q.length = q.tail.length + 1 := by
      cases q with
      | nil => exact absurd (by decide) c4
      | cons a t => rfl
    refine lv_aload_n hx hb dX4_dropFirst_7 rfl (lv_at hl 0 rfl) ?_
    refine lv_aload_n hx hb dX4_dropFirst_8 rfl (lv_at hl 0 rfl) ?_
    refine z_get F hw g0 fd_X4_20_X4 rfl dX4_dropFirst_9 ?_
    refine lv_iconst (v := 1) hx hb dX4_dropFirst_12 (by decide) ?_
    refine lv_iadd hx hb dX4_dropFirst_13 ?_
    refine z_top (nI (fs + 1)) (nI_1 _) ?_
    refine lv_bipush (v := 8) hx hb dX4_dropFirst_14 (by decide) ?_
    refine lv_irem hx hb dX4_dropFirst_16 (by decide) ?_
    refine z_top (nI ((fs + 1) % 8)) (cl_mod8 _ (by omega)) ?_
    refine z_put F hw hS (fs' := [.ref (ad (b + 1)), .ref (ad (b + 2)), .int (nI ((fs + 1) % 8)), .int (nI q.length), .int op]) g0 fd_X4_20_X4 ptX4 rfl (rfl) (rfl) (Nat.le_of_ble_eq_true rfl) rfl dX4_dropFirst_17 (fun ce1 H locs g0 fr2 hw hS => ?_)
    have g1 := (fr2 (b + 1) (by omega)).trans g1
    have hB : ∀ j, j ≠ b → _ = ce j := fun j hj => (fr2 j hj).trans (hB j hj)
    refine lv_aload_n hx hb dX4_dropFirst_20 rfl (lv_at hl 0 rfl) ?_
    refine lv_dup hx hb dX4_dropFirst_21 rfl ?_
    refine z_get F hw g0 fd_X4_24_X4 rfl dX4_dropFirst_22 ?_
    refine lv_iconst (v := 1) hx hb dX4_dropFirst_25 (by decide) ?_
    refine lv_isub hx hb dX4_dropFirst_26 ?_
    refine z_top (nI q.tail.length) (by rw [hlen]; exact nI_pred _) ?_
    refine z_put F hw hS (fs' := [.ref (ad (b + 1)), .ref (ad (b + 2)), .int (nI ((fs + 1) % 8)), .int (nI q.tail.length), .int op]) g0 fd_X4_24_X4 ptX4 rfl (rfl) (rfl) (Nat.le_of_ble_eq_true rfl) rfl dX4_dropFirst_27 (fun ce3 H locs g0 fr4 hw hS => ?_)
    have g1 := (fr4 (b + 1) (by omega)).trans g1
    have hB : ∀ j, j ≠ b → _ = ce j := fun j hj => (fr4 j hj).trans (hB j hj)
    exact z_vret F hw hS (⟨rfl, rfl, ⟨_, xs, y0, hw0.re g0 hB (Nat.mod_lt _ (by decide)), hq.drop⟩, hB⟩) dX4_dropFirst_30
