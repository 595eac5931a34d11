theorem cl_m0 (f : Nat → Int32) : rfM f [] := ⟨by simp, fun i hi => by simp at hi⟩
set_option maxHeartbeats 4000000 in
set_option maxRecDepth 100000 in
theorem c_minit (l : Launch) {G : zz_G} {ad : Nat → Nat} {ce : zz_C} {sz : Nat} (n : Nat) (h0 : ce n = some (.inr (0, [.null, .int 0]))) (hN : ce (n + 1) = none) (had : ad (n + 1) = sz) : zz_M l yX0_init cX0_init 1 none 1 40 1 24 G [.ref (ad n)] ad ce sz (fun r ad1 ce1 => r = none ∧ ad = ad1 ∧ cl_m G ad ce1 n [] ∧ (∀ j, j ≠ n → j ≠ n + 1 → ce1 j = ce j)) := by
  refine zz_enter (by decide) (Nat.le_of_ble_eq_true rfl) ?_
  intro p e s m below meth c ls F hl hw hS hA
  obtain ⟨hx, hb, hr, hml, hown, hts, hlocks, hK, hnm⟩ := id F
  have hl : lv_has ls 1 [(0, .ref (ad n))] := hl
  have hF : ∀ j, j ≠ n → j ≠ n + 1 → ce j = ce j := fun _ _ _ => rfl
  refine lv_aload_n hx hb dX0_init_0 rfl (lv_at hl 0 rfl) ?_
  refine W.objInit hx hb hown (hts _ wd_37) (hts _ wd_14) (hts _ wd_15) rfl (by rw [hml]; exact hl.1) rfl dX0_init_1 (Nat.le_of_ble_eq_true rfl) (Nat.le_of_ble_eq_true rfl) ?_
  refine W.eq (g2 := F0 m 4 ls []) rfl ?_
  refine lv_aload_n hx hb dX0_init_4 rfl (lv_at hl 0 rfl) ?_
  refine lv_bipush (v := 24) hx hb dX0_init_5 (by decide) ?_
  refine z_newiF F hw hA hS (n + 1) hN had wd_ai (by decide) (N := 24) (by decide) (by decide) (Nat.le_of_ble_eq_true rfl) (Nat.le_of_ble_eq_true rfl) dX0_init_7 (fun ce1 H h1 fr2 hw hS => ?_)
  have h0 := (fr2 n (by omega)).trans h0
  have hF : ∀ j, j ≠ n → j ≠ n + 1 → _ = ce j := fun j h1 h2 => (fr2 j (by omega)).trans (hF j h1 h2)
  refine z_putF F rfl hw hS (fs' := [.ref (ad (n + 1)), .int 0]) h0 fd_X0_11_X0 ptX0 rfl rfl (rfl) (rfl) (Nat.le_of_ble_eq_true rfl) rfl dX0_init_9 (fun ce3 H locs h0 fr4 hw hS => ?_)
  have h1 := (fr4 (n + 1) (by omega)).trans h1
  have hF : ∀ j, j ≠ n → j ≠ n + 1 → _ = ce j := fun j h1 h2 => (fr4 j (by omega)).trans (hF j h1 h2)
  refine lv_aload_n hx hb dX0_init_12 rfl (lv_at hl 0 rfl) ?_
  refine lv_iconst (v := 0) hx hb dX0_init_13 (by decide) ?_
  refine z_put F hw hS (fs' := [.ref (ad (n + 1)), .int 0]) h0 fd_X0_15_X0 ptX0 rfl (rfl) (rfl) (Nat.le_of_ble_eq_true rfl) rfl dX0_init_14 (fun ce5 H locs h0 fr6 hw hS => ?_)
  have h1 := (fr6 (n + 1) (by omega)).trans h1
  have hF : ∀ j, j ≠ n → j ≠ n + 1 → _ = ce j := fun j h1 h2 => (fr6 j (by omega)).trans (hF j h1 h2)
  exact z_vret F hw hS (⟨rfl, rfl, ⟨_, h0, h1, cl_m0 _⟩, hF⟩) dX0_init_17
set_option maxHeartbeats 4000000 in
set_option maxRecDepth 100000 in
theorem c_rinit (l : Launch) {G : zz_G} {ad : Nat → Nat} {ce : zz_C} {sz : Nat} (b : Nat) (g0 : ce b = some (.inr (3, [.null, .null, .int 0, .int 0, .int 0]))) (hN0 : ∀ j, b < j → j < b + 20 → ce j = none) (had1 : ad (b + 1) = sz) (hadA : ∀ j, 4 ≤ j → j < 20 → ad (b + j) = sz + (j - 3)) (had2 : ad (b + 2) = sz + 17) (had3 : ad (b + 3) = sz + 18) : zz_M l yX4_init cX4_init 2 none 2 60 19 242 G [.ref (ad b)] ad ce sz (fun r ad1 ce1 => r = none ∧ ad = ad1 ∧ cl_r G ad ce1 b [] 1 ∧ (∀ j, j < b ∨ b + 20 ≤ j → ce1 j = ce j)) := by
  refine zz_enter (by decide) (Nat.le_of_ble_eq_true rfl) ?_
  intro p e s m below meth c ls F hl hw hS hA
  obtain ⟨hx, hb, hr, hml, hown, hts, hlocks, hK, hnm⟩ := id F
  have hl : lv_has ls 2 [(0, .ref (ad b))] := hl
  refine lv_aload_n hx hb dX4_init_0 rfl (lv_at hl 0 rfl) ?_
  refine W.objInit hx hb hown (hts _ wd_30) (hts _ wd_14) (hts _ wd_15) rfl (by rw [hml]; exact hl.1) rfl dX4_init_1 (Nat.le_of_ble_eq_true rfl) (Nat.le_of_ble_eq_true rfl) ?_
  refine W.eq (g2 := F0 m 4 ls []) rfl ?_
  refine lv_aload_n hx hb dX4_init_4 rfl (lv_at hl 0 rfl) ?_
  refine lv_bipush (v := 8) hx hb dX4_init_5 (by decide) ?_
  refine z_newqF F hw hA hS (b + 1) (hN0 _ (by omega) (by omega)) had1 wd_31 (by decide) (N := 8) (by decide) (by decide) (Nat.le_of_ble_eq_true rfl) (Nat.le_of_ble_eq_true rfl) dX4_init_7 (fun ce1 H g1 fr2 hw hS => ?_)
  have g0 := (fr2 b (by omega)).trans g0
  have hF : ∀ j, j < b ∨ b + 20 ≤ j → _ = ce j := fun j hj => (fr2 j (by omega)).trans rfl
  have hN : ∀ j, (b + 4 ≤ j ∧ j < b + 20) ∨ j = b + 2 ∨ j = b + 3 → _ = none := fun j hj => (fr2 j (by omega)).trans (hN0 j (by omega) (by omega))
  refine z_putF F rfl hw hS (fs' := [.ref (ad (b + 1)), .null, .int 0, .int 0, .int 0]) g0 fd_X4_11_X4 ptX4 rfl rfl (rfl) (rfl) (Nat.le_of_ble_eq_true rfl) rfl dX4_init_10 (fun ce3 H locs g0 fr4 hw hS => ?_)
  have g1 := (fr4 (b + 1) (by omega)).trans g1
  have hF : ∀ j, j < b ∨ b + 20 ≤ j → _ = ce j := fun j hj => (fr4 j (by omega)).trans (hF j hj)
  have hN : ∀ j, (b + 4 ≤ j ∧ j < b + 20) ∨ j = b + 2 ∨ j = b + 3 → _ = none := fun j hj => (fr4 j (by omega)).trans (hN j (by omega))
  refine lv_iconst (v := 0) hx hb dX4_init_13 (by decide) ?_
  refine lv_istore_n (lv' := [(1, .int 0), (0, .ref (ad b))]) hx hb dX4_init_14 rfl hl (by decide) rfl (fun ls hl => ?_)
  refine lv_iload_n hx hb dX4_init_15 rfl (lv_at hl 0 rfl) ?_
  refine lv_bipush (v := 8) hx hb dX4_init_16 (by decide) ?_
  refine lv_icmp_ge (tgt := 40) hx hb dX4_init_18 (by decide) (fun c18 => absurd c18 (by decide)) (fun c18 => ?_)
  refine lv_aload_n hx hb dX4_init_21 rfl (lv_at hl 1 rfl) ?_
  refine z_get F hw g0 fd_X4_11_X4 rfl dX4_init_22 ?_
  refine lv_iload_n hx hb dX4_init_25 rfl (lv_at hl 0 rfl) ?_
  refine z_newF F hw hA hS (b + 4) (hN _ (by omega)) ((hadA 4 (by decide) (by decide)).trans (by omega)) (fs := [.null, .int 0]) (ci := 0) (ty0 := tyX0) rfl inX0 tyX0_ok wd_31 wd_33 wd_5 (by decide) (Nat.le_of_ble_eq_true rfl) (Nat.le_of_ble_eq_true rfl) dX4_init_26 (fun ce5 H hn9 fr6 hw hS => ?_)
  have g0 := (fr6 b (by omega)).trans g0
  have g1 := (fr6 (b + 1) (by omega)).trans g1
  have hF : ∀ j, j < b ∨ b + 20 ≤ j → _ = ce j := fun j hj => (fr6 j (by omega)).trans (hF j hj)
  have hN : ∀ j, (b + 5 ≤ j ∧ j < b + 20) ∨ j = b + 2 ∨ j = b + 3 → _ = none := fun j hj => (fr6 j (by omega)).trans (hN j (by omega))
  refine lv_dup hx hb dX4_init_29 rfl ?_
  refine z_invI F (rest := [.ref (ad (b + 4)), .int 0, .ref (ad (b + 1))]) (c_minit l (b + 4) hn9 (hN _ (by omega)) ((hadA 5 (by decide) (by decide)).trans (by omega))) yi_X4_15 ⟨Nat.le_of_ble_eq_true rfl, Nat.le_of_ble_eq_true rfl⟩ hw hA hS hl rfl rfl (Nat.le_of_ble_eq_true rfl) dX4_init_30 ⟨Nat.le_of_ble_eq_true rfl, Nat.le_of_ble_eq_true rfl⟩ (fun r ad1 ce7 H locs hp hw hS => ?_)
  obtain ⟨rfl, rfl, hq4, hF2⟩ := hp
  have g0 := (hF2 b (by omega) (by omega)).trans g0
  have g1 := (hF2 (b + 1) (by omega) (by omega)).trans g1
  have hF : ∀ j, j < b ∨ b + 20 ≤ j → _ = ce j := fun j hj => (hF2 j (by omega) (by omega)).trans (hF j hj)
  have hN : ∀ j, (b + 6 ≤ j ∧ j < b + 20) ∨ j = b + 2 ∨ j = b + 3 → _ = none := fun j hj => (hF2 j (by omega) (by omega)).trans (hN j (by omega))
  refine W.eq (g2 := F0 m 33 ls [.ref (ad (b + 4)), .int 0, .ref (ad (b + 1))]) rfl ?_
  refine z_ast F hw hS g1 hq4.obj 0 rfl (by decide) (by decide) dX4_init_33 (fun ce8 H locs g1 fr9 hw hS => ?_)
  have g0 := (fr9 b (by omega)).trans g0
  have hF : ∀ j, j < b ∨ b + 20 ≤ j → _ = ce j := fun j hj => (fr9 j (by omega)).trans (hF j hj)
  have hq4 := hq4.kept (fr9 _ (by omega)) (fr9 _ (by omega))
  have hN : ∀ j, (b + 6 ≤ j ∧ j < b + 20) ∨ j = b + 2 ∨ j = b + 3 → _ = none := fun j hj => (fr9 j (by omega)).trans (hN j (by omega))
  refine lv_iinc (v := 1) (lv' := [(1, .int 1), (0, .ref (ad b))]) hx hb dX4_init_34 hl (k := 0) rfl (by decide) (by decide) rfl (fun ls hl => ?_)
  refine lv_goto (tgt := 15) hx hb dX4_init_37 (by decide) ?_
  refine lv_iload_n hx hb dX4_init_15 rfl (lv_at hl 0 rfl) ?_
  refine lv_bipush (v := 8) hx hb dX4_init_16 (by decide) ?_
  refine lv_icmp_ge (tgt := 40) hx hb dX4_init_18 (by decide) (fun c18_1 => absurd c18_1 (by decide)) (fun c18_1 => ?_)
  refine lv_aload_n hx hb dX4_init_21 rfl (lv_at hl 1 rfl) ?_
  refine z_get F hw g0 fd_X4_11_X4 rfl dX4_init_22 ?_
  refine lv_iload_n hx hb dX4_init_25 rfl (lv_at hl 0 rfl) ?_
  refine z_newF F hw hA hS (b + 6) (hN _ (by omega)) ((hadA 6 (by decide) (by decide)).trans (by omega)) (fs := [.null, .int 0]) (ci := 0) (ty0 := tyX0) rfl inX0 tyX0_ok wd_31 wd_33 wd_5 (by decide) (Nat.le_of_ble_eq_true rfl) (Nat.le_of_ble_eq_true rfl) dX4_init_26 (fun ce10 H hn9 fr11 hw hS => ?_)
  have g0 := (fr11 b (by omega)).trans g0
  have g1 := (fr11 (b + 1) (by omega)).trans g1
  have hF : ∀ j, j < b ∨ b + 20 ≤ j → _ = ce j := fun j hj => (fr11 j (by omega)).trans (hF j hj)
  have hq4 := hq4.kept (fr11 _ (by omega)) (fr11 _ (by omega))
  have hN : ∀ j, (b + 7 ≤ j ∧ j < b + 20) ∨ j = b + 2 ∨ j = b + 3 → _ = none := fun j hj => (fr11 j (by omega)).trans (hN j (by omega))
  refine lv_dup hx hb dX4_init_29 rfl ?_
  refine z_invI F (rest := [.ref (ad (b + 6)), .int 1, .ref (ad (b + 1))]) (c_minit l (b + 6) hn9 (hN _ (by omega)) ((hadA 7 (by decide) (by decide)).trans (by omega))) yi_X4_15 ⟨Nat.le_of_ble_eq_true rfl, Nat.le_of_ble_eq_true rfl⟩ hw hA hS hl rfl rfl (Nat.le_of_ble_eq_true rfl) dX4_init_30 ⟨Nat.le_of_ble_eq_true rfl, Nat.le_of_ble_eq_true rfl⟩ (fun r ad1 ce12 H locs hp hw hS => ?_)
  obtain ⟨rfl, rfl, hq6, hF2⟩ := hp
  have g0 := (hF2 b (by omega) (by omega)).trans g0
  have g1 := (hF2 (b + 1) (by omega) (by omega)).trans g1
  have hF : ∀ j, j < b ∨ b + 20 ≤ j → _ = ce j := fun j hj => (hF2 j (by omega) (by omega)).trans (hF j hj)
  have hq4 := hq4.kept (hF2 _ (by omega) (by omega)) (hF2 _ (by omega) (by omega))
  have hN : ∀ j, (b + 8 ≤ j ∧ j < b + 20) ∨ j = b + 2 ∨ j = b + 3 → _ = none := fun j hj => (hF2 j (by omega) (by omega)).trans (hN j (by omega))
  refine W.eq (g2 := F0 m 33 ls [.ref (ad (b + 6)), .int 1, .ref (ad (b + 1))]) rfl ?_
  refine z_ast F hw hS g1 hq6.obj 1 rfl (by decide) (by decide) dX4_init_33 (fun ce13 H locs g1 fr14 hw hS => ?_)
  have g0 := (fr14 b (by omega)).trans g0
  have hF : ∀ j, j < b ∨ b + 20 ≤ j → _ = ce j := fun j hj => (fr14 j (by omega)).trans (hF j hj)
  have hq4 := hq4.kept (fr14 _ (by omega)) (fr14 _ (by omega))
  have hq6 := hq6.kept (fr14 _ (by omega)) (fr14 _ (by omega))
  have hN : ∀ j, (b + 8 ≤ j ∧ j < b + 20) ∨ j = b + 2 ∨ j = b + 3 → _ = none := fun j hj => (fr14 j (by omega)).trans (hN j (by omega))
  refine lv_iinc (v := 2) (lv' := [(1, .int 2), (0, .ref (ad b))]) hx hb dX4_init_34 hl (k := 0) rfl (by decide) (by decide) rfl (fun ls hl => ?_)
  refine lv_goto (tgt := 15) hx hb dX4_init_37 (by decide) ?_
  refine lv_iload_n hx hb dX4_init_15 rfl (lv_at hl 0 rfl) ?_
  refine lv_bipush (v := 8) hx hb dX4_init_16 (by decide) ?_
  refine lv_icmp_ge (tgt := 40) hx hb dX4_init_18 (by decide) (fun c18_2 => absurd c18_2 (by decide)) (fun c18_2 => ?_)
  refine lv_aload_n hx hb dX4_init_21 rfl (lv_at hl 1 rfl) ?_
  refine z_get F hw g0 fd_X4_11_X4 rfl dX4_init_22 ?_
  refine lv_iload_n hx hb dX4_init_25 rfl (lv_at hl 0 rfl) ?_
  refine z_newF F hw hA hS (b + 8) (hN _ (by omega)) ((hadA 8 (by decide) (by decide)).trans (by omega)) (fs := [.null, .int 0]) (ci := 0) (ty0 := tyX0) rfl inX0 tyX0_ok wd_31 wd_33 wd_5 (by decide) (Nat.le_of_ble_eq_true rfl) (Nat.le_of_ble_eq_true rfl) dX4_init_26 (fun ce15 H hn9 fr16 hw hS => ?_)
  have g0 := (fr16 b (by omega)).trans g0
  have g1 := (fr16 (b + 1) (by omega)).trans g1
  have hF : ∀ j, j < b ∨ b + 20 ≤ j → _ = ce j := fun j hj => (fr16 j (by omega)).trans (hF j hj)
  have hq4 := hq4.kept (fr16 _ (by omega)) (fr16 _ (by omega))
  have hq6 := hq6.kept (fr16 _ (by omega)) (fr16 _ (by omega))
  have hN : ∀ j, (b + 9 ≤ j ∧ j < b + 20) ∨ j = b + 2 ∨ j = b + 3 → _ = none := fun j hj => (fr16 j (by omega)).trans (hN j (by omega))
  refine lv_dup hx hb dX4_init_29 rfl ?_
  refine z_invI F (rest := [.ref (ad (b + 8)), .int 2, .ref (ad (b + 1))]) (c_minit l (b + 8) hn9 (hN _ (by omega)) ((hadA 9 (by decide) (by decide)).trans (by omega))) yi_X4_15 ⟨Nat.le_of_ble_eq_true rfl, Nat.le_of_ble_eq_true rfl⟩ hw hA hS hl rfl rfl (Nat.le_of_ble_eq_true rfl) dX4_init_30 ⟨Nat.le_of_ble_eq_true rfl, Nat.le_of_ble_eq_true rfl⟩ (fun r ad1 ce17 H locs hp hw hS => ?_)
  obtain ⟨rfl, rfl, hq8, hF2⟩ := hp
  have g0 := (hF2 b (by omega) (by omega)).trans g0
  have g1 := (hF2 (b + 1) (by omega) (by omega)).trans g1
  have hF : ∀ j, j < b ∨ b + 20 ≤ j → _ = ce j := fun j hj => (hF2 j (by omega) (by omega)).trans (hF j hj)
  have hq4 := hq4.kept (hF2 _ (by omega) (by omega)) (hF2 _ (by omega) (by omega))
  have hq6 := hq6.kept (hF2 _ (by omega) (by omega)) (hF2 _ (by omega) (by omega))
  have hN : ∀ j, (b + 10 ≤ j ∧ j < b + 20) ∨ j = b + 2 ∨ j = b + 3 → _ = none := fun j hj => (hF2 j (by omega) (by omega)).trans (hN j (by omega))
  refine W.eq (g2 := F0 m 33 ls [.ref (ad (b + 8)), .int 2, .ref (ad (b + 1))]) rfl ?_
  refine z_ast F hw hS g1 hq8.obj 2 rfl (by decide) (by decide) dX4_init_33 (fun ce18 H locs g1 fr19 hw hS => ?_)
  have g0 := (fr19 b (by omega)).trans g0
  have hF : ∀ j, j < b ∨ b + 20 ≤ j → _ = ce j := fun j hj => (fr19 j (by omega)).trans (hF j hj)
  have hq4 := hq4.kept (fr19 _ (by omega)) (fr19 _ (by omega))
  have hq6 := hq6.kept (fr19 _ (by omega)) (fr19 _ (by omega))
  have hq8 := hq8.kept (fr19 _ (by omega)) (fr19 _ (by omega))
  have hN : ∀ j, (b + 10 ≤ j ∧ j < b + 20) ∨ j = b + 2 ∨ j = b + 3 → _ = none := fun j hj => (fr19 j (by omega)).trans (hN j (by omega))
  refine lv_iinc (v := 3) (lv' := [(1, .int 3), (0, .ref (ad b))]) hx hb dX4_init_34 hl (k := 0) rfl (by decide) (by decide) rfl (fun ls hl => ?_)
  refine lv_goto (tgt := 15) hx hb dX4_init_37 (by decide) ?_
  refine lv_iload_n hx hb dX4_init_15 rfl (lv_at hl 0 rfl) ?_
  refine lv_bipush (v := 8) hx hb dX4_init_16 (by decide) ?_
  refine lv_icmp_ge (tgt := 40) hx hb dX4_init_18 (by decide) (fun c18_3 => absurd c18_3 (by decide)) (fun c18_3 => ?_)
  refine lv_aload_n hx hb dX4_init_21 rfl (lv_at hl 1 rfl) ?_
  refine z_get F hw g0 fd_X4_11_X4 rfl dX4_init_22 ?_
  refine lv_iload_n hx hb dX4_init_25 rfl (lv_at hl 0 rfl) ?_
  refine z_newF F hw hA hS (b + 10) (hN _ (by omega)) ((hadA 10 (by decide) (by decide)).trans (by omega)) (fs := [.null, .int 0]) (ci := 0) (ty0 := tyX0) rfl inX0 tyX0_ok wd_31 wd_33 wd_5 (by decide) (Nat.le_of_ble_eq_true rfl) (Nat.le_of_ble_eq_true rfl) dX4_init_26 (fun ce20 H hn9 fr21 hw hS => ?_)
  have g0 := (fr21 b (by omega)).trans g0
  have g1 := (fr21 (b + 1) (by omega)).trans g1
  have hF : ∀ j, j < b ∨ b + 20 ≤ j → _ = ce j := fun j hj => (fr21 j (by omega)).trans (hF j hj)
  have hq4 := hq4.kept (fr21 _ (by omega)) (fr21 _ (by omega))
  have hq6 := hq6.kept (fr21 _ (by omega)) (fr21 _ (by omega))
  have hq8 := hq8.kept (fr21 _ (by omega)) (fr21 _ (by omega))
  have hN : ∀ j, (b + 11 ≤ j ∧ j < b + 20) ∨ j = b + 2 ∨ j = b + 3 → _ = none := fun j hj => (fr21 j (by omega)).trans (hN j (by omega))
  refine lv_dup hx hb dX4_init_29 rfl ?_
  refine z_invI F (rest := [.ref (ad (b + 10)), .int 3, .ref (ad (b + 1))]) (c_minit l (b + 10) hn9 (hN _ (by omega)) ((hadA 11 (by decide) (by decide)).trans (by omega))) yi_X4_15 ⟨Nat.le_of_ble_eq_true rfl, Nat.le_of_ble_eq_true rfl⟩ hw hA hS hl rfl rfl (Nat.le_of_ble_eq_true rfl) dX4_init_30 ⟨Nat.le_of_ble_eq_true rfl, Nat.le_of_ble_eq_true rfl⟩ (fun r ad1 ce22 H locs hp hw hS => ?_)
  obtain ⟨rfl, rfl, hq10, hF2⟩ := hp
  have g0 := (hF2 b (by omega) (by omega)).trans g0
  have g1 := (hF2 (b + 1) (by omega) (by omega)).trans g1
  have hF : ∀ j, j < b ∨ b + 20 ≤ j → _ = ce j := fun j hj => (hF2 j (by omega) (by omega)).trans (hF j hj)
  have hq4 := hq4.kept (hF2 _ (by omega) (by omega)) (hF2 _ (by omega) (by omega))
  have hq6 := hq6.kept (hF2 _ (by omega) (by omega)) (hF2 _ (by omega) (by omega))
  have hq8 := hq8.kept (hF2 _ (by omega) (by omega)) (hF2 _ (by omega) (by omega))
  have hN : ∀ j, (b + 12 ≤ j ∧ j < b + 20) ∨ j = b + 2 ∨ j = b + 3 → _ = none := fun j hj => (hF2 j (by omega) (by omega)).trans (hN j (by omega))
  refine W.eq (g2 := F0 m 33 ls [.ref (ad (b + 10)), .int 3, .ref (ad (b + 1))]) rfl ?_
  refine z_ast F hw hS g1 hq10.obj 3 rfl (by decide) (by decide) dX4_init_33 (fun ce23 H locs g1 fr24 hw hS => ?_)
  have g0 := (fr24 b (by omega)).trans g0
  have hF : ∀ j, j < b ∨ b + 20 ≤ j → _ = ce j := fun j hj => (fr24 j (by omega)).trans (hF j hj)
  have hq4 := hq4.kept (fr24 _ (by omega)) (fr24 _ (by omega))
  have hq6 := hq6.kept (fr24 _ (by omega)) (fr24 _ (by omega))
  have hq8 := hq8.kept (fr24 _ (by omega)) (fr24 _ (by omega))
  have hq10 := hq10.kept (fr24 _ (by omega)) (fr24 _ (by omega))
  have hN : ∀ j, (b + 12 ≤ j ∧ j < b + 20) ∨ j = b + 2 ∨ j = b + 3 → _ = none := fun j hj => (fr24 j (by omega)).trans (hN j (by omega))
  refine lv_iinc (v := 4) (lv' := [(1, .int 4), (0, .ref (ad b))]) hx hb dX4_init_34 hl (k := 0) rfl (by decide) (by decide) rfl (fun ls hl => ?_)
  refine lv_goto (tgt := 15) hx hb dX4_init_37 (by decide) ?_
  refine lv_iload_n hx hb dX4_init_15 rfl (lv_at hl 0 rfl) ?_
  refine lv_bipush (v := 8) hx hb dX4_init_16 (by decide) ?_
  refine lv_icmp_ge (tgt := 40) hx hb dX4_init_18 (by decide) (fun c18_4 => absurd c18_4 (by decide)) (fun c18_4 => ?_)
  refine lv_aload_n hx hb dX4_init_21 rfl (lv_at hl 1 rfl) ?_
  refine z_get F hw g0 fd_X4_11_X4 rfl dX4_init_22 ?_
  refine lv_iload_n hx hb dX4_init_25 rfl (lv_at hl 0 rfl) ?_
  refine z_newF F hw hA hS (b + 12) (hN _ (by omega)) ((hadA 12 (by decide) (by decide)).trans (by omega)) (fs := [.null, .int 0]) (ci := 0) (ty0 := tyX0) rfl inX0 tyX0_ok wd_31 wd_33 wd_5 (by decide) (Nat.le_of_ble_eq_true rfl) (Nat.le_of_ble_eq_true rfl) dX4_init_26 (fun ce25 H hn9 fr26 hw hS => ?_)
  have g0 := (fr26 b (by omega)).trans g0
  have g1 := (fr26 (b + 1) (by omega)).trans g1
  have hF : ∀ j, j < b ∨ b + 20 ≤ j → _ = ce j := fun j hj => (fr26 j (by omega)).trans (hF j hj)
  have hq4 := hq4.kept (fr26 _ (by omega)) (fr26 _ (by omega))
  have hq6 := hq6.kept (fr26 _ (by omega)) (fr26 _ (by omega))
  have hq8 := hq8.kept (fr26 _ (by omega)) (fr26 _ (by omega))
  have hq10 := hq10.kept (fr26 _ (by omega)) (fr26 _ (by omega))
  have hN : ∀ j, (b + 13 ≤ j ∧ j < b + 20) ∨ j = b + 2 ∨ j = b + 3 → _ = none := fun j hj => (fr26 j (by omega)).trans (hN j (by omega))
  refine lv_dup hx hb dX4_init_29 rfl ?_
  refine z_invI F (rest := [.ref (ad (b + 12)), .int 4, .ref (ad (b + 1))]) (c_minit l (b + 12) hn9 (hN _ (by omega)) ((hadA 13 (by decide) (by decide)).trans (by omega))) yi_X4_15 ⟨Nat.le_of_ble_eq_true rfl, Nat.le_of_ble_eq_true rfl⟩ hw hA hS hl rfl rfl (Nat.le_of_ble_eq_true rfl) dX4_init_30 ⟨Nat.le_of_ble_eq_true rfl, Nat.le_of_ble_eq_true rfl⟩ (fun r ad1 ce27 H locs hp hw hS => ?_)
  obtain ⟨rfl, rfl, hq12, hF2⟩ := hp
  have g0 := (hF2 b (by omega) (by omega)).trans g0
  have g1 := (hF2 (b + 1) (by omega) (by omega)).trans g1
  have hF : ∀ j, j < b ∨ b + 20 ≤ j → _ = ce j := fun j hj => (hF2 j (by omega) (by omega)).trans (hF j hj)
  have hq4 := hq4.kept (hF2 _ (by omega) (by omega)) (hF2 _ (by omega) (by omega))
  have hq6 := hq6.kept (hF2 _ (by omega) (by omega)) (hF2 _ (by omega) (by omega))
  have hq8 := hq8.kept (hF2 _ (by omega) (by omega)) (hF2 _ (by omega) (by omega))
  have hq10 := hq10.kept (hF2 _ (by omega) (by omega)) (hF2 _ (by omega) (by omega))
  have hN : ∀ j, (b + 14 ≤ j ∧ j < b + 20) ∨ j = b + 2 ∨ j = b + 3 → _ = none := fun j hj => (hF2 j (by omega) (by omega)).trans (hN j (by omega))
  refine W.eq (g2 := F0 m 33 ls [.ref (ad (b + 12)), .int 4, .ref (ad (b + 1))]) rfl ?_
  refine z_ast F hw hS g1 hq12.obj 4 rfl (by decide) (by decide) dX4_init_33 (fun ce28 H locs g1 fr29 hw hS => ?_)
  have g0 := (fr29 b (by omega)).trans g0
  have hF : ∀ j, j < b ∨ b + 20 ≤ j → _ = ce j := fun j hj => (fr29 j (by omega)).trans (hF j hj)
  have hq4 := hq4.kept (fr29 _ (by omega)) (fr29 _ (by omega))
  have hq6 := hq6.kept (fr29 _ (by omega)) (fr29 _ (by omega))
  have hq8 := hq8.kept (fr29 _ (by omega)) (fr29 _ (by omega))
  have hq10 := hq10.kept (fr29 _ (by omega)) (fr29 _ (by omega))
  have hq12 := hq12.kept (fr29 _ (by omega)) (fr29 _ (by omega))
  have hN : ∀ j, (b + 14 ≤ j ∧ j < b + 20) ∨ j = b + 2 ∨ j = b + 3 → _ = none := fun j hj => (fr29 j (by omega)).trans (hN j (by omega))
  refine lv_iinc (v := 5) (lv' := [(1, .int 5), (0, .ref (ad b))]) hx hb dX4_init_34 hl (k := 0) rfl (by decide) (by decide) rfl (fun ls hl => ?_)
  refine lv_goto (tgt := 15) hx hb dX4_init_37 (by decide) ?_
  refine lv_iload_n hx hb dX4_init_15 rfl (lv_at hl 0 rfl) ?_
  refine lv_bipush (v := 8) hx hb dX4_init_16 (by decide) ?_
  refine lv_icmp_ge (tgt := 40) hx hb dX4_init_18 (by decide) (fun c18_5 => absurd c18_5 (by decide)) (fun c18_5 => ?_)
  refine lv_aload_n hx hb dX4_init_21 rfl (lv_at hl 1 rfl) ?_
  refine z_get F hw g0 fd_X4_11_X4 rfl dX4_init_22 ?_
  refine lv_iload_n hx hb dX4_init_25 rfl (lv_at hl 0 rfl) ?_
  refine z_newF F hw hA hS (b + 14) (hN _ (by omega)) ((hadA 14 (by decide) (by decide)).trans (by omega)) (fs := [.null, .int 0]) (ci := 0) (ty0 := tyX0) rfl inX0 tyX0_ok wd_31 wd_33 wd_5 (by decide) (Nat.le_of_ble_eq_true rfl) (Nat.le_of_ble_eq_true rfl) dX4_init_26 (fun ce30 H hn9 fr31 hw hS => ?_)
  have g0 := (fr31 b (by omega)).trans g0
  have g1 := (fr31 (b + 1) (by omega)).trans g1
  have hF : ∀ j, j < b ∨ b + 20 ≤ j → _ = ce j := fun j hj => (fr31 j (by omega)).trans (hF j hj)
  have hq4 := hq4.kept (fr31 _ (by omega)) (fr31 _ (by omega))
  have hq6 := hq6.kept (fr31 _ (by omega)) (fr31 _ (by omega))
  have hq8 := hq8.kept (fr31 _ (by omega)) (fr31 _ (by omega))
  have hq10 := hq10.kept (fr31 _ (by omega)) (fr31 _ (by omega))
  have hq12 := hq12.kept (fr31 _ (by omega)) (fr31 _ (by omega))
  have hN : ∀ j, (b + 15 ≤ j ∧ j < b + 20) ∨ j = b + 2 ∨ j = b + 3 → _ = none := fun j hj => (fr31 j (by omega)).trans (hN j (by omega))
  refine lv_dup hx hb dX4_init_29 rfl ?_
  refine z_invI F (rest := [.ref (ad (b + 14)), .int 5, .ref (ad (b + 1))]) (c_minit l (b + 14) hn9 (hN _ (by omega)) ((hadA 15 (by decide) (by decide)).trans (by omega))) yi_X4_15 ⟨Nat.le_of_ble_eq_true rfl, Nat.le_of_ble_eq_true rfl⟩ hw hA hS hl rfl rfl (Nat.le_of_ble_eq_true rfl) dX4_init_30 ⟨Nat.le_of_ble_eq_true rfl, Nat.le_of_ble_eq_true rfl⟩ (fun r ad1 ce32 H locs hp hw hS => ?_)
  obtain ⟨rfl, rfl, hq14, hF2⟩ := hp
  have g0 := (hF2 b (by omega) (by omega)).trans g0
  have g1 := (hF2 (b + 1) (by omega) (by omega)).trans g1
  have hF : ∀ j, j < b ∨ b + 20 ≤ j → _ = ce j := fun j hj => (hF2 j (by omega) (by omega)).trans (hF j hj)
  have hq4 := hq4.kept (hF2 _ (by omega) (by omega)) (hF2 _ (by omega) (by omega))
  have hq6 := hq6.kept (hF2 _ (by omega) (by omega)) (hF2 _ (by omega) (by omega))
  have hq8 := hq8.kept (hF2 _ (by omega) (by omega)) (hF2 _ (by omega) (by omega))
  have hq10 := hq10.kept (hF2 _ (by omega) (by omega)) (hF2 _ (by omega) (by omega))
  have hq12 := hq12.kept (hF2 _ (by omega) (by omega)) (hF2 _ (by omega) (by omega))
  have hN : ∀ j, (b + 16 ≤ j ∧ j < b + 20) ∨ j = b + 2 ∨ j = b + 3 → _ = none := fun j hj => (hF2 j (by omega) (by omega)).trans (hN j (by omega))
  refine W.eq (g2 := F0 m 33 ls [.ref (ad (b + 14)), .int 5, .ref (ad (b + 1))]) rfl ?_
  refine z_ast F hw hS g1 hq14.obj 5 rfl (by decide) (by decide) dX4_init_33 (fun ce33 H locs g1 fr34 hw hS => ?_)
  have g0 := (fr34 b (by omega)).trans g0
  have hF : ∀ j, j < b ∨ b + 20 ≤ j → _ = ce j := fun j hj => (fr34 j (by omega)).trans (hF j hj)
  have hq4 := hq4.kept (fr34 _ (by omega)) (fr34 _ (by omega))
  have hq6 := hq6.kept (fr34 _ (by omega)) (fr34 _ (by omega))
  have hq8 := hq8.kept (fr34 _ (by omega)) (fr34 _ (by omega))
  have hq10 := hq10.kept (fr34 _ (by omega)) (fr34 _ (by omega))
  have hq12 := hq12.kept (fr34 _ (by omega)) (fr34 _ (by omega))
  have hq14 := hq14.kept (fr34 _ (by omega)) (fr34 _ (by omega))
  have hN : ∀ j, (b + 16 ≤ j ∧ j < b + 20) ∨ j = b + 2 ∨ j = b + 3 → _ = none := fun j hj => (fr34 j (by omega)).trans (hN j (by omega))
  refine lv_iinc (v := 6) (lv' := [(1, .int 6), (0, .ref (ad b))]) hx hb dX4_init_34 hl (k := 0) rfl (by decide) (by decide) rfl (fun ls hl => ?_)
  refine lv_goto (tgt := 15) hx hb dX4_init_37 (by decide) ?_
  refine lv_iload_n hx hb dX4_init_15 rfl (lv_at hl 0 rfl) ?_
  refine lv_bipush (v := 8) hx hb dX4_init_16 (by decide) ?_
  refine lv_icmp_ge (tgt := 40) hx hb dX4_init_18 (by decide) (fun c18_6 => absurd c18_6 (by decide)) (fun c18_6 => ?_)
  refine lv_aload_n hx hb dX4_init_21 rfl (lv_at hl 1 rfl) ?_
  refine z_get F hw g0 fd_X4_11_X4 rfl dX4_init_22 ?_
  refine lv_iload_n hx hb dX4_init_25 rfl (lv_at hl 0 rfl) ?_
  refine z_newF F hw hA hS (b + 16) (hN _ (by omega)) ((hadA 16 (by decide) (by decide)).trans (by omega)) (fs := [.null, .int 0]) (ci := 0) (ty0 := tyX0) rfl inX0 tyX0_ok wd_31 wd_33 wd_5 (by decide) (Nat.le_of_ble_eq_true rfl) (Nat.le_of_ble_eq_true rfl) dX4_init_26 (fun ce35 H hn9 fr36 hw hS => ?_)
  have g0 := (fr36 b (by omega)).trans g0
  have g1 := (fr36 (b + 1) (by omega)).trans g1
  have hF : ∀ j, j < b ∨ b + 20 ≤ j → _ = ce j := fun j hj => (fr36 j (by omega)).trans (hF j hj)
  have hq4 := hq4.kept (fr36 _ (by omega)) (fr36 _ (by omega))
  have hq6 := hq6.kept (fr36 _ (by omega)) (fr36 _ (by omega))
  have hq8 := hq8.kept (fr36 _ (by omega)) (fr36 _ (by omega))
  have hq10 := hq10.kept (fr36 _ (by omega)) (fr36 _ (by omega))
  have hq12 := hq12.kept (fr36 _ (by omega)) (fr36 _ (by omega))
  have hq14 := hq14.kept (fr36 _ (by omega)) (fr36 _ (by omega))
  have hN : ∀ j, (b + 17 ≤ j ∧ j < b + 20) ∨ j = b + 2 ∨ j = b + 3 → _ = none := fun j hj => (fr36 j (by omega)).trans (hN j (by omega))
  refine lv_dup hx hb dX4_init_29 rfl ?_
  refine z_invI F (rest := [.ref (ad (b + 16)), .int 6, .ref (ad (b + 1))]) (c_minit l (b + 16) hn9 (hN _ (by omega)) ((hadA 17 (by decide) (by decide)).trans (by omega))) yi_X4_15 ⟨Nat.le_of_ble_eq_true rfl, Nat.le_of_ble_eq_true rfl⟩ hw hA hS hl rfl rfl (Nat.le_of_ble_eq_true rfl) dX4_init_30 ⟨Nat.le_of_ble_eq_true rfl, Nat.le_of_ble_eq_true rfl⟩ (fun r ad1 ce37 H locs hp hw hS => ?_)
  obtain ⟨rfl, rfl, hq16, hF2⟩ := hp
  have g0 := (hF2 b (by omega) (by omega)).trans g0
  have g1 := (hF2 (b + 1) (by omega) (by omega)).trans g1
  have hF : ∀ j, j < b ∨ b + 20 ≤ j → _ = ce j := fun j hj => (hF2 j (by omega) (by omega)).trans (hF j hj)
  have hq4 := hq4.kept (hF2 _ (by omega) (by omega)) (hF2 _ (by omega) (by omega))
  have hq6 := hq6.kept (hF2 _ (by omega) (by omega)) (hF2 _ (by omega) (by omega))
  have hq8 := hq8.kept (hF2 _ (by omega) (by omega)) (hF2 _ (by omega) (by omega))
  have hq10 := hq10.kept (hF2 _ (by omega) (by omega)) (hF2 _ (by omega) (by omega))
  have hq12 := hq12.kept (hF2 _ (by omega) (by omega)) (hF2 _ (by omega) (by omega))
  have hq14 := hq14.kept (hF2 _ (by omega) (by omega)) (hF2 _ (by omega) (by omega))
  have hN : ∀ j, (b + 18 ≤ j ∧ j < b + 20) ∨ j = b + 2 ∨ j = b + 3 → _ = none := fun j hj => (hF2 j (by omega) (by omega)).trans (hN j (by omega))
  refine W.eq (g2 := F0 m 33 ls [.ref (ad (b + 16)), .int 6, .ref (ad (b + 1))]) rfl ?_
  refine z_ast F hw hS g1 hq16.obj 6 rfl (by decide) (by decide) dX4_init_33 (fun ce38 H locs g1 fr39 hw hS => ?_)
  have g0 := (fr39 b (by omega)).trans g0
  have hF : ∀ j, j < b ∨ b + 20 ≤ j → _ = ce j := fun j hj => (fr39 j (by omega)).trans (hF j hj)
  have hq4 := hq4.kept (fr39 _ (by omega)) (fr39 _ (by omega))
  have hq6 := hq6.kept (fr39 _ (by omega)) (fr39 _ (by omega))
  have hq8 := hq8.kept (fr39 _ (by omega)) (fr39 _ (by omega))
  have hq10 := hq10.kept (fr39 _ (by omega)) (fr39 _ (by omega))
  have hq12 := hq12.kept (fr39 _ (by omega)) (fr39 _ (by omega))
  have hq14 := hq14.kept (fr39 _ (by omega)) (fr39 _ (by omega))
  have hq16 := hq16.kept (fr39 _ (by omega)) (fr39 _ (by omega))
  have hN : ∀ j, (b + 18 ≤ j ∧ j < b + 20) ∨ j = b + 2 ∨ j = b + 3 → _ = none := fun j hj => (fr39 j (by omega)).trans (hN j (by omega))
  refine lv_iinc (v := 7) (lv' := [(1, .int 7), (0, .ref (ad b))]) hx hb dX4_init_34 hl (k := 0) rfl (by decide) (by decide) rfl (fun ls hl => ?_)
  refine lv_goto (tgt := 15) hx hb dX4_init_37 (by decide) ?_
  refine lv_iload_n hx hb dX4_init_15 rfl (lv_at hl 0 rfl) ?_
  refine lv_bipush (v := 8) hx hb dX4_init_16 (by decide) ?_
  refine lv_icmp_ge (tgt := 40) hx hb dX4_init_18 (by decide) (fun c18_7 => absurd c18_7 (by decide)) (fun c18_7 => ?_)
  refine lv_aload_n hx hb dX4_init_21 rfl (lv_at hl 1 rfl) ?_
  refine z_get F hw g0 fd_X4_11_X4 rfl dX4_init_22 ?_
  refine lv_iload_n hx hb dX4_init_25 rfl (lv_at hl 0 rfl) ?_
  refine z_newF F hw hA hS (b + 18) (hN _ (by omega)) ((hadA 18 (by decide) (by decide)).trans (by omega)) (fs := [.null, .int 0]) (ci := 0) (ty0 := tyX0) rfl inX0 tyX0_ok wd_31 wd_33 wd_5 (by decide) (Nat.le_of_ble_eq_true rfl) (Nat.le_of_ble_eq_true rfl) dX4_init_26 (fun ce40 H hn9 fr41 hw hS => ?_)
  have g0 := (fr41 b (by omega)).trans g0
  have g1 := (fr41 (b + 1) (by omega)).trans g1
  have hF : ∀ j, j < b ∨ b + 20 ≤ j → _ = ce j := fun j hj => (fr41 j (by omega)).trans (hF j hj)
  have hq4 := hq4.kept (fr41 _ (by omega)) (fr41 _ (by omega))
  have hq6 := hq6.kept (fr41 _ (by omega)) (fr41 _ (by omega))
  have hq8 := hq8.kept (fr41 _ (by omega)) (fr41 _ (by omega))
  have hq10 := hq10.kept (fr41 _ (by omega)) (fr41 _ (by omega))
  have hq12 := hq12.kept (fr41 _ (by omega)) (fr41 _ (by omega))
  have hq14 := hq14.kept (fr41 _ (by omega)) (fr41 _ (by omega))
  have hq16 := hq16.kept (fr41 _ (by omega)) (fr41 _ (by omega))
  have hN : ∀ j, (b + 19 ≤ j ∧ j < b + 20) ∨ j = b + 2 ∨ j = b + 3 → _ = none := fun j hj => (fr41 j (by omega)).trans (hN j (by omega))
  refine lv_dup hx hb dX4_init_29 rfl ?_
  refine z_invI F (rest := [.ref (ad (b + 18)), .int 7, .ref (ad (b + 1))]) (c_minit l (b + 18) hn9 (hN _ (by omega)) ((hadA 19 (by decide) (by decide)).trans (by omega))) yi_X4_15 ⟨Nat.le_of_ble_eq_true rfl, Nat.le_of_ble_eq_true rfl⟩ hw hA hS hl rfl rfl (Nat.le_of_ble_eq_true rfl) dX4_init_30 ⟨Nat.le_of_ble_eq_true rfl, Nat.le_of_ble_eq_true rfl⟩ (fun r ad1 ce42 H locs hp hw hS => ?_)
  obtain ⟨rfl, rfl, hq18, hF2⟩ := hp
  have g0 := (hF2 b (by omega) (by omega)).trans g0
  have g1 := (hF2 (b + 1) (by omega) (by omega)).trans g1
  have hF : ∀ j, j < b ∨ b + 20 ≤ j → _ = ce j := fun j hj => (hF2 j (by omega) (by omega)).trans (hF j hj)
  have hq4 := hq4.kept (hF2 _ (by omega) (by omega)) (hF2 _ (by omega) (by omega))
  have hq6 := hq6.kept (hF2 _ (by omega) (by omega)) (hF2 _ (by omega) (by omega))
  have hq8 := hq8.kept (hF2 _ (by omega) (by omega)) (hF2 _ (by omega) (by omega))
  have hq10 := hq10.kept (hF2 _ (by omega) (by omega)) (hF2 _ (by omega) (by omega))
  have hq12 := hq12.kept (hF2 _ (by omega) (by omega)) (hF2 _ (by omega) (by omega))
  have hq14 := hq14.kept (hF2 _ (by omega) (by omega)) (hF2 _ (by omega) (by omega))
  have hq16 := hq16.kept (hF2 _ (by omega) (by omega)) (hF2 _ (by omega) (by omega))
  have hN : ∀ j, j = b + 2 ∨ j = b + 3 → _ = none := fun j hj => (hF2 j (by omega) (by omega)).trans (hN j (by omega))
  refine W.eq (g2 := F0 m 33 ls [.ref (ad (b + 18)), .int 7, .ref (ad (b + 1))]) rfl ?_
  refine z_ast F hw hS g1 hq18.obj 7 rfl (by decide) (by decide) dX4_init_33 (fun ce43 H locs g1 fr44 hw hS => ?_)
  have g0 := (fr44 b (by omega)).trans g0
  have hF : ∀ j, j < b ∨ b + 20 ≤ j → _ = ce j := fun j hj => (fr44 j (by omega)).trans (hF j hj)
  have hq4 := hq4.kept (fr44 _ (by omega)) (fr44 _ (by omega))
  have hq6 := hq6.kept (fr44 _ (by omega)) (fr44 _ (by omega))
  have hq8 := hq8.kept (fr44 _ (by omega)) (fr44 _ (by omega))
  have hq10 := hq10.kept (fr44 _ (by omega)) (fr44 _ (by omega))
  have hq12 := hq12.kept (fr44 _ (by omega)) (fr44 _ (by omega))
  have hq14 := hq14.kept (fr44 _ (by omega)) (fr44 _ (by omega))
  have hq16 := hq16.kept (fr44 _ (by omega)) (fr44 _ (by omega))
  have hq18 := hq18.kept (fr44 _ (by omega)) (fr44 _ (by omega))
  have hN : ∀ j, j = b + 2 ∨ j = b + 3 → _ = none := fun j hj => (fr44 j (by omega)).trans (hN j (by omega))
  refine lv_iinc (v := 8) (lv' := [(1, .int 8), (0, .ref (ad b))]) hx hb dX4_init_34 hl (k := 0) rfl (by decide) (by decide) rfl (fun ls hl => ?_)
  refine lv_goto (tgt := 15) hx hb dX4_init_37 (by decide) ?_
  refine lv_iload_n hx hb dX4_init_15 rfl (lv_at hl 0 rfl) ?_
  refine lv_bipush (v := 8) hx hb dX4_init_16 (by decide) ?_
  refine lv_icmp_ge (tgt := 40) hx hb dX4_init_18 (by decide) (fun c18_8 => ?_) (fun c18_8 => absurd c18_8 (by decide))
  refine lv_aload_n hx hb dX4_init_40 rfl (lv_at hl 1 rfl) ?_
  refine z_newF F hw hA hS (b + 2) (hN _ (by omega)) (had2) (fs := [.null, .int 0]) (ci := 0) (ty0 := tyX0) rfl inX0 tyX0_ok wd_31 wd_33 wd_5 (by decide) (Nat.le_of_ble_eq_true rfl) (Nat.le_of_ble_eq_true rfl) dX4_init_41 (fun ce45 H hn9 fr46 hw hS => ?_)
  have g0 := (fr46 b (by omega)).trans g0
  have g1 := (fr46 (b + 1) (by omega)).trans g1
  have hF : ∀ j, j < b ∨ b + 20 ≤ j → _ = ce j := fun j hj => (fr46 j (by omega)).trans (hF j hj)
  have hq4 := hq4.kept (fr46 _ (by omega)) (fr46 _ (by omega))
  have hq6 := hq6.kept (fr46 _ (by omega)) (fr46 _ (by omega))
  have hq8 := hq8.kept (fr46 _ (by omega)) (fr46 _ (by omega))
  have hq10 := hq10.kept (fr46 _ (by omega)) (fr46 _ (by omega))
  have hq12 := hq12.kept (fr46 _ (by omega)) (fr46 _ (by omega))
  have hq14 := hq14.kept (fr46 _ (by omega)) (fr46 _ (by omega))
  have hq16 := hq16.kept (fr46 _ (by omega)) (fr46 _ (by omega))
  have hq18 := hq18.kept (fr46 _ (by omega)) (fr46 _ (by omega))
  have hN : ∀ j, j = b + 3 → _ = none := fun j hj => (fr46 j (by omega)).trans (hN j (by omega))
  refine lv_dup hx hb dX4_init_44 rfl ?_
  refine z_invI F (rest := [.ref (ad (b + 2)), .ref (ad b)]) (c_minit l (b + 2) hn9 (hN _ (by omega)) (had3)) yi_X4_15 ⟨Nat.le_of_ble_eq_true rfl, Nat.le_of_ble_eq_true rfl⟩ hw hA hS hl rfl rfl (Nat.le_of_ble_eq_true rfl) dX4_init_45 ⟨Nat.le_of_ble_eq_true rfl, Nat.le_of_ble_eq_true rfl⟩ (fun r ad1 ce47 H locs hp hw hS => ?_)
  obtain ⟨rfl, rfl, hq2, hF2⟩ := hp
  have g0 := (hF2 b (by omega) (by omega)).trans g0
  have g1 := (hF2 (b + 1) (by omega) (by omega)).trans g1
  have hF : ∀ j, j < b ∨ b + 20 ≤ j → _ = ce j := fun j hj => (hF2 j (by omega) (by omega)).trans (hF j hj)
  have hq4 := hq4.kept (hF2 _ (by omega) (by omega)) (hF2 _ (by omega) (by omega))
  have hq6 := hq6.kept (hF2 _ (by omega) (by omega)) (hF2 _ (by omega) (by omega))
  have hq8 := hq8.kept (hF2 _ (by omega) (by omega)) (hF2 _ (by omega) (by omega))
  have hq10 := hq10.kept (hF2 _ (by omega) (by omega)) (hF2 _ (by omega) (by omega))
  have hq12 := hq12.kept (hF2 _ (by omega) (by omega)) (hF2 _ (by omega) (by omega))
  have hq14 := hq14.kept (hF2 _ (by omega) (by omega)) (hF2 _ (by omega) (by omega))
  have hq16 := hq16.kept (hF2 _ (by omega) (by omega)) (hF2 _ (by omega) (by omega))
  have hq18 := hq18.kept (hF2 _ (by omega) (by omega)) (hF2 _ (by omega) (by omega))
  refine W.eq (g2 := F0 m 48 ls [.ref (ad (b + 2)), .ref (ad b)]) rfl ?_
  refine z_putF F rfl hw hS (fs' := [.ref (ad (b + 1)), .ref (ad (b + 2)), .int 0, .int 0, .int 0]) g0 fd_X4_16_X4 ptX4 rfl rfl (rfl) (rfl) (Nat.le_of_ble_eq_true rfl) rfl dX4_init_48 (fun ce48 H locs g0 fr49 hw hS => ?_)
  have g1 := (fr49 (b + 1) (by omega)).trans g1
  have hF : ∀ j, j < b ∨ b + 20 ≤ j → _ = ce j := fun j hj => (fr49 j (by omega)).trans (hF j hj)
  have hq4 := hq4.kept (fr49 _ (by omega)) (fr49 _ (by omega))
  have hq6 := hq6.kept (fr49 _ (by omega)) (fr49 _ (by omega))
  have hq8 := hq8.kept (fr49 _ (by omega)) (fr49 _ (by omega))
  have hq10 := hq10.kept (fr49 _ (by omega)) (fr49 _ (by omega))
  have hq12 := hq12.kept (fr49 _ (by omega)) (fr49 _ (by omega))
  have hq14 := hq14.kept (fr49 _ (by omega)) (fr49 _ (by omega))
  have hq16 := hq16.kept (fr49 _ (by omega)) (fr49 _ (by omega))
  have hq18 := hq18.kept (fr49 _ (by omega)) (fr49 _ (by omega))
  have hq2 := hq2.kept (fr49 _ (by omega)) (fr49 _ (by omega))
  refine lv_aload_n hx hb dX4_init_51 rfl (lv_at hl 1 rfl) ?_
  refine lv_iconst (v := 0) hx hb dX4_init_52 (by decide) ?_
  refine z_put F hw hS (fs' := [.ref (ad (b + 1)), .ref (ad (b + 2)), .int 0, .int 0, .int 0]) g0 fd_X4_20_X4 ptX4 rfl (rfl) (rfl) (Nat.le_of_ble_eq_true rfl) rfl dX4_init_53 (fun ce50 H locs g0 fr51 hw hS => ?_)
  have g1 := (fr51 (b + 1) (by omega)).trans g1
  have hF : ∀ j, j < b ∨ b + 20 ≤ j → _ = ce j := fun j hj => (fr51 j (by omega)).trans (hF j hj)
  have hq4 := hq4.kept (fr51 _ (by omega)) (fr51 _ (by omega))
  have hq6 := hq6.kept (fr51 _ (by omega)) (fr51 _ (by omega))
  have hq8 := hq8.kept (fr51 _ (by omega)) (fr51 _ (by omega))
  have hq10 := hq10.kept (fr51 _ (by omega)) (fr51 _ (by omega))
  have hq12 := hq12.kept (fr51 _ (by omega)) (fr51 _ (by omega))
  have hq14 := hq14.kept (fr51 _ (by omega)) (fr51 _ (by omega))
  have hq16 := hq16.kept (fr51 _ (by omega)) (fr51 _ (by omega))
  have hq18 := hq18.kept (fr51 _ (by omega)) (fr51 _ (by omega))
  have hq2 := hq2.kept (fr51 _ (by omega)) (fr51 _ (by omega))
  refine lv_aload_n hx hb dX4_init_56 rfl (lv_at hl 1 rfl) ?_
  refine lv_iconst (v := 0) hx hb dX4_init_57 (by decide) ?_
  refine z_put F hw hS (fs' := [.ref (ad (b + 1)), .ref (ad (b + 2)), .int 0, .int 0, .int 0]) g0 fd_X4_24_X4 ptX4 rfl (rfl) (rfl) (Nat.le_of_ble_eq_true rfl) rfl dX4_init_58 (fun ce52 H locs g0 fr53 hw hS => ?_)
  have g1 := (fr53 (b + 1) (by omega)).trans g1
  have hF : ∀ j, j < b ∨ b + 20 ≤ j → _ = ce j := fun j hj => (fr53 j (by omega)).trans (hF j hj)
  have hq4 := hq4.kept (fr53 _ (by omega)) (fr53 _ (by omega))
  have hq6 := hq6.kept (fr53 _ (by omega)) (fr53 _ (by omega))
  have hq8 := hq8.kept (fr53 _ (by omega)) (fr53 _ (by omega))
  have hq10 := hq10.kept (fr53 _ (by omega)) (fr53 _ (by omega))
  have hq12 := hq12.kept (fr53 _ (by omega)) (fr53 _ (by omega))
  have hq14 := hq14.kept (fr53 _ (by omega)) (fr53 _ (by omega))
  have hq16 := hq16.kept (fr53 _ (by omega)) (fr53 _ (by omega))
  have hq18 := hq18.kept (fr53 _ (by omega)) (fr53 _ (by omega))
  have hq2 := hq2.kept (fr53 _ (by omega)) (fr53 _ (by omega))
  refine lv_aload_n hx hb dX4_init_61 rfl (lv_at hl 1 rfl) ?_
  refine lv_iconst (v := 1) hx hb dX4_init_62 (by decide) ?_
  refine z_put F hw hS (fs' := [.ref (ad (b + 1)), .ref (ad (b + 2)), .int 0, .int 0, .int 1]) g0 fd_X4_27_X4 ptX4 rfl (rfl) (rfl) (Nat.le_of_ble_eq_true rfl) rfl dX4_init_63 (fun ce54 H locs g0 fr55 hw hS => ?_)
  have g1 := (fr55 (b + 1) (by omega)).trans g1
  have hF : ∀ j, j < b ∨ b + 20 ≤ j → _ = ce j := fun j hj => (fr55 j (by omega)).trans (hF j hj)
  have hq4 := hq4.kept (fr55 _ (by omega)) (fr55 _ (by omega))
  have hq6 := hq6.kept (fr55 _ (by omega)) (fr55 _ (by omega))
  have hq8 := hq8.kept (fr55 _ (by omega)) (fr55 _ (by omega))
  have hq10 := hq10.kept (fr55 _ (by omega)) (fr55 _ (by omega))
  have hq12 := hq12.kept (fr55 _ (by omega)) (fr55 _ (by omega))
  have hq14 := hq14.kept (fr55 _ (by omega)) (fr55 _ (by omega))
  have hq16 := hq16.kept (fr55 _ (by omega)) (fr55 _ (by omega))
  have hq18 := hq18.kept (fr55 _ (by omega)) (fr55 _ (by omega))
  have hq2 := hq2.kept (fr55 _ (by omega)) (fr55 _ (by omega))
  exact z_vret F hw hS (⟨rfl, rfl, ⟨0, fun _ => [], [], ⟨g0, ⟨_, g1, fun j hj => by rcases (show j = 0 ∨ j = 1 ∨ j = 2 ∨ j = 3 ∨ j = 4 ∨ j = 5 ∨ j = 6 ∨ j = 7 by omega) with rfl | rfl | rfl | rfl | rfl | rfl | rfl | rfl <;> rfl⟩, by decide, fun j hj => by rcases (show j = 0 ∨ j = 1 ∨ j = 2 ∨ j = 3 ∨ j = 4 ∨ j = 5 ∨ j = 6 ∨ j = 7 by omega) with rfl | rfl | rfl | rfl | rfl | rfl | rfl | rfl <;> assumption, hq2⟩, by simp, fun k hk => by simp at hk⟩, hF⟩) dX4_init_66
set_option maxHeartbeats 4000000 in
set_option maxRecDepth 100000 in
theorem c_pinit0 (l : Launch) {G : zz_G} {ad : Nat → Nat} {ce : zz_C} {sz : Nat} (vf vr : Int32) (h1 : ce 1 = some (.inr (1, [.null, .int 0, .int 0, .int 0, .int 0, .int 0, .int 0, .int 0, .int 0, .null, .int 0]))) (hN0 : ∀ j, 10 ≤ j → j < 30 → ce j = none) (had0 : ad 10 = sz) (had1 : ad (10 + 1) = sz + 1) (hadA : ∀ j, 4 ≤ j → j < 20 → ad (10 + j) = sz + 1 + (j - 3)) (had2 : ad (10 + 2) = sz + 1 + 17) (had3 : ad (10 + 3) = sz + 1 + 18) : zz_M l yX3_init cX3_init 3 none 3 81 20 247 G [.ref (ad 1), .int vf, .int vr] ad ce sz (fun r ad1 ce1 => r = none ∧ ad = ad1 ∧ ce1 1 = some (.inr (1, [.ref (ad 10), .int vr, .int vf, .int 0, .int 0, .int (-1), .int 0, .int 0, .int 0, .null, .int 0])) ∧ cl_r G ad ce1 10 [] 1 ∧ (∀ j, j ≠ 1 → (j < 10 ∨ 30 ≤ j) → ce1 j = ce j)) := by
  refine zz_enter (by decide) (Nat.le_of_ble_eq_true rfl) ?_
  intro p e s m below meth c ls F hl hw hS hA
  obtain ⟨hx, hb, hr, hml, hown, hts, hlocks, hK, hnm⟩ := id F
  have hl : lv_has ls 3 [(0, .ref (ad 1)), (1, .int vf), (2, .int vr)] := hl
  have hF : ∀ j, j ≠ 1 → (j < 10 ∨ 30 ≤ j) → ce j = ce j := fun _ _ _ => rfl
  refine lv_aload_n hx hb dX3_init_0 rfl (lv_at hl 0 rfl) ?_
  refine W.objInit hx hb hown (hts _ wd_24) (hts _ wd_14) (hts _ wd_15) rfl (by rw [hml]; exact hl.1) rfl dX3_init_1 (Nat.le_of_ble_eq_true rfl) (Nat.le_of_ble_eq_true rfl) ?_
  refine W.eq (g2 := F0 m 4 ls []) rfl ?_
  refine lv_aload_n hx hb dX3_init_4 rfl (lv_at hl 0 rfl) ?_
  refine z_newF F hw hA hS 10 (hN0 10 (by decide) (by decide)) (had0) (fs := [.null, .null, .int 0, .int 0, .int 0]) (ci := 3) (ty0 := tyX4) rfl inX4 tyX4_ok wd_25 wd_26 wd_4 (by decide) (Nat.le_of_ble_eq_true rfl) (Nat.le_of_ble_eq_true rfl) dX3_init_5 (fun ce1 H hn9 fr2 hw hS => ?_)
  have h1 := (fr2 1 (by omega)).trans h1
  have hF : ∀ j, j ≠ 1 → (j < 10 ∨ 30 ≤ j) → _ = ce j := fun j q0 q1 => (fr2 j (by omega)).trans (hF j q0 q1)
  have hN : ∀ j, 10 < j → j < 30 → _ = none := fun j h1 h2 => (fr2 j (by omega)).trans (hN0 j (by omega) h2)
  refine lv_dup hx hb dX3_init_8 rfl ?_
  refine z_invI F (rest := [.ref (ad 10), .ref (ad 1)]) (c_rinit l (sz := sz + 1) 10 hn9 (fun j h1 h2 => hN j h1 h2) had1 hadA had2 had3) yi_X3_11 ⟨Nat.le_of_ble_eq_true rfl, Nat.le_of_ble_eq_true rfl⟩ hw hA hS hl rfl rfl (Nat.le_of_ble_eq_true rfl) dX3_init_9 ⟨Nat.le_of_ble_eq_true rfl, Nat.le_of_ble_eq_true rfl⟩ (fun r ad1 ce3 H locs hp hw hS => ?_)
  obtain ⟨rfl, rfl, hR, hF2⟩ := hp
  have h1 := (hF2 1 (by omega)).trans h1
  have hF : ∀ j, j ≠ 1 → (j < 10 ∨ 30 ≤ j) → ce3 j = ce j := fun j q0 q1 => (hF2 j q1).trans (hF j q0 q1)
  refine W.eq (g2 := F0 m 12 ls [.ref (ad 10), .ref (ad 1)]) rfl ?_
  refine z_putF F rfl hw hS (fs' := [.ref (ad 10), .int 0, .int 0, .int 0, .int 0, .int 0, .int 0, .int 0, .int 0, .null, .int 0]) h1 fd_X3_12_X1 ptX1 rfl rfl (rfl) (rfl) (Nat.le_of_ble_eq_true rfl) rfl dX3_init_12 (fun ce4 H locs h1 fr5 hw hS => ?_)
  have hF : ∀ j, j ≠ 1 → (j < 10 ∨ 30 ≤ j) → _ = ce j := fun j q0 q1 => (fr5 j (by omega)).trans (hF j q0 q1)
  have hR := hR.kept (fun j h1 h2 => fr5 j (by omega))
  refine lv_aload_n hx hb dX3_init_15 rfl (lv_at hl 0 rfl) ?_
  refine lv_iload_n hx hb dX3_init_16 rfl (lv_at hl 2 rfl) ?_
  refine z_putF F rfl hw hS (fs' := [.ref (ad 10), .int vr, .int 0, .int 0, .int 0, .int 0, .int 0, .int 0, .int 0, .null, .int 0]) h1 fd_X3_18_X1 ptX1 rfl rfl (rfl) (rfl) (Nat.le_of_ble_eq_true rfl) rfl dX3_init_17 (fun ce6 H locs h1 fr7 hw hS => ?_)
  have hF : ∀ j, j ≠ 1 → (j < 10 ∨ 30 ≤ j) → _ = ce j := fun j q0 q1 => (fr7 j (by omega)).trans (hF j q0 q1)
  have hR := hR.kept (fun j h1 h2 => fr7 j (by omega))
  refine lv_aload_n hx hb dX3_init_20 rfl (lv_at hl 0 rfl) ?_
  refine lv_iload_n hx hb dX3_init_21 rfl (lv_at hl 1 rfl) ?_
  refine z_put F hw hS (fs' := [.ref (ad 10), .int vr, .int vf, .int 0, .int 0, .int 0, .int 0, .int 0, .int 0, .null, .int 0]) h1 fd_X3_22_X1 ptX1 rfl (rfl) (rfl) (Nat.le_of_ble_eq_true rfl) rfl dX3_init_22 (fun ce8 H locs h1 fr9 hw hS => ?_)
  have hF : ∀ j, j ≠ 1 → (j < 10 ∨ 30 ≤ j) → _ = ce j := fun j q0 q1 => (fr9 j (by omega)).trans (hF j q0 q1)
  have hR := hR.kept (fun j h1 h2 => fr9 j (by omega))
  refine lv_aload_n hx hb dX3_init_25 rfl (lv_at hl 0 rfl) ?_
  refine lv_iconst (v := 0) hx hb dX3_init_26 (by decide) ?_
  refine z_put F hw hS (fs' := [.ref (ad 10), .int vr, .int vf, .int 0, .int 0, .int 0, .int 0, .int 0, .int 0, .null, .int 0]) h1 fd_X3_25_X1 ptX1 rfl (rfl) (rfl) (Nat.le_of_ble_eq_true rfl) rfl dX3_init_27 (fun ce10 H locs h1 fr11 hw hS => ?_)
  have hF : ∀ j, j ≠ 1 → (j < 10 ∨ 30 ≤ j) → _ = ce j := fun j q0 q1 => (fr11 j (by omega)).trans (hF j q0 q1)
  have hR := hR.kept (fun j h1 h2 => fr11 j (by omega))
  refine lv_aload_n hx hb dX3_init_30 rfl (lv_at hl 0 rfl) ?_
  refine lv_iconst (v := 0) hx hb dX3_init_31 (by decide) ?_
  refine z_put F hw hS (fs' := [.ref (ad 10), .int vr, .int vf, .int 0, .int 0, .int 0, .int 0, .int 0, .int 0, .null, .int 0]) h1 fd_X3_28_X1 ptX1 rfl (rfl) (rfl) (Nat.le_of_ble_eq_true rfl) rfl dX3_init_32 (fun ce12 H locs h1 fr13 hw hS => ?_)
  have hF : ∀ j, j ≠ 1 → (j < 10 ∨ 30 ≤ j) → _ = ce j := fun j q0 q1 => (fr13 j (by omega)).trans (hF j q0 q1)
  have hR := hR.kept (fun j h1 h2 => fr13 j (by omega))
  refine lv_aload_n hx hb dX3_init_35 rfl (lv_at hl 0 rfl) ?_
  refine lv_iconst (v := -1) hx hb dX3_init_36 (by decide) ?_
  refine z_put F hw hS (fs' := [.ref (ad 10), .int vr, .int vf, .int 0, .int 0, .int (-1), .int 0, .int 0, .int 0, .null, .int 0]) h1 fd_X3_31_X1 ptX1 rfl (rfl) (rfl) (Nat.le_of_ble_eq_true rfl) rfl dX3_init_37 (fun ce14 H locs h1 fr15 hw hS => ?_)
  have hF : ∀ j, j ≠ 1 → (j < 10 ∨ 30 ≤ j) → _ = ce j := fun j q0 q1 => (fr15 j (by omega)).trans (hF j q0 q1)
  have hR := hR.kept (fun j h1 h2 => fr15 j (by omega))
  refine lv_aload_n hx hb dX3_init_40 rfl (lv_at hl 0 rfl) ?_
  refine lv_iconst (v := 0) hx hb dX3_init_41 (by decide) ?_
  refine z_put F hw hS (fs' := [.ref (ad 10), .int vr, .int vf, .int 0, .int 0, .int (-1), .int 0, .int 0, .int 0, .null, .int 0]) h1 fd_X3_34_X1 ptX1 rfl (rfl) (rfl) (Nat.le_of_ble_eq_true rfl) rfl dX3_init_42 (fun ce16 H locs h1 fr17 hw hS => ?_)
  have hF : ∀ j, j ≠ 1 → (j < 10 ∨ 30 ≤ j) → _ = ce j := fun j q0 q1 => (fr17 j (by omega)).trans (hF j q0 q1)
  have hR := hR.kept (fun j h1 h2 => fr17 j (by omega))
  exact z_vret F hw hS (⟨rfl, rfl, h1, hR, hF⟩) dX3_init_45
set_option maxHeartbeats 4000000 in
set_option maxRecDepth 100000 in
theorem c_pinit1 (l : Launch) {G : zz_G} {ad : Nat → Nat} {ce : zz_C} {sz : Nat} (vf vr : Int32) (h2 : ce 2 = some (.inr (2, [.null, .int 0, .int 0, .int 0, .int 0, .int 0, .int 0, .int 0, .int 0, .int 0, .int 0, .int 0, .int 0, .null, .int 0]))) (hN0 : ∀ j, 30 ≤ j → j < 50 → ce j = none) (had0 : ad 30 = sz) (had1 : ad (30 + 1) = sz + 1) (hadA : ∀ j, 4 ≤ j → j < 20 → ad (30 + j) = sz + 1 + (j - 3)) (had2 : ad (30 + 2) = sz + 1 + 17) (had3 : ad (30 + 3) = sz + 1 + 18) : zz_M l yX3_init cX3_init 3 none 3 81 20 247 G [.ref (ad 2), .int vf, .int vr] ad ce sz (fun r ad1 ce1 => r = none ∧ ad = ad1 ∧ ce1 2 = some (.inr (2, [.ref (ad 30), .int vr, .int vf, .int 0, .int 0, .int (-1), .int 0, .int 0, .int 0, .int 0, .int 0, .int 0, .int 0, .null, .int 0])) ∧ cl_r G ad ce1 30 [] 1 ∧ (∀ j, j ≠ 2 → (j < 30 ∨ 50 ≤ j) → ce1 j = ce j)) := by
  refine zz_enter (by decide) (Nat.le_of_ble_eq_true rfl) ?_
  intro p e s m below meth c ls F hl hw hS hA
  obtain ⟨hx, hb, hr, hml, hown, hts, hlocks, hK, hnm⟩ := id F
  have hl : lv_has ls 3 [(0, .ref (ad 2)), (1, .int vf), (2, .int vr)] := hl
  have hF : ∀ j, j ≠ 2 → (j < 30 ∨ 50 ≤ j) → ce j = ce j := fun _ _ _ => rfl
  refine lv_aload_n hx hb dX3_init_0 rfl (lv_at hl 0 rfl) ?_
  refine W.objInit hx hb hown (hts _ wd_24) (hts _ wd_14) (hts _ wd_15) rfl (by rw [hml]; exact hl.1) rfl dX3_init_1 (Nat.le_of_ble_eq_true rfl) (Nat.le_of_ble_eq_true rfl) ?_
  refine W.eq (g2 := F0 m 4 ls []) rfl ?_
  refine lv_aload_n hx hb dX3_init_4 rfl (lv_at hl 0 rfl) ?_
  refine z_newF F hw hA hS 30 (hN0 30 (by decide) (by decide)) (had0) (fs := [.null, .null, .int 0, .int 0, .int 0]) (ci := 3) (ty0 := tyX4) rfl inX4 tyX4_ok wd_25 wd_26 wd_4 (by decide) (Nat.le_of_ble_eq_true rfl) (Nat.le_of_ble_eq_true rfl) dX3_init_5 (fun ce1 H hn9 fr2 hw hS => ?_)
  have h2 := (fr2 2 (by omega)).trans h2
  have hF : ∀ j, j ≠ 2 → (j < 30 ∨ 50 ≤ j) → _ = ce j := fun j q0 q1 => (fr2 j (by omega)).trans (hF j q0 q1)
  have hN : ∀ j, 30 < j → j < 50 → _ = none := fun j h1 h2 => (fr2 j (by omega)).trans (hN0 j (by omega) h2)
  refine lv_dup hx hb dX3_init_8 rfl ?_
  refine z_invI F (rest := [.ref (ad 30), .ref (ad 2)]) (c_rinit l (sz := sz + 1) 30 hn9 (fun j h1 h2 => hN j h1 h2) had1 hadA had2 had3) yi_X3_11 ⟨Nat.le_of_ble_eq_true rfl, Nat.le_of_ble_eq_true rfl⟩ hw hA hS hl rfl rfl (Nat.le_of_ble_eq_true rfl) dX3_init_9 ⟨Nat.le_of_ble_eq_true rfl, Nat.le_of_ble_eq_true rfl⟩ (fun r ad1 ce3 H locs hp hw hS => ?_)
  obtain ⟨rfl, rfl, hR, hF2⟩ := hp
  have h2 := (hF2 2 (by omega)).trans h2
  have hF : ∀ j, j ≠ 2 → (j < 30 ∨ 50 ≤ j) → ce3 j = ce j := fun j q0 q1 => (hF2 j q1).trans (hF j q0 q1)
  refine W.eq (g2 := F0 m 12 ls [.ref (ad 30), .ref (ad 2)]) rfl ?_
  refine z_putF F rfl hw hS (fs' := [.ref (ad 30), .int 0, .int 0, .int 0, .int 0, .int 0, .int 0, .int 0, .int 0, .int 0, .int 0, .int 0, .int 0, .null, .int 0]) h2 fd_X3_12_X2 ptX2 rfl rfl (rfl) (rfl) (Nat.le_of_ble_eq_true rfl) rfl dX3_init_12 (fun ce4 H locs h2 fr5 hw hS => ?_)
  have hF : ∀ j, j ≠ 2 → (j < 30 ∨ 50 ≤ j) → _ = ce j := fun j q0 q1 => (fr5 j (by omega)).trans (hF j q0 q1)
  have hR := hR.kept (fun j h1 h2 => fr5 j (by omega))
  refine lv_aload_n hx hb dX3_init_15 rfl (lv_at hl 0 rfl) ?_
  refine lv_iload_n hx hb dX3_init_16 rfl (lv_at hl 2 rfl) ?_
  refine z_putF F rfl hw hS (fs' := [.ref (ad 30), .int vr, .int 0, .int 0, .int 0, .int 0, .int 0, .int 0, .int 0, .int 0, .int 0, .int 0, .int 0, .null, .int 0]) h2 fd_X3_18_X2 ptX2 rfl rfl (rfl) (rfl) (Nat.le_of_ble_eq_true rfl) rfl dX3_init_17 (fun ce6 H locs h2 fr7 hw hS => ?_)
  have hF : ∀ j, j ≠ 2 → (j < 30 ∨ 50 ≤ j) → _ = ce j := fun j q0 q1 => (fr7 j (by omega)).trans (hF j q0 q1)
  have hR := hR.kept (fun j h1 h2 => fr7 j (by omega))
  refine lv_aload_n hx hb dX3_init_20 rfl (lv_at hl 0 rfl) ?_
  refine lv_iload_n hx hb dX3_init_21 rfl (lv_at hl 1 rfl) ?_
  refine z_put F hw hS (fs' := [.ref (ad 30), .int vr, .int vf, .int 0, .int 0, .int 0, .int 0, .int 0, .int 0, .int 0, .int 0, .int 0, .int 0, .null, .int 0]) h2 fd_X3_22_X2 ptX2 rfl (rfl) (rfl) (Nat.le_of_ble_eq_true rfl) rfl dX3_init_22 (fun ce8 H locs h2 fr9 hw hS => ?_)
  have hF : ∀ j, j ≠ 2 → (j < 30 ∨ 50 ≤ j) → _ = ce j := fun j q0 q1 => (fr9 j (by omega)).trans (hF j q0 q1)
  have hR := hR.kept (fun j h1 h2 => fr9 j (by omega))
  refine lv_aload_n hx hb dX3_init_25 rfl (lv_at hl 0 rfl) ?_
  refine lv_iconst (v := 0) hx hb dX3_init_26 (by decide) ?_
  refine z_put F hw hS (fs' := [.ref (ad 30), .int vr, .int vf, .int 0, .int 0, .int 0, .int 0, .int 0, .int 0, .int 0, .int 0, .int 0, .int 0, .null, .int 0]) h2 fd_X3_25_X2 ptX2 rfl (rfl) (rfl) (Nat.le_of_ble_eq_true rfl) rfl dX3_init_27 (fun ce10 H locs h2 fr11 hw hS => ?_)
  have hF : ∀ j, j ≠ 2 → (j < 30 ∨ 50 ≤ j) → _ = ce j := fun j q0 q1 => (fr11 j (by omega)).trans (hF j q0 q1)
  have hR := hR.kept (fun j h1 h2 => fr11 j (by omega))
  refine lv_aload_n hx hb dX3_init_30 rfl (lv_at hl 0 rfl) ?_
  refine lv_iconst (v := 0) hx hb dX3_init_31 (by decide) ?_
  refine z_put F hw hS (fs' := [.ref (ad 30), .int vr, .int vf, .int 0, .int 0, .int 0, .int 0, .int 0, .int 0, .int 0, .int 0, .int 0, .int 0, .null, .int 0]) h2 fd_X3_28_X2 ptX2 rfl (rfl) (rfl) (Nat.le_of_ble_eq_true rfl) rfl dX3_init_32 (fun ce12 H locs h2 fr13 hw hS => ?_)
  have hF : ∀ j, j ≠ 2 → (j < 30 ∨ 50 ≤ j) → _ = ce j := fun j q0 q1 => (fr13 j (by omega)).trans (hF j q0 q1)
  have hR := hR.kept (fun j h1 h2 => fr13 j (by omega))
  refine lv_aload_n hx hb dX3_init_35 rfl (lv_at hl 0 rfl) ?_
  refine lv_iconst (v := -1) hx hb dX3_init_36 (by decide) ?_
  refine z_put F hw hS (fs' := [.ref (ad 30), .int vr, .int vf, .int 0, .int 0, .int (-1), .int 0, .int 0, .int 0, .int 0, .int 0, .int 0, .int 0, .null, .int 0]) h2 fd_X3_31_X2 ptX2 rfl (rfl) (rfl) (Nat.le_of_ble_eq_true rfl) rfl dX3_init_37 (fun ce14 H locs h2 fr15 hw hS => ?_)
  have hF : ∀ j, j ≠ 2 → (j < 30 ∨ 50 ≤ j) → _ = ce j := fun j q0 q1 => (fr15 j (by omega)).trans (hF j q0 q1)
  have hR := hR.kept (fun j h1 h2 => fr15 j (by omega))
  refine lv_aload_n hx hb dX3_init_40 rfl (lv_at hl 0 rfl) ?_
  refine lv_iconst (v := 0) hx hb dX3_init_41 (by decide) ?_
  refine z_put F hw hS (fs' := [.ref (ad 30), .int vr, .int vf, .int 0, .int 0, .int (-1), .int 0, .int 0, .int 0, .int 0, .int 0, .int 0, .int 0, .null, .int 0]) h2 fd_X3_34_X2 ptX2 rfl (rfl) (rfl) (Nat.le_of_ble_eq_true rfl) rfl dX3_init_42 (fun ce16 H locs h2 fr17 hw hS => ?_)
  have hF : ∀ j, j ≠ 2 → (j < 30 ∨ 50 ≤ j) → _ = ce j := fun j q0 q1 => (fr17 j (by omega)).trans (hF j q0 q1)
  have hR := hR.kept (fun j h1 h2 => fr17 j (by omega))
  exact z_vret F hw hS (⟨rfl, rfl, h2, hR, hF⟩) dX3_init_45
set_option maxHeartbeats 4000000 in
set_option maxRecDepth 100000 in
theorem c_sinit0 (l : Launch) {G : zz_G} {ad : Nat → Nat} {ce : zz_C} {sz : Nat} (kv : Int32) (h1 : ce 1 = some (.inr (1, [.null, .int 0, .int 0, .int 0, .int 0, .int 0, .int 0, .int 0, .int 0, .null, .int 0]))) (hN : ce 3 = none) (had : ad 3 = sz + 20) (hN0 : ∀ j, 10 ≤ j → j < 30 → ce j = none) (had0 : ad 10 = sz) (had1 : ad (10 + 1) = sz + 1) (hadA : ∀ j, 4 ≤ j → j < 20 → ad (10 + j) = sz + 1 + (j - 3)) (had2 : ad (10 + 2) = sz + 1 + 17) (had3 : ad (10 + 3) = sz + 1 + 18) : zz_M l yX1_init cX1_init 2 none 4 103 21 255 G [.ref (ad 1), .int kv] ad ce sz (fun r ad1 ce1 => r = none ∧ ad = ad1 ∧ ce1 1 = some (.inr (1, [.ref (ad 10), .int 3, .int 0, .int 0, .int 0, .int (-1), .int 0, .int kv, .int 0, .ref (ad 3), .int 0])) ∧ ce1 3 = some (.inl (zz_cI G, 8, .inl (fun _ => 0))) ∧ cl_r G ad ce1 10 [] 1 ∧ (∀ j, j ≠ 1 → j ≠ 3 → (j < 10 ∨ 30 ≤ j) → ce1 j = ce j)) := by
  refine zz_enter (by decide) (Nat.le_of_ble_eq_true rfl) ?_
  intro p e s m below meth c ls F hl hw hS hA
  obtain ⟨hx, hb, hr, hml, hown, hts, hlocks, hK, hnm⟩ := id F
  have hl : lv_has ls 2 [(0, .ref (ad 1)), (1, .int kv)] := hl
  have hF : ∀ j, j ≠ 1 → j ≠ 3 → (j < 10 ∨ 30 ≤ j) → ce j = ce j := fun _ _ _ _ => rfl
  refine lv_aload_n hx hb dX1_init_0 rfl (lv_at hl 0 rfl) ?_
  refine lv_iconst (v := 0) hx hb dX1_init_1 (by decide) ?_
  refine lv_iconst (v := 3) hx hb dX1_init_2 (by decide) ?_
  refine z_invI F (rest := []) (c_pinit0 l 0 3 h1 hN0 had0 had1 hadA had2 had3) yi_X1_5 ⟨Nat.le_of_ble_eq_true rfl, Nat.le_of_ble_eq_true rfl⟩ hw hA hS hl rfl rfl (Nat.le_of_ble_eq_true rfl) dX1_init_3 ⟨Nat.le_of_ble_eq_true rfl, Nat.le_of_ble_eq_true rfl⟩ (fun r ad1 ce1 H locs hp hw hS => ?_)
  obtain ⟨rfl, rfl, h1, hR, hF2⟩ := hp
  have hF : ∀ j, j ≠ 1 → j ≠ 3 → (j < 10 ∨ 30 ≤ j) → ce1 j = ce j := fun j q0 q1 q2 => (hF2 j q0 q2).trans (hF j q0 q1 q2)
  have hN : ce1 3 = none := (hF2 3 (by decide) (by decide)).trans hN
  refine W.eq (g2 := F0 m 6 ls []) rfl ?_
  refine lv_aload_n hx hb dX1_init_6 rfl (lv_at hl 0 rfl) ?_
  refine lv_iload_n hx hb dX1_init_7 rfl (lv_at hl 1 rfl) ?_
  refine z_putF F rfl hw hS (fs' := [.ref (ad 10), .int 3, .int 0, .int 0, .int 0, .int (-1), .int 0, .int kv, .int 0, .null, .int 0]) h1 fd_X1_11_X1 ptX1 rfl rfl (rfl) (rfl) (Nat.le_of_ble_eq_true rfl) rfl dX1_init_8 (fun ce2 H locs h1 fr3 hw hS => ?_)
  have hF : ∀ j, j ≠ 1 → j ≠ 3 → (j < 10 ∨ 30 ≤ j) → _ = ce j := fun j q0 q1 q2 => (fr3 j (by omega)).trans (hF j q0 q1 q2)
  have hN := (fr3 3 (by decide)).trans hN
  have hR := hR.kept (fun j h1 h2 => fr3 j (by omega))
  refine lv_aload_n hx hb dX1_init_11 rfl (lv_at hl 0 rfl) ?_
  refine lv_iconst (v := 0) hx hb dX1_init_12 (by decide) ?_
  refine z_put F hw hS (fs' := [.ref (ad 10), .int 3, .int 0, .int 0, .int 0, .int (-1), .int 0, .int kv, .int 0, .null, .int 0]) h1 fd_X1_15_X1 ptX1 rfl (rfl) (rfl) (Nat.le_of_ble_eq_true rfl) rfl dX1_init_13 (fun ce4 H locs h1 fr5 hw hS => ?_)
  have hF : ∀ j, j ≠ 1 → j ≠ 3 → (j < 10 ∨ 30 ≤ j) → _ = ce j := fun j q0 q1 q2 => (fr5 j (by omega)).trans (hF j q0 q1 q2)
  have hN := (fr5 3 (by decide)).trans hN
  have hR := hR.kept (fun j h1 h2 => fr5 j (by omega))
  refine lv_aload_n hx hb dX1_init_16 rfl (lv_at hl 0 rfl) ?_
  refine lv_bipush (v := 8) hx hb dX1_init_17 (by decide) ?_
  refine z_newiF F hw hA hS 3 hN had wd_ai (by decide) (N := 8) (by decide) (by decide) (Nat.le_of_ble_eq_true rfl) (Nat.le_of_ble_eq_true rfl) dX1_init_19 (fun ce6 H h3 fr7 hw hS => ?_)
  have h1 := (fr7 1 (by omega)).trans h1
  have hF : ∀ j, j ≠ 1 → j ≠ 3 → (j < 10 ∨ 30 ≤ j) → _ = ce j := fun j q0 q1 q2 => (fr7 j (by omega)).trans (hF j q0 q1 q2)
  have hR := hR.kept (fun j h1 h2 => fr7 j (by omega))
  refine z_putF F rfl hw hS (fs' := [.ref (ad 10), .int 3, .int 0, .int 0, .int 0, .int (-1), .int 0, .int kv, .int 0, .ref (ad 3), .int 0]) h1 fd_X1_18_X1 ptX1 rfl rfl (rfl) (rfl) (Nat.le_of_ble_eq_true rfl) rfl dX1_init_21 (fun ce8 H locs h1 fr9 hw hS => ?_)
  have h3 := (fr9 3 (by omega)).trans h3
  have hF : ∀ j, j ≠ 1 → j ≠ 3 → (j < 10 ∨ 30 ≤ j) → _ = ce j := fun j q0 q1 q2 => (fr9 j (by omega)).trans (hF j q0 q1 q2)
  have hR := hR.kept (fun j h1 h2 => fr9 j (by omega))
  refine lv_aload_n hx hb dX1_init_24 rfl (lv_at hl 0 rfl) ?_
  refine lv_iconst (v := 0) hx hb dX1_init_25 (by decide) ?_
  refine z_put F hw hS (fs' := [.ref (ad 10), .int 3, .int 0, .int 0, .int 0, .int (-1), .int 0, .int kv, .int 0, .ref (ad 3), .int 0]) h1 fd_X1_22_X1 ptX1 rfl (rfl) (rfl) (Nat.le_of_ble_eq_true rfl) rfl dX1_init_26 (fun ce10 H locs h1 fr11 hw hS => ?_)
  have h3 := (fr11 3 (by omega)).trans h3
  have hF : ∀ j, j ≠ 1 → j ≠ 3 → (j < 10 ∨ 30 ≤ j) → _ = ce j := fun j q0 q1 q2 => (fr11 j (by omega)).trans (hF j q0 q1 q2)
  have hR := hR.kept (fun j h1 h2 => fr11 j (by omega))
  exact z_vret F hw hS (⟨rfl, rfl, h1, h3, hR, hF⟩) dX1_init_29
set_option maxHeartbeats 4000000 in
set_option maxRecDepth 100000 in
theorem c_sinit1 (l : Launch) {G : zz_G} {ad : Nat → Nat} {ce : zz_C} {sz : Nat} (kv sd : Int32) (h2 : ce 2 = some (.inr (2, [.null, .int 0, .int 0, .int 0, .int 0, .int 0, .int 0, .int 0, .int 0, .int 0, .int 0, .int 0, .int 0, .null, .int 0]))) (hN : ce 4 = none) (had : ad 4 = sz + 20) (hN0 : ∀ j, 30 ≤ j → j < 50 → ce j = none) (had0 : ad 30 = sz) (had1 : ad (30 + 1) = sz + 1) (hadA : ∀ j, 4 ≤ j → j < 20 → ad (30 + j) = sz + 1 + (j - 3)) (had2 : ad (30 + 2) = sz + 1 + 17) (had3 : ad (30 + 3) = sz + 1 + 18) : zz_M l yX2_init cX2_init 3 none 4 103 21 255 G [.ref (ad 2), .int kv, .int sd] ad ce sz (fun r ad1 ce1 => r = none ∧ ad = ad1 ∧ ce1 2 = some (.inr (2, [.ref (ad 30), .int 0, .int 0, .int 0, .int 0, .int (-1), .int 0, .int kv, .int (-1), .int sd, .int 0, .int 1, .int 1, .ref (ad 4), .int 0])) ∧ ce1 4 = some (.inl (zz_cI G, 8, .inl (fun _ => 0))) ∧ cl_r G ad ce1 30 [] 1 ∧ (∀ j, j ≠ 2 → j ≠ 4 → (j < 30 ∨ 50 ≤ j) → ce1 j = ce j)) := by
  refine zz_enter (by decide) (Nat.le_of_ble_eq_true rfl) ?_
  intro p e s m below meth c ls F hl hw hS hA
  obtain ⟨hx, hb, hr, hml, hown, hts, hlocks, hK, hnm⟩ := id F
  have hl : lv_has ls 3 [(0, .ref (ad 2)), (1, .int kv), (2, .int sd)] := hl
  have hF : ∀ j, j ≠ 2 → j ≠ 4 → (j < 30 ∨ 50 ≤ j) → ce j = ce j := fun _ _ _ _ => rfl
  refine lv_aload_n hx hb dX2_init_0 rfl (lv_at hl 0 rfl) ?_
  refine lv_iconst (v := 0) hx hb dX2_init_1 (by decide) ?_
  refine lv_iconst (v := 0) hx hb dX2_init_2 (by decide) ?_
  refine z_invI F (rest := []) (c_pinit1 l 0 0 h2 hN0 had0 had1 hadA had2 had3) yi_X2_5 ⟨Nat.le_of_ble_eq_true rfl, Nat.le_of_ble_eq_true rfl⟩ hw hA hS hl rfl rfl (Nat.le_of_ble_eq_true rfl) dX2_init_3 ⟨Nat.le_of_ble_eq_true rfl, Nat.le_of_ble_eq_true rfl⟩ (fun r ad1 ce1 H locs hp hw hS => ?_)
  obtain ⟨rfl, rfl, h2, hR, hF2⟩ := hp
  have hF : ∀ j, j ≠ 2 → j ≠ 4 → (j < 30 ∨ 50 ≤ j) → ce1 j = ce j := fun j q0 q1 q2 => (hF2 j q0 q2).trans (hF j q0 q1 q2)
  have hN : ce1 4 = none := (hF2 4 (by decide) (by decide)).trans hN
  refine W.eq (g2 := F0 m 6 ls []) rfl ?_
  refine lv_aload_n hx hb dX2_init_6 rfl (lv_at hl 0 rfl) ?_
  refine lv_iload_n hx hb dX2_init_7 rfl (lv_at hl 1 rfl) ?_
  refine z_putF F rfl hw hS (fs' := [.ref (ad 30), .int 0, .int 0, .int 0, .int 0, .int (-1), .int 0, .int kv, .int 0, .int 0, .int 0, .int 0, .int 0, .null, .int 0]) h2 fd_X2_11_X2 ptX2 rfl rfl (rfl) (rfl) (Nat.le_of_ble_eq_true rfl) rfl dX2_init_8 (fun ce2 H locs h2 fr3 hw hS => ?_)
  have hF : ∀ j, j ≠ 2 → j ≠ 4 → (j < 30 ∨ 50 ≤ j) → _ = ce j := fun j q0 q1 q2 => (fr3 j (by omega)).trans (hF j q0 q1 q2)
  have hN := (fr3 4 (by decide)).trans hN
  have hR := hR.kept (fun j h1 h2 => fr3 j (by omega))
  refine lv_aload_n hx hb dX2_init_11 rfl (lv_at hl 0 rfl) ?_
  refine lv_iconst (v := -1) hx hb dX2_init_12 (by decide) ?_
  refine z_put F hw hS (fs' := [.ref (ad 30), .int 0, .int 0, .int 0, .int 0, .int (-1), .int 0, .int kv, .int (-1), .int 0, .int 0, .int 0, .int 0, .null, .int 0]) h2 fd_X2_15_X2 ptX2 rfl (rfl) (rfl) (Nat.le_of_ble_eq_true rfl) rfl dX2_init_13 (fun ce4 H locs h2 fr5 hw hS => ?_)
  have hF : ∀ j, j ≠ 2 → j ≠ 4 → (j < 30 ∨ 50 ≤ j) → _ = ce j := fun j q0 q1 q2 => (fr5 j (by omega)).trans (hF j q0 q1 q2)
  have hN := (fr5 4 (by decide)).trans hN
  have hR := hR.kept (fun j h1 h2 => fr5 j (by omega))
  refine lv_aload_n hx hb dX2_init_16 rfl (lv_at hl 0 rfl) ?_
  refine lv_iload_n hx hb dX2_init_17 rfl (lv_at hl 2 rfl) ?_
  refine z_put F hw hS (fs' := [.ref (ad 30), .int 0, .int 0, .int 0, .int 0, .int (-1), .int 0, .int kv, .int (-1), .int sd, .int 0, .int 0, .int 0, .null, .int 0]) h2 fd_X2_18_X2 ptX2 rfl (rfl) (rfl) (Nat.le_of_ble_eq_true rfl) rfl dX2_init_18 (fun ce6 H locs h2 fr7 hw hS => ?_)
  have hF : ∀ j, j ≠ 2 → j ≠ 4 → (j < 30 ∨ 50 ≤ j) → _ = ce j := fun j q0 q1 q2 => (fr7 j (by omega)).trans (hF j q0 q1 q2)
  have hN := (fr7 4 (by decide)).trans hN
  have hR := hR.kept (fun j h1 h2 => fr7 j (by omega))
  refine lv_aload_n hx hb dX2_init_21 rfl (lv_at hl 0 rfl) ?_
  refine lv_iconst (v := 0) hx hb dX2_init_22 (by decide) ?_
  refine z_put F hw hS (fs' := [.ref (ad 30), .int 0, .int 0, .int 0, .int 0, .int (-1), .int 0, .int kv, .int (-1), .int sd, .int 0, .int 0, .int 0, .null, .int 0]) h2 fd_X2_21_X2 ptX2 rfl (rfl) (rfl) (Nat.le_of_ble_eq_true rfl) rfl dX2_init_23 (fun ce8 H locs h2 fr9 hw hS => ?_)
  have hF : ∀ j, j ≠ 2 → j ≠ 4 → (j < 30 ∨ 50 ≤ j) → _ = ce j := fun j q0 q1 q2 => (fr9 j (by omega)).trans (hF j q0 q1 q2)
  have hN := (fr9 4 (by decide)).trans hN
  have hR := hR.kept (fun j h1 h2 => fr9 j (by omega))
  refine lv_aload_n hx hb dX2_init_26 rfl (lv_at hl 0 rfl) ?_
  refine lv_iconst (v := 1) hx hb dX2_init_27 (by decide) ?_
  refine z_put F hw hS (fs' := [.ref (ad 30), .int 0, .int 0, .int 0, .int 0, .int (-1), .int 0, .int kv, .int (-1), .int sd, .int 0, .int 1, .int 0, .null, .int 0]) h2 fd_X2_24_X2 ptX2 rfl (rfl) (rfl) (Nat.le_of_ble_eq_true rfl) rfl dX2_init_28 (fun ce10 H locs h2 fr11 hw hS => ?_)
  have hF : ∀ j, j ≠ 2 → j ≠ 4 → (j < 30 ∨ 50 ≤ j) → _ = ce j := fun j q0 q1 q2 => (fr11 j (by omega)).trans (hF j q0 q1 q2)
  have hN := (fr11 4 (by decide)).trans hN
  have hR := hR.kept (fun j h1 h2 => fr11 j (by omega))
  refine lv_aload_n hx hb dX2_init_31 rfl (lv_at hl 0 rfl) ?_
  refine lv_iconst (v := 1) hx hb dX2_init_32 (by decide) ?_
  refine z_put F hw hS (fs' := [.ref (ad 30), .int 0, .int 0, .int 0, .int 0, .int (-1), .int 0, .int kv, .int (-1), .int sd, .int 0, .int 1, .int 1, .null, .int 0]) h2 fd_X2_28_X2 ptX2 rfl (rfl) (rfl) (Nat.le_of_ble_eq_true rfl) rfl dX2_init_33 (fun ce12 H locs h2 fr13 hw hS => ?_)
  have hF : ∀ j, j ≠ 2 → j ≠ 4 → (j < 30 ∨ 50 ≤ j) → _ = ce j := fun j q0 q1 q2 => (fr13 j (by omega)).trans (hF j q0 q1 q2)
  have hN := (fr13 4 (by decide)).trans hN
  have hR := hR.kept (fun j h1 h2 => fr13 j (by omega))
  refine lv_aload_n hx hb dX2_init_36 rfl (lv_at hl 0 rfl) ?_
  refine lv_bipush (v := 8) hx hb dX2_init_37 (by decide) ?_
  refine z_newiF F hw hA hS 4 hN had wd_ai (by decide) (N := 8) (by decide) (by decide) (Nat.le_of_ble_eq_true rfl) (Nat.le_of_ble_eq_true rfl) dX2_init_39 (fun ce14 H h4 fr15 hw hS => ?_)
  have h2 := (fr15 2 (by omega)).trans h2
  have hF : ∀ j, j ≠ 2 → j ≠ 4 → (j < 30 ∨ 50 ≤ j) → _ = ce j := fun j q0 q1 q2 => (fr15 j (by omega)).trans (hF j q0 q1 q2)
  have hR := hR.kept (fun j h1 h2 => fr15 j (by omega))
  refine z_putF F rfl hw hS (fs' := [.ref (ad 30), .int 0, .int 0, .int 0, .int 0, .int (-1), .int 0, .int kv, .int (-1), .int sd, .int 0, .int 1, .int 1, .ref (ad 4), .int 0]) h2 fd_X2_31_X2 ptX2 rfl rfl (rfl) (rfl) (Nat.le_of_ble_eq_true rfl) rfl dX2_init_41 (fun ce16 H locs h2 fr17 hw hS => ?_)
  have h4 := (fr17 4 (by omega)).trans h4
  have hF : ∀ j, j ≠ 2 → j ≠ 4 → (j < 30 ∨ 50 ≤ j) → _ = ce j := fun j q0 q1 q2 => (fr17 j (by omega)).trans (hF j q0 q1 q2)
  have hR := hR.kept (fun j h1 h2 => fr17 j (by omega))
  refine lv_aload_n hx hb dX2_init_44 rfl (lv_at hl 0 rfl) ?_
  refine lv_iconst (v := 0) hx hb dX2_init_45 (by decide) ?_
  refine z_put F hw hS (fs' := [.ref (ad 30), .int 0, .int 0, .int 0, .int 0, .int (-1), .int 0, .int kv, .int (-1), .int sd, .int 0, .int 1, .int 1, .ref (ad 4), .int 0]) h2 fd_X2_35_X2 ptX2 rfl (rfl) (rfl) (Nat.le_of_ble_eq_true rfl) rfl dX2_init_46 (fun ce18 H locs h2 fr19 hw hS => ?_)
  have h4 := (fr19 4 (by omega)).trans h4
  have hF : ∀ j, j ≠ 2 → j ≠ 4 → (j < 30 ∨ 50 ≤ j) → _ = ce j := fun j q0 q1 q2 => (fr19 j (by omega)).trans (hF j q0 q1 q2)
  have hR := hR.kept (fun j h1 h2 => fr19 j (by omega))
  exact z_vret F hw hS (⟨rfl, rfl, h2, h4, hR, hF⟩) dX2_init_49
def cl_off (j : Nat) : Nat := if j = 1 then 0 else if j = 10 then 1 else if j = 11 then 2 else if j = 12 then 19 else if j = 13 then 20 else if j < 10 then (if j = 3 then 21 else if j = 2 then 22 else 43) else if j < 30 then j - 11 else if j = 30 then 23 else if j = 31 then 24 else if j = 32 then 41 else if j = 33 then 42 else j - 9
theorem cl_off1 : ∀ j, j < 20 → 4 ≤ j → cl_off (10 + j) = 2 + (j - 3) := by decide +kernel
theorem cl_off3 : ∀ j, j < 20 → 4 ≤ j → cl_off (30 + j) = 24 + (j - 3) := by decide +kernel
set_option maxHeartbeats 4000000 in
set_option maxRecDepth 100000 in
theorem c_init (l : Launch) {G : zz_G} {ad : Nat → Nat} {ce : zz_C} {sz : Nat} (a b c0 : Int32) (h0 : ce 0 = some (.inr (4, [.null, .null, .null, .null, .int 0]))) (hN0 : ∀ j, 0 < j → j < 50 → ce j = none) (had : ∀ j, 0 < j → j < 50 → ad j = sz + cl_off j) : zz_M l yX5_init cX5_init 4 none 5 125 44 536 G [.ref (ad 0), .int a, .int b, .int c0] ad ce sz (fun r ad1 ce1 => r = none ∧ ad = ad1 ∧ clV G ad ce1 (rf_T0 a b c0) (fun _ => []) ∧ (∀ j, 50 ≤ j → ce1 j = ce j)) := by
  refine zz_enter (by decide) (Nat.le_of_ble_eq_true rfl) ?_
  intro p e s m below meth c ls F hl hw hS hA
  obtain ⟨hx, hb, hr, hml, hown, hts, hlocks, hK, hnm⟩ := id F
  have hl : lv_has ls 4 [(0, .ref (ad 0)), (1, .int a), (2, .int b), (3, .int c0)] := hl
  have hF : ∀ j, 50 ≤ j → ce j = ce j := fun _ _ => rfl
  have hN : ∀ j, 0 < j ∧ j < 50 → ce j = none := fun j hj => hN0 j hj.1 hj.2
  refine lv_aload_n hx hb dX5_init_0 rfl (lv_at hl 0 rfl) ?_
  refine W.objInit hx hb hown (hts _ wd_13) (hts _ wd_14) (hts _ wd_15) rfl (by rw [hml]; exact hl.1) rfl dX5_init_1 (Nat.le_of_ble_eq_true rfl) (Nat.le_of_ble_eq_true rfl) ?_
  refine W.eq (g2 := F0 m 4 ls []) rfl ?_
  refine lv_aload_n hx hb dX5_init_4 rfl (lv_at hl 0 rfl) ?_
  refine z_newF F hw hA hS 1 (hN 1 (by decide)) ((had 1 (by decide) (by decide)).trans rfl) (fs := [.null, .int 0, .int 0, .int 0, .int 0, .int 0, .int 0, .int 0, .int 0, .null, .int 0]) (ci := 1) (ty0 := tyX1) rfl inX1 tyX1_ok wd_16 wd_17 wd_3 (by decide) (Nat.le_of_ble_eq_true rfl) (Nat.le_of_ble_eq_true rfl) dX5_init_5 (fun ce1 H hn9 fr2 hw hS => ?_)
  have h0 := (fr2 0 (by omega)).trans h0
  have hF : ∀ j, 50 ≤ j → _ = ce j := fun j hj => (fr2 j (by omega)).trans (hF j hj)
  have hN : ∀ j, 1 < j ∧ j < 50 → _ = none := fun j hj => (fr2 j (by omega)).trans (hN j (by omega))
  refine lv_dup hx hb dX5_init_8 rfl ?_
  refine lv_iload_n hx hb dX5_init_9 rfl (lv_at hl 1 rfl) ?_
  refine z_invI F (rest := [.ref (ad 1), .ref (ad 0)]) (c_sinit0 l (sz := sz + 1) a hn9 (hN 3 (by decide)) ((had 3 (by decide) (by decide)).trans (by have e9 : cl_off 3 = 21 := rfl; omega)) (fun j h1 h2 => hN j (by omega)) ((had 10 (by decide) (by decide)).trans (by have e9 : cl_off 10 = 1 := rfl; omega)) ((had 11 (by decide) (by decide)).trans (by have e9 : cl_off 11 = 2 := rfl; omega)) (fun j h1 h2 => (had (10 + j) (by omega) (by omega)).trans (by rw [cl_off1 j h2 h1]; omega)) ((had 12 (by decide) (by decide)).trans (by have e9 : cl_off 12 = 19 := rfl; omega)) ((had 13 (by decide) (by decide)).trans (by have e9 : cl_off 13 = 20 := rfl; omega))) yi_X5_9 ⟨Nat.le_of_ble_eq_true rfl, Nat.le_of_ble_eq_true rfl⟩ hw hA hS hl rfl rfl (Nat.le_of_ble_eq_true rfl) dX5_init_10 ⟨Nat.le_of_ble_eq_true rfl, Nat.le_of_ble_eq_true rfl⟩ (fun r ad1 ce3 H locs hp hw hS => ?_)
  obtain ⟨rfl, rfl, h1, h3, hR0, hF2⟩ := hp
  have h0 := (hF2 0 (by decide) (by decide) (by decide)).trans h0
  have hF : ∀ j, 50 ≤ j → _ = ce j := fun j hj => (hF2 j (by omega) (by omega) (by omega)).trans (hF j hj)
  have hN : ∀ j, j = 2 ∨ j = 4 ∨ j = 5 ∨ (30 ≤ j ∧ j < 50) → _ = none := fun j hj => (hF2 j (by omega) (by omega) (by omega)).trans (hN j (by omega))
  refine W.eq (g2 := F0 m 13 ls [.ref (ad 1), .ref (ad 0)]) rfl ?_
  refine z_putF F rfl hw hS (fs' := [.null, .null, .ref (ad 1), .null, .int 0]) h0 fd_X5_12_X5 ptX5 rfl rfl (rfl) (rfl) (Nat.le_of_ble_eq_true rfl) rfl dX5_init_13 (fun ce4 H locs h0 fr5 hw hS => ?_)
  have h1 := (fr5 1 (by omega)).trans h1
  have h3 := (fr5 3 (by omega)).trans h3
  have hF : ∀ j, 50 ≤ j → _ = ce j := fun j hj => (fr5 j (by omega)).trans (hF j hj)
  have hR0 := hR0.kept (fun j h1 h2 => fr5 j (by omega))
  have hN : ∀ j, j = 2 ∨ j = 4 ∨ j = 5 ∨ (30 ≤ j ∧ j < 50) → _ = none := fun j hj => (fr5 j (by omega)).trans (hN j (by omega))
  refine lv_aload_n hx hb dX5_init_16 rfl (lv_at hl 0 rfl) ?_
  refine z_newF F hw hA hS 2 (hN 2 (by decide)) ((had 2 (by decide) (by decide)).trans rfl) (fs := [.null, .int 0, .int 0, .int 0, .int 0, .int 0, .int 0, .int 0, .int 0, .int 0, .int 0, .int 0, .int 0, .null, .int 0]) (ci := 2) (ty0 := tyX2) rfl inX2 tyX2_ok wd_124 wd_125 wd_6 (by decide) (Nat.le_of_ble_eq_true rfl) (Nat.le_of_ble_eq_true rfl) dX5_init_17 (fun ce6 H hn9 fr7 hw hS => ?_)
  have h0 := (fr7 0 (by omega)).trans h0
  have h1 := (fr7 1 (by omega)).trans h1
  have h3 := (fr7 3 (by omega)).trans h3
  have hF : ∀ j, 50 ≤ j → _ = ce j := fun j hj => (fr7 j (by omega)).trans (hF j hj)
  have hR0 := hR0.kept (fun j h1 h2 => fr7 j (by omega))
  have hN : ∀ j, j = 4 ∨ j = 5 ∨ (30 ≤ j ∧ j < 50) → _ = none := fun j hj => (fr7 j (by omega)).trans (hN j (by omega))
  refine lv_dup hx hb dX5_init_20 rfl ?_
  refine lv_iload_n hx hb dX5_init_21 rfl (lv_at hl 2 rfl) ?_
  refine lv_iload_n hx hb dX5_init_22 rfl (lv_at hl 3 rfl) ?_
  refine z_invI F (rest := [.ref (ad 2), .ref (ad 0)]) (c_sinit1 l (sz := sz + 1 + 21 + 1) b c0 hn9 (hN 4 (by decide)) ((had 4 (by decide) (by decide)).trans (by have e9 : cl_off 4 = 43 := rfl; omega)) (fun j h1 h2 => hN j (by omega)) ((had 30 (by decide) (by decide)).trans (by have e9 : cl_off 30 = 23 := rfl; omega)) ((had 31 (by decide) (by decide)).trans (by have e9 : cl_off 31 = 24 := rfl; omega)) (fun j h1 h2 => (had (30 + j) (by omega) (by omega)).trans (by rw [cl_off3 j h2 h1]; omega)) ((had 32 (by decide) (by decide)).trans (by have e9 : cl_off 32 = 41 := rfl; omega)) ((had 33 (by decide) (by decide)).trans (by have e9 : cl_off 33 = 42 := rfl; omega))) yi_X5_20 ⟨Nat.le_of_ble_eq_true rfl, Nat.le_of_ble_eq_true rfl⟩ hw hA hS hl rfl rfl (Nat.le_of_ble_eq_true rfl) dX5_init_23 ⟨Nat.le_of_ble_eq_true rfl, Nat.le_of_ble_eq_true rfl⟩ (fun r ad1 ce8 H locs hp hw hS => ?_)
  obtain ⟨rfl, rfl, h2, h4, hR1, hF2⟩ := hp
  have h0 := (hF2 0 (by decide) (by decide) (by decide)).trans h0
  have h1 := (hF2 1 (by decide) (by decide) (by decide)).trans h1
  have h3 := (hF2 3 (by decide) (by decide) (by decide)).trans h3
  have hF : ∀ j, 50 ≤ j → _ = ce j := fun j hj => (hF2 j (by omega) (by omega) (by omega)).trans (hF j hj)
  have hR0 := hR0.kept (fun j h1 h2 => hF2 j (by omega) (by omega) (by omega))
  have hN : ∀ j, j = 5 → _ = none := fun j hj => (hF2 j (by omega) (by omega) (by omega)).trans (hN j (by omega))
  refine W.eq (g2 := F0 m 26 ls [.ref (ad 2), .ref (ad 0)]) rfl ?_
  refine z_putF F rfl hw hS (fs' := [.null, .null, .ref (ad 1), .ref (ad 2), .int 0]) h0 fd_X5_23_X5 ptX5 rfl rfl (rfl) (rfl) (Nat.le_of_ble_eq_true rfl) rfl dX5_init_26 (fun ce9 H locs h0 fr10 hw hS => ?_)
  have h1 := (fr10 1 (by omega)).trans h1
  have h3 := (fr10 3 (by omega)).trans h3
  have h2 := (fr10 2 (by omega)).trans h2
  have h4 := (fr10 4 (by omega)).trans h4
  have hF : ∀ j, 50 ≤ j → _ = ce j := fun j hj => (fr10 j (by omega)).trans (hF j hj)
  have hR0 := hR0.kept (fun j h1 h2 => fr10 j (by omega))
  have hR1 := hR1.kept (fun j h1 h2 => fr10 j (by omega))
  have hN : ∀ j, j = 5 → _ = none := fun j hj => (fr10 j (by omega)).trans (hN j (by omega))
  refine lv_aload_n hx hb dX5_init_29 rfl (lv_at hl 0 rfl) ?_
  refine lv_aload_n hx hb dX5_init_30 rfl (lv_at hl 0 rfl) ?_
  refine z_get F hw h0 fd_X5_12_X5 rfl dX5_init_31 ?_
  refine z_get F hw h1 fd_X5_27_X1 rfl dX5_init_34 ?_
  refine z_putF F rfl hw hS (fs' := [.ref (ad 10), .null, .ref (ad 1), .ref (ad 2), .int 0]) h0 fd_X5_31_X5 ptX5 rfl rfl (rfl) (rfl) (Nat.le_of_ble_eq_true rfl) rfl dX5_init_37 (fun ce11 H locs h0 fr12 hw hS => ?_)
  have h1 := (fr12 1 (by omega)).trans h1
  have h3 := (fr12 3 (by omega)).trans h3
  have h2 := (fr12 2 (by omega)).trans h2
  have h4 := (fr12 4 (by omega)).trans h4
  have hF : ∀ j, 50 ≤ j → _ = ce j := fun j hj => (fr12 j (by omega)).trans (hF j hj)
  have hR0 := hR0.kept (fun j h1 h2 => fr12 j (by omega))
  have hR1 := hR1.kept (fun j h1 h2 => fr12 j (by omega))
  have hN : ∀ j, j = 5 → _ = none := fun j hj => (fr12 j (by omega)).trans (hN j (by omega))
  refine lv_aload_n hx hb dX5_init_40 rfl (lv_at hl 0 rfl) ?_
  refine lv_aload_n hx hb dX5_init_41 rfl (lv_at hl 0 rfl) ?_
  refine z_get F hw h0 fd_X5_23_X5 rfl dX5_init_42 ?_
  refine z_get F hw h2 fd_X5_34_X2 rfl dX5_init_45 ?_
  refine z_putF F rfl hw hS (fs' := [.ref (ad 10), .ref (ad 30), .ref (ad 1), .ref (ad 2), .int 0]) h0 fd_X5_35_X5 ptX5 rfl rfl (rfl) (rfl) (Nat.le_of_ble_eq_true rfl) rfl dX5_init_48 (fun ce13 H locs h0 fr14 hw hS => ?_)
  have h1 := (fr14 1 (by omega)).trans h1
  have h3 := (fr14 3 (by omega)).trans h3
  have h2 := (fr14 2 (by omega)).trans h2
  have h4 := (fr14 4 (by omega)).trans h4
  have hF : ∀ j, 50 ≤ j → _ = ce j := fun j hj => (fr14 j (by omega)).trans (hF j hj)
  have hR0 := hR0.kept (fun j h1 h2 => fr14 j (by omega))
  have hR1 := hR1.kept (fun j h1 h2 => fr14 j (by omega))
  have hN : ∀ j, j = 5 → _ = none := fun j hj => (fr14 j (by omega)).trans (hN j (by omega))
  refine lv_aload_n hx hb dX5_init_51 rfl (lv_at hl 0 rfl) ?_
  refine lv_iconst (v := 0) hx hb dX5_init_52 (by decide) ?_
  refine z_put F hw hS (fs' := [.ref (ad 10), .ref (ad 30), .ref (ad 1), .ref (ad 2), .int 0]) h0 fd_X5_38_X5 ptX5 rfl (rfl) (rfl) (Nat.le_of_ble_eq_true rfl) rfl dX5_init_53 (fun ce15 H locs h0 fr16 hw hS => ?_)
  have h1 := (fr16 1 (by omega)).trans h1
  have h3 := (fr16 3 (by omega)).trans h3
  have h2 := (fr16 2 (by omega)).trans h2
  have h4 := (fr16 4 (by omega)).trans h4
  have hF : ∀ j, 50 ≤ j → _ = ce j := fun j hj => (fr16 j (by omega)).trans (hF j hj)
  have hR0 := hR0.kept (fun j h1 h2 => fr16 j (by omega))
  have hR1 := hR1.kept (fun j h1 h2 => fr16 j (by omega))
  have hN : ∀ j, j = 5 → _ = none := fun j hj => (fr16 j (by omega)).trans (hN j (by omega))
  exact z_vret F hw hS (⟨rfl, rfl, ⟨0, 0, ⟨h0, h1, by show _ = (some (.inr (2, [.ref (ad 30), .int 0, .int 0, .int 0, .int 0, .int (-1), .int 0, .int b, .int (-1), .int c0, .int 0, .int (cl_b0 3), .int (cl_b1 3), .ref (ad 4), .int 0])) : Option va_E); rw [show cl_b0 3 = 1 from by unfold cl_b0; decide, show cl_b1 3 = 1 from by unfold cl_b1; decide]; exact h2, h3, h4⟩, ⟨Or.inl rfl, fun _ => rfl⟩, ⟨Or.inl rfl, fun _ => rfl⟩, hR0, hR1⟩, hF⟩) dX5_init_56
