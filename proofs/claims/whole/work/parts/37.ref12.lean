def rf_T0 (a b c : Int32) : rf_T := fun i => match i with
  | 0 => fun j => (match j with | 0 => a | 1 => b | 2 => c | 3 => 3 | 7 => -1 | _ => 0)
  | 5 => upd (upd (fun _ => 0) 0 (-1)) 1 (-1)
  | _ => fun _ => 0
theorem rfQ_0 : rfQ (fun _ => 0) (fun _ => 0) (fun _ => 0) (fun _ => []) := fun w hw => ⟨by simp, rfl, fun k hk => by simp at hk⟩
theorem rfM_0 (f : Nat → Int32) : rfM f [] := ⟨by simp, fun i hi => by simp at hi⟩
theorem wd_ai : (Jvm.Cond.arrayClass Jvm.ClassFile.FieldType.int) ∈ zz_T := zz_mem (List.mem_of_getElem? (i := 90) (by decide +kernel)) (by decide +kernel)
theorem wd_ab : (Jvm.Cond.arrayClass Jvm.ClassFile.FieldType.boolean) ∈ zz_T := zz_mem (List.mem_of_getElem? (i := 759) (by decide +kernel)) (by decide +kernel)
set_option maxHeartbeats 4000000 in
set_option maxRecDepth 100000 in
theorem r_init (l : Launch) {G : zz_G} {ad0 : Nat → Nat} {ce : zz_C} {sz : Nat} (a b c0 : Int32) (h100 : ce 100 = some (.inr (5, [.int 0, .int 0, .int 0, .int 0, .int 0, .null, .null, .null, .int 0, .null, .null, .null, .null, .null, .int 0, .int 0, .int 0, .null, .int 0, .null, .int 0, .int 0, .null]))) (hN : ∀ j, 101 ≤ j → j ≤ 111 → ce j = none) : zz_M l yX6_init cX6_init 4 none 1 40 11 452 G [.ref (ad0 100), .int a, .int b, .int c0] ad0 ce sz (fun r ad1 ce1 => r = none ∧ rfV G ad1 ce1 (rf_T0 a b c0) (fun _ => []) [] ∧ (∀ j, j ≤ 100 ∨ 111 < j → ad1 j = ad0 j) ∧ ∀ j, j < 100 → ce1 j = ce j) := by
  refine zz_enter (by decide) (Nat.le_of_ble_eq_true rfl) ?_
  intro p e s m below meth c ls F hl hw hS hA
  obtain ⟨hx, hb, hr, hml, hown, hts, hlocks, hK, hnm⟩ := id F
  obtain ⟨ad, hadD⟩ : ∃ ad : Nat → Nat, ∀ j, ad j = if 101 ≤ j ∧ j ≤ 111 then sz + (j - 101) else ad0 j := ⟨_, fun _ => rfl⟩
  have had : ∀ j, 101 ≤ j → j ≤ 111 → ad j = sz + (j - 101) := fun j h1 h2 => by rw [hadD, if_pos ⟨h1, h2⟩]
  have hadK : ∀ j, j ≤ 100 ∨ 111 < j → ad j = ad0 j := fun j h => by rw [hadD, if_neg (fun q => by omega)]
  have hl : lv_has ls 4 [(0, .ref (ad 100)), (1, .int a), (2, .int b), (3, .int c0)] := by rw [hadK 100 (by decide)]; exact hl
  have hw := hw.adr (ad1 := ad) (fun n x hn => hadK n (if h1 : n ≤ 100 then Or.inl h1 else Or.inr (Nat.lt_of_not_le (fun h2 => by rw [hN n (by omega) h2] at hn; cases hn))))
  have hF : ∀ j, j < 100 → ce j = ce j := fun _ _ => rfl
  refine lv_aload_n hx hb dX6_init_0 rfl (lv_at hl 0 rfl) ?_
  refine W.objInit hx hb hown (hts _ wd_643) (hts _ wd_14) (hts _ wd_15) rfl (by rw [hml]; exact hl.1) rfl dX6_init_1 (Nat.le_of_ble_eq_true rfl) (Nat.le_of_ble_eq_true rfl) ?_
  refine W.eq (g2 := F0 m 4 ls []) rfl ?_
  refine lv_aload_n hx hb dX6_init_4 rfl (lv_at hl 0 rfl) ?_
  refine lv_iconst (v := 3) hx hb dX6_init_5 (by decide) ?_
  refine z_put F hw hS (fs' := [.int 0, .int 0, .int 0, .int 3, .int 0, .null, .null, .null, .int 0, .null, .null, .null, .null, .null, .int 0, .int 0, .int 0, .null, .int 0, .null, .int 0, .int 0, .null]) h100 fd_X6_7_X6 ptX6 rfl (rfl) (rfl) (Nat.le_of_ble_eq_true rfl) rfl dX6_init_6 (fun ce1 H locs h100 fr2 hw hS => ?_)
  have hN : ∀ j, 101 ≤ j → j ≤ 111 → _ = none := fun j h1 h2 => (fr2 j (by omega)).trans (hN j (by omega) h2)
  have hF : ∀ j, j < 100 → _ = ce j := fun j hj => (fr2 j (by omega)).trans (hF j hj)
  refine lv_aload_n hx hb dX6_init_9 rfl (lv_at hl 0 rfl) ?_
  refine lv_iconst (v := 2) hx hb dX6_init_10 (by decide) ?_
  refine z_newiF F hw hA hS 101 (hN 101 (by decide) (by decide)) (had 101 (by decide) (by decide)) wd_ai (by decide) (N := 2) (by decide) (by decide) (Nat.le_of_ble_eq_true rfl) (Nat.le_of_ble_eq_true rfl) dX6_init_11 (fun ce3 H h101 fr4 hw hS => ?_)
  have h100 := (fr4 100 (by decide)).trans h100
  have hN : ∀ j, 102 ≤ j → j ≤ 111 → _ = none := fun j h1 h2 => (fr4 j (by omega)).trans (hN j (by omega) h2)
  have hF : ∀ j, j < 100 → _ = ce j := fun j hj => (fr4 j (by omega)).trans (hF j hj)
  refine z_putF F rfl hw hS (fs' := [.int 0, .int 0, .int 0, .int 3, .int 0, .ref (ad 101), .null, .null, .int 0, .null, .null, .null, .null, .null, .int 0, .int 0, .int 0, .null, .int 0, .null, .int 0, .int 0, .null]) h100 fd_X6_13_X6 ptX6 rfl rfl (rfl) (rfl) (Nat.le_of_ble_eq_true rfl) rfl dX6_init_13 (fun ce5 H locs h100 fr6 hw hS => ?_)
  have h101 := (fr6 101 (by decide)).trans h101
  have hN : ∀ j, 102 ≤ j → j ≤ 111 → _ = none := fun j h1 h2 => (fr6 j (by omega)).trans (hN j (by omega) h2)
  have hF : ∀ j, j < 100 → _ = ce j := fun j hj => (fr6 j (by omega)).trans (hF j hj)
  refine lv_aload_n hx hb dX6_init_16 rfl (lv_at hl 0 rfl) ?_
  refine lv_bipush (v := 16) hx hb dX6_init_17 (by decide) ?_
  refine z_newiF F hw hA hS 102 (hN 102 (by decide) (by decide)) (had 102 (by decide) (by decide)) wd_ai (by decide) (N := 16) (by decide) (by decide) (Nat.le_of_ble_eq_true rfl) (Nat.le_of_ble_eq_true rfl) dX6_init_19 (fun ce7 H h102 fr8 hw hS => ?_)
  have h100 := (fr8 100 (by decide)).trans h100
  have h101 := (fr8 101 (by decide)).trans h101
  have hN : ∀ j, 103 ≤ j → j ≤ 111 → _ = none := fun j h1 h2 => (fr8 j (by omega)).trans (hN j (by omega) h2)
  have hF : ∀ j, j < 100 → _ = ce j := fun j hj => (fr8 j (by omega)).trans (hF j hj)
  refine z_putF F rfl hw hS (fs' := [.int 0, .int 0, .int 0, .int 3, .int 0, .ref (ad 101), .ref (ad 102), .null, .int 0, .null, .null, .null, .null, .null, .int 0, .int 0, .int 0, .null, .int 0, .null, .int 0, .int 0, .null]) h100 fd_X6_17_X6 ptX6 rfl rfl (rfl) (rfl) (Nat.le_of_ble_eq_true rfl) rfl dX6_init_21 (fun ce9 H locs h100 fr10 hw hS => ?_)
  have h101 := (fr10 101 (by decide)).trans h101
  have h102 := (fr10 102 (by decide)).trans h102
  have hN : ∀ j, 103 ≤ j → j ≤ 111 → _ = none := fun j h1 h2 => (fr10 j (by omega)).trans (hN j (by omega) h2)
  have hF : ∀ j, j < 100 → _ = ce j := fun j hj => (fr10 j (by omega)).trans (hF j hj)
  refine lv_aload_n hx hb dX6_init_24 rfl (lv_at hl 0 rfl) ?_
  refine lv_sipush (v := 384) hx hb dX6_init_25 (by decide) ?_
  refine z_newiF F hw hA hS 103 (hN 103 (by decide) (by decide)) (had 103 (by decide) (by decide)) wd_ai (by decide) (N := 384) (by decide) (by decide) (Nat.le_of_ble_eq_true rfl) (Nat.le_of_ble_eq_true rfl) dX6_init_28 (fun ce11 H h103 fr12 hw hS => ?_)
  have h100 := (fr12 100 (by decide)).trans h100
  have h101 := (fr12 101 (by decide)).trans h101
  have h102 := (fr12 102 (by decide)).trans h102
  have hN : ∀ j, 104 ≤ j → j ≤ 111 → _ = none := fun j h1 h2 => (fr12 j (by omega)).trans (hN j (by omega) h2)
  have hF : ∀ j, j < 100 → _ = ce j := fun j hj => (fr12 j (by omega)).trans (hF j hj)
  refine z_putF F rfl hw hS (fs' := [.int 0, .int 0, .int 0, .int 3, .int 0, .ref (ad 101), .ref (ad 102), .ref (ad 103), .int 0, .null, .null, .null, .null, .null, .int 0, .int 0, .int 0, .null, .int 0, .null, .int 0, .int 0, .null]) h100 fd_X6_20_X6 ptX6 rfl rfl (rfl) (rfl) (Nat.le_of_ble_eq_true rfl) rfl dX6_init_30 (fun ce13 H locs h100 fr14 hw hS => ?_)
  have h101 := (fr14 101 (by decide)).trans h101
  have h102 := (fr14 102 (by decide)).trans h102
  have h103 := (fr14 103 (by decide)).trans h103
  have hN : ∀ j, 104 ≤ j → j ≤ 111 → _ = none := fun j h1 h2 => (fr14 j (by omega)).trans (hN j (by omega) h2)
  have hF : ∀ j, j < 100 → _ = ce j := fun j hj => (fr14 j (by omega)).trans (hF j hj)
  refine lv_aload_n hx hb dX6_init_33 rfl (lv_at hl 0 rfl) ?_
  refine lv_iconst (v := 2) hx hb dX6_init_34 (by decide) ?_
  refine z_newiF F hw hA hS 104 (hN 104 (by decide) (by decide)) (had 104 (by decide) (by decide)) wd_ai (by decide) (N := 2) (by decide) (by decide) (Nat.le_of_ble_eq_true rfl) (Nat.le_of_ble_eq_true rfl) dX6_init_35 (fun ce15 H h104 fr16 hw hS => ?_)
  have h100 := (fr16 100 (by decide)).trans h100
  have h101 := (fr16 101 (by decide)).trans h101
  have h102 := (fr16 102 (by decide)).trans h102
  have h103 := (fr16 103 (by decide)).trans h103
  have hN : ∀ j, 105 ≤ j → j ≤ 111 → _ = none := fun j h1 h2 => (fr16 j (by omega)).trans (hN j (by omega) h2)
  have hF : ∀ j, j < 100 → _ = ce j := fun j hj => (fr16 j (by omega)).trans (hF j hj)
  refine z_putF F rfl hw hS (fs' := [.int 0, .int 0, .int 0, .int 3, .int 0, .ref (ad 101), .ref (ad 102), .ref (ad 103), .int 0, .ref (ad 104), .null, .null, .null, .null, .int 0, .int 0, .int 0, .null, .int 0, .null, .int 0, .int 0, .null]) h100 fd_X6_23_X6 ptX6 rfl rfl (rfl) (rfl) (Nat.le_of_ble_eq_true rfl) rfl dX6_init_37 (fun ce17 H locs h100 fr18 hw hS => ?_)
  have h101 := (fr18 101 (by decide)).trans h101
  have h102 := (fr18 102 (by decide)).trans h102
  have h103 := (fr18 103 (by decide)).trans h103
  have h104 := (fr18 104 (by decide)).trans h104
  have hN : ∀ j, 105 ≤ j → j ≤ 111 → _ = none := fun j h1 h2 => (fr18 j (by omega)).trans (hN j (by omega) h2)
  have hF : ∀ j, j < 100 → _ = ce j := fun j hj => (fr18 j (by omega)).trans (hF j hj)
  refine lv_aload_n hx hb dX6_init_40 rfl (lv_at hl 0 rfl) ?_
  refine lv_iconst (v := 2) hx hb dX6_init_41 (by decide) ?_
  refine z_newiF F hw hA hS 105 (hN 105 (by decide) (by decide)) (had 105 (by decide) (by decide)) wd_ai (by decide) (N := 2) (by decide) (by decide) (Nat.le_of_ble_eq_true rfl) (Nat.le_of_ble_eq_true rfl) dX6_init_42 (fun ce19 H h105 fr20 hw hS => ?_)
  have h100 := (fr20 100 (by decide)).trans h100
  have h101 := (fr20 101 (by decide)).trans h101
  have h102 := (fr20 102 (by decide)).trans h102
  have h103 := (fr20 103 (by decide)).trans h103
  have h104 := (fr20 104 (by decide)).trans h104
  have hN : ∀ j, 106 ≤ j → j ≤ 111 → _ = none := fun j h1 h2 => (fr20 j (by omega)).trans (hN j (by omega) h2)
  have hF : ∀ j, j < 100 → _ = ce j := fun j hj => (fr20 j (by omega)).trans (hF j hj)
  refine z_putF F rfl hw hS (fs' := [.int 0, .int 0, .int 0, .int 3, .int 0, .ref (ad 101), .ref (ad 102), .ref (ad 103), .int 0, .ref (ad 104), .ref (ad 105), .null, .null, .null, .int 0, .int 0, .int 0, .null, .int 0, .null, .int 0, .int 0, .null]) h100 fd_X6_26_X6 ptX6 rfl rfl (rfl) (rfl) (Nat.le_of_ble_eq_true rfl) rfl dX6_init_44 (fun ce21 H locs h100 fr22 hw hS => ?_)
  have h101 := (fr22 101 (by decide)).trans h101
  have h102 := (fr22 102 (by decide)).trans h102
  have h103 := (fr22 103 (by decide)).trans h103
  have h104 := (fr22 104 (by decide)).trans h104
  have h105 := (fr22 105 (by decide)).trans h105
  have hN : ∀ j, 106 ≤ j → j ≤ 111 → _ = none := fun j h1 h2 => (fr22 j (by omega)).trans (hN j (by omega) h2)
  have hF : ∀ j, j < 100 → _ = ce j := fun j hj => (fr22 j (by omega)).trans (hF j hj)
  refine lv_aload_n hx hb dX6_init_47 rfl (lv_at hl 0 rfl) ?_
  refine lv_iconst (v := 2) hx hb dX6_init_48 (by decide) ?_
  refine z_newiF F hw hA hS 106 (hN 106 (by decide) (by decide)) (had 106 (by decide) (by decide)) wd_ai (by decide) (N := 2) (by decide) (by decide) (Nat.le_of_ble_eq_true rfl) (Nat.le_of_ble_eq_true rfl) dX6_init_49 (fun ce23 H h106 fr24 hw hS => ?_)
  have h100 := (fr24 100 (by decide)).trans h100
  have h101 := (fr24 101 (by decide)).trans h101
  have h102 := (fr24 102 (by decide)).trans h102
  have h103 := (fr24 103 (by decide)).trans h103
  have h104 := (fr24 104 (by decide)).trans h104
  have h105 := (fr24 105 (by decide)).trans h105
  have hN : ∀ j, 107 ≤ j → j ≤ 111 → _ = none := fun j h1 h2 => (fr24 j (by omega)).trans (hN j (by omega) h2)
  have hF : ∀ j, j < 100 → _ = ce j := fun j hj => (fr24 j (by omega)).trans (hF j hj)
  refine z_putF F rfl hw hS (fs' := [.int 0, .int 0, .int 0, .int 3, .int 0, .ref (ad 101), .ref (ad 102), .ref (ad 103), .int 0, .ref (ad 104), .ref (ad 105), .ref (ad 106), .null, .null, .int 0, .int 0, .int 0, .null, .int 0, .null, .int 0, .int 0, .null]) h100 fd_X6_29_X6 ptX6 rfl rfl (rfl) (rfl) (Nat.le_of_ble_eq_true rfl) rfl dX6_init_51 (fun ce25 H locs h100 fr26 hw hS => ?_)
  have h101 := (fr26 101 (by decide)).trans h101
  have h102 := (fr26 102 (by decide)).trans h102
  have h103 := (fr26 103 (by decide)).trans h103
  have h104 := (fr26 104 (by decide)).trans h104
  have h105 := (fr26 105 (by decide)).trans h105
  have h106 := (fr26 106 (by decide)).trans h106
  have hN : ∀ j, 107 ≤ j → j ≤ 111 → _ = none := fun j h1 h2 => (fr26 j (by omega)).trans (hN j (by omega) h2)
  have hF : ∀ j, j < 100 → _ = ce j := fun j hj => (fr26 j (by omega)).trans (hF j hj)
  refine lv_aload_n hx hb dX6_init_54 rfl (lv_at hl 0 rfl) ?_
  refine lv_iconst (v := 2) hx hb dX6_init_55 (by decide) ?_
  refine z_newzF F hw hA hS 107 (hN 107 (by decide) (by decide)) (had 107 (by decide) (by decide)) wd_ab (by decide) (N := 2) (by decide) (by decide) (Nat.le_of_ble_eq_true rfl) (Nat.le_of_ble_eq_true rfl) dX6_init_56 (fun ce27 H h107 fr28 hw hS => ?_)
  have h100 := (fr28 100 (by decide)).trans h100
  have h101 := (fr28 101 (by decide)).trans h101
  have h102 := (fr28 102 (by decide)).trans h102
  have h103 := (fr28 103 (by decide)).trans h103
  have h104 := (fr28 104 (by decide)).trans h104
  have h105 := (fr28 105 (by decide)).trans h105
  have h106 := (fr28 106 (by decide)).trans h106
  have hN : ∀ j, 108 ≤ j → j ≤ 111 → _ = none := fun j h1 h2 => (fr28 j (by omega)).trans (hN j (by omega) h2)
  have hF : ∀ j, j < 100 → _ = ce j := fun j hj => (fr28 j (by omega)).trans (hF j hj)
  refine z_putF F rfl hw hS (fs' := [.int 0, .int 0, .int 0, .int 3, .int 0, .ref (ad 101), .ref (ad 102), .ref (ad 103), .int 0, .ref (ad 104), .ref (ad 105), .ref (ad 106), .ref (ad 107), .null, .int 0, .int 0, .int 0, .null, .int 0, .null, .int 0, .int 0, .null]) h100 fd_X6_32_X6 ptX6 rfl rfl (rfl) (rfl) (Nat.le_of_ble_eq_true rfl) rfl dX6_init_58 (fun ce29 H locs h100 fr30 hw hS => ?_)
  have h101 := (fr30 101 (by decide)).trans h101
  have h102 := (fr30 102 (by decide)).trans h102
  have h103 := (fr30 103 (by decide)).trans h103
  have h104 := (fr30 104 (by decide)).trans h104
  have h105 := (fr30 105 (by decide)).trans h105
  have h106 := (fr30 106 (by decide)).trans h106
  have h107 := (fr30 107 (by decide)).trans h107
  have hN : ∀ j, 108 ≤ j → j ≤ 111 → _ = none := fun j h1 h2 => (fr30 j (by omega)).trans (hN j (by omega) h2)
  have hF : ∀ j, j < 100 → _ = ce j := fun j hj => (fr30 j (by omega)).trans (hF j hj)
  refine lv_aload_n hx hb dX6_init_61 rfl (lv_at hl 0 rfl) ?_
  refine lv_iconst (v := 2) hx hb dX6_init_62 (by decide) ?_
  refine z_newiF F hw hA hS 108 (hN 108 (by decide) (by decide)) (had 108 (by decide) (by decide)) wd_ai (by decide) (N := 2) (by decide) (by decide) (Nat.le_of_ble_eq_true rfl) (Nat.le_of_ble_eq_true rfl) dX6_init_63 (fun ce31 H h108 fr32 hw hS => ?_)
  have h100 := (fr32 100 (by decide)).trans h100
  have h101 := (fr32 101 (by decide)).trans h101
  have h102 := (fr32 102 (by decide)).trans h102
  have h103 := (fr32 103 (by decide)).trans h103
  have h104 := (fr32 104 (by decide)).trans h104
  have h105 := (fr32 105 (by decide)).trans h105
  have h106 := (fr32 106 (by decide)).trans h106
  have h107 := (fr32 107 (by decide)).trans h107
  have hN : ∀ j, 109 ≤ j → j ≤ 111 → _ = none := fun j h1 h2 => (fr32 j (by omega)).trans (hN j (by omega) h2)
  have hF : ∀ j, j < 100 → _ = ce j := fun j hj => (fr32 j (by omega)).trans (hF j hj)
  refine z_putF F rfl hw hS (fs' := [.int 0, .int 0, .int 0, .int 3, .int 0, .ref (ad 101), .ref (ad 102), .ref (ad 103), .int 0, .ref (ad 104), .ref (ad 105), .ref (ad 106), .ref (ad 107), .ref (ad 108), .int 0, .int 0, .int 0, .null, .int 0, .null, .int 0, .int 0, .null]) h100 fd_X6_36_X6 ptX6 rfl rfl (rfl) (rfl) (Nat.le_of_ble_eq_true rfl) rfl dX6_init_65 (fun ce33 H locs h100 fr34 hw hS => ?_)
  have h101 := (fr34 101 (by decide)).trans h101
  have h102 := (fr34 102 (by decide)).trans h102
  have h103 := (fr34 103 (by decide)).trans h103
  have h104 := (fr34 104 (by decide)).trans h104
  have h105 := (fr34 105 (by decide)).trans h105
  have h106 := (fr34 106 (by decide)).trans h106
  have h107 := (fr34 107 (by decide)).trans h107
  have h108 := (fr34 108 (by decide)).trans h108
  have hN : ∀ j, 109 ≤ j → j ≤ 111 → _ = none := fun j h1 h2 => (fr34 j (by omega)).trans (hN j (by omega) h2)
  have hF : ∀ j, j < 100 → _ = ce j := fun j hj => (fr34 j (by omega)).trans (hF j hj)
  refine lv_aload_n hx hb dX6_init_68 rfl (lv_at hl 0 rfl) ?_
  refine lv_iconst (v := -1) hx hb dX6_init_69 (by decide) ?_
  refine z_put F hw hS (fs' := [.int 0, .int 0, .int 0, .int 3, .int 0, .ref (ad 101), .ref (ad 102), .ref (ad 103), .int 0, .ref (ad 104), .ref (ad 105), .ref (ad 106), .ref (ad 107), .ref (ad 108), .int 0, .int (-1), .int 0, .null, .int 0, .null, .int 0, .int 0, .null]) h100 fd_X6_39_X6 ptX6 rfl (rfl) (rfl) (Nat.le_of_ble_eq_true rfl) rfl dX6_init_70 (fun ce35 H locs h100 fr36 hw hS => ?_)
  have h101 := (fr36 101 (by decide)).trans h101
  have h102 := (fr36 102 (by decide)).trans h102
  have h103 := (fr36 103 (by decide)).trans h103
  have h104 := (fr36 104 (by decide)).trans h104
  have h105 := (fr36 105 (by decide)).trans h105
  have h106 := (fr36 106 (by decide)).trans h106
  have h107 := (fr36 107 (by decide)).trans h107
  have h108 := (fr36 108 (by decide)).trans h108
  have hN : ∀ j, 109 ≤ j → j ≤ 111 → _ = none := fun j h1 h2 => (fr36 j (by omega)).trans (hN j (by omega) h2)
  have hF : ∀ j, j < 100 → _ = ce j := fun j hj => (fr36 j (by omega)).trans (hF j hj)
  refine lv_aload_n hx hb dX6_init_73 rfl (lv_at hl 0 rfl) ?_
  refine lv_bipush (v := 8) hx hb dX6_init_74 (by decide) ?_
  refine z_newiF F hw hA hS 109 (hN 109 (by decide) (by decide)) (had 109 (by decide) (by decide)) wd_ai (by decide) (N := 8) (by decide) (by decide) (Nat.le_of_ble_eq_true rfl) (Nat.le_of_ble_eq_true rfl) dX6_init_76 (fun ce37 H h109 fr38 hw hS => ?_)
  have h100 := (fr38 100 (by decide)).trans h100
  have h101 := (fr38 101 (by decide)).trans h101
  have h102 := (fr38 102 (by decide)).trans h102
  have h103 := (fr38 103 (by decide)).trans h103
  have h104 := (fr38 104 (by decide)).trans h104
  have h105 := (fr38 105 (by decide)).trans h105
  have h106 := (fr38 106 (by decide)).trans h106
  have h107 := (fr38 107 (by decide)).trans h107
  have h108 := (fr38 108 (by decide)).trans h108
  have hN : ∀ j, 110 ≤ j → j ≤ 111 → _ = none := fun j h1 h2 => (fr38 j (by omega)).trans (hN j (by omega) h2)
  have hF : ∀ j, j < 100 → _ = ce j := fun j hj => (fr38 j (by omega)).trans (hF j hj)
  refine z_putF F rfl hw hS (fs' := [.int 0, .int 0, .int 0, .int 3, .int 0, .ref (ad 101), .ref (ad 102), .ref (ad 103), .int 0, .ref (ad 104), .ref (ad 105), .ref (ad 106), .ref (ad 107), .ref (ad 108), .int 0, .int (-1), .int 0, .ref (ad 109), .int 0, .null, .int 0, .int 0, .null]) h100 fd_X6_42_X6 ptX6 rfl rfl (rfl) (rfl) (Nat.le_of_ble_eq_true rfl) rfl dX6_init_78 (fun ce39 H locs h100 fr40 hw hS => ?_)
  have h101 := (fr40 101 (by decide)).trans h101
  have h102 := (fr40 102 (by decide)).trans h102
  have h103 := (fr40 103 (by decide)).trans h103
  have h104 := (fr40 104 (by decide)).trans h104
  have h105 := (fr40 105 (by decide)).trans h105
  have h106 := (fr40 106 (by decide)).trans h106
  have h107 := (fr40 107 (by decide)).trans h107
  have h108 := (fr40 108 (by decide)).trans h108
  have h109 := (fr40 109 (by decide)).trans h109
  have hN : ∀ j, 110 ≤ j → j ≤ 111 → _ = none := fun j h1 h2 => (fr40 j (by omega)).trans (hN j (by omega) h2)
  have hF : ∀ j, j < 100 → _ = ce j := fun j hj => (fr40 j (by omega)).trans (hF j hj)
  refine lv_aload_n hx hb dX6_init_81 rfl (lv_at hl 0 rfl) ?_
  refine lv_bipush (v := 8) hx hb dX6_init_82 (by decide) ?_
  refine z_newiF F hw hA hS 110 (hN 110 (by decide) (by decide)) (had 110 (by decide) (by decide)) wd_ai (by decide) (N := 8) (by decide) (by decide) (Nat.le_of_ble_eq_true rfl) (Nat.le_of_ble_eq_true rfl) dX6_init_84 (fun ce41 H h110 fr42 hw hS => ?_)
  have h100 := (fr42 100 (by decide)).trans h100
  have h101 := (fr42 101 (by decide)).trans h101
  have h102 := (fr42 102 (by decide)).trans h102
  have h103 := (fr42 103 (by decide)).trans h103
  have h104 := (fr42 104 (by decide)).trans h104
  have h105 := (fr42 105 (by decide)).trans h105
  have h106 := (fr42 106 (by decide)).trans h106
  have h107 := (fr42 107 (by decide)).trans h107
  have h108 := (fr42 108 (by decide)).trans h108
  have h109 := (fr42 109 (by decide)).trans h109
  have hN : ∀ j, 111 ≤ j → j ≤ 111 → _ = none := fun j h1 h2 => (fr42 j (by omega)).trans (hN j (by omega) h2)
  have hF : ∀ j, j < 100 → _ = ce j := fun j hj => (fr42 j (by omega)).trans (hF j hj)
  refine z_putF F rfl hw hS (fs' := [.int 0, .int 0, .int 0, .int 3, .int 0, .ref (ad 101), .ref (ad 102), .ref (ad 103), .int 0, .ref (ad 104), .ref (ad 105), .ref (ad 106), .ref (ad 107), .ref (ad 108), .int 0, .int (-1), .int 0, .ref (ad 109), .int 0, .ref (ad 110), .int 0, .int 0, .null]) h100 fd_X6_45_X6 ptX6 rfl rfl (rfl) (rfl) (Nat.le_of_ble_eq_true rfl) rfl dX6_init_86 (fun ce43 H locs h100 fr44 hw hS => ?_)
  have h101 := (fr44 101 (by decide)).trans h101
  have h102 := (fr44 102 (by decide)).trans h102
  have h103 := (fr44 103 (by decide)).trans h103
  have h104 := (fr44 104 (by decide)).trans h104
  have h105 := (fr44 105 (by decide)).trans h105
  have h106 := (fr44 106 (by decide)).trans h106
  have h107 := (fr44 107 (by decide)).trans h107
  have h108 := (fr44 108 (by decide)).trans h108
  have h109 := (fr44 109 (by decide)).trans h109
  have h110 := (fr44 110 (by decide)).trans h110
  have hN : ∀ j, 111 ≤ j → j ≤ 111 → _ = none := fun j h1 h2 => (fr44 j (by omega)).trans (hN j (by omega) h2)
  have hF : ∀ j, j < 100 → _ = ce j := fun j hj => (fr44 j (by omega)).trans (hF j hj)
  refine lv_aload_n hx hb dX6_init_89 rfl (lv_at hl 0 rfl) ?_
  refine lv_bipush (v := 24) hx hb dX6_init_90 (by decide) ?_
  refine z_newiF F hw hA hS 111 (hN 111 (by decide) (by decide)) (had 111 (by decide) (by decide)) wd_ai (by decide) (N := 24) (by decide) (by decide) (Nat.le_of_ble_eq_true rfl) (Nat.le_of_ble_eq_true rfl) dX6_init_92 (fun ce45 H h111 fr46 hw hS => ?_)
  have h100 := (fr46 100 (by decide)).trans h100
  have h101 := (fr46 101 (by decide)).trans h101
  have h102 := (fr46 102 (by decide)).trans h102
  have h103 := (fr46 103 (by decide)).trans h103
  have h104 := (fr46 104 (by decide)).trans h104
  have h105 := (fr46 105 (by decide)).trans h105
  have h106 := (fr46 106 (by decide)).trans h106
  have h107 := (fr46 107 (by decide)).trans h107
  have h108 := (fr46 108 (by decide)).trans h108
  have h109 := (fr46 109 (by decide)).trans h109
  have h110 := (fr46 110 (by decide)).trans h110
  have hN : ∀ j, 112 ≤ j → j ≤ 111 → _ = none := fun j h1 h2 => (fr46 j (by omega)).trans (hN j (by omega) h2)
  have hF : ∀ j, j < 100 → _ = ce j := fun j hj => (fr46 j (by omega)).trans (hF j hj)
  refine z_putF F rfl hw hS (fs' := [.int 0, .int 0, .int 0, .int 3, .int 0, .ref (ad 101), .ref (ad 102), .ref (ad 103), .int 0, .ref (ad 104), .ref (ad 105), .ref (ad 106), .ref (ad 107), .ref (ad 108), .int 0, .int (-1), .int 0, .ref (ad 109), .int 0, .ref (ad 110), .int 0, .int 0, .ref (ad 111)]) h100 fd_X6_48_X6 ptX6 rfl rfl (rfl) (rfl) (Nat.le_of_ble_eq_true rfl) rfl dX6_init_94 (fun ce47 H locs h100 fr48 hw hS => ?_)
  have h101 := (fr48 101 (by decide)).trans h101
  have h102 := (fr48 102 (by decide)).trans h102
  have h103 := (fr48 103 (by decide)).trans h103
  have h104 := (fr48 104 (by decide)).trans h104
  have h105 := (fr48 105 (by decide)).trans h105
  have h106 := (fr48 106 (by decide)).trans h106
  have h107 := (fr48 107 (by decide)).trans h107
  have h108 := (fr48 108 (by decide)).trans h108
  have h109 := (fr48 109 (by decide)).trans h109
  have h110 := (fr48 110 (by decide)).trans h110
  have h111 := (fr48 111 (by decide)).trans h111
  have hN : ∀ j, 112 ≤ j → j ≤ 111 → _ = none := fun j h1 h2 => (fr48 j (by omega)).trans (hN j (by omega) h2)
  have hF : ∀ j, j < 100 → _ = ce j := fun j hj => (fr48 j (by omega)).trans (hF j hj)
  refine lv_aload_n hx hb dX6_init_97 rfl (lv_at hl 0 rfl) ?_
  refine lv_iload_n hx hb dX6_init_98 rfl (lv_at hl 1 rfl) ?_
  refine z_putF F rfl hw hS (fs' := [.int a, .int 0, .int 0, .int 3, .int 0, .ref (ad 101), .ref (ad 102), .ref (ad 103), .int 0, .ref (ad 104), .ref (ad 105), .ref (ad 106), .ref (ad 107), .ref (ad 108), .int 0, .int (-1), .int 0, .ref (ad 109), .int 0, .ref (ad 110), .int 0, .int 0, .ref (ad 111)]) h100 fd_X6_51_X6 ptX6 rfl rfl (rfl) (rfl) (Nat.le_of_ble_eq_true rfl) rfl dX6_init_99 (fun ce49 H locs h100 fr50 hw hS => ?_)
  have h101 := (fr50 101 (by decide)).trans h101
  have h102 := (fr50 102 (by decide)).trans h102
  have h103 := (fr50 103 (by decide)).trans h103
  have h104 := (fr50 104 (by decide)).trans h104
  have h105 := (fr50 105 (by decide)).trans h105
  have h106 := (fr50 106 (by decide)).trans h106
  have h107 := (fr50 107 (by decide)).trans h107
  have h108 := (fr50 108 (by decide)).trans h108
  have h109 := (fr50 109 (by decide)).trans h109
  have h110 := (fr50 110 (by decide)).trans h110
  have h111 := (fr50 111 (by decide)).trans h111
  have hN : ∀ j, 112 ≤ j → j ≤ 111 → _ = none := fun j h1 h2 => (fr50 j (by omega)).trans (hN j (by omega) h2)
  have hF : ∀ j, j < 100 → _ = ce j := fun j hj => (fr50 j (by omega)).trans (hF j hj)
  refine lv_aload_n hx hb dX6_init_102 rfl (lv_at hl 0 rfl) ?_
  refine lv_iload_n hx hb dX6_init_103 rfl (lv_at hl 2 rfl) ?_
  refine z_putF F rfl hw hS (fs' := [.int a, .int b, .int 0, .int 3, .int 0, .ref (ad 101), .ref (ad 102), .ref (ad 103), .int 0, .ref (ad 104), .ref (ad 105), .ref (ad 106), .ref (ad 107), .ref (ad 108), .int 0, .int (-1), .int 0, .ref (ad 109), .int 0, .ref (ad 110), .int 0, .int 0, .ref (ad 111)]) h100 fd_X6_54_X6 ptX6 rfl rfl (rfl) (rfl) (Nat.le_of_ble_eq_true rfl) rfl dX6_init_104 (fun ce51 H locs h100 fr52 hw hS => ?_)
  have h101 := (fr52 101 (by decide)).trans h101
  have h102 := (fr52 102 (by decide)).trans h102
  have h103 := (fr52 103 (by decide)).trans h103
  have h104 := (fr52 104 (by decide)).trans h104
  have h105 := (fr52 105 (by decide)).trans h105
  have h106 := (fr52 106 (by decide)).trans h106
  have h107 := (fr52 107 (by decide)).trans h107
  have h108 := (fr52 108 (by decide)).trans h108
  have h109 := (fr52 109 (by decide)).trans h109
  have h110 := (fr52 110 (by decide)).trans h110
  have h111 := (fr52 111 (by decide)).trans h111
  have hN : ∀ j, 112 ≤ j → j ≤ 111 → _ = none := fun j h1 h2 => (fr52 j (by omega)).trans (hN j (by omega) h2)
  have hF : ∀ j, j < 100 → _ = ce j := fun j hj => (fr52 j (by omega)).trans (hF j hj)
  refine lv_aload_n hx hb dX6_init_107 rfl (lv_at hl 0 rfl) ?_
  refine lv_iload_n hx hb dX6_init_108 rfl (lv_at hl 3 rfl) ?_
  refine z_put F hw hS (fs' := [.int a, .int b, .int c0, .int 3, .int 0, .ref (ad 101), .ref (ad 102), .ref (ad 103), .int 0, .ref (ad 104), .ref (ad 105), .ref (ad 106), .ref (ad 107), .ref (ad 108), .int 0, .int (-1), .int 0, .ref (ad 109), .int 0, .ref (ad 110), .int 0, .int 0, .ref (ad 111)]) h100 fd_X6_57_X6 ptX6 rfl (rfl) (rfl) (Nat.le_of_ble_eq_true rfl) rfl dX6_init_109 (fun ce53 H locs h100 fr54 hw hS => ?_)
  have h101 := (fr54 101 (by decide)).trans h101
  have h102 := (fr54 102 (by decide)).trans h102
  have h103 := (fr54 103 (by decide)).trans h103
  have h104 := (fr54 104 (by decide)).trans h104
  have h105 := (fr54 105 (by decide)).trans h105
  have h106 := (fr54 106 (by decide)).trans h106
  have h107 := (fr54 107 (by decide)).trans h107
  have h108 := (fr54 108 (by decide)).trans h108
  have h109 := (fr54 109 (by decide)).trans h109
  have h110 := (fr54 110 (by decide)).trans h110
  have h111 := (fr54 111 (by decide)).trans h111
  have hN : ∀ j, 112 ≤ j → j ≤ 111 → _ = none := fun j h1 h2 => (fr54 j (by omega)).trans (hN j (by omega) h2)
  have hF : ∀ j, j < 100 → _ = ce j := fun j hj => (fr54 j (by omega)).trans (hF j hj)
  refine lv_aload_n hx hb dX6_init_112 rfl (lv_at hl 0 rfl) ?_
  refine z_get F hw h100 fd_X6_36_X6 rfl dX6_init_113 ?_
  refine lv_iconst (v := 0) hx hb dX6_init_116 (by decide) ?_
  refine lv_iconst (v := -1) hx hb dX6_init_117 (by decide) ?_
  refine z_st F hw hS h108 (0) (rfl) (by decide) (by decide) dX6_init_118 (fun ce55 H locs h108 fr56 hw hS => ?_)
  have h100 := (fr56 100 (by decide)).trans h100
  have h101 := (fr56 101 (by decide)).trans h101
  have h102 := (fr56 102 (by decide)).trans h102
  have h103 := (fr56 103 (by decide)).trans h103
  have h104 := (fr56 104 (by decide)).trans h104
  have h105 := (fr56 105 (by decide)).trans h105
  have h106 := (fr56 106 (by decide)).trans h106
  have h107 := (fr56 107 (by decide)).trans h107
  have h109 := (fr56 109 (by decide)).trans h109
  have h110 := (fr56 110 (by decide)).trans h110
  have h111 := (fr56 111 (by decide)).trans h111
  have hN : ∀ j, 112 ≤ j → j ≤ 111 → _ = none := fun j h1 h2 => (fr56 j (by omega)).trans (hN j (by omega) h2)
  have hF : ∀ j, j < 100 → _ = ce j := fun j hj => (fr56 j (by omega)).trans (hF j hj)
  refine lv_aload_n hx hb dX6_init_119 rfl (lv_at hl 0 rfl) ?_
  refine z_get F hw h100 fd_X6_36_X6 rfl dX6_init_120 ?_
  refine lv_iconst (v := 1) hx hb dX6_init_123 (by decide) ?_
  refine lv_iconst (v := -1) hx hb dX6_init_124 (by decide) ?_
  refine z_st F hw hS h108 (1) (rfl) (by decide) (by decide) dX6_init_125 (fun ce57 H locs h108 fr58 hw hS => ?_)
  have h100 := (fr58 100 (by decide)).trans h100
  have h101 := (fr58 101 (by decide)).trans h101
  have h102 := (fr58 102 (by decide)).trans h102
  have h103 := (fr58 103 (by decide)).trans h103
  have h104 := (fr58 104 (by decide)).trans h104
  have h105 := (fr58 105 (by decide)).trans h105
  have h106 := (fr58 106 (by decide)).trans h106
  have h107 := (fr58 107 (by decide)).trans h107
  have h109 := (fr58 109 (by decide)).trans h109
  have h110 := (fr58 110 (by decide)).trans h110
  have h111 := (fr58 111 (by decide)).trans h111
  have hN : ∀ j, 112 ≤ j → j ≤ 111 → _ = none := fun j h1 h2 => (fr58 j (by omega)).trans (hN j (by omega) h2)
  have hF : ∀ j, j < 100 → _ = ce j := fun j hj => (fr58 j (by omega)).trans (hF j hj)
  exact z_vret F hw hS (⟨rfl, ⟨_, _, _, _, ⟨h100, h101, h102, h103, h104, h105, h106, h107, h108, h109, h110, h111⟩, rfQ_0, rfM_0 _⟩, hadK, hF⟩) dX6_init_126
