theorem rf_if1 {c : Prop} [Decidable c] (a b : rf_R) : (if c then a else b).1 = if c then a.1 else b.1 := by split <;> rfl
theorem sp_closes_b (T : rf_T) (Q : rf_Q) (M : List Nat) (k ty : Nat) : narrow .boolean (.int (sp_closes T Q M k ty).1) = .int (sp_closes T Q M k ty).1 := by unfold sp_closes; simp only [rf_if1]; (repeat' split) <;> rfl
def rf_dg (T : rf_T) (d k : Nat) : List Nat := [3, 5, 94, rf_zb (nI d)] ++ (List.range k).map (fun j => rf_zb (T 6 j))
theorem rf_dg_s (T : rf_T) (d k : Nat) : rf_dg T d k ++ [rf_zb (T 6 k)] = rf_dg T d (k + 1) := by simp [rf_dg, List.range_succ]
set_option maxHeartbeats 4000000 in
set_option maxRecDepth 100000 in
theorem r_setUp (l : Launch) {G : zz_G} {ad : Nat → Nat} {ce : zz_C} {sz : Nat} (T : rf_T) (Q : rf_Q) (M : List Nat) (hV : rfV G ad ce T Q M) (d : Nat) (hd : d ≤ 8) (hdc : T 0 9 = nI d) : zz_M l yX6_setUp cX6_setUp 3 none 1 24 0 0 G [.ref (ad 100)] ad ce sz (fun r ad1 ce1 => r = none ∧ ad = ad1 ∧ rfV G ad ce1 (T) (rf_put T Q 0 (rf_dg T d d)) M ∧ (∀ j, j < 100 → ce1 j = ce j)) := by
  refine zz_enter (by decide) (Nat.le_of_ble_eq_true rfl) ?_
  intro p e s m below meth c ls F hl hw hS hA
  obtain ⟨hx, hb, hr, hml, hown, hts, hlocks, hK, hnm⟩ := id F
  have hl : lv_has ls 3 [(0, .ref (ad 100))] := hl
  obtain ⟨cn, zs, bs, hh, ⟨h100, h101, h102, h103, h104, h105, h106, h107, h108, h109, h110, h111⟩, hQ, hM⟩ := hV
  have hF : ∀ j, j < 100 → ce j = ce j := fun _ _ => rfl
  refine lv_aload_n hx hb dX6_setUp_0 rfl (lv_at hl 0 rfl) ?_
  refine lv_iconst (v := 0) hx hb dX6_setUp_1 (by decide) ?_
  refine lv_iconst (v := 3) hx hb dX6_setUp_2 (by decide) ?_
  refine lv_iconst (v := 5) hx hb dX6_setUp_3 (by decide) ?_
  have hV : rfV G ad ce T Q M := ⟨_, _, _, _, ⟨h100, h101, h102, h103, h104, h105, h106, h107, h108, h109, h110, h111⟩, hQ, hM⟩
  refine z_invV F (rest := []) (r_put0 l T Q M hV 3 5 (by decide) (by decide)) yv_X6_64 ⟨Nat.le_of_ble_eq_true rfl, Nat.le_of_ble_eq_true rfl⟩ hw hA hS hl h100 rfl rfl rfl (Nat.le_of_ble_eq_true rfl) dX6_setUp_4 ⟨Nat.le_of_ble_eq_true rfl, Nat.le_of_ble_eq_true rfl⟩ (fun r ad1 ce1 H locs hp hw hS => ?_)
  obtain ⟨rfl, rfl, hV, hF2⟩ := hp
  have hF : ∀ j, j < 100 → ce1 j = ce j := fun j hj => (hF2 j hj).trans (hF j hj)
  obtain ⟨cn, zs, bs, hh, ⟨h100, h101, h102, h103, h104, h105, h106, h107, h108, h109, h110, h111⟩, hQ, hM⟩ := hV
  refine W.eq (g2 := F0 m 7 ls [.int (rf_hd T Q 0)]) rfl ?_
  refine lv_istore_n (lv' := [(1, .int (rf_hd T Q 0)), (0, .ref (ad 100))]) hx hb dX6_setUp_7 rfl hl (by decide) rfl (fun ls hl => ?_)
  refine lv_aload_n hx hb dX6_setUp_8 rfl (lv_at hl 1 rfl) ?_
  refine lv_iload_n hx hb dX6_setUp_9 rfl (lv_at hl 0 rfl) ?_
  refine lv_bipush (v := 94) hx hb dX6_setUp_10 (by decide) ?_
  have hV : rfV G ad ce1 T (rf_put T Q 0 [3, 5]) M := ⟨_, _, _, _, ⟨h100, h101, h102, h103, h104, h105, h106, h107, h108, h109, h110, h111⟩, hQ, hM⟩
  refine z_invV F (rest := []) (r_more l T Q M 0 ([3, 5]) hV (by decide) (by simp) 94) yv_X6_68 ⟨Nat.le_of_ble_eq_true rfl, Nat.le_of_ble_eq_true rfl⟩ hw hA hS hl h100 rfl rfl rfl (Nat.le_of_ble_eq_true rfl) dX6_setUp_12 ⟨Nat.le_of_ble_eq_true rfl, Nat.le_of_ble_eq_true rfl⟩ (fun r ad1 ce2 H locs hp hw hS => ?_)
  obtain ⟨rfl, rfl, hV, hF2⟩ := hp
  have hF : ∀ j, j < 100 → ce2 j = ce j := fun j hj => (hF2 j hj).trans (hF j hj)
  obtain ⟨cn, zs, bs, hh, ⟨h100, h101, h102, h103, h104, h105, h106, h107, h108, h109, h110, h111⟩, hQ, hM⟩ := hV
  refine W.eq (g2 := F0 m 15 ls []) rfl ?_
  refine lv_aload_n hx hb dX6_setUp_15 rfl (lv_at hl 1 rfl) ?_
  refine lv_iload_n hx hb dX6_setUp_16 rfl (lv_at hl 0 rfl) ?_
  refine lv_aload_n hx hb dX6_setUp_17 rfl (lv_at hl 1 rfl) ?_
  refine z_get F hw h100 fd_X6_119_X6 rfl dX6_setUp_18 ?_
  refine z_top (nI d) (hdc) ?_
  have hV : rfV G ad ce2 T (rf_put T Q 0 (([3, 5]) ++ [rf_zb 94])) M := ⟨_, _, _, _, ⟨h100, h101, h102, h103, h104, h105, h106, h107, h108, h109, h110, h111⟩, hQ, hM⟩
  refine z_invV F (rest := []) (r_more l T Q M 0 (([3, 5]) ++ [rf_zb 94]) hV (by decide) (by simp) (nI d)) yv_X6_68 ⟨Nat.le_of_ble_eq_true rfl, Nat.le_of_ble_eq_true rfl⟩ hw hA hS hl h100 rfl rfl rfl (Nat.le_of_ble_eq_true rfl) dX6_setUp_21 ⟨Nat.le_of_ble_eq_true rfl, Nat.le_of_ble_eq_true rfl⟩ (fun r ad1 ce3 H locs hp hw hS => ?_)
  obtain ⟨rfl, rfl, hV, hF2⟩ := hp
  have hF : ∀ j, j < 100 → ce3 j = ce j := fun j hj => (hF2 j hj).trans (hF j hj)
  obtain ⟨cn, zs, bs, hh, ⟨h100, h101, h102, h103, h104, h105, h106, h107, h108, h109, h110, h111⟩, hQ, hM⟩ := hV
  refine W.eq (g2 := F0 m 24 ls []) rfl ?_
  refine lv_iconst (v := 0) hx hb dX6_setUp_24 (by decide) ?_
  refine lv_istore_n (lv' := [(2, .int 0), (1, .int (rf_hd T Q 0)), (0, .ref (ad 100))]) hx hb dX6_setUp_25 rfl hl (by decide) rfl (fun ls hl => ?_)
  refine z_loop (α := Nat) (fun k => d - k) (fun k ce9 ls9 => lv_has ls9 3 [(0, .ref (ad 100)), (1, .int (rf_hd T Q 0)), (2, .int (nI k))] ∧ rfV G ad ce9 T (rf_put T Q 0 (rf_dg T d k)) M ∧ (∀ j, j < 100 → ce9 j = ce j) ∧ k ≤ d) 0 ⟨lv_sub hl [2, 1, 0] rfl, ⟨_, _, _, _, ⟨h100, h101, h102, h103, h104, h105, h106, h107, h108, h109, h110, h111⟩, hQ, hM⟩, hF, Nat.zero_le _⟩ hw hS (fun k ih26 ce9 H locs ls hI hw hS => ?_)
  obtain ⟨hl, hV, hF, hkd⟩ := hI
  obtain ⟨cn, zs, bs, hh, ⟨h100, h101, h102, h103, h104, h105, h106, h107, h108, h109, h110, h111⟩, hQ, hM⟩ := hV
  refine lv_iload_n hx hb dX6_setUp_26 rfl (lv_at hl 2 rfl) ?_
  refine lv_aload_n hx hb dX6_setUp_27 rfl (lv_at hl 0 rfl) ?_
  refine z_get F hw h100 fd_X6_119_X6 rfl dX6_setUp_28 ?_
  refine z_top (nI d) (hdc) ?_
  refine lv_icmp_ge (tgt := 51) hx hb dX6_setUp_31 (by decide) (fun c31 => ?_) (fun c31 => ?_)
  · exact z_vret F hw hS (⟨rfl, rfl, by rw [show d = k from Nat.le_antisymm (Nat.le_of_not_lt (fun q => absurd c31 (nI_ge q (by omega)))) hkd]; rw [show d = k from Nat.le_antisymm (Nat.le_of_not_lt (fun q => absurd c31 (nI_ge q (by omega)))) hkd] at hQ; exact ⟨_, _, _, _, ⟨h100, h101, h102, h103, h104, h105, h106, h107, h108, h109, h110, h111⟩, hQ, hM⟩, hF⟩) dX6_setUp_51
  · have hklt : k < d := Nat.lt_of_not_le (fun q => c31 (nI_le q (by omega)))
    refine lv_aload_n hx hb dX6_setUp_34 rfl (lv_at hl 0 rfl) ?_
    refine lv_iload_n hx hb dX6_setUp_35 rfl (lv_at hl 1 rfl) ?_
    refine lv_aload_n hx hb dX6_setUp_36 rfl (lv_at hl 0 rfl) ?_
    refine z_get F hw h100 fd_X6_42_X6 rfl dX6_setUp_37 ?_
    refine lv_iload_n hx hb dX6_setUp_40 rfl (lv_at hl 2 rfl) ?_
    refine z_ld F hw h109 (k) (rfl) (by omega) (by decide) dX6_setUp_41 ?_
    have hV : rfV G ad ce9 T (rf_put T Q 0 (rf_dg T d k)) M := ⟨_, _, _, _, ⟨h100, h101, h102, h103, h104, h105, h106, h107, h108, h109, h110, h111⟩, hQ, hM⟩
    refine z_invV F (rest := []) (r_more l T Q M 0 (rf_dg T d k) hV (by decide) (by simp [rf_dg]; omega) ((T 6) k)) yv_X6_68 ⟨Nat.le_of_ble_eq_true rfl, Nat.le_of_ble_eq_true rfl⟩ hw hA hS hl h100 rfl rfl rfl (Nat.le_of_ble_eq_true rfl) dX6_setUp_42 ⟨Nat.le_of_ble_eq_true rfl, Nat.le_of_ble_eq_true rfl⟩ (fun r ad1 ce4 H locs hp hw hS => ?_)
    obtain ⟨rfl, rfl, hV, hF2⟩ := hp
    have hF : ∀ j, j < 100 → ce4 j = ce j := fun j hj => (hF2 j hj).trans (hF j hj)
    obtain ⟨cn, zs, bs, hh, ⟨h100, h101, h102, h103, h104, h105, h106, h107, h108, h109, h110, h111⟩, hQ, hM⟩ := hV
    refine W.eq (g2 := F0 m 45 ls []) rfl ?_
    refine lv_iinc (v := nI (k + 1)) (lv' := [(2, .int (nI (k + 1))), (0, .ref (ad 100)), (1, .int (rf_hd T Q 0))]) hx hb dX6_setUp_45 hl (k := 2) rfl (nI_1 k) (by decide) rfl (fun ls hl => ?_)
    refine lv_goto (tgt := 26) hx hb dX6_setUp_48 (by decide) ?_
    exact ih26 (k + 1) _ _ _ _ (by omega) ⟨lv_sub hl [1, 2, 0] rfl, by rw [← rf_dg_s]; exact ⟨_, _, _, _, ⟨h100, h101, h102, h103, h104, h105, h106, h107, h108, h109, h110, h111⟩, hQ, hM⟩, hF, by omega⟩ hw hS
def sp_mobileMoves (T : rf_T) (Q : rf_Q) (M : List Nat) (ty : Nat) (d : Nat) : rf_R := (if ty = 2 then (if (((T 1) 0) : Int32) = 2 then (if rf_sz M 19 = some 2 then (1, (rf_become (va_up T 0 (va_up (T 0) 6 (rf_val M 19))) 0 3 ((T 2) 0) 0), Q) else (0, T, Q)) else (0, T, Q)) else (if ty = 4 then (if (((T 1) 0) : Int32) = 2 then (if rf_sz M 8 = some 1 then (1, (rf_become (va_up T 5 (upd (T 5) 0 (rf_val M 8))) 0 1 ((T 2) 0) 0), Q) else (0, T, Q)) else (0, T, Q)) else (if ty = 17 then (if (((T 1) 0) : Int32) = 0 then (0, T, Q) else (1, (rf_become T 0 1 0 0), Q)) else (if ty = 18 then (if (((T 1) 0) : Int32) = 2 then (if rf_sz M 33 = some 4 then (1, T, rf_put T Q 0 ([5, 20, 34, 4] ++ rf_bytes 4 (rf_turned (rf_val M 33) (T 0 0)))) else (0, T, Q)) else (if (((T 1) 0) : Int32) = 4 then (if rf_sz M 33 = some 4 then (1, T, rf_put T Q 0 ([5, 20, 34, 4] ++ rf_bytes 4 (rf_turned (rf_val M 33) (T 0 0)))) else (0, T, Q)) else (0, T, Q))) else (if ty = 33 then (if (((T 1) 0) : Int32) = 4 then (1, (rf_become T 0 5 1 30), rf_put T Q 0 (rf_dg T d d)) else (0, T, Q)) else (if ty = 34 then (if (((T 1) 0) : Int32) = 4 then (if rf_sz M 8 = some 1 then (1, (rf_become (va_up T 5 (upd (T 5) 0 (rf_val M 8))) 0 3 0 0), Q) else (0, T, Q)) else (0, T, Q)) else (0, T, Q)))))))
theorem sp_mobileMoves_b (T : rf_T) (Q : rf_Q) (M : List Nat) (ty : Nat) (d : Nat) : narrow .boolean (.int (sp_mobileMoves T Q M ty d).1) = .int (sp_mobileMoves T Q M ty d).1 := by unfold sp_mobileMoves; simp only [rf_if1]; (repeat' split) <;> first | rfl | exact sp_closes_b _ _ _ _ _
set_option maxHeartbeats 4000000 in
set_option maxRecDepth 100000 in
theorem r_mobileMoves (l : Launch) {G : zz_G} {ad : Nat → Nat} {ce : zz_C} {sz : Nat} (T : rf_T) (Q : rf_Q) (M : List Nat) (hV : rfV G ad ce T Q M) (hg : rf_good M) (ty : Nat) (hty : ty < 256) (d : Nat) (hd : d ≤ 8) (hdc : T 0 9 = nI d) : zz_M l yX6_mobileMoves cX6_mobileMoves 3 (some .boolean) 2 52 0 0 G [.ref (ad 100), .int (nI ty)] ad ce sz (fun r ad1 ce1 => r = some (.int (sp_mobileMoves T Q M ty d).1) ∧ ad = ad1 ∧ rfV G ad ce1 (sp_mobileMoves T Q M ty d).2.1 (sp_mobileMoves T Q M ty d).2.2 M ∧ (∀ j, j < 100 → ce1 j = ce j)) := by
  refine zz_enter (by decide) (Nat.le_of_ble_eq_true rfl) ?_
  intro p e s m below meth c ls F hl hw hS hA
  obtain ⟨hx, hb, hr, hml, hown, hts, hlocks, hK, hnm⟩ := id F
  have hl : lv_has ls 3 [(0, .ref (ad 100)), (1, .int (nI ty))] := hl
  obtain ⟨cn, zs, bs, hh, ⟨h100, h101, h102, h103, h104, h105, h106, h107, h108, h109, h110, h111⟩, hQ, hM⟩ := hV
  have hF : ∀ j, j < 100 → ce j = ce j := fun _ _ => rfl
  refine lv_aload_n hx hb dX6_mobileMoves_0 rfl (lv_at hl 0 rfl) ?_
  refine z_get F hw h100 fd_X6_23_X6 rfl dX6_mobileMoves_1 ?_
  refine lv_iconst (v := 0) hx hb dX6_mobileMoves_4 (by decide) ?_
  refine z_ld F hw h104 (0) (rfl) (by decide) (by decide) dX6_mobileMoves_5 ?_
  refine lv_istore_n (lv' := [(2, .int ((T 1) 0)), (0, .ref (ad 100)), (1, .int (nI ty))]) hx hb dX6_mobileMoves_6 rfl hl (by decide) rfl (fun ls hl => ?_)
  refine lv_iload_n hx hb dX6_mobileMoves_7 rfl (lv_at hl 2 rfl) ?_
  by_cases h8_2 : ty = 2
  · refine lv_lookup (tgt := 68) (off := 60) hx hb dX6_mobileMoves_8 (by decide) (by rw [h8_2]; rfl) (by decide) ?_
    refine lv_iload_n hx hb dX6_mobileMoves_68 rfl (lv_at hl 0 rfl) ?_
    refine lv_iconst (v := 2) hx hb dX6_mobileMoves_69 (by decide) ?_
    refine lv_icmp_ne (tgt := 83) hx hb dX6_mobileMoves_70 (by decide) (fun c70 => ?_) (fun c70 => ?_)
    · refine lv_iconst (v := 0) hx hb dX6_mobileMoves_83 (by decide) ?_
      exact z_iret F (rfl) hw hS (by unfold sp_mobileMoves; rw [if_pos h8_2, if_neg c70]; exact ⟨rfl, rfl, ⟨_, _, _, _, ⟨h100, h101, h102, h103, h104, h105, h106, h107, h108, h109, h110, h111⟩, hQ, hM⟩, hF⟩) dX6_mobileMoves_84
    · refine lv_aload_n hx hb dX6_mobileMoves_73 rfl (lv_at hl 1 rfl) ?_
      refine lv_bipush (v := 19) hx hb dX6_mobileMoves_74 (by decide) ?_
      refine lv_iconst (v := 2) hx hb dX6_mobileMoves_76 (by decide) ?_
      have hV : rfV G ad ce T Q M := ⟨_, _, _, _, ⟨h100, h101, h102, h103, h104, h105, h106, h107, h108, h109, h110, h111⟩, hQ, hM⟩
      refine z_invV F (rest := []) (r_has l T Q M hV hg 19 2 (by decide) (by decide)) yv_X6_87 ⟨Nat.le_of_ble_eq_true rfl, Nat.le_of_ble_eq_true rfl⟩ hw hA hS hl h100 rfl rfl rfl (Nat.le_of_ble_eq_true rfl) dX6_mobileMoves_77 ⟨Nat.le_of_ble_eq_true rfl, Nat.le_of_ble_eq_true rfl⟩ (fun r ad1 ce1 H locs hp hw hS => ?_)
      obtain ⟨hp, rfl, rfl⟩ := hp
      rcases hp with ⟨hs, rfl⟩ | ⟨hs, rfl⟩
      · refine W.eq (g2 := F0 m 80 ls [.int 1]) rfl ?_
        refine lv_if_ne (tgt := 85) hx hb dX6_mobileMoves_80 (by decide) (fun c80 => ?_) (fun c80 => absurd c80 (by decide))
        refine lv_aload_n hx hb dX6_mobileMoves_85 rfl (lv_at hl 1 rfl) ?_
        refine lv_aload_n hx hb dX6_mobileMoves_86 rfl (lv_at hl 1 rfl) ?_
        refine lv_bipush (v := 19) hx hb dX6_mobileMoves_87 (by decide) ?_
        have hV : rfV G ad ce T Q M := ⟨_, _, _, _, ⟨h100, h101, h102, h103, h104, h105, h106, h107, h108, h109, h110, h111⟩, hQ, hM⟩
        refine z_invV F (rest := [.ref (ad 100)]) (r_number l T Q M hV hg 19 2 (by decide) hs) yv_X6_95 ⟨Nat.le_of_ble_eq_true rfl, Nat.le_of_ble_eq_true rfl⟩ hw hA hS hl h100 rfl rfl rfl (Nat.le_of_ble_eq_true rfl) dX6_mobileMoves_89 ⟨Nat.le_of_ble_eq_true rfl, Nat.le_of_ble_eq_true rfl⟩ (fun r ad1 ce2 H locs hp hw hS => ?_)
        obtain ⟨rfl, rfl, rfl⟩ := hp
        refine W.eq (g2 := F0 m 92 ls [.int (rf_val M 19), .ref (ad 100)]) rfl ?_
        refine z_put F hw hS (fs' := [.int (T 0 0), .int (T 0 1), .int (T 0 2), .int (T 0 3), .int (T 0 4), .ref (ad 101), .ref (ad 102), .ref (ad 103), .int (T 0 5), .ref (ad 104), .ref (ad 105), .ref (ad 106), .ref (ad 107), .ref (ad 108), .int (rf_val M 19), .int (T 0 7), .int (T 0 8), .ref (ad 109), .int (T 0 9), .ref (ad 110), .int (T 0 10), .int (nI M.length), .ref (ad 111)]) h100 fd_X6_105_X6 ptX6 rfl (rfl) (rfl) (Nat.le_of_ble_eq_true rfl) rfl dX6_mobileMoves_92 (fun ce3 H locs h100 fr4 hw hS => ?_)
        have h101 := (fr4 101 (by decide)).trans h101
        have h102 := (fr4 102 (by decide)).trans h102
        have h103 := (fr4 103 (by decide)).trans h103
        have h104 := (fr4 104 (by decide)).trans h104
        have h105 := (fr4 105 (by decide)).trans h105
        have h106 := (fr4 106 (by decide)).trans h106
        have h107 := (fr4 107 (by decide)).trans h107
        have h108 := (fr4 108 (by decide)).trans h108
        have h109 := (fr4 109 (by decide)).trans h109
        have h110 := (fr4 110 (by decide)).trans h110
        have h111 := (fr4 111 (by decide)).trans h111
        have hF : ∀ j, j < 100 → _ = ce j := fun j hj => (fr4 j (by omega)).trans (hF j hj)
        refine lv_aload_n hx hb dX6_mobileMoves_95 rfl (lv_at hl 1 rfl) ?_
        refine lv_iconst (v := 0) hx hb dX6_mobileMoves_96 (by decide) ?_
        refine lv_iconst (v := 3) hx hb dX6_mobileMoves_97 (by decide) ?_
        refine lv_aload_n hx hb dX6_mobileMoves_98 rfl (lv_at hl 1 rfl) ?_
        refine z_get F hw h100 fd_X6_26_X6 rfl dX6_mobileMoves_99 ?_
        refine lv_iconst (v := 0) hx hb dX6_mobileMoves_102 (by decide) ?_
        refine z_ld F hw h105 (0) (rfl) (by decide) (by decide) dX6_mobileMoves_103 ?_
        refine lv_iconst (v := 0) hx hb dX6_mobileMoves_104 (by decide) ?_
        have hV : rfV G ad ce3 (va_up T 0 (va_up (T 0) 6 (rf_val M 19))) Q M := ⟨_, _, _, _, ⟨h100, h101, h102, h103, h104, h105, h106, h107, h108, h109, h110, h111⟩, hQ, hM⟩
        refine z_invV F (rest := []) (r_become0 l (va_up T 0 (va_up (T 0) 6 (rf_val M 19))) Q M hV 3 ((T 2) 0) 0) yv_X6_83 ⟨Nat.le_of_ble_eq_true rfl, Nat.le_of_ble_eq_true rfl⟩ hw hA hS hl h100 rfl rfl rfl (Nat.le_of_ble_eq_true rfl) dX6_mobileMoves_105 ⟨Nat.le_of_ble_eq_true rfl, Nat.le_of_ble_eq_true rfl⟩ (fun r ad1 ce5 H locs hp hw hS => ?_)
        obtain ⟨rfl, rfl, hV, hF2⟩ := hp
        have hF : ∀ j, j < 100 → ce5 j = ce j := fun j hj => (hF2 j hj).trans (hF j hj)
        obtain ⟨cn, zs, bs, hh, ⟨h100, h101, h102, h103, h104, h105, h106, h107, h108, h109, h110, h111⟩, hQ, hM⟩ := hV
        refine W.eq (g2 := F0 m 108 ls []) rfl ?_
        refine lv_iconst (v := 1) hx hb dX6_mobileMoves_108 (by decide) ?_
        exact z_iret F (rfl) hw hS (by unfold sp_mobileMoves; rw [if_pos h8_2, if_pos c70, if_pos hs]; exact ⟨rfl, rfl, ⟨_, _, _, _, ⟨h100, h101, h102, h103, h104, h105, h106, h107, h108, h109, h110, h111⟩, hQ, hM⟩, hF⟩) dX6_mobileMoves_109
      · refine W.eq (g2 := F0 m 80 ls [.int 0]) rfl ?_
        refine lv_if_ne (tgt := 85) hx hb dX6_mobileMoves_80 (by decide) (fun c80 => absurd c80 (by decide)) (fun c80 => ?_)
        refine lv_iconst (v := 0) hx hb dX6_mobileMoves_83 (by decide) ?_
        exact z_iret F (rfl) hw hS (by unfold sp_mobileMoves; rw [if_pos h8_2, if_pos c70, if_neg hs]; exact ⟨rfl, rfl, ⟨_, _, _, _, ⟨h100, h101, h102, h103, h104, h105, h106, h107, h108, h109, h110, h111⟩, hQ, hM⟩, hF⟩) dX6_mobileMoves_84
  by_cases h8_4 : ty = 4
  · refine lv_lookup (tgt := 110) (off := 102) hx hb dX6_mobileMoves_8 (by decide) (by rw [h8_4]; rfl) (by decide) ?_
    refine lv_iload_n hx hb dX6_mobileMoves_110 rfl (lv_at hl 0 rfl) ?_
    refine lv_iconst (v := 2) hx hb dX6_mobileMoves_111 (by decide) ?_
    refine lv_icmp_ne (tgt := 125) hx hb dX6_mobileMoves_112 (by decide) (fun c112 => ?_) (fun c112 => ?_)
    · refine lv_iconst (v := 0) hx hb dX6_mobileMoves_125 (by decide) ?_
      exact z_iret F (rfl) hw hS (by unfold sp_mobileMoves; rw [if_neg h8_2, if_pos h8_4, if_neg c112]; exact ⟨rfl, rfl, ⟨_, _, _, _, ⟨h100, h101, h102, h103, h104, h105, h106, h107, h108, h109, h110, h111⟩, hQ, hM⟩, hF⟩) dX6_mobileMoves_126
    · refine lv_aload_n hx hb dX6_mobileMoves_115 rfl (lv_at hl 1 rfl) ?_
      refine lv_bipush (v := 8) hx hb dX6_mobileMoves_116 (by decide) ?_
      refine lv_iconst (v := 1) hx hb dX6_mobileMoves_118 (by decide) ?_
      have hV : rfV G ad ce T Q M := ⟨_, _, _, _, ⟨h100, h101, h102, h103, h104, h105, h106, h107, h108, h109, h110, h111⟩, hQ, hM⟩
      refine z_invV F (rest := []) (r_has l T Q M hV hg 8 1 (by decide) (by decide)) yv_X6_87 ⟨Nat.le_of_ble_eq_true rfl, Nat.le_of_ble_eq_true rfl⟩ hw hA hS hl h100 rfl rfl rfl (Nat.le_of_ble_eq_true rfl) dX6_mobileMoves_119 ⟨Nat.le_of_ble_eq_true rfl, Nat.le_of_ble_eq_true rfl⟩ (fun r ad1 ce6 H locs hp hw hS => ?_)
      obtain ⟨hp, rfl, rfl⟩ := hp
      rcases hp with ⟨hs, rfl⟩ | ⟨hs, rfl⟩
      · refine W.eq (g2 := F0 m 122 ls [.int 1]) rfl ?_
        refine lv_if_ne (tgt := 127) hx hb dX6_mobileMoves_122 (by decide) (fun c122 => ?_) (fun c122 => absurd c122 (by decide))
        refine lv_aload_n hx hb dX6_mobileMoves_127 rfl (lv_at hl 1 rfl) ?_
        refine z_get F hw h100 fd_X6_36_X6 rfl dX6_mobileMoves_128 ?_
        refine lv_iconst (v := 0) hx hb dX6_mobileMoves_131 (by decide) ?_
        refine lv_aload_n hx hb dX6_mobileMoves_132 rfl (lv_at hl 1 rfl) ?_
        refine lv_bipush (v := 8) hx hb dX6_mobileMoves_133 (by decide) ?_
        have hV : rfV G ad ce T Q M := ⟨_, _, _, _, ⟨h100, h101, h102, h103, h104, h105, h106, h107, h108, h109, h110, h111⟩, hQ, hM⟩
        refine z_invV F (rest := [.int 0, .ref (ad 108)]) (r_number l T Q M hV hg 8 1 (by decide) hs) yv_X6_95 ⟨Nat.le_of_ble_eq_true rfl, Nat.le_of_ble_eq_true rfl⟩ hw hA hS hl h100 rfl rfl rfl (Nat.le_of_ble_eq_true rfl) dX6_mobileMoves_135 ⟨Nat.le_of_ble_eq_true rfl, Nat.le_of_ble_eq_true rfl⟩ (fun r ad1 ce7 H locs hp hw hS => ?_)
        obtain ⟨rfl, rfl, rfl⟩ := hp
        refine W.eq (g2 := F0 m 138 ls [.int (rf_val M 8), .int 0, .ref (ad 108)]) rfl ?_
        refine z_st F hw hS h108 (0) (rfl) (by decide) (by decide) dX6_mobileMoves_138 (fun ce8 H locs h108 fr9 hw hS => ?_)
        have h100 := (fr9 100 (by decide)).trans h100
        have h101 := (fr9 101 (by decide)).trans h101
        have h102 := (fr9 102 (by decide)).trans h102
        have h103 := (fr9 103 (by decide)).trans h103
        have h104 := (fr9 104 (by decide)).trans h104
        have h105 := (fr9 105 (by decide)).trans h105
        have h106 := (fr9 106 (by decide)).trans h106
        have h107 := (fr9 107 (by decide)).trans h107
        have h109 := (fr9 109 (by decide)).trans h109
        have h110 := (fr9 110 (by decide)).trans h110
        have h111 := (fr9 111 (by decide)).trans h111
        have hF : ∀ j, j < 100 → _ = ce j := fun j hj => (fr9 j (by omega)).trans (hF j hj)
        refine lv_aload_n hx hb dX6_mobileMoves_139 rfl (lv_at hl 1 rfl) ?_
        refine lv_iconst (v := 0) hx hb dX6_mobileMoves_140 (by decide) ?_
        refine lv_iconst (v := 1) hx hb dX6_mobileMoves_141 (by decide) ?_
        refine lv_aload_n hx hb dX6_mobileMoves_142 rfl (lv_at hl 1 rfl) ?_
        refine z_get F hw h100 fd_X6_26_X6 rfl dX6_mobileMoves_143 ?_
        refine lv_iconst (v := 0) hx hb dX6_mobileMoves_146 (by decide) ?_
        refine z_ld F hw h105 (0) (rfl) (by decide) (by decide) dX6_mobileMoves_147 ?_
        refine lv_iconst (v := 0) hx hb dX6_mobileMoves_148 (by decide) ?_
        have hV : rfV G ad ce8 (va_up T 5 (upd (T 5) 0 (rf_val M 8))) Q M := ⟨_, _, _, _, ⟨h100, h101, h102, h103, h104, h105, h106, h107, h108, h109, h110, h111⟩, hQ, hM⟩
        refine z_invV F (rest := []) (r_become0 l (va_up T 5 (upd (T 5) 0 (rf_val M 8))) Q M hV 1 ((T 2) 0) 0) yv_X6_83 ⟨Nat.le_of_ble_eq_true rfl, Nat.le_of_ble_eq_true rfl⟩ hw hA hS hl h100 rfl rfl rfl (Nat.le_of_ble_eq_true rfl) dX6_mobileMoves_149 ⟨Nat.le_of_ble_eq_true rfl, Nat.le_of_ble_eq_true rfl⟩ (fun r ad1 ce10 H locs hp hw hS => ?_)
        obtain ⟨rfl, rfl, hV, hF2⟩ := hp
        have hF : ∀ j, j < 100 → ce10 j = ce j := fun j hj => (hF2 j hj).trans (hF j hj)
        obtain ⟨cn, zs, bs, hh, ⟨h100, h101, h102, h103, h104, h105, h106, h107, h108, h109, h110, h111⟩, hQ, hM⟩ := hV
        refine W.eq (g2 := F0 m 152 ls []) rfl ?_
        refine lv_iconst (v := 1) hx hb dX6_mobileMoves_152 (by decide) ?_
        exact z_iret F (rfl) hw hS (by unfold sp_mobileMoves; rw [if_neg h8_2, if_pos h8_4, if_pos c112, if_pos hs]; exact ⟨rfl, rfl, ⟨_, _, _, _, ⟨h100, h101, h102, h103, h104, h105, h106, h107, h108, h109, h110, h111⟩, hQ, hM⟩, hF⟩) dX6_mobileMoves_153
      · refine W.eq (g2 := F0 m 122 ls [.int 0]) rfl ?_
        refine lv_if_ne (tgt := 127) hx hb dX6_mobileMoves_122 (by decide) (fun c122 => absurd c122 (by decide)) (fun c122 => ?_)
        refine lv_iconst (v := 0) hx hb dX6_mobileMoves_125 (by decide) ?_
        exact z_iret F (rfl) hw hS (by unfold sp_mobileMoves; rw [if_neg h8_2, if_pos h8_4, if_pos c112, if_neg hs]; exact ⟨rfl, rfl, ⟨_, _, _, _, ⟨h100, h101, h102, h103, h104, h105, h106, h107, h108, h109, h110, h111⟩, hQ, hM⟩, hF⟩) dX6_mobileMoves_126
  by_cases h8_17 : ty = 17
  · refine lv_lookup (tgt := 202) (off := 194) hx hb dX6_mobileMoves_8 (by decide) (by rw [h8_17]; rfl) (by decide) ?_
    refine lv_iload_n hx hb dX6_mobileMoves_202 rfl (lv_at hl 0 rfl) ?_
    refine lv_if_ne (tgt := 208) hx hb dX6_mobileMoves_203 (by decide) (fun c203 => ?_) (fun c203 => ?_)
    · refine lv_aload_n hx hb dX6_mobileMoves_208 rfl (lv_at hl 1 rfl) ?_
      refine lv_iconst (v := 0) hx hb dX6_mobileMoves_209 (by decide) ?_
      refine lv_iconst (v := 1) hx hb dX6_mobileMoves_210 (by decide) ?_
      refine lv_iconst (v := 0) hx hb dX6_mobileMoves_211 (by decide) ?_
      refine lv_iconst (v := 0) hx hb dX6_mobileMoves_212 (by decide) ?_
      have hV : rfV G ad ce T Q M := ⟨_, _, _, _, ⟨h100, h101, h102, h103, h104, h105, h106, h107, h108, h109, h110, h111⟩, hQ, hM⟩
      refine z_invV F (rest := []) (r_become0 l T Q M hV 1 0 0) yv_X6_83 ⟨Nat.le_of_ble_eq_true rfl, Nat.le_of_ble_eq_true rfl⟩ hw hA hS hl h100 rfl rfl rfl (Nat.le_of_ble_eq_true rfl) dX6_mobileMoves_213 ⟨Nat.le_of_ble_eq_true rfl, Nat.le_of_ble_eq_true rfl⟩ (fun r ad1 ce11 H locs hp hw hS => ?_)
      obtain ⟨rfl, rfl, hV, hF2⟩ := hp
      have hF : ∀ j, j < 100 → ce11 j = ce j := fun j hj => (hF2 j hj).trans (hF j hj)
      obtain ⟨cn, zs, bs, hh, ⟨h100, h101, h102, h103, h104, h105, h106, h107, h108, h109, h110, h111⟩, hQ, hM⟩ := hV
      refine W.eq (g2 := F0 m 216 ls []) rfl ?_
      refine lv_iconst (v := 1) hx hb dX6_mobileMoves_216 (by decide) ?_
      exact z_iret F (rfl) hw hS (by unfold sp_mobileMoves; rw [if_neg h8_2, if_neg h8_4, if_pos h8_17, if_neg c203]; exact ⟨rfl, rfl, ⟨_, _, _, _, ⟨h100, h101, h102, h103, h104, h105, h106, h107, h108, h109, h110, h111⟩, hQ, hM⟩, hF⟩) dX6_mobileMoves_217
    · refine lv_iconst (v := 0) hx hb dX6_mobileMoves_206 (by decide) ?_
      exact z_iret F (rfl) hw hS (by unfold sp_mobileMoves; rw [if_neg h8_2, if_neg h8_4, if_pos h8_17, if_pos c203]; exact ⟨rfl, rfl, ⟨_, _, _, _, ⟨h100, h101, h102, h103, h104, h105, h106, h107, h108, h109, h110, h111⟩, hQ, hM⟩, hF⟩) dX6_mobileMoves_207
  by_cases h8_18 : ty = 18
  · refine lv_lookup (tgt := 154) (off := 146) hx hb dX6_mobileMoves_8 (by decide) (by rw [h8_18]; rfl) (by decide) ?_
    refine lv_iload_n hx hb dX6_mobileMoves_154 rfl (lv_at hl 0 rfl) ?_
    refine lv_iconst (v := 2) hx hb dX6_mobileMoves_155 (by decide) ?_
    refine lv_icmp_eq (tgt := 164) hx hb dX6_mobileMoves_156 (by decide) (fun c156 => ?_) (fun c156 => ?_)
    · refine lv_aload_n hx hb dX6_mobileMoves_164 rfl (lv_at hl 1 rfl) ?_
      refine lv_bipush (v := 33) hx hb dX6_mobileMoves_165 (by decide) ?_
      refine lv_iconst (v := 4) hx hb dX6_mobileMoves_167 (by decide) ?_
      have hV : rfV G ad ce T Q M := ⟨_, _, _, _, ⟨h100, h101, h102, h103, h104, h105, h106, h107, h108, h109, h110, h111⟩, hQ, hM⟩
      refine z_invV F (rest := []) (r_has l T Q M hV hg 33 4 (by decide) (by decide)) yv_X6_87 ⟨Nat.le_of_ble_eq_true rfl, Nat.le_of_ble_eq_true rfl⟩ hw hA hS hl h100 rfl rfl rfl (Nat.le_of_ble_eq_true rfl) dX6_mobileMoves_168 ⟨Nat.le_of_ble_eq_true rfl, Nat.le_of_ble_eq_true rfl⟩ (fun r ad1 ce12 H locs hp hw hS => ?_)
      obtain ⟨hp, rfl, rfl⟩ := hp
      rcases hp with ⟨hs, rfl⟩ | ⟨hs, rfl⟩
      · refine W.eq (g2 := F0 m 171 ls [.int 1]) rfl ?_
        refine lv_if_ne (tgt := 176) hx hb dX6_mobileMoves_171 (by decide) (fun c171 => ?_) (fun c171 => absurd c171 (by decide))
        refine lv_aload_n hx hb dX6_mobileMoves_176 rfl (lv_at hl 1 rfl) ?_
        refine lv_iconst (v := 0) hx hb dX6_mobileMoves_177 (by decide) ?_
        refine lv_iconst (v := 5) hx hb dX6_mobileMoves_178 (by decide) ?_
        refine lv_bipush (v := 20) hx hb dX6_mobileMoves_179 (by decide) ?_
        refine lv_bipush (v := 34) hx hb dX6_mobileMoves_181 (by decide) ?_
        refine lv_iconst (v := 4) hx hb dX6_mobileMoves_183 (by decide) ?_
        refine lv_aload_n hx hb dX6_mobileMoves_184 rfl (lv_at hl 1 rfl) ?_
        refine lv_bipush (v := 33) hx hb dX6_mobileMoves_185 (by decide) ?_
        have hV : rfV G ad ce T Q M := ⟨_, _, _, _, ⟨h100, h101, h102, h103, h104, h105, h106, h107, h108, h109, h110, h111⟩, hQ, hM⟩
        refine z_invV F (rest := [.int 4, .int 34, .int 20, .int 5, .int 0, .ref (ad 100)]) (r_number l T Q M hV hg 33 4 (by decide) hs) yv_X6_95 ⟨Nat.le_of_ble_eq_true rfl, Nat.le_of_ble_eq_true rfl⟩ hw hA hS hl h100 rfl rfl rfl (Nat.le_of_ble_eq_true rfl) dX6_mobileMoves_187 ⟨Nat.le_of_ble_eq_true rfl, Nat.le_of_ble_eq_true rfl⟩ (fun r ad1 ce13 H locs hp hw hS => ?_)
        obtain ⟨rfl, rfl, rfl⟩ := hp
        refine W.eq (g2 := F0 m 190 ls [.int (rf_val M 33), .int 4, .int 34, .int 20, .int 5, .int 0, .ref (ad 100)]) rfl ?_
        refine lv_aload_n hx hb dX6_mobileMoves_190 rfl (lv_at hl 1 rfl) ?_
        refine z_get F hw h100 fd_X6_51_X6 rfl dX6_mobileMoves_191 ?_
        refine z_invS F (rest := [.int 4, .int 34, .int 20, .int 5, .int 0, .ref (ad 100)]) (r_turned l (rf_val M 33) (T 0 0)) ys_X6_108 ⟨Nat.le_of_ble_eq_true rfl, Nat.le_of_ble_eq_true rfl⟩ hw hA hS hl rfl rfl (Nat.le_of_ble_eq_true rfl) dX6_mobileMoves_194 ⟨Nat.le_of_ble_eq_true rfl, Nat.le_of_ble_eq_true rfl⟩ (fun r ad1 ce14 H locs hp hw hS => ?_)
        obtain ⟨rfl, rfl, rfl⟩ := hp
        refine W.eq (g2 := F0 m 197 ls [.int (rf_turned (rf_val M 33) (T 0 0)), .int 4, .int 34, .int 20, .int 5, .int 0, .ref (ad 100)]) rfl ?_
        have hV : rfV G ad ce T Q M := ⟨_, _, _, _, ⟨h100, h101, h102, h103, h104, h105, h106, h107, h108, h109, h110, h111⟩, hQ, hM⟩
        refine z_invV F (rest := []) (r_tell0_4 l T Q M hV 5 20 34 (by decide) (by decide) (by decide) (rf_turned (rf_val M 33) (T 0 0))) yv_X6_112 ⟨Nat.le_of_ble_eq_true rfl, Nat.le_of_ble_eq_true rfl⟩ hw hA hS hl h100 rfl rfl rfl (Nat.le_of_ble_eq_true rfl) dX6_mobileMoves_197 ⟨Nat.le_of_ble_eq_true rfl, Nat.le_of_ble_eq_true rfl⟩ (fun r ad1 ce15 H locs hp hw hS => ?_)
        obtain ⟨rfl, rfl, hV, hF2⟩ := hp
        have hF : ∀ j, j < 100 → ce15 j = ce j := fun j hj => (hF2 j hj).trans (hF j hj)
        obtain ⟨cn, zs, bs, hh, ⟨h100, h101, h102, h103, h104, h105, h106, h107, h108, h109, h110, h111⟩, hQ, hM⟩ := hV
        refine W.eq (g2 := F0 m 200 ls []) rfl ?_
        refine lv_iconst (v := 1) hx hb dX6_mobileMoves_200 (by decide) ?_
        exact z_iret F (rfl) hw hS (by unfold sp_mobileMoves; rw [if_neg h8_2, if_neg h8_4, if_neg h8_17, if_pos h8_18, if_pos c156, if_pos hs]; exact ⟨rfl, rfl, ⟨_, _, _, _, ⟨h100, h101, h102, h103, h104, h105, h106, h107, h108, h109, h110, h111⟩, hQ, hM⟩, hF⟩) dX6_mobileMoves_201
      · refine W.eq (g2 := F0 m 171 ls [.int 0]) rfl ?_
        refine lv_if_ne (tgt := 176) hx hb dX6_mobileMoves_171 (by decide) (fun c171 => absurd c171 (by decide)) (fun c171 => ?_)
        refine lv_iconst (v := 0) hx hb dX6_mobileMoves_174 (by decide) ?_
        exact z_iret F (rfl) hw hS (by unfold sp_mobileMoves; rw [if_neg h8_2, if_neg h8_4, if_neg h8_17, if_pos h8_18, if_pos c156, if_neg hs]; exact ⟨rfl, rfl, ⟨_, _, _, _, ⟨h100, h101, h102, h103, h104, h105, h106, h107, h108, h109, h110, h111⟩, hQ, hM⟩, hF⟩) dX6_mobileMoves_175
    · refine lv_iload_n hx hb dX6_mobileMoves_159 rfl (lv_at hl 0 rfl) ?_
      refine lv_iconst (v := 4) hx hb dX6_mobileMoves_160 (by decide) ?_
      refine lv_icmp_ne (tgt := 174) hx hb dX6_mobileMoves_161 (by decide) (fun c161 => ?_) (fun c161 => ?_)
      · refine lv_iconst (v := 0) hx hb dX6_mobileMoves_174 (by decide) ?_
        exact z_iret F (rfl) hw hS (by unfold sp_mobileMoves; rw [if_neg h8_2, if_neg h8_4, if_neg h8_17, if_pos h8_18, if_neg c156, if_neg c161]; exact ⟨rfl, rfl, ⟨_, _, _, _, ⟨h100, h101, h102, h103, h104, h105, h106, h107, h108, h109, h110, h111⟩, hQ, hM⟩, hF⟩) dX6_mobileMoves_175
      · refine lv_aload_n hx hb dX6_mobileMoves_164 rfl (lv_at hl 1 rfl) ?_
        refine lv_bipush (v := 33) hx hb dX6_mobileMoves_165 (by decide) ?_
        refine lv_iconst (v := 4) hx hb dX6_mobileMoves_167 (by decide) ?_
        have hV : rfV G ad ce T Q M := ⟨_, _, _, _, ⟨h100, h101, h102, h103, h104, h105, h106, h107, h108, h109, h110, h111⟩, hQ, hM⟩
        refine z_invV F (rest := []) (r_has l T Q M hV hg 33 4 (by decide) (by decide)) yv_X6_87 ⟨Nat.le_of_ble_eq_true rfl, Nat.le_of_ble_eq_true rfl⟩ hw hA hS hl h100 rfl rfl rfl (Nat.le_of_ble_eq_true rfl) dX6_mobileMoves_168 ⟨Nat.le_of_ble_eq_true rfl, Nat.le_of_ble_eq_true rfl⟩ (fun r ad1 ce16 H locs hp hw hS => ?_)
        obtain ⟨hp, rfl, rfl⟩ := hp
        rcases hp with ⟨hs, rfl⟩ | ⟨hs, rfl⟩
        · refine W.eq (g2 := F0 m 171 ls [.int 1]) rfl ?_
          refine lv_if_ne (tgt := 176) hx hb dX6_mobileMoves_171 (by decide) (fun c171 => ?_) (fun c171 => absurd c171 (by decide))
          refine lv_aload_n hx hb dX6_mobileMoves_176 rfl (lv_at hl 1 rfl) ?_
          refine lv_iconst (v := 0) hx hb dX6_mobileMoves_177 (by decide) ?_
          refine lv_iconst (v := 5) hx hb dX6_mobileMoves_178 (by decide) ?_
          refine lv_bipush (v := 20) hx hb dX6_mobileMoves_179 (by decide) ?_
          refine lv_bipush (v := 34) hx hb dX6_mobileMoves_181 (by decide) ?_
          refine lv_iconst (v := 4) hx hb dX6_mobileMoves_183 (by decide) ?_
          refine lv_aload_n hx hb dX6_mobileMoves_184 rfl (lv_at hl 1 rfl) ?_
          refine lv_bipush (v := 33) hx hb dX6_mobileMoves_185 (by decide) ?_
          have hV : rfV G ad ce T Q M := ⟨_, _, _, _, ⟨h100, h101, h102, h103, h104, h105, h106, h107, h108, h109, h110, h111⟩, hQ, hM⟩
          refine z_invV F (rest := [.int 4, .int 34, .int 20, .int 5, .int 0, .ref (ad 100)]) (r_number l T Q M hV hg 33 4 (by decide) hs) yv_X6_95 ⟨Nat.le_of_ble_eq_true rfl, Nat.le_of_ble_eq_true rfl⟩ hw hA hS hl h100 rfl rfl rfl (Nat.le_of_ble_eq_true rfl) dX6_mobileMoves_187 ⟨Nat.le_of_ble_eq_true rfl, Nat.le_of_ble_eq_true rfl⟩ (fun r ad1 ce17 H locs hp hw hS => ?_)
          obtain ⟨rfl, rfl, rfl⟩ := hp
          refine W.eq (g2 := F0 m 190 ls [.int (rf_val M 33), .int 4, .int 34, .int 20, .int 5, .int 0, .ref (ad 100)]) rfl ?_
          refine lv_aload_n hx hb dX6_mobileMoves_190 rfl (lv_at hl 1 rfl) ?_
          refine z_get F hw h100 fd_X6_51_X6 rfl dX6_mobileMoves_191 ?_
          refine z_invS F (rest := [.int 4, .int 34, .int 20, .int 5, .int 0, .ref (ad 100)]) (r_turned l (rf_val M 33) (T 0 0)) ys_X6_108 ⟨Nat.le_of_ble_eq_true rfl, Nat.le_of_ble_eq_true rfl⟩ hw hA hS hl rfl rfl (Nat.le_of_ble_eq_true rfl) dX6_mobileMoves_194 ⟨Nat.le_of_ble_eq_true rfl, Nat.le_of_ble_eq_true rfl⟩ (fun r ad1 ce18 H locs hp hw hS => ?_)
          obtain ⟨rfl, rfl, rfl⟩ := hp
          refine W.eq (g2 := F0 m 197 ls [.int (rf_turned (rf_val M 33) (T 0 0)), .int 4, .int 34, .int 20, .int 5, .int 0, .ref (ad 100)]) rfl ?_
          have hV : rfV G ad ce T Q M := ⟨_, _, _, _, ⟨h100, h101, h102, h103, h104, h105, h106, h107, h108, h109, h110, h111⟩, hQ, hM⟩
          refine z_invV F (rest := []) (r_tell0_4 l T Q M hV 5 20 34 (by decide) (by decide) (by decide) (rf_turned (rf_val M 33) (T 0 0))) yv_X6_112 ⟨Nat.le_of_ble_eq_true rfl, Nat.le_of_ble_eq_true rfl⟩ hw hA hS hl h100 rfl rfl rfl (Nat.le_of_ble_eq_true rfl) dX6_mobileMoves_197 ⟨Nat.le_of_ble_eq_true rfl, Nat.le_of_ble_eq_true rfl⟩ (fun r ad1 ce19 H locs hp hw hS => ?_)
          obtain ⟨rfl, rfl, hV, hF2⟩ := hp
          have hF : ∀ j, j < 100 → ce19 j = ce j := fun j hj => (hF2 j hj).trans (hF j hj)
          obtain ⟨cn, zs, bs, hh, ⟨h100, h101, h102, h103, h104, h105, h106, h107, h108, h109, h110, h111⟩, hQ, hM⟩ := hV
          refine W.eq (g2 := F0 m 200 ls []) rfl ?_
          refine lv_iconst (v := 1) hx hb dX6_mobileMoves_200 (by decide) ?_
          exact z_iret F (rfl) hw hS (by unfold sp_mobileMoves; rw [if_neg h8_2, if_neg h8_4, if_neg h8_17, if_pos h8_18, if_neg c156, if_pos c161, if_pos hs]; exact ⟨rfl, rfl, ⟨_, _, _, _, ⟨h100, h101, h102, h103, h104, h105, h106, h107, h108, h109, h110, h111⟩, hQ, hM⟩, hF⟩) dX6_mobileMoves_201
        · refine W.eq (g2 := F0 m 171 ls [.int 0]) rfl ?_
          refine lv_if_ne (tgt := 176) hx hb dX6_mobileMoves_171 (by decide) (fun c171 => absurd c171 (by decide)) (fun c171 => ?_)
          refine lv_iconst (v := 0) hx hb dX6_mobileMoves_174 (by decide) ?_
          exact z_iret F (rfl) hw hS (by unfold sp_mobileMoves; rw [if_neg h8_2, if_neg h8_4, if_neg h8_17, if_pos h8_18, if_neg c156, if_pos c161, if_neg hs]; exact ⟨rfl, rfl, ⟨_, _, _, _, ⟨h100, h101, h102, h103, h104, h105, h106, h107, h108, h109, h110, h111⟩, hQ, hM⟩, hF⟩) dX6_mobileMoves_175
  by_cases h8_33 : ty = 33
  · refine lv_lookup (tgt := 218) (off := 210) hx hb dX6_mobileMoves_8 (by decide) (by rw [h8_33]; rfl) (by decide) ?_
    refine lv_iload_n hx hb dX6_mobileMoves_218 rfl (lv_at hl 0 rfl) ?_
    refine lv_iconst (v := 4) hx hb dX6_mobileMoves_219 (by decide) ?_
    refine lv_icmp_eq (tgt := 225) hx hb dX6_mobileMoves_220 (by decide) (fun c220 => ?_) (fun c220 => ?_)
    · refine lv_aload_n hx hb dX6_mobileMoves_225 rfl (lv_at hl 1 rfl) ?_
      have hV : rfV G ad ce T Q M := ⟨_, _, _, _, ⟨h100, h101, h102, h103, h104, h105, h106, h107, h108, h109, h110, h111⟩, hQ, hM⟩
      refine z_invV F (rest := []) (r_setUp l T Q M hV d hd (by exact hdc)) yv_X6_116 ⟨Nat.le_of_ble_eq_true rfl, Nat.le_of_ble_eq_true rfl⟩ hw hA hS hl h100 rfl rfl rfl (Nat.le_of_ble_eq_true rfl) dX6_mobileMoves_226 ⟨Nat.le_of_ble_eq_true rfl, Nat.le_of_ble_eq_true rfl⟩ (fun r ad1 ce20 H locs hp hw hS => ?_)
      obtain ⟨rfl, rfl, hV, hF2⟩ := hp
      have hF : ∀ j, j < 100 → ce20 j = ce j := fun j hj => (hF2 j hj).trans (hF j hj)
      obtain ⟨cn, zs, bs, hh, ⟨h100, h101, h102, h103, h104, h105, h106, h107, h108, h109, h110, h111⟩, hQ, hM⟩ := hV
      refine W.eq (g2 := F0 m 229 ls []) rfl ?_
      refine lv_aload_n hx hb dX6_mobileMoves_229 rfl (lv_at hl 1 rfl) ?_
      refine lv_iconst (v := 0) hx hb dX6_mobileMoves_230 (by decide) ?_
      refine lv_iconst (v := 5) hx hb dX6_mobileMoves_231 (by decide) ?_
      refine lv_iconst (v := 1) hx hb dX6_mobileMoves_232 (by decide) ?_
      refine lv_bipush (v := 30) hx hb dX6_mobileMoves_233 (by decide) ?_
      have hV : rfV G ad ce20 T (rf_put T Q 0 (rf_dg T d d)) M := ⟨_, _, _, _, ⟨h100, h101, h102, h103, h104, h105, h106, h107, h108, h109, h110, h111⟩, hQ, hM⟩
      refine z_invV F (rest := []) (r_become0 l T (rf_put T Q 0 (rf_dg T d d)) M hV 5 1 30) yv_X6_83 ⟨Nat.le_of_ble_eq_true rfl, Nat.le_of_ble_eq_true rfl⟩ hw hA hS hl h100 rfl rfl rfl (Nat.le_of_ble_eq_true rfl) dX6_mobileMoves_235 ⟨Nat.le_of_ble_eq_true rfl, Nat.le_of_ble_eq_true rfl⟩ (fun r ad1 ce21 H locs hp hw hS => ?_)
      obtain ⟨rfl, rfl, hV, hF2⟩ := hp
      have hF : ∀ j, j < 100 → ce21 j = ce j := fun j hj => (hF2 j hj).trans (hF j hj)
      obtain ⟨cn, zs, bs, hh, ⟨h100, h101, h102, h103, h104, h105, h106, h107, h108, h109, h110, h111⟩, hQ, hM⟩ := hV
      refine W.eq (g2 := F0 m 238 ls []) rfl ?_
      refine lv_iconst (v := 1) hx hb dX6_mobileMoves_238 (by decide) ?_
      exact z_iret F (rfl) hw hS (by unfold sp_mobileMoves; rw [if_neg h8_2, if_neg h8_4, if_neg h8_17, if_neg h8_18, if_pos h8_33, if_pos c220]; exact ⟨rfl, rfl, ⟨_, _, _, _, ⟨h100, h101, h102, h103, h104, h105, h106, h107, h108, h109, h110, h111⟩, hQ, hM⟩, hF⟩) dX6_mobileMoves_239
    · refine lv_iconst (v := 0) hx hb dX6_mobileMoves_223 (by decide) ?_
      exact z_iret F (rfl) hw hS (by unfold sp_mobileMoves; rw [if_neg h8_2, if_neg h8_4, if_neg h8_17, if_neg h8_18, if_pos h8_33, if_neg c220]; exact ⟨rfl, rfl, ⟨_, _, _, _, ⟨h100, h101, h102, h103, h104, h105, h106, h107, h108, h109, h110, h111⟩, hQ, hM⟩, hF⟩) dX6_mobileMoves_224
  by_cases h8_34 : ty = 34
  · refine lv_lookup (tgt := 240) (off := 232) hx hb dX6_mobileMoves_8 (by decide) (by rw [h8_34]; rfl) (by decide) ?_
    refine lv_iload_n hx hb dX6_mobileMoves_240 rfl (lv_at hl 0 rfl) ?_
    refine lv_iconst (v := 4) hx hb dX6_mobileMoves_241 (by decide) ?_
    refine lv_icmp_ne (tgt := 255) hx hb dX6_mobileMoves_242 (by decide) (fun c242 => ?_) (fun c242 => ?_)
    · refine lv_iconst (v := 0) hx hb dX6_mobileMoves_255 (by decide) ?_
      exact z_iret F (rfl) hw hS (by unfold sp_mobileMoves; rw [if_neg h8_2, if_neg h8_4, if_neg h8_17, if_neg h8_18, if_neg h8_33, if_pos h8_34, if_neg c242]; exact ⟨rfl, rfl, ⟨_, _, _, _, ⟨h100, h101, h102, h103, h104, h105, h106, h107, h108, h109, h110, h111⟩, hQ, hM⟩, hF⟩) dX6_mobileMoves_256
    · refine lv_aload_n hx hb dX6_mobileMoves_245 rfl (lv_at hl 1 rfl) ?_
      refine lv_bipush (v := 8) hx hb dX6_mobileMoves_246 (by decide) ?_
      refine lv_iconst (v := 1) hx hb dX6_mobileMoves_248 (by decide) ?_
      have hV : rfV G ad ce T Q M := ⟨_, _, _, _, ⟨h100, h101, h102, h103, h104, h105, h106, h107, h108, h109, h110, h111⟩, hQ, hM⟩
      refine z_invV F (rest := []) (r_has l T Q M hV hg 8 1 (by decide) (by decide)) yv_X6_87 ⟨Nat.le_of_ble_eq_true rfl, Nat.le_of_ble_eq_true rfl⟩ hw hA hS hl h100 rfl rfl rfl (Nat.le_of_ble_eq_true rfl) dX6_mobileMoves_249 ⟨Nat.le_of_ble_eq_true rfl, Nat.le_of_ble_eq_true rfl⟩ (fun r ad1 ce22 H locs hp hw hS => ?_)
      obtain ⟨hp, rfl, rfl⟩ := hp
      rcases hp with ⟨hs, rfl⟩ | ⟨hs, rfl⟩
      · refine W.eq (g2 := F0 m 252 ls [.int 1]) rfl ?_
        refine lv_if_ne (tgt := 257) hx hb dX6_mobileMoves_252 (by decide) (fun c252 => ?_) (fun c252 => absurd c252 (by decide))
        refine lv_aload_n hx hb dX6_mobileMoves_257 rfl (lv_at hl 1 rfl) ?_
        refine z_get F hw h100 fd_X6_36_X6 rfl dX6_mobileMoves_258 ?_
        refine lv_iconst (v := 0) hx hb dX6_mobileMoves_261 (by decide) ?_
        refine lv_aload_n hx hb dX6_mobileMoves_262 rfl (lv_at hl 1 rfl) ?_
        refine lv_bipush (v := 8) hx hb dX6_mobileMoves_263 (by decide) ?_
        have hV : rfV G ad ce T Q M := ⟨_, _, _, _, ⟨h100, h101, h102, h103, h104, h105, h106, h107, h108, h109, h110, h111⟩, hQ, hM⟩
        refine z_invV F (rest := [.int 0, .ref (ad 108)]) (r_number l T Q M hV hg 8 1 (by decide) hs) yv_X6_95 ⟨Nat.le_of_ble_eq_true rfl, Nat.le_of_ble_eq_true rfl⟩ hw hA hS hl h100 rfl rfl rfl (Nat.le_of_ble_eq_true rfl) dX6_mobileMoves_265 ⟨Nat.le_of_ble_eq_true rfl, Nat.le_of_ble_eq_true rfl⟩ (fun r ad1 ce23 H locs hp hw hS => ?_)
        obtain ⟨rfl, rfl, rfl⟩ := hp
        refine W.eq (g2 := F0 m 268 ls [.int (rf_val M 8), .int 0, .ref (ad 108)]) rfl ?_
        refine z_st F hw hS h108 (0) (rfl) (by decide) (by decide) dX6_mobileMoves_268 (fun ce24 H locs h108 fr25 hw hS => ?_)
        have h100 := (fr25 100 (by decide)).trans h100
        have h101 := (fr25 101 (by decide)).trans h101
        have h102 := (fr25 102 (by decide)).trans h102
        have h103 := (fr25 103 (by decide)).trans h103
        have h104 := (fr25 104 (by decide)).trans h104
        have h105 := (fr25 105 (by decide)).trans h105
        have h106 := (fr25 106 (by decide)).trans h106
        have h107 := (fr25 107 (by decide)).trans h107
        have h109 := (fr25 109 (by decide)).trans h109
        have h110 := (fr25 110 (by decide)).trans h110
        have h111 := (fr25 111 (by decide)).trans h111
        have hF : ∀ j, j < 100 → _ = ce j := fun j hj => (fr25 j (by omega)).trans (hF j hj)
        refine lv_aload_n hx hb dX6_mobileMoves_269 rfl (lv_at hl 1 rfl) ?_
        refine lv_iconst (v := 0) hx hb dX6_mobileMoves_270 (by decide) ?_
        refine lv_iconst (v := 3) hx hb dX6_mobileMoves_271 (by decide) ?_
        refine lv_iconst (v := 0) hx hb dX6_mobileMoves_272 (by decide) ?_
        refine lv_iconst (v := 0) hx hb dX6_mobileMoves_273 (by decide) ?_
        have hV : rfV G ad ce24 (va_up T 5 (upd (T 5) 0 (rf_val M 8))) Q M := ⟨_, _, _, _, ⟨h100, h101, h102, h103, h104, h105, h106, h107, h108, h109, h110, h111⟩, hQ, hM⟩
        refine z_invV F (rest := []) (r_become0 l (va_up T 5 (upd (T 5) 0 (rf_val M 8))) Q M hV 3 0 0) yv_X6_83 ⟨Nat.le_of_ble_eq_true rfl, Nat.le_of_ble_eq_true rfl⟩ hw hA hS hl h100 rfl rfl rfl (Nat.le_of_ble_eq_true rfl) dX6_mobileMoves_274 ⟨Nat.le_of_ble_eq_true rfl, Nat.le_of_ble_eq_true rfl⟩ (fun r ad1 ce26 H locs hp hw hS => ?_)
        obtain ⟨rfl, rfl, hV, hF2⟩ := hp
        have hF : ∀ j, j < 100 → ce26 j = ce j := fun j hj => (hF2 j hj).trans (hF j hj)
        obtain ⟨cn, zs, bs, hh, ⟨h100, h101, h102, h103, h104, h105, h106, h107, h108, h109, h110, h111⟩, hQ, hM⟩ := hV
        refine W.eq (g2 := F0 m 277 ls []) rfl ?_
        refine lv_iconst (v := 1) hx hb dX6_mobileMoves_277 (by decide) ?_
        exact z_iret F (rfl) hw hS (by unfold sp_mobileMoves; rw [if_neg h8_2, if_neg h8_4, if_neg h8_17, if_neg h8_18, if_neg h8_33, if_pos h8_34, if_pos c242, if_pos hs]; exact ⟨rfl, rfl, ⟨_, _, _, _, ⟨h100, h101, h102, h103, h104, h105, h106, h107, h108, h109, h110, h111⟩, hQ, hM⟩, hF⟩) dX6_mobileMoves_278
      · refine W.eq (g2 := F0 m 252 ls [.int 0]) rfl ?_
        refine lv_if_ne (tgt := 257) hx hb dX6_mobileMoves_252 (by decide) (fun c252 => absurd c252 (by decide)) (fun c252 => ?_)
        refine lv_iconst (v := 0) hx hb dX6_mobileMoves_255 (by decide) ?_
        exact z_iret F (rfl) hw hS (by unfold sp_mobileMoves; rw [if_neg h8_2, if_neg h8_4, if_neg h8_17, if_neg h8_18, if_neg h8_33, if_pos h8_34, if_pos c242, if_neg hs]; exact ⟨rfl, rfl, ⟨_, _, _, _, ⟨h100, h101, h102, h103, h104, h105, h106, h107, h108, h109, h110, h111⟩, hQ, hM⟩, hF⟩) dX6_mobileMoves_256
  refine lv_lookup (tgt := 279) (off := 271) hx hb dX6_mobileMoves_8 (by decide) ((lv_osw (k := 2) (fun q => h8_2 (rf_ei hty (by decide) q)) rfl).trans ((lv_osw (k := 4) (fun q => h8_4 (rf_ei hty (by decide) q)) rfl).trans ((lv_osw (k := 17) (fun q => h8_17 (rf_ei hty (by decide) q)) rfl).trans ((lv_osw (k := 18) (fun q => h8_18 (rf_ei hty (by decide) q)) rfl).trans ((lv_osw (k := 33) (fun q => h8_33 (rf_ei hty (by decide) q)) rfl).trans ((lv_osw (k := 34) (fun q => h8_34 (rf_ei hty (by decide) q)) rfl).trans (rfl))))))) (by decide) ?_
  refine lv_iconst (v := 0) hx hb dX6_mobileMoves_279 (by decide) ?_
  exact z_iret F (rfl) hw hS (by unfold sp_mobileMoves; rw [if_neg h8_2, if_neg h8_4, if_neg h8_17, if_neg h8_18, if_neg h8_33, if_neg h8_34]; exact ⟨rfl, rfl, ⟨_, _, _, _, ⟨h100, h101, h102, h103, h104, h105, h106, h107, h108, h109, h110, h111⟩, hQ, hM⟩, hF⟩) dX6_mobileMoves_280
def sp_mobileCalls (T : rf_T) (Q : rf_Q) (M : List Nat) (ty : Nat) : rf_R := (if (((T 1) 0) : Int32) = 5 then (if ((nI ty) : Int32) = 2 then (if rf_inC T 0 1 1 then (1, (rf_become T 0 5 2 0), Q) else (if ((nI ty) : Int32) = 1 then (if rf_inC T 0 1 2 then (1, (rf_become T 0 5 3 0), Q) else (if ((nI ty) : Int32) = 7 then (if rf_inC T 0 1 3 then (1, (rf_become T 0 5 4 0), rf_put T Q 0 [3, 15]) else (((sp_closes T Q M 0 ty).1), ((sp_closes T Q M 0 ty).2.1), (sp_closes T Q M 0 ty).2.2)) else (((sp_closes T Q M 0 ty).1), ((sp_closes T Q M 0 ty).2.1), (sp_closes T Q M 0 ty).2.2))) else (if ((nI ty) : Int32) = 7 then (if rf_inC T 0 1 3 then (1, (rf_become T 0 5 4 0), rf_put T Q 0 [3, 15]) else (((sp_closes T Q M 0 ty).1), ((sp_closes T Q M 0 ty).2.1), (sp_closes T Q M 0 ty).2.2)) else (((sp_closes T Q M 0 ty).1), ((sp_closes T Q M 0 ty).2.1), (sp_closes T Q M 0 ty).2.2)))) else (if ((nI ty) : Int32) = 1 then (if rf_inC T 0 1 2 then (1, (rf_become T 0 5 3 0), Q) else (if ((nI ty) : Int32) = 7 then (if rf_inC T 0 1 3 then (1, (rf_become T 0 5 4 0), rf_put T Q 0 [3, 15]) else (((sp_closes T Q M 0 ty).1), ((sp_closes T Q M 0 ty).2.1), (sp_closes T Q M 0 ty).2.2)) else (((sp_closes T Q M 0 ty).1), ((sp_closes T Q M 0 ty).2.1), (sp_closes T Q M 0 ty).2.2))) else (if ((nI ty) : Int32) = 7 then (if rf_inC T 0 1 3 then (1, (rf_become T 0 5 4 0), rf_put T Q 0 [3, 15]) else (((sp_closes T Q M 0 ty).1), ((sp_closes T Q M 0 ty).2.1), (sp_closes T Q M 0 ty).2.2)) else (((sp_closes T Q M 0 ty).1), ((sp_closes T Q M 0 ty).2.1), (sp_closes T Q M 0 ty).2.2)))) else (0, T, Q))
theorem sp_mobileCalls_b (T : rf_T) (Q : rf_Q) (M : List Nat) (ty : Nat) : narrow .boolean (.int (sp_mobileCalls T Q M ty).1) = .int (sp_mobileCalls T Q M ty).1 := by unfold sp_mobileCalls; simp only [rf_if1]; (repeat' split) <;> first | rfl | exact sp_closes_b _ _ _ _ _
set_option maxHeartbeats 4000000 in
set_option maxRecDepth 100000 in
theorem r_mobileCalls (l : Launch) {G : zz_G} {ad : Nat → Nat} {ce : zz_C} {sz : Nat} (T : rf_T) (Q : rf_Q) (M : List Nat) (hV : rfV G ad ce T Q M) (hg : rf_good M) (ty : Nat) (hty : ty < 256) : zz_M l yX6_mobileCalls cX6_mobileCalls 3 (some .boolean) 3 69 0 0 G [.ref (ad 100), .int (nI ty)] ad ce sz (fun r ad1 ce1 => r = some (.int (sp_mobileCalls T Q M ty).1) ∧ ad = ad1 ∧ rfV G ad ce1 (sp_mobileCalls T Q M ty).2.1 (sp_mobileCalls T Q M ty).2.2 M ∧ (∀ j, j < 100 → ce1 j = ce j)) := by
  refine zz_enter (by decide) (Nat.le_of_ble_eq_true rfl) ?_
  intro p e s m below meth c ls F hl hw hS hA
  obtain ⟨hx, hb, hr, hml, hown, hts, hlocks, hK, hnm⟩ := id F
  have hl : lv_has ls 3 [(0, .ref (ad 100)), (1, .int (nI ty))] := hl
  obtain ⟨cn, zs, bs, hh, ⟨h100, h101, h102, h103, h104, h105, h106, h107, h108, h109, h110, h111⟩, hQ, hM⟩ := hV
  have hF : ∀ j, j < 100 → ce j = ce j := fun _ _ => rfl
  refine lv_aload_n hx hb dX6_mobileCalls_0 rfl (lv_at hl 0 rfl) ?_
  refine z_get F hw h100 fd_X6_23_X6 rfl dX6_mobileCalls_1 ?_
  refine lv_iconst (v := 0) hx hb dX6_mobileCalls_4 (by decide) ?_
  refine z_ld F hw h104 (0) (rfl) (by decide) (by decide) dX6_mobileCalls_5 ?_
  refine lv_iconst (v := 5) hx hb dX6_mobileCalls_6 (by decide) ?_
  refine lv_icmp_eq (tgt := 12) hx hb dX6_mobileCalls_7 (by decide) (fun c7 => ?_) (fun c7 => ?_)
  · refine lv_iload_n hx hb dX6_mobileCalls_12 rfl (lv_at hl 1 rfl) ?_
    refine lv_iconst (v := 2) hx hb dX6_mobileCalls_13 (by decide) ?_
    refine lv_icmp_ne (tgt := 37) hx hb dX6_mobileCalls_14 (by decide) (fun c14 => ?_) (fun c14 => ?_)
    · refine lv_iload_n hx hb dX6_mobileCalls_37 rfl (lv_at hl 1 rfl) ?_
      refine lv_iconst (v := 1) hx hb dX6_mobileCalls_38 (by decide) ?_
      refine lv_icmp_ne (tgt := 62) hx hb dX6_mobileCalls_39 (by decide) (fun c39 => ?_) (fun c39 => ?_)
      · refine lv_iload_n hx hb dX6_mobileCalls_62 rfl (lv_at hl 1 rfl) ?_
        refine lv_bipush (v := 7) hx hb dX6_mobileCalls_63 (by decide) ?_
        refine lv_icmp_ne (tgt := 97) hx hb dX6_mobileCalls_65 (by decide) (fun c65 => ?_) (fun c65 => ?_)
        · refine lv_aload_n hx hb dX6_mobileCalls_97 rfl (lv_at hl 0 rfl) ?_
          refine lv_iconst (v := 0) hx hb dX6_mobileCalls_98 (by decide) ?_
          refine lv_iload_n hx hb dX6_mobileCalls_99 rfl (lv_at hl 1 rfl) ?_
          have hV : rfV G ad ce T Q M := ⟨_, _, _, _, ⟨h100, h101, h102, h103, h104, h105, h106, h107, h108, h109, h110, h111⟩, hQ, hM⟩
          refine z_invV F (rest := []) (r_closes0 l T Q M hV hg ty hty) yv_X6_122 ⟨Nat.le_of_ble_eq_true rfl, Nat.le_of_ble_eq_true rfl⟩ hw hA hS hl h100 rfl rfl rfl (Nat.le_of_ble_eq_true rfl) dX6_mobileCalls_100 ⟨Nat.le_of_ble_eq_true rfl, Nat.le_of_ble_eq_true rfl⟩ (fun r ad1 ce1 H locs hp hw hS => ?_)
          obtain ⟨rfl, rfl, hV, hF2⟩ := hp
          have hF : ∀ j, j < 100 → ce1 j = ce j := fun j hj => (hF2 j hj).trans (hF j hj)
          obtain ⟨cn, zs, bs, hh, ⟨h100, h101, h102, h103, h104, h105, h106, h107, h108, h109, h110, h111⟩, hQ, hM⟩ := hV
          refine W.eq (g2 := F0 m 103 ls [.int ((sp_closes T Q M 0 ty).1)]) rfl ?_
          exact z_iret F (sp_closes_b _ _ _ _ _) hw hS (by unfold sp_mobileCalls; rw [if_pos c7, if_neg c14, if_neg c39, if_neg c65]; exact ⟨rfl, rfl, ⟨_, _, _, _, ⟨h100, h101, h102, h103, h104, h105, h106, h107, h108, h109, h110, h111⟩, hQ, hM⟩, hF⟩) dX6_mobileCalls_103
        · refine lv_aload_n hx hb dX6_mobileCalls_68 rfl (lv_at hl 0 rfl) ?_
          refine lv_iconst (v := 0) hx hb dX6_mobileCalls_69 (by decide) ?_
          refine lv_iconst (v := 1) hx hb dX6_mobileCalls_70 (by decide) ?_
          refine lv_iconst (v := 3) hx hb dX6_mobileCalls_71 (by decide) ?_
          have hV : rfV G ad ce T Q M := ⟨_, _, _, _, ⟨h100, h101, h102, h103, h104, h105, h106, h107, h108, h109, h110, h111⟩, hQ, hM⟩
          refine z_invV F (rest := []) (r_isCall0 l T Q M hV 1 3) yv_X6_91 ⟨Nat.le_of_ble_eq_true rfl, Nat.le_of_ble_eq_true rfl⟩ hw hA hS hl h100 rfl rfl rfl (Nat.le_of_ble_eq_true rfl) dX6_mobileCalls_72 ⟨Nat.le_of_ble_eq_true rfl, Nat.le_of_ble_eq_true rfl⟩ (fun r ad1 ce2 H locs hp hw hS => ?_)
          obtain ⟨hp, rfl, rfl⟩ := hp
          rcases hp with ⟨hc72, rfl⟩ | ⟨hc72, rfl⟩
          · refine W.eq (g2 := F0 m 75 ls [.int 1]) rfl ?_
            refine lv_if_eq (tgt := 97) hx hb dX6_mobileCalls_75 (by decide) (fun c75 => absurd c75 (by decide)) (fun c75 => ?_)
            refine lv_aload_n hx hb dX6_mobileCalls_78 rfl (lv_at hl 0 rfl) ?_
            refine lv_iconst (v := 0) hx hb dX6_mobileCalls_79 (by decide) ?_
            refine lv_iconst (v := 3) hx hb dX6_mobileCalls_80 (by decide) ?_
            refine lv_bipush (v := 15) hx hb dX6_mobileCalls_81 (by decide) ?_
            have hV : rfV G ad ce T Q M := ⟨_, _, _, _, ⟨h100, h101, h102, h103, h104, h105, h106, h107, h108, h109, h110, h111⟩, hQ, hM⟩
            refine z_invV F (rest := []) (r_put0 l T Q M hV 3 15 (by decide) (by decide)) yv_X6_64 ⟨Nat.le_of_ble_eq_true rfl, Nat.le_of_ble_eq_true rfl⟩ hw hA hS hl h100 rfl rfl rfl (Nat.le_of_ble_eq_true rfl) dX6_mobileCalls_83 ⟨Nat.le_of_ble_eq_true rfl, Nat.le_of_ble_eq_true rfl⟩ (fun r ad1 ce3 H locs hp hw hS => ?_)
            obtain ⟨rfl, rfl, hV, hF2⟩ := hp
            have hF : ∀ j, j < 100 → ce3 j = ce j := fun j hj => (hF2 j hj).trans (hF j hj)
            obtain ⟨cn, zs, bs, hh, ⟨h100, h101, h102, h103, h104, h105, h106, h107, h108, h109, h110, h111⟩, hQ, hM⟩ := hV
            refine W.eq (g2 := F0 m 86 ls [.int (rf_hd T Q 0)]) rfl ?_
            refine lv_istore_n (lv' := [(2, .int (rf_hd T Q 0)), (0, .ref (ad 100)), (1, .int (nI ty))]) hx hb dX6_mobileCalls_86 rfl hl (by decide) rfl (fun ls hl => ?_)
            refine lv_aload_n hx hb dX6_mobileCalls_87 rfl (lv_at hl 1 rfl) ?_
            refine lv_iconst (v := 0) hx hb dX6_mobileCalls_88 (by decide) ?_
            refine lv_iconst (v := 5) hx hb dX6_mobileCalls_89 (by decide) ?_
            refine lv_iconst (v := 4) hx hb dX6_mobileCalls_90 (by decide) ?_
            refine lv_iconst (v := 0) hx hb dX6_mobileCalls_91 (by decide) ?_
            have hV : rfV G ad ce3 T (rf_put T Q 0 [3, 15]) M := ⟨_, _, _, _, ⟨h100, h101, h102, h103, h104, h105, h106, h107, h108, h109, h110, h111⟩, hQ, hM⟩
            refine z_invV F (rest := []) (r_become0 l T (rf_put T Q 0 [3, 15]) M hV 5 4 0) yv_X6_83 ⟨Nat.le_of_ble_eq_true rfl, Nat.le_of_ble_eq_true rfl⟩ hw hA hS hl h100 rfl rfl rfl (Nat.le_of_ble_eq_true rfl) dX6_mobileCalls_92 ⟨Nat.le_of_ble_eq_true rfl, Nat.le_of_ble_eq_true rfl⟩ (fun r ad1 ce4 H locs hp hw hS => ?_)
            obtain ⟨rfl, rfl, hV, hF2⟩ := hp
            have hF : ∀ j, j < 100 → ce4 j = ce j := fun j hj => (hF2 j hj).trans (hF j hj)
            obtain ⟨cn, zs, bs, hh, ⟨h100, h101, h102, h103, h104, h105, h106, h107, h108, h109, h110, h111⟩, hQ, hM⟩ := hV
            refine W.eq (g2 := F0 m 95 ls []) rfl ?_
            refine lv_iconst (v := 1) hx hb dX6_mobileCalls_95 (by decide) ?_
            exact z_iret F (rfl) hw hS (by unfold sp_mobileCalls; rw [if_pos c7, if_neg c14, if_neg c39, if_pos c65, if_pos hc72]; exact ⟨rfl, rfl, ⟨_, _, _, _, ⟨h100, h101, h102, h103, h104, h105, h106, h107, h108, h109, h110, h111⟩, hQ, hM⟩, hF⟩) dX6_mobileCalls_96
          · refine W.eq (g2 := F0 m 75 ls [.int 0]) rfl ?_
            refine lv_if_eq (tgt := 97) hx hb dX6_mobileCalls_75 (by decide) (fun c75 => ?_) (fun c75 => absurd c75 (by decide))
            refine lv_aload_n hx hb dX6_mobileCalls_97 rfl (lv_at hl 0 rfl) ?_
            refine lv_iconst (v := 0) hx hb dX6_mobileCalls_98 (by decide) ?_
            refine lv_iload_n hx hb dX6_mobileCalls_99 rfl (lv_at hl 1 rfl) ?_
            have hV : rfV G ad ce T Q M := ⟨_, _, _, _, ⟨h100, h101, h102, h103, h104, h105, h106, h107, h108, h109, h110, h111⟩, hQ, hM⟩
            refine z_invV F (rest := []) (r_closes0 l T Q M hV hg ty hty) yv_X6_122 ⟨Nat.le_of_ble_eq_true rfl, Nat.le_of_ble_eq_true rfl⟩ hw hA hS hl h100 rfl rfl rfl (Nat.le_of_ble_eq_true rfl) dX6_mobileCalls_100 ⟨Nat.le_of_ble_eq_true rfl, Nat.le_of_ble_eq_true rfl⟩ (fun r ad1 ce5 H locs hp hw hS => ?_)
            obtain ⟨rfl, rfl, hV, hF2⟩ := hp
            have hF : ∀ j, j < 100 → ce5 j = ce j := fun j hj => (hF2 j hj).trans (hF j hj)
            obtain ⟨cn, zs, bs, hh, ⟨h100, h101, h102, h103, h104, h105, h106, h107, h108, h109, h110, h111⟩, hQ, hM⟩ := hV
            refine W.eq (g2 := F0 m 103 ls [.int ((sp_closes T Q M 0 ty).1)]) rfl ?_
            exact z_iret F (sp_closes_b _ _ _ _ _) hw hS (by unfold sp_mobileCalls; rw [if_pos c7, if_neg c14, if_neg c39, if_pos c65, if_neg hc72]; exact ⟨rfl, rfl, ⟨_, _, _, _, ⟨h100, h101, h102, h103, h104, h105, h106, h107, h108, h109, h110, h111⟩, hQ, hM⟩, hF⟩) dX6_mobileCalls_103
      · refine lv_aload_n hx hb dX6_mobileCalls_42 rfl (lv_at hl 0 rfl) ?_
        refine lv_iconst (v := 0) hx hb dX6_mobileCalls_43 (by decide) ?_
        refine lv_iconst (v := 1) hx hb dX6_mobileCalls_44 (by decide) ?_
        refine lv_iconst (v := 2) hx hb dX6_mobileCalls_45 (by decide) ?_
        have hV : rfV G ad ce T Q M := ⟨_, _, _, _, ⟨h100, h101, h102, h103, h104, h105, h106, h107, h108, h109, h110, h111⟩, hQ, hM⟩
        refine z_invV F (rest := []) (r_isCall0 l T Q M hV 1 2) yv_X6_91 ⟨Nat.le_of_ble_eq_true rfl, Nat.le_of_ble_eq_true rfl⟩ hw hA hS hl h100 rfl rfl rfl (Nat.le_of_ble_eq_true rfl) dX6_mobileCalls_46 ⟨Nat.le_of_ble_eq_true rfl, Nat.le_of_ble_eq_true rfl⟩ (fun r ad1 ce6 H locs hp hw hS => ?_)
        obtain ⟨hp, rfl, rfl⟩ := hp
        rcases hp with ⟨hc46, rfl⟩ | ⟨hc46, rfl⟩
        · refine W.eq (g2 := F0 m 49 ls [.int 1]) rfl ?_
          refine lv_if_eq (tgt := 62) hx hb dX6_mobileCalls_49 (by decide) (fun c49 => absurd c49 (by decide)) (fun c49 => ?_)
          refine lv_aload_n hx hb dX6_mobileCalls_52 rfl (lv_at hl 0 rfl) ?_
          refine lv_iconst (v := 0) hx hb dX6_mobileCalls_53 (by decide) ?_
          refine lv_iconst (v := 5) hx hb dX6_mobileCalls_54 (by decide) ?_
          refine lv_iconst (v := 3) hx hb dX6_mobileCalls_55 (by decide) ?_
          refine lv_iconst (v := 0) hx hb dX6_mobileCalls_56 (by decide) ?_
          have hV : rfV G ad ce T Q M := ⟨_, _, _, _, ⟨h100, h101, h102, h103, h104, h105, h106, h107, h108, h109, h110, h111⟩, hQ, hM⟩
          refine z_invV F (rest := []) (r_become0 l T Q M hV 5 3 0) yv_X6_83 ⟨Nat.le_of_ble_eq_true rfl, Nat.le_of_ble_eq_true rfl⟩ hw hA hS hl h100 rfl rfl rfl (Nat.le_of_ble_eq_true rfl) dX6_mobileCalls_57 ⟨Nat.le_of_ble_eq_true rfl, Nat.le_of_ble_eq_true rfl⟩ (fun r ad1 ce7 H locs hp hw hS => ?_)
          obtain ⟨rfl, rfl, hV, hF2⟩ := hp
          have hF : ∀ j, j < 100 → ce7 j = ce j := fun j hj => (hF2 j hj).trans (hF j hj)
          obtain ⟨cn, zs, bs, hh, ⟨h100, h101, h102, h103, h104, h105, h106, h107, h108, h109, h110, h111⟩, hQ, hM⟩ := hV
          refine W.eq (g2 := F0 m 60 ls []) rfl ?_
          refine lv_iconst (v := 1) hx hb dX6_mobileCalls_60 (by decide) ?_
          exact z_iret F (rfl) hw hS (by unfold sp_mobileCalls; rw [if_pos c7, if_neg c14, if_pos c39, if_pos hc46]; exact ⟨rfl, rfl, ⟨_, _, _, _, ⟨h100, h101, h102, h103, h104, h105, h106, h107, h108, h109, h110, h111⟩, hQ, hM⟩, hF⟩) dX6_mobileCalls_61
        · refine W.eq (g2 := F0 m 49 ls [.int 0]) rfl ?_
          refine lv_if_eq (tgt := 62) hx hb dX6_mobileCalls_49 (by decide) (fun c49 => ?_) (fun c49 => absurd c49 (by decide))
          refine lv_iload_n hx hb dX6_mobileCalls_62 rfl (lv_at hl 1 rfl) ?_
          refine lv_bipush (v := 7) hx hb dX6_mobileCalls_63 (by decide) ?_
          refine lv_icmp_ne (tgt := 97) hx hb dX6_mobileCalls_65 (by decide) (fun c65 => ?_) (fun c65 => ?_)
          · refine lv_aload_n hx hb dX6_mobileCalls_97 rfl (lv_at hl 0 rfl) ?_
            refine lv_iconst (v := 0) hx hb dX6_mobileCalls_98 (by decide) ?_
            refine lv_iload_n hx hb dX6_mobileCalls_99 rfl (lv_at hl 1 rfl) ?_
            have hV : rfV G ad ce T Q M := ⟨_, _, _, _, ⟨h100, h101, h102, h103, h104, h105, h106, h107, h108, h109, h110, h111⟩, hQ, hM⟩
            refine z_invV F (rest := []) (r_closes0 l T Q M hV hg ty hty) yv_X6_122 ⟨Nat.le_of_ble_eq_true rfl, Nat.le_of_ble_eq_true rfl⟩ hw hA hS hl h100 rfl rfl rfl (Nat.le_of_ble_eq_true rfl) dX6_mobileCalls_100 ⟨Nat.le_of_ble_eq_true rfl, Nat.le_of_ble_eq_true rfl⟩ (fun r ad1 ce8 H locs hp hw hS => ?_)
            obtain ⟨rfl, rfl, hV, hF2⟩ := hp
            have hF : ∀ j, j < 100 → ce8 j = ce j := fun j hj => (hF2 j hj).trans (hF j hj)
            obtain ⟨cn, zs, bs, hh, ⟨h100, h101, h102, h103, h104, h105, h106, h107, h108, h109, h110, h111⟩, hQ, hM⟩ := hV
            refine W.eq (g2 := F0 m 103 ls [.int ((sp_closes T Q M 0 ty).1)]) rfl ?_
            exact z_iret F (sp_closes_b _ _ _ _ _) hw hS (by unfold sp_mobileCalls; rw [if_pos c7, if_neg c14, if_pos c39, if_neg hc46, if_neg c65]; exact ⟨rfl, rfl, ⟨_, _, _, _, ⟨h100, h101, h102, h103, h104, h105, h106, h107, h108, h109, h110, h111⟩, hQ, hM⟩, hF⟩) dX6_mobileCalls_103
          · refine lv_aload_n hx hb dX6_mobileCalls_68 rfl (lv_at hl 0 rfl) ?_
            refine lv_iconst (v := 0) hx hb dX6_mobileCalls_69 (by decide) ?_
            refine lv_iconst (v := 1) hx hb dX6_mobileCalls_70 (by decide) ?_
            refine lv_iconst (v := 3) hx hb dX6_mobileCalls_71 (by decide) ?_
            have hV : rfV G ad ce T Q M := ⟨_, _, _, _, ⟨h100, h101, h102, h103, h104, h105, h106, h107, h108, h109, h110, h111⟩, hQ, hM⟩
            refine z_invV F (rest := []) (r_isCall0 l T Q M hV 1 3) yv_X6_91 ⟨Nat.le_of_ble_eq_true rfl, Nat.le_of_ble_eq_true rfl⟩ hw hA hS hl h100 rfl rfl rfl (Nat.le_of_ble_eq_true rfl) dX6_mobileCalls_72 ⟨Nat.le_of_ble_eq_true rfl, Nat.le_of_ble_eq_true rfl⟩ (fun r ad1 ce9 H locs hp hw hS => ?_)
            obtain ⟨hp, rfl, rfl⟩ := hp
            rcases hp with ⟨hc72, rfl⟩ | ⟨hc72, rfl⟩
            · refine W.eq (g2 := F0 m 75 ls [.int 1]) rfl ?_
              refine lv_if_eq (tgt := 97) hx hb dX6_mobileCalls_75 (by decide) (fun c75 => absurd c75 (by decide)) (fun c75 => ?_)
              refine lv_aload_n hx hb dX6_mobileCalls_78 rfl (lv_at hl 0 rfl) ?_
              refine lv_iconst (v := 0) hx hb dX6_mobileCalls_79 (by decide) ?_
              refine lv_iconst (v := 3) hx hb dX6_mobileCalls_80 (by decide) ?_
              refine lv_bipush (v := 15) hx hb dX6_mobileCalls_81 (by decide) ?_
              have hV : rfV G ad ce T Q M := ⟨_, _, _, _, ⟨h100, h101, h102, h103, h104, h105, h106, h107, h108, h109, h110, h111⟩, hQ, hM⟩
              refine z_invV F (rest := []) (r_put0 l T Q M hV 3 15 (by decide) (by decide)) yv_X6_64 ⟨Nat.le_of_ble_eq_true rfl, Nat.le_of_ble_eq_true rfl⟩ hw hA hS hl h100 rfl rfl rfl (Nat.le_of_ble_eq_true rfl) dX6_mobileCalls_83 ⟨Nat.le_of_ble_eq_true rfl, Nat.le_of_ble_eq_true rfl⟩ (fun r ad1 ce10 H locs hp hw hS => ?_)
              obtain ⟨rfl, rfl, hV, hF2⟩ := hp
              have hF : ∀ j, j < 100 → ce10 j = ce j := fun j hj => (hF2 j hj).trans (hF j hj)
              obtain ⟨cn, zs, bs, hh, ⟨h100, h101, h102, h103, h104, h105, h106, h107, h108, h109, h110, h111⟩, hQ, hM⟩ := hV
              refine W.eq (g2 := F0 m 86 ls [.int (rf_hd T Q 0)]) rfl ?_
              refine lv_istore_n (lv' := [(2, .int (rf_hd T Q 0)), (0, .ref (ad 100)), (1, .int (nI ty))]) hx hb dX6_mobileCalls_86 rfl hl (by decide) rfl (fun ls hl => ?_)
              refine lv_aload_n hx hb dX6_mobileCalls_87 rfl (lv_at hl 1 rfl) ?_
              refine lv_iconst (v := 0) hx hb dX6_mobileCalls_88 (by decide) ?_
              refine lv_iconst (v := 5) hx hb dX6_mobileCalls_89 (by decide) ?_
              refine lv_iconst (v := 4) hx hb dX6_mobileCalls_90 (by decide) ?_
              refine lv_iconst (v := 0) hx hb dX6_mobileCalls_91 (by decide) ?_
              have hV : rfV G ad ce10 T (rf_put T Q 0 [3, 15]) M := ⟨_, _, _, _, ⟨h100, h101, h102, h103, h104, h105, h106, h107, h108, h109, h110, h111⟩, hQ, hM⟩
              refine z_invV F (rest := []) (r_become0 l T (rf_put T Q 0 [3, 15]) M hV 5 4 0) yv_X6_83 ⟨Nat.le_of_ble_eq_true rfl, Nat.le_of_ble_eq_true rfl⟩ hw hA hS hl h100 rfl rfl rfl (Nat.le_of_ble_eq_true rfl) dX6_mobileCalls_92 ⟨Nat.le_of_ble_eq_true rfl, Nat.le_of_ble_eq_true rfl⟩ (fun r ad1 ce11 H locs hp hw hS => ?_)
              obtain ⟨rfl, rfl, hV, hF2⟩ := hp
              have hF : ∀ j, j < 100 → ce11 j = ce j := fun j hj => (hF2 j hj).trans (hF j hj)
              obtain ⟨cn, zs, bs, hh, ⟨h100, h101, h102, h103, h104, h105, h106, h107, h108, h109, h110, h111⟩, hQ, hM⟩ := hV
              refine W.eq (g2 := F0 m 95 ls []) rfl ?_
              refine lv_iconst (v := 1) hx hb dX6_mobileCalls_95 (by decide) ?_
              exact z_iret F (rfl) hw hS (by unfold sp_mobileCalls; rw [if_pos c7, if_neg c14, if_pos c39, if_neg hc46, if_pos c65, if_pos hc72]; exact ⟨rfl, rfl, ⟨_, _, _, _, ⟨h100, h101, h102, h103, h104, h105, h106, h107, h108, h109, h110, h111⟩, hQ, hM⟩, hF⟩) dX6_mobileCalls_96
            · refine W.eq (g2 := F0 m 75 ls [.int 0]) rfl ?_
              refine lv_if_eq (tgt := 97) hx hb dX6_mobileCalls_75 (by decide) (fun c75 => ?_) (fun c75 => absurd c75 (by decide))
              refine lv_aload_n hx hb dX6_mobileCalls_97 rfl (lv_at hl 0 rfl) ?_
              refine lv_iconst (v := 0) hx hb dX6_mobileCalls_98 (by decide) ?_
              refine lv_iload_n hx hb dX6_mobileCalls_99 rfl (lv_at hl 1 rfl) ?_
              have hV : rfV G ad ce T Q M := ⟨_, _, _, _, ⟨h100, h101, h102, h103, h104, h105, h106, h107, h108, h109, h110, h111⟩, hQ, hM⟩
              refine z_invV F (rest := []) (r_closes0 l T Q M hV hg ty hty) yv_X6_122 ⟨Nat.le_of_ble_eq_true rfl, Nat.le_of_ble_eq_true rfl⟩ hw hA hS hl h100 rfl rfl rfl (Nat.le_of_ble_eq_true rfl) dX6_mobileCalls_100 ⟨Nat.le_of_ble_eq_true rfl, Nat.le_of_ble_eq_true rfl⟩ (fun r ad1 ce12 H locs hp hw hS => ?_)
              obtain ⟨rfl, rfl, hV, hF2⟩ := hp
              have hF : ∀ j, j < 100 → ce12 j = ce j := fun j hj => (hF2 j hj).trans (hF j hj)
              obtain ⟨cn, zs, bs, hh, ⟨h100, h101, h102, h103, h104, h105, h106, h107, h108, h109, h110, h111⟩, hQ, hM⟩ := hV
              refine W.eq (g2 := F0 m 103 ls [.int ((sp_closes T Q M 0 ty).1)]) rfl ?_
              exact z_iret F (sp_closes_b _ _ _ _ _) hw hS (by unfold sp_mobileCalls; rw [if_pos c7, if_neg c14, if_pos c39, if_neg hc46, if_pos c65, if_neg hc72]; exact ⟨rfl, rfl, ⟨_, _, _, _, ⟨h100, h101, h102, h103, h104, h105, h106, h107, h108, h109, h110, h111⟩, hQ, hM⟩, hF⟩) dX6_mobileCalls_103
    · refine lv_aload_n hx hb dX6_mobileCalls_17 rfl (lv_at hl 0 rfl) ?_
      refine lv_iconst (v := 0) hx hb dX6_mobileCalls_18 (by decide) ?_
      refine lv_iconst (v := 1) hx hb dX6_mobileCalls_19 (by decide) ?_
      refine lv_iconst (v := 1) hx hb dX6_mobileCalls_20 (by decide) ?_
      have hV : rfV G ad ce T Q M := ⟨_, _, _, _, ⟨h100, h101, h102, h103, h104, h105, h106, h107, h108, h109, h110, h111⟩, hQ, hM⟩
      refine z_invV F (rest := []) (r_isCall0 l T Q M hV 1 1) yv_X6_91 ⟨Nat.le_of_ble_eq_true rfl, Nat.le_of_ble_eq_true rfl⟩ hw hA hS hl h100 rfl rfl rfl (Nat.le_of_ble_eq_true rfl) dX6_mobileCalls_21 ⟨Nat.le_of_ble_eq_true rfl, Nat.le_of_ble_eq_true rfl⟩ (fun r ad1 ce13 H locs hp hw hS => ?_)
      obtain ⟨hp, rfl, rfl⟩ := hp
      rcases hp with ⟨hc21, rfl⟩ | ⟨hc21, rfl⟩
      · refine W.eq (g2 := F0 m 24 ls [.int 1]) rfl ?_
        refine lv_if_eq (tgt := 37) hx hb dX6_mobileCalls_24 (by decide) (fun c24 => absurd c24 (by decide)) (fun c24 => ?_)
        refine lv_aload_n hx hb dX6_mobileCalls_27 rfl (lv_at hl 0 rfl) ?_
        refine lv_iconst (v := 0) hx hb dX6_mobileCalls_28 (by decide) ?_
        refine lv_iconst (v := 5) hx hb dX6_mobileCalls_29 (by decide) ?_
        refine lv_iconst (v := 2) hx hb dX6_mobileCalls_30 (by decide) ?_
        refine lv_iconst (v := 0) hx hb dX6_mobileCalls_31 (by decide) ?_
        have hV : rfV G ad ce T Q M := ⟨_, _, _, _, ⟨h100, h101, h102, h103, h104, h105, h106, h107, h108, h109, h110, h111⟩, hQ, hM⟩
        refine z_invV F (rest := []) (r_become0 l T Q M hV 5 2 0) yv_X6_83 ⟨Nat.le_of_ble_eq_true rfl, Nat.le_of_ble_eq_true rfl⟩ hw hA hS hl h100 rfl rfl rfl (Nat.le_of_ble_eq_true rfl) dX6_mobileCalls_32 ⟨Nat.le_of_ble_eq_true rfl, Nat.le_of_ble_eq_true rfl⟩ (fun r ad1 ce14 H locs hp hw hS => ?_)
        obtain ⟨rfl, rfl, hV, hF2⟩ := hp
        have hF : ∀ j, j < 100 → ce14 j = ce j := fun j hj => (hF2 j hj).trans (hF j hj)
        obtain ⟨cn, zs, bs, hh, ⟨h100, h101, h102, h103, h104, h105, h106, h107, h108, h109, h110, h111⟩, hQ, hM⟩ := hV
        refine W.eq (g2 := F0 m 35 ls []) rfl ?_
        refine lv_iconst (v := 1) hx hb dX6_mobileCalls_35 (by decide) ?_
        exact z_iret F (rfl) hw hS (by unfold sp_mobileCalls; rw [if_pos c7, if_pos c14, if_pos hc21]; exact ⟨rfl, rfl, ⟨_, _, _, _, ⟨h100, h101, h102, h103, h104, h105, h106, h107, h108, h109, h110, h111⟩, hQ, hM⟩, hF⟩) dX6_mobileCalls_36
      · refine W.eq (g2 := F0 m 24 ls [.int 0]) rfl ?_
        refine lv_if_eq (tgt := 37) hx hb dX6_mobileCalls_24 (by decide) (fun c24 => ?_) (fun c24 => absurd c24 (by decide))
        refine lv_iload_n hx hb dX6_mobileCalls_37 rfl (lv_at hl 1 rfl) ?_
        refine lv_iconst (v := 1) hx hb dX6_mobileCalls_38 (by decide) ?_
        refine lv_icmp_ne (tgt := 62) hx hb dX6_mobileCalls_39 (by decide) (fun c39 => ?_) (fun c39 => ?_)
        · refine lv_iload_n hx hb dX6_mobileCalls_62 rfl (lv_at hl 1 rfl) ?_
          refine lv_bipush (v := 7) hx hb dX6_mobileCalls_63 (by decide) ?_
          refine lv_icmp_ne (tgt := 97) hx hb dX6_mobileCalls_65 (by decide) (fun c65 => ?_) (fun c65 => ?_)
          · refine lv_aload_n hx hb dX6_mobileCalls_97 rfl (lv_at hl 0 rfl) ?_
            refine lv_iconst (v := 0) hx hb dX6_mobileCalls_98 (by decide) ?_
            refine lv_iload_n hx hb dX6_mobileCalls_99 rfl (lv_at hl 1 rfl) ?_
            have hV : rfV G ad ce T Q M := ⟨_, _, _, _, ⟨h100, h101, h102, h103, h104, h105, h106, h107, h108, h109, h110, h111⟩, hQ, hM⟩
            refine z_invV F (rest := []) (r_closes0 l T Q M hV hg ty hty) yv_X6_122 ⟨Nat.le_of_ble_eq_true rfl, Nat.le_of_ble_eq_true rfl⟩ hw hA hS hl h100 rfl rfl rfl (Nat.le_of_ble_eq_true rfl) dX6_mobileCalls_100 ⟨Nat.le_of_ble_eq_true rfl, Nat.le_of_ble_eq_true rfl⟩ (fun r ad1 ce15 H locs hp hw hS => ?_)
            obtain ⟨rfl, rfl, hV, hF2⟩ := hp
            have hF : ∀ j, j < 100 → ce15 j = ce j := fun j hj => (hF2 j hj).trans (hF j hj)
            obtain ⟨cn, zs, bs, hh, ⟨h100, h101, h102, h103, h104, h105, h106, h107, h108, h109, h110, h111⟩, hQ, hM⟩ := hV
            refine W.eq (g2 := F0 m 103 ls [.int ((sp_closes T Q M 0 ty).1)]) rfl ?_
            exact z_iret F (sp_closes_b _ _ _ _ _) hw hS (by unfold sp_mobileCalls; rw [if_pos c7, if_pos c14, if_neg hc21, if_neg c39, if_neg c65]; exact ⟨rfl, rfl, ⟨_, _, _, _, ⟨h100, h101, h102, h103, h104, h105, h106, h107, h108, h109, h110, h111⟩, hQ, hM⟩, hF⟩) dX6_mobileCalls_103
          · refine lv_aload_n hx hb dX6_mobileCalls_68 rfl (lv_at hl 0 rfl) ?_
            refine lv_iconst (v := 0) hx hb dX6_mobileCalls_69 (by decide) ?_
            refine lv_iconst (v := 1) hx hb dX6_mobileCalls_70 (by decide) ?_
            refine lv_iconst (v := 3) hx hb dX6_mobileCalls_71 (by decide) ?_
            have hV : rfV G ad ce T Q M := ⟨_, _, _, _, ⟨h100, h101, h102, h103, h104, h105, h106, h107, h108, h109, h110, h111⟩, hQ, hM⟩
            refine z_invV F (rest := []) (r_isCall0 l T Q M hV 1 3) yv_X6_91 ⟨Nat.le_of_ble_eq_true rfl, Nat.le_of_ble_eq_true rfl⟩ hw hA hS hl h100 rfl rfl rfl (Nat.le_of_ble_eq_true rfl) dX6_mobileCalls_72 ⟨Nat.le_of_ble_eq_true rfl, Nat.le_of_ble_eq_true rfl⟩ (fun r ad1 ce16 H locs hp hw hS => ?_)
            obtain ⟨hp, rfl, rfl⟩ := hp
            rcases hp with ⟨hc72, rfl⟩ | ⟨hc72, rfl⟩
            · refine W.eq (g2 := F0 m 75 ls [.int 1]) rfl ?_
              refine lv_if_eq (tgt := 97) hx hb dX6_mobileCalls_75 (by decide) (fun c75 => absurd c75 (by decide)) (fun c75 => ?_)
              refine lv_aload_n hx hb dX6_mobileCalls_78 rfl (lv_at hl 0 rfl) ?_
              refine lv_iconst (v := 0) hx hb dX6_mobileCalls_79 (by decide) ?_
              refine lv_iconst (v := 3) hx hb dX6_mobileCalls_80 (by decide) ?_
              refine lv_bipush (v := 15) hx hb dX6_mobileCalls_81 (by decide) ?_
              have hV : rfV G ad ce T Q M := ⟨_, _, _, _, ⟨h100, h101, h102, h103, h104, h105, h106, h107, h108, h109, h110, h111⟩, hQ, hM⟩
              refine z_invV F (rest := []) (r_put0 l T Q M hV 3 15 (by decide) (by decide)) yv_X6_64 ⟨Nat.le_of_ble_eq_true rfl, Nat.le_of_ble_eq_true rfl⟩ hw hA hS hl h100 rfl rfl rfl (Nat.le_of_ble_eq_true rfl) dX6_mobileCalls_83 ⟨Nat.le_of_ble_eq_true rfl, Nat.le_of_ble_eq_true rfl⟩ (fun r ad1 ce17 H locs hp hw hS => ?_)
              obtain ⟨rfl, rfl, hV, hF2⟩ := hp
              have hF : ∀ j, j < 100 → ce17 j = ce j := fun j hj => (hF2 j hj).trans (hF j hj)
              obtain ⟨cn, zs, bs, hh, ⟨h100, h101, h102, h103, h104, h105, h106, h107, h108, h109, h110, h111⟩, hQ, hM⟩ := hV
              refine W.eq (g2 := F0 m 86 ls [.int (rf_hd T Q 0)]) rfl ?_
              refine lv_istore_n (lv' := [(2, .int (rf_hd T Q 0)), (0, .ref (ad 100)), (1, .int (nI ty))]) hx hb dX6_mobileCalls_86 rfl hl (by decide) rfl (fun ls hl => ?_)
              refine lv_aload_n hx hb dX6_mobileCalls_87 rfl (lv_at hl 1 rfl) ?_
              refine lv_iconst (v := 0) hx hb dX6_mobileCalls_88 (by decide) ?_
              refine lv_iconst (v := 5) hx hb dX6_mobileCalls_89 (by decide) ?_
              refine lv_iconst (v := 4) hx hb dX6_mobileCalls_90 (by decide) ?_
              refine lv_iconst (v := 0) hx hb dX6_mobileCalls_91 (by decide) ?_
              have hV : rfV G ad ce17 T (rf_put T Q 0 [3, 15]) M := ⟨_, _, _, _, ⟨h100, h101, h102, h103, h104, h105, h106, h107, h108, h109, h110, h111⟩, hQ, hM⟩
              refine z_invV F (rest := []) (r_become0 l T (rf_put T Q 0 [3, 15]) M hV 5 4 0) yv_X6_83 ⟨Nat.le_of_ble_eq_true rfl, Nat.le_of_ble_eq_true rfl⟩ hw hA hS hl h100 rfl rfl rfl (Nat.le_of_ble_eq_true rfl) dX6_mobileCalls_92 ⟨Nat.le_of_ble_eq_true rfl, Nat.le_of_ble_eq_true rfl⟩ (fun r ad1 ce18 H locs hp hw hS => ?_)
              obtain ⟨rfl, rfl, hV, hF2⟩ := hp
              have hF : ∀ j, j < 100 → ce18 j = ce j := fun j hj => (hF2 j hj).trans (hF j hj)
              obtain ⟨cn, zs, bs, hh, ⟨h100, h101, h102, h103, h104, h105, h106, h107, h108, h109, h110, h111⟩, hQ, hM⟩ := hV
              refine W.eq (g2 := F0 m 95 ls []) rfl ?_
              refine lv_iconst (v := 1) hx hb dX6_mobileCalls_95 (by decide) ?_
              exact z_iret F (rfl) hw hS (by unfold sp_mobileCalls; rw [if_pos c7, if_pos c14, if_neg hc21, if_neg c39, if_pos c65, if_pos hc72]; exact ⟨rfl, rfl, ⟨_, _, _, _, ⟨h100, h101, h102, h103, h104, h105, h106, h107, h108, h109, h110, h111⟩, hQ, hM⟩, hF⟩) dX6_mobileCalls_96
            · refine W.eq (g2 := F0 m 75 ls [.int 0]) rfl ?_
              refine lv_if_eq (tgt := 97) hx hb dX6_mobileCalls_75 (by decide) (fun c75 => ?_) (fun c75 => absurd c75 (by decide))
              refine lv_aload_n hx hb dX6_mobileCalls_97 rfl (lv_at hl 0 rfl) ?_
              refine lv_iconst (v := 0) hx hb dX6_mobileCalls_98 (by decide) ?_
              refine lv_iload_n hx hb dX6_mobileCalls_99 rfl (lv_at hl 1 rfl) ?_
              have hV : rfV G ad ce T Q M := ⟨_, _, _, _, ⟨h100, h101, h102, h103, h104, h105, h106, h107, h108, h109, h110, h111⟩, hQ, hM⟩
              refine z_invV F (rest := []) (r_closes0 l T Q M hV hg ty hty) yv_X6_122 ⟨Nat.le_of_ble_eq_true rfl, Nat.le_of_ble_eq_true rfl⟩ hw hA hS hl h100 rfl rfl rfl (Nat.le_of_ble_eq_true rfl) dX6_mobileCalls_100 ⟨Nat.le_of_ble_eq_true rfl, Nat.le_of_ble_eq_true rfl⟩ (fun r ad1 ce19 H locs hp hw hS => ?_)
              obtain ⟨rfl, rfl, hV, hF2⟩ := hp
              have hF : ∀ j, j < 100 → ce19 j = ce j := fun j hj => (hF2 j hj).trans (hF j hj)
              obtain ⟨cn, zs, bs, hh, ⟨h100, h101, h102, h103, h104, h105, h106, h107, h108, h109, h110, h111⟩, hQ, hM⟩ := hV
              refine W.eq (g2 := F0 m 103 ls [.int ((sp_closes T Q M 0 ty).1)]) rfl ?_
              exact z_iret F (sp_closes_b _ _ _ _ _) hw hS (by unfold sp_mobileCalls; rw [if_pos c7, if_pos c14, if_neg hc21, if_neg c39, if_pos c65, if_neg hc72]; exact ⟨rfl, rfl, ⟨_, _, _, _, ⟨h100, h101, h102, h103, h104, h105, h106, h107, h108, h109, h110, h111⟩, hQ, hM⟩, hF⟩) dX6_mobileCalls_103
        · refine lv_aload_n hx hb dX6_mobileCalls_42 rfl (lv_at hl 0 rfl) ?_
          refine lv_iconst (v := 0) hx hb dX6_mobileCalls_43 (by decide) ?_
          refine lv_iconst (v := 1) hx hb dX6_mobileCalls_44 (by decide) ?_
          refine lv_iconst (v := 2) hx hb dX6_mobileCalls_45 (by decide) ?_
          have hV : rfV G ad ce T Q M := ⟨_, _, _, _, ⟨h100, h101, h102, h103, h104, h105, h106, h107, h108, h109, h110, h111⟩, hQ, hM⟩
          refine z_invV F (rest := []) (r_isCall0 l T Q M hV 1 2) yv_X6_91 ⟨Nat.le_of_ble_eq_true rfl, Nat.le_of_ble_eq_true rfl⟩ hw hA hS hl h100 rfl rfl rfl (Nat.le_of_ble_eq_true rfl) dX6_mobileCalls_46 ⟨Nat.le_of_ble_eq_true rfl, Nat.le_of_ble_eq_true rfl⟩ (fun r ad1 ce20 H locs hp hw hS => ?_)
          obtain ⟨hp, rfl, rfl⟩ := hp
          rcases hp with ⟨hc46, rfl⟩ | ⟨hc46, rfl⟩
          · refine W.eq (g2 := F0 m 49 ls [.int 1]) rfl ?_
            refine lv_if_eq (tgt := 62) hx hb dX6_mobileCalls_49 (by decide) (fun c49 => absurd c49 (by decide)) (fun c49 => ?_)
            refine lv_aload_n hx hb dX6_mobileCalls_52 rfl (lv_at hl 0 rfl) ?_
            refine lv_iconst (v := 0) hx hb dX6_mobileCalls_53 (by decide) ?_
            refine lv_iconst (v := 5) hx hb dX6_mobileCalls_54 (by decide) ?_
            refine lv_iconst (v := 3) hx hb dX6_mobileCalls_55 (by decide) ?_
            refine lv_iconst (v := 0) hx hb dX6_mobileCalls_56 (by decide) ?_
            have hV : rfV G ad ce T Q M := ⟨_, _, _, _, ⟨h100, h101, h102, h103, h104, h105, h106, h107, h108, h109, h110, h111⟩, hQ, hM⟩
            refine z_invV F (rest := []) (r_become0 l T Q M hV 5 3 0) yv_X6_83 ⟨Nat.le_of_ble_eq_true rfl, Nat.le_of_ble_eq_true rfl⟩ hw hA hS hl h100 rfl rfl rfl (Nat.le_of_ble_eq_true rfl) dX6_mobileCalls_57 ⟨Nat.le_of_ble_eq_true rfl, Nat.le_of_ble_eq_true rfl⟩ (fun r ad1 ce21 H locs hp hw hS => ?_)
            obtain ⟨rfl, rfl, hV, hF2⟩ := hp
            have hF : ∀ j, j < 100 → ce21 j = ce j := fun j hj => (hF2 j hj).trans (hF j hj)
            obtain ⟨cn, zs, bs, hh, ⟨h100, h101, h102, h103, h104, h105, h106, h107, h108, h109, h110, h111⟩, hQ, hM⟩ := hV
            refine W.eq (g2 := F0 m 60 ls []) rfl ?_
            refine lv_iconst (v := 1) hx hb dX6_mobileCalls_60 (by decide) ?_
            exact z_iret F (rfl) hw hS (by unfold sp_mobileCalls; rw [if_pos c7, if_pos c14, if_neg hc21, if_pos c39, if_pos hc46]; exact ⟨rfl, rfl, ⟨_, _, _, _, ⟨h100, h101, h102, h103, h104, h105, h106, h107, h108, h109, h110, h111⟩, hQ, hM⟩, hF⟩) dX6_mobileCalls_61
          · refine W.eq (g2 := F0 m 49 ls [.int 0]) rfl ?_
            refine lv_if_eq (tgt := 62) hx hb dX6_mobileCalls_49 (by decide) (fun c49 => ?_) (fun c49 => absurd c49 (by decide))
            refine lv_iload_n hx hb dX6_mobileCalls_62 rfl (lv_at hl 1 rfl) ?_
            refine lv_bipush (v := 7) hx hb dX6_mobileCalls_63 (by decide) ?_
            refine lv_icmp_ne (tgt := 97) hx hb dX6_mobileCalls_65 (by decide) (fun c65 => ?_) (fun c65 => ?_)
            · refine lv_aload_n hx hb dX6_mobileCalls_97 rfl (lv_at hl 0 rfl) ?_
              refine lv_iconst (v := 0) hx hb dX6_mobileCalls_98 (by decide) ?_
              refine lv_iload_n hx hb dX6_mobileCalls_99 rfl (lv_at hl 1 rfl) ?_
              have hV : rfV G ad ce T Q M := ⟨_, _, _, _, ⟨h100, h101, h102, h103, h104, h105, h106, h107, h108, h109, h110, h111⟩, hQ, hM⟩
              refine z_invV F (rest := []) (r_closes0 l T Q M hV hg ty hty) yv_X6_122 ⟨Nat.le_of_ble_eq_true rfl, Nat.le_of_ble_eq_true rfl⟩ hw hA hS hl h100 rfl rfl rfl (Nat.le_of_ble_eq_true rfl) dX6_mobileCalls_100 ⟨Nat.le_of_ble_eq_true rfl, Nat.le_of_ble_eq_true rfl⟩ (fun r ad1 ce22 H locs hp hw hS => ?_)
              obtain ⟨rfl, rfl, hV, hF2⟩ := hp
              have hF : ∀ j, j < 100 → ce22 j = ce j := fun j hj => (hF2 j hj).trans (hF j hj)
              obtain ⟨cn, zs, bs, hh, ⟨h100, h101, h102, h103, h104, h105, h106, h107, h108, h109, h110, h111⟩, hQ, hM⟩ := hV
              refine W.eq (g2 := F0 m 103 ls [.int ((sp_closes T Q M 0 ty).1)]) rfl ?_
              exact z_iret F (sp_closes_b _ _ _ _ _) hw hS (by unfold sp_mobileCalls; rw [if_pos c7, if_pos c14, if_neg hc21, if_pos c39, if_neg hc46, if_neg c65]; exact ⟨rfl, rfl, ⟨_, _, _, _, ⟨h100, h101, h102, h103, h104, h105, h106, h107, h108, h109, h110, h111⟩, hQ, hM⟩, hF⟩) dX6_mobileCalls_103
            · refine lv_aload_n hx hb dX6_mobileCalls_68 rfl (lv_at hl 0 rfl) ?_
              refine lv_iconst (v := 0) hx hb dX6_mobileCalls_69 (by decide) ?_
              refine lv_iconst (v := 1) hx hb dX6_mobileCalls_70 (by decide) ?_
              refine lv_iconst (v := 3) hx hb dX6_mobileCalls_71 (by decide) ?_
              have hV : rfV G ad ce T Q M := ⟨_, _, _, _, ⟨h100, h101, h102, h103, h104, h105, h106, h107, h108, h109, h110, h111⟩, hQ, hM⟩
              refine z_invV F (rest := []) (r_isCall0 l T Q M hV 1 3) yv_X6_91 ⟨Nat.le_of_ble_eq_true rfl, Nat.le_of_ble_eq_true rfl⟩ hw hA hS hl h100 rfl rfl rfl (Nat.le_of_ble_eq_true rfl) dX6_mobileCalls_72 ⟨Nat.le_of_ble_eq_true rfl, Nat.le_of_ble_eq_true rfl⟩ (fun r ad1 ce23 H locs hp hw hS => ?_)
              obtain ⟨hp, rfl, rfl⟩ := hp
              rcases hp with ⟨hc72, rfl⟩ | ⟨hc72, rfl⟩
              · refine W.eq (g2 := F0 m 75 ls [.int 1]) rfl ?_
                refine lv_if_eq (tgt := 97) hx hb dX6_mobileCalls_75 (by decide) (fun c75 => absurd c75 (by decide)) (fun c75 => ?_)
                refine lv_aload_n hx hb dX6_mobileCalls_78 rfl (lv_at hl 0 rfl) ?_
                refine lv_iconst (v := 0) hx hb dX6_mobileCalls_79 (by decide) ?_
                refine lv_iconst (v := 3) hx hb dX6_mobileCalls_80 (by decide) ?_
                refine lv_bipush (v := 15) hx hb dX6_mobileCalls_81 (by decide) ?_
                have hV : rfV G ad ce T Q M := ⟨_, _, _, _, ⟨h100, h101, h102, h103, h104, h105, h106, h107, h108, h109, h110, h111⟩, hQ, hM⟩
                refine z_invV F (rest := []) (r_put0 l T Q M hV 3 15 (by decide) (by decide)) yv_X6_64 ⟨Nat.le_of_ble_eq_true rfl, Nat.le_of_ble_eq_true rfl⟩ hw hA hS hl h100 rfl rfl rfl (Nat.le_of_ble_eq_true rfl) dX6_mobileCalls_83 ⟨Nat.le_of_ble_eq_true rfl, Nat.le_of_ble_eq_true rfl⟩ (fun r ad1 ce24 H locs hp hw hS => ?_)
                obtain ⟨rfl, rfl, hV, hF2⟩ := hp
                have hF : ∀ j, j < 100 → ce24 j = ce j := fun j hj => (hF2 j hj).trans (hF j hj)
                obtain ⟨cn, zs, bs, hh, ⟨h100, h101, h102, h103, h104, h105, h106, h107, h108, h109, h110, h111⟩, hQ, hM⟩ := hV
                refine W.eq (g2 := F0 m 86 ls [.int (rf_hd T Q 0)]) rfl ?_
                refine lv_istore_n (lv' := [(2, .int (rf_hd T Q 0)), (0, .ref (ad 100)), (1, .int (nI ty))]) hx hb dX6_mobileCalls_86 rfl hl (by decide) rfl (fun ls hl => ?_)
                refine lv_aload_n hx hb dX6_mobileCalls_87 rfl (lv_at hl 1 rfl) ?_
                refine lv_iconst (v := 0) hx hb dX6_mobileCalls_88 (by decide) ?_
                refine lv_iconst (v := 5) hx hb dX6_mobileCalls_89 (by decide) ?_
                refine lv_iconst (v := 4) hx hb dX6_mobileCalls_90 (by decide) ?_
                refine lv_iconst (v := 0) hx hb dX6_mobileCalls_91 (by decide) ?_
                have hV : rfV G ad ce24 T (rf_put T Q 0 [3, 15]) M := ⟨_, _, _, _, ⟨h100, h101, h102, h103, h104, h105, h106, h107, h108, h109, h110, h111⟩, hQ, hM⟩
                refine z_invV F (rest := []) (r_become0 l T (rf_put T Q 0 [3, 15]) M hV 5 4 0) yv_X6_83 ⟨Nat.le_of_ble_eq_true rfl, Nat.le_of_ble_eq_true rfl⟩ hw hA hS hl h100 rfl rfl rfl (Nat.le_of_ble_eq_true rfl) dX6_mobileCalls_92 ⟨Nat.le_of_ble_eq_true rfl, Nat.le_of_ble_eq_true rfl⟩ (fun r ad1 ce25 H locs hp hw hS => ?_)
                obtain ⟨rfl, rfl, hV, hF2⟩ := hp
                have hF : ∀ j, j < 100 → ce25 j = ce j := fun j hj => (hF2 j hj).trans (hF j hj)
                obtain ⟨cn, zs, bs, hh, ⟨h100, h101, h102, h103, h104, h105, h106, h107, h108, h109, h110, h111⟩, hQ, hM⟩ := hV
                refine W.eq (g2 := F0 m 95 ls []) rfl ?_
                refine lv_iconst (v := 1) hx hb dX6_mobileCalls_95 (by decide) ?_
                exact z_iret F (rfl) hw hS (by unfold sp_mobileCalls; rw [if_pos c7, if_pos c14, if_neg hc21, if_pos c39, if_neg hc46, if_pos c65, if_pos hc72]; exact ⟨rfl, rfl, ⟨_, _, _, _, ⟨h100, h101, h102, h103, h104, h105, h106, h107, h108, h109, h110, h111⟩, hQ, hM⟩, hF⟩) dX6_mobileCalls_96
              · refine W.eq (g2 := F0 m 75 ls [.int 0]) rfl ?_
                refine lv_if_eq (tgt := 97) hx hb dX6_mobileCalls_75 (by decide) (fun c75 => ?_) (fun c75 => absurd c75 (by decide))
                refine lv_aload_n hx hb dX6_mobileCalls_97 rfl (lv_at hl 0 rfl) ?_
                refine lv_iconst (v := 0) hx hb dX6_mobileCalls_98 (by decide) ?_
                refine lv_iload_n hx hb dX6_mobileCalls_99 rfl (lv_at hl 1 rfl) ?_
                have hV : rfV G ad ce T Q M := ⟨_, _, _, _, ⟨h100, h101, h102, h103, h104, h105, h106, h107, h108, h109, h110, h111⟩, hQ, hM⟩
                refine z_invV F (rest := []) (r_closes0 l T Q M hV hg ty hty) yv_X6_122 ⟨Nat.le_of_ble_eq_true rfl, Nat.le_of_ble_eq_true rfl⟩ hw hA hS hl h100 rfl rfl rfl (Nat.le_of_ble_eq_true rfl) dX6_mobileCalls_100 ⟨Nat.le_of_ble_eq_true rfl, Nat.le_of_ble_eq_true rfl⟩ (fun r ad1 ce26 H locs hp hw hS => ?_)
                obtain ⟨rfl, rfl, hV, hF2⟩ := hp
                have hF : ∀ j, j < 100 → ce26 j = ce j := fun j hj => (hF2 j hj).trans (hF j hj)
                obtain ⟨cn, zs, bs, hh, ⟨h100, h101, h102, h103, h104, h105, h106, h107, h108, h109, h110, h111⟩, hQ, hM⟩ := hV
                refine W.eq (g2 := F0 m 103 ls [.int ((sp_closes T Q M 0 ty).1)]) rfl ?_
                exact z_iret F (sp_closes_b _ _ _ _ _) hw hS (by unfold sp_mobileCalls; rw [if_pos c7, if_pos c14, if_neg hc21, if_pos c39, if_neg hc46, if_pos c65, if_neg hc72]; exact ⟨rfl, rfl, ⟨_, _, _, _, ⟨h100, h101, h102, h103, h104, h105, h106, h107, h108, h109, h110, h111⟩, hQ, hM⟩, hF⟩) dX6_mobileCalls_103
  · refine lv_iconst (v := 0) hx hb dX6_mobileCalls_10 (by decide) ?_
    exact z_iret F (rfl) hw hS (by unfold sp_mobileCalls; rw [if_neg c7]; exact ⟨rfl, rfl, ⟨_, _, _, _, ⟨h100, h101, h102, h103, h104, h105, h106, h107, h108, h109, h110, h111⟩, hQ, hM⟩, hF⟩) dX6_mobileCalls_11
def sp_ask (T : rf_T) (Q : rf_Q) (M : List Nat) (wh : Int32) : rf_R := (0, (rf_become (va_up T 0 (va_up (T 0) 2 (((T 0 2) * 1103515245) + 12345))) 1 wh (((va_up T 0 (va_up (T 0) 2 (((T 0 2) * 1103515245) + 12345))) 2) 1) 12), rf_put (va_up T 0 (va_up (T 0) 2 (((T 0 2) * 1103515245) + 12345))) Q 1 ([5, 18, 33, 4] ++ rf_bytes 4 (((T 0 2) * 1103515245) + 12345)))
set_option maxHeartbeats 4000000 in
set_option maxRecDepth 100000 in
theorem r_ask (l : Launch) {G : zz_G} {ad : Nat → Nat} {ce : zz_C} {sz : Nat} (T : rf_T) (Q : rf_Q) (M : List Nat) (hV : rfV G ad ce T Q M) (wh : Int32) : zz_M l yX6_ask cX6_ask 2 none 2 52 0 0 G [.ref (ad 100), .int wh] ad ce sz (fun r ad1 ce1 => r = none ∧ ad = ad1 ∧ rfV G ad ce1 (sp_ask T Q M wh).2.1 (sp_ask T Q M wh).2.2 M ∧ (∀ j, j < 100 → ce1 j = ce j)) := by
  refine zz_enter (by decide) (Nat.le_of_ble_eq_true rfl) ?_
  intro p e s m below meth c ls F hl hw hS hA
  obtain ⟨hx, hb, hr, hml, hown, hts, hlocks, hK, hnm⟩ := id F
  have hl : lv_has ls 2 [(0, .ref (ad 100)), (1, .int wh)] := hl
  obtain ⟨cn, zs, bs, hh, ⟨h100, h101, h102, h103, h104, h105, h106, h107, h108, h109, h110, h111⟩, hQ, hM⟩ := hV
  have hF : ∀ j, j < 100 → ce j = ce j := fun _ _ => rfl
  refine lv_aload_n hx hb dX6_ask_0 rfl (lv_at hl 0 rfl) ?_
  refine lv_aload_n hx hb dX6_ask_1 rfl (lv_at hl 0 rfl) ?_
  refine z_get F hw h100 fd_X6_57_X6 rfl dX6_ask_2 ?_
  refine lv_ldc (v := 1103515245) hx hb hown (hts _ wd_843) dX6_ask_5 ?_
  refine lv_imul hx hb dX6_ask_7 ?_
  refine lv_sipush (v := 12345) hx hb dX6_ask_8 (by decide) ?_
  refine lv_iadd hx hb dX6_ask_11 ?_
  refine z_put F hw hS (fs' := [.int (T 0 0), .int (T 0 1), .int (((T 0 2) * 1103515245) + 12345), .int (T 0 3), .int (T 0 4), .ref (ad 101), .ref (ad 102), .ref (ad 103), .int (T 0 5), .ref (ad 104), .ref (ad 105), .ref (ad 106), .ref (ad 107), .ref (ad 108), .int (T 0 6), .int (T 0 7), .int (T 0 8), .ref (ad 109), .int (T 0 9), .ref (ad 110), .int (T 0 10), .int (nI M.length), .ref (ad 111)]) h100 fd_X6_57_X6 ptX6 rfl (rfl) (rfl) (Nat.le_of_ble_eq_true rfl) rfl dX6_ask_12 (fun ce1 H locs h100 fr2 hw hS => ?_)
  have h101 := (fr2 101 (by decide)).trans h101
  have h102 := (fr2 102 (by decide)).trans h102
  have h103 := (fr2 103 (by decide)).trans h103
  have h104 := (fr2 104 (by decide)).trans h104
  have h105 := (fr2 105 (by decide)).trans h105
  have h106 := (fr2 106 (by decide)).trans h106
  have h107 := (fr2 107 (by decide)).trans h107
  have h108 := (fr2 108 (by decide)).trans h108
  have h109 := (fr2 109 (by decide)).trans h109
  have h110 := (fr2 110 (by decide)).trans h110
  have h111 := (fr2 111 (by decide)).trans h111
  have hF : ∀ j, j < 100 → _ = ce j := fun j hj => (fr2 j (by omega)).trans (hF j hj)
  refine lv_aload_n hx hb dX6_ask_15 rfl (lv_at hl 0 rfl) ?_
  refine lv_iconst (v := 1) hx hb dX6_ask_16 (by decide) ?_
  refine lv_iconst (v := 5) hx hb dX6_ask_17 (by decide) ?_
  refine lv_bipush (v := 18) hx hb dX6_ask_18 (by decide) ?_
  refine lv_bipush (v := 33) hx hb dX6_ask_20 (by decide) ?_
  refine lv_iconst (v := 4) hx hb dX6_ask_22 (by decide) ?_
  refine lv_aload_n hx hb dX6_ask_23 rfl (lv_at hl 0 rfl) ?_
  refine z_get F hw h100 fd_X6_57_X6 rfl dX6_ask_24 ?_
  have hV : rfV G ad ce1 (va_up T 0 (va_up (T 0) 2 (((T 0 2) * 1103515245) + 12345))) Q M := ⟨_, _, _, _, ⟨h100, h101, h102, h103, h104, h105, h106, h107, h108, h109, h110, h111⟩, hQ, hM⟩
  refine z_invV F (rest := []) (r_tell1_4 l (va_up T 0 (va_up (T 0) 2 (((T 0 2) * 1103515245) + 12345))) Q M hV 5 18 33 (by decide) (by decide) (by decide) (((T 0 2) * 1103515245) + 12345)) yv_X6_112 ⟨Nat.le_of_ble_eq_true rfl, Nat.le_of_ble_eq_true rfl⟩ hw hA hS hl h100 rfl rfl rfl (Nat.le_of_ble_eq_true rfl) dX6_ask_27 ⟨Nat.le_of_ble_eq_true rfl, Nat.le_of_ble_eq_true rfl⟩ (fun r ad1 ce3 H locs hp hw hS => ?_)
  obtain ⟨rfl, rfl, hV, hF2⟩ := hp
  have hF : ∀ j, j < 100 → ce3 j = ce j := fun j hj => (hF2 j hj).trans (hF j hj)
  obtain ⟨cn, zs, bs, hh, ⟨h100, h101, h102, h103, h104, h105, h106, h107, h108, h109, h110, h111⟩, hQ, hM⟩ := hV
  refine W.eq (g2 := F0 m 30 ls []) rfl ?_
  refine lv_aload_n hx hb dX6_ask_30 rfl (lv_at hl 0 rfl) ?_
  refine lv_iconst (v := 1) hx hb dX6_ask_31 (by decide) ?_
  refine lv_iload_n hx hb dX6_ask_32 rfl (lv_at hl 1 rfl) ?_
  refine lv_aload_n hx hb dX6_ask_33 rfl (lv_at hl 0 rfl) ?_
  refine z_get F hw h100 fd_X6_26_X6 rfl dX6_ask_34 ?_
  refine lv_iconst (v := 1) hx hb dX6_ask_37 (by decide) ?_
  refine z_ld F hw h105 (1) (rfl) (by decide) (by decide) dX6_ask_38 ?_
  refine lv_bipush (v := 12) hx hb dX6_ask_39 (by decide) ?_
  have hV : rfV G ad ce3 (va_up T 0 (va_up (T 0) 2 (((T 0 2) * 1103515245) + 12345))) (rf_put (va_up T 0 (va_up (T 0) 2 (((T 0 2) * 1103515245) + 12345))) Q 1 ([5, 18, 33, 4] ++ rf_bytes 4 (((T 0 2) * 1103515245) + 12345))) M := ⟨_, _, _, _, ⟨h100, h101, h102, h103, h104, h105, h106, h107, h108, h109, h110, h111⟩, hQ, hM⟩
  refine z_invV F (rest := []) (r_become1 l (va_up T 0 (va_up (T 0) 2 (((T 0 2) * 1103515245) + 12345))) (rf_put (va_up T 0 (va_up (T 0) 2 (((T 0 2) * 1103515245) + 12345))) Q 1 ([5, 18, 33, 4] ++ rf_bytes 4 (((T 0 2) * 1103515245) + 12345))) M hV wh (((va_up T 0 (va_up (T 0) 2 (((T 0 2) * 1103515245) + 12345))) 2) 1) 12) yv_X6_83 ⟨Nat.le_of_ble_eq_true rfl, Nat.le_of_ble_eq_true rfl⟩ hw hA hS hl h100 rfl rfl rfl (Nat.le_of_ble_eq_true rfl) dX6_ask_41 ⟨Nat.le_of_ble_eq_true rfl, Nat.le_of_ble_eq_true rfl⟩ (fun r ad1 ce4 H locs hp hw hS => ?_)
  obtain ⟨rfl, rfl, hV, hF2⟩ := hp
  have hF : ∀ j, j < 100 → ce4 j = ce j := fun j hj => (hF2 j hj).trans (hF j hj)
  obtain ⟨cn, zs, bs, hh, ⟨h100, h101, h102, h103, h104, h105, h106, h107, h108, h109, h110, h111⟩, hQ, hM⟩ := hV
  refine W.eq (g2 := F0 m 44 ls []) rfl ?_
  exact z_vret F hw hS (by unfold sp_ask; exact ⟨rfl, rfl, ⟨_, _, _, _, ⟨h100, h101, h102, h103, h104, h105, h106, h107, h108, h109, h110, h111⟩, hQ, hM⟩, hF⟩) dX6_ask_44
def sp_judge (T : rf_T) (Q : rf_Q) (M : List Nat) : rf_R := (if ((rf_val M 34) : Int32) = (rf_turned (T 0 2) (T 0 1)) then (if (((T 1) 1) : Int32) = 1 then (if (((T 0 3) &&& 1) : Int32) = 1 then (0, (rf_become (va_up T 0 (va_up (T 0) 7 (T 0 8))) 1 0 (((va_up T 0 (va_up (T 0) 7 (T 0 8))) 2) 1) 0), rf_put (va_up T 0 (va_up (T 0) 7 (T 0 8))) Q 1 ([5, 2, 19, 2] ++ rf_bytes 2 (T 0 8))) else (0, (rf_become T 1 0 ((T 2) 1) 0), rf_put T Q 1 ([5, 4, 8, 1] ++ rf_bytes 1 11))) else (if (((T 0 3) &&& 2) : Int32) = 2 then (0, (rf_become T 1 3 ((T 2) 1) 0), rf_put T Q 1 [5, 33]) else (0, (rf_become T 1 0 ((T 2) 1) 0), rf_put T Q 1 ([5, 34, 8, 1] ++ rf_bytes 1 32)))) else (0, (rf_become (va_up T 0 (va_up (T 0) 7 (-1))) 1 0 ((T 2) 1) 0), rf_put T Q 1 [5, 17]))
set_option maxHeartbeats 4000000 in
set_option maxRecDepth 100000 in
theorem r_judge (l : Launch) {G : zz_G} {ad : Nat → Nat} {ce : zz_C} {sz : Nat} (T : rf_T) (Q : rf_Q) (M : List Nat) (hV : rfV G ad ce T Q M) (hg : rf_good M) (hs4 : rf_sz M 34 = some 4) : zz_M l yX6_judge cX6_judge 3 none 2 52 0 0 G [.ref (ad 100)] ad ce sz (fun r ad1 ce1 => r = none ∧ ad = ad1 ∧ rfV G ad ce1 (sp_judge T Q M).2.1 (sp_judge T Q M).2.2 M ∧ (∀ j, j < 100 → ce1 j = ce j)) := by
  refine zz_enter (by decide) (Nat.le_of_ble_eq_true rfl) ?_
  intro p e s m below meth c ls F hl hw hS hA
  obtain ⟨hx, hb, hr, hml, hown, hts, hlocks, hK, hnm⟩ := id F
  have hl : lv_has ls 3 [(0, .ref (ad 100))] := hl
  obtain ⟨cn, zs, bs, hh, ⟨h100, h101, h102, h103, h104, h105, h106, h107, h108, h109, h110, h111⟩, hQ, hM⟩ := hV
  have hF : ∀ j, j < 100 → ce j = ce j := fun _ _ => rfl
  refine lv_bipush (v := -3) hx hb dX6_judge_0 (by decide) ?_
  refine lv_istore_n (lv' := [(1, .int (-3)), (0, .ref (ad 100))]) hx hb dX6_judge_2 rfl hl (by decide) rfl (fun ls hl => ?_)
  refine lv_aload_n hx hb dX6_judge_3 rfl (lv_at hl 1 rfl) ?_
  refine z_get F hw h100 fd_X6_23_X6 rfl dX6_judge_4 ?_
  refine lv_iconst (v := 1) hx hb dX6_judge_7 (by decide) ?_
  refine z_ld F hw h104 (1) (rfl) (by decide) (by decide) dX6_judge_8 ?_
  refine lv_istore_n (lv' := [(2, .int ((T 1) 1)), (1, .int (-3)), (0, .ref (ad 100))]) hx hb dX6_judge_9 rfl hl (by decide) rfl (fun ls hl => ?_)
  refine lv_aload_n hx hb dX6_judge_10 rfl (lv_at hl 2 rfl) ?_
  refine lv_bipush (v := 34) hx hb dX6_judge_11 (by decide) ?_
  have hV : rfV G ad ce T Q M := ⟨_, _, _, _, ⟨h100, h101, h102, h103, h104, h105, h106, h107, h108, h109, h110, h111⟩, hQ, hM⟩
  refine z_invV F (rest := []) (r_number l T Q M hV hg 34 4 (by decide) hs4) yv_X6_95 ⟨Nat.le_of_ble_eq_true rfl, Nat.le_of_ble_eq_true rfl⟩ hw hA hS hl h100 rfl rfl rfl (Nat.le_of_ble_eq_true rfl) dX6_judge_13 ⟨Nat.le_of_ble_eq_true rfl, Nat.le_of_ble_eq_true rfl⟩ (fun r ad1 ce1 H locs hp hw hS => ?_)
  obtain ⟨rfl, rfl, rfl⟩ := hp
  refine W.eq (g2 := F0 m 16 ls [.int (rf_val M 34)]) rfl ?_
  refine lv_aload_n hx hb dX6_judge_16 rfl (lv_at hl 2 rfl) ?_
  refine z_get F hw h100 fd_X6_57_X6 rfl dX6_judge_17 ?_
  refine lv_aload_n hx hb dX6_judge_20 rfl (lv_at hl 2 rfl) ?_
  refine z_get F hw h100 fd_X6_54_X6 rfl dX6_judge_21 ?_
  refine z_invS F (rest := [.int (rf_val M 34)]) (r_turned l (T 0 2) (T 0 1)) ys_X6_108 ⟨Nat.le_of_ble_eq_true rfl, Nat.le_of_ble_eq_true rfl⟩ hw hA hS hl rfl rfl (Nat.le_of_ble_eq_true rfl) dX6_judge_24 ⟨Nat.le_of_ble_eq_true rfl, Nat.le_of_ble_eq_true rfl⟩ (fun r ad1 ce2 H locs hp hw hS => ?_)
  obtain ⟨rfl, rfl, rfl⟩ := hp
  refine W.eq (g2 := F0 m 27 ls [.int (rf_turned (T 0 2) (T 0 1)), .int (rf_val M 34)]) rfl ?_
  refine lv_icmp_eq (tgt := 60) hx hb dX6_judge_27 (by decide) (fun c27 => ?_) (fun c27 => ?_)
  · refine lv_iload_n hx hb dX6_judge_60 rfl (lv_at hl 0 rfl) ?_
    refine lv_iconst (v := 1) hx hb dX6_judge_61 (by decide) ?_
    refine lv_icmp_ne (tgt := 128) hx hb dX6_judge_62 (by decide) (fun c62 => ?_) (fun c62 => ?_)
    · refine lv_aload_n hx hb dX6_judge_128 rfl (lv_at hl 2 rfl) ?_
      refine z_get F hw h100 fd_X6_7_X6 rfl dX6_judge_129 ?_
      refine lv_iconst (v := 2) hx hb dX6_judge_132 (by decide) ?_
      refine lv_iand hx hb dX6_judge_133 ?_
      refine lv_iconst (v := 2) hx hb dX6_judge_134 (by decide) ?_
      refine lv_icmp_ne (tgt := 163) hx hb dX6_judge_135 (by decide) (fun c135 => ?_) (fun c135 => ?_)
      · refine lv_aload_n hx hb dX6_judge_163 rfl (lv_at hl 2 rfl) ?_
        refine lv_iconst (v := 1) hx hb dX6_judge_164 (by decide) ?_
        refine lv_iconst (v := 5) hx hb dX6_judge_165 (by decide) ?_
        refine lv_bipush (v := 34) hx hb dX6_judge_166 (by decide) ?_
        refine lv_bipush (v := 8) hx hb dX6_judge_168 (by decide) ?_
        refine lv_iconst (v := 1) hx hb dX6_judge_170 (by decide) ?_
        refine lv_bipush (v := 32) hx hb dX6_judge_171 (by decide) ?_
        have hV : rfV G ad ce T Q M := ⟨_, _, _, _, ⟨h100, h101, h102, h103, h104, h105, h106, h107, h108, h109, h110, h111⟩, hQ, hM⟩
        refine z_invV F (rest := []) (r_tell1_1 l T Q M hV 5 34 8 (by decide) (by decide) (by decide) 32) yv_X6_112 ⟨Nat.le_of_ble_eq_true rfl, Nat.le_of_ble_eq_true rfl⟩ hw hA hS hl h100 rfl rfl rfl (Nat.le_of_ble_eq_true rfl) dX6_judge_173 ⟨Nat.le_of_ble_eq_true rfl, Nat.le_of_ble_eq_true rfl⟩ (fun r ad1 ce3 H locs hp hw hS => ?_)
        obtain ⟨rfl, rfl, hV, hF2⟩ := hp
        have hF : ∀ j, j < 100 → ce3 j = ce j := fun j hj => (hF2 j hj).trans (hF j hj)
        obtain ⟨cn, zs, bs, hh, ⟨h100, h101, h102, h103, h104, h105, h106, h107, h108, h109, h110, h111⟩, hQ, hM⟩ := hV
        refine W.eq (g2 := F0 m 176 ls []) rfl ?_
        refine lv_aload_n hx hb dX6_judge_176 rfl (lv_at hl 2 rfl) ?_
        refine lv_iconst (v := 1) hx hb dX6_judge_177 (by decide) ?_
        refine lv_iconst (v := 0) hx hb dX6_judge_178 (by decide) ?_
        refine lv_aload_n hx hb dX6_judge_179 rfl (lv_at hl 2 rfl) ?_
        refine z_get F hw h100 fd_X6_26_X6 rfl dX6_judge_180 ?_
        refine lv_iconst (v := 1) hx hb dX6_judge_183 (by decide) ?_
        refine z_ld F hw h105 (1) (rfl) (by decide) (by decide) dX6_judge_184 ?_
        refine lv_iconst (v := 0) hx hb dX6_judge_185 (by decide) ?_
        have hV : rfV G ad ce3 T (rf_put T Q 1 ([5, 34, 8, 1] ++ rf_bytes 1 32)) M := ⟨_, _, _, _, ⟨h100, h101, h102, h103, h104, h105, h106, h107, h108, h109, h110, h111⟩, hQ, hM⟩
        refine z_invV F (rest := []) (r_become1 l T (rf_put T Q 1 ([5, 34, 8, 1] ++ rf_bytes 1 32)) M hV 0 ((T 2) 1) 0) yv_X6_83 ⟨Nat.le_of_ble_eq_true rfl, Nat.le_of_ble_eq_true rfl⟩ hw hA hS hl h100 rfl rfl rfl (Nat.le_of_ble_eq_true rfl) dX6_judge_186 ⟨Nat.le_of_ble_eq_true rfl, Nat.le_of_ble_eq_true rfl⟩ (fun r ad1 ce4 H locs hp hw hS => ?_)
        obtain ⟨rfl, rfl, hV, hF2⟩ := hp
        have hF : ∀ j, j < 100 → ce4 j = ce j := fun j hj => (hF2 j hj).trans (hF j hj)
        obtain ⟨cn, zs, bs, hh, ⟨h100, h101, h102, h103, h104, h105, h106, h107, h108, h109, h110, h111⟩, hQ, hM⟩ := hV
        refine W.eq (g2 := F0 m 189 ls []) rfl ?_
        exact z_vret F hw hS (by unfold sp_judge; rw [if_pos c27, if_neg c62, if_neg c135]; exact ⟨rfl, rfl, ⟨_, _, _, _, ⟨h100, h101, h102, h103, h104, h105, h106, h107, h108, h109, h110, h111⟩, hQ, hM⟩, hF⟩) dX6_judge_189
      · refine lv_aload_n hx hb dX6_judge_138 rfl (lv_at hl 2 rfl) ?_
        refine lv_iconst (v := 1) hx hb dX6_judge_139 (by decide) ?_
        refine lv_iconst (v := 5) hx hb dX6_judge_140 (by decide) ?_
        refine lv_bipush (v := 33) hx hb dX6_judge_141 (by decide) ?_
        have hV : rfV G ad ce T Q M := ⟨_, _, _, _, ⟨h100, h101, h102, h103, h104, h105, h106, h107, h108, h109, h110, h111⟩, hQ, hM⟩
        refine z_invV F (rest := []) (r_put1 l T Q M hV 5 33 (by decide) (by decide)) yv_X6_64 ⟨Nat.le_of_ble_eq_true rfl, Nat.le_of_ble_eq_true rfl⟩ hw hA hS hl h100 rfl rfl rfl (Nat.le_of_ble_eq_true rfl) dX6_judge_143 ⟨Nat.le_of_ble_eq_true rfl, Nat.le_of_ble_eq_true rfl⟩ (fun r ad1 ce5 H locs hp hw hS => ?_)
        obtain ⟨rfl, rfl, hV, hF2⟩ := hp
        have hF : ∀ j, j < 100 → ce5 j = ce j := fun j hj => (hF2 j hj).trans (hF j hj)
        obtain ⟨cn, zs, bs, hh, ⟨h100, h101, h102, h103, h104, h105, h106, h107, h108, h109, h110, h111⟩, hQ, hM⟩ := hV
        refine W.eq (g2 := F0 m 146 ls [.int (rf_hd T Q 1)]) rfl ?_
        refine lv_istore_n (lv' := [(1, .int (rf_hd T Q 1)), (2, .int ((T 1) 1)), (0, .ref (ad 100))]) hx hb dX6_judge_146 rfl hl (by decide) rfl (fun ls hl => ?_)
        refine lv_aload_n hx hb dX6_judge_147 rfl (lv_at hl 2 rfl) ?_
        refine lv_iconst (v := 1) hx hb dX6_judge_148 (by decide) ?_
        refine lv_iconst (v := 3) hx hb dX6_judge_149 (by decide) ?_
        refine lv_aload_n hx hb dX6_judge_150 rfl (lv_at hl 2 rfl) ?_
        refine z_get F hw h100 fd_X6_26_X6 rfl dX6_judge_151 ?_
        refine lv_iconst (v := 1) hx hb dX6_judge_154 (by decide) ?_
        refine z_ld F hw h105 (1) (rfl) (by decide) (by decide) dX6_judge_155 ?_
        refine lv_iconst (v := 0) hx hb dX6_judge_156 (by decide) ?_
        have hV : rfV G ad ce5 T (rf_put T Q 1 [5, 33]) M := ⟨_, _, _, _, ⟨h100, h101, h102, h103, h104, h105, h106, h107, h108, h109, h110, h111⟩, hQ, hM⟩
        refine z_invV F (rest := []) (r_become1 l T (rf_put T Q 1 [5, 33]) M hV 3 ((T 2) 1) 0) yv_X6_83 ⟨Nat.le_of_ble_eq_true rfl, Nat.le_of_ble_eq_true rfl⟩ hw hA hS hl h100 rfl rfl rfl (Nat.le_of_ble_eq_true rfl) dX6_judge_157 ⟨Nat.le_of_ble_eq_true rfl, Nat.le_of_ble_eq_true rfl⟩ (fun r ad1 ce6 H locs hp hw hS => ?_)
        obtain ⟨rfl, rfl, hV, hF2⟩ := hp
        have hF : ∀ j, j < 100 → ce6 j = ce j := fun j hj => (hF2 j hj).trans (hF j hj)
        obtain ⟨cn, zs, bs, hh, ⟨h100, h101, h102, h103, h104, h105, h106, h107, h108, h109, h110, h111⟩, hQ, hM⟩ := hV
        refine W.eq (g2 := F0 m 160 ls []) rfl ?_
        refine lv_goto (tgt := 189) hx hb dX6_judge_160 (by decide) ?_
        exact z_vret F hw hS (by unfold sp_judge; rw [if_pos c27, if_neg c62, if_pos c135]; exact ⟨rfl, rfl, ⟨_, _, _, _, ⟨h100, h101, h102, h103, h104, h105, h106, h107, h108, h109, h110, h111⟩, hQ, hM⟩, hF⟩) dX6_judge_189
    · refine lv_aload_n hx hb dX6_judge_65 rfl (lv_at hl 2 rfl) ?_
      refine z_get F hw h100 fd_X6_7_X6 rfl dX6_judge_66 ?_
      refine lv_iconst (v := 1) hx hb dX6_judge_69 (by decide) ?_
      refine lv_iand hx hb dX6_judge_70 ?_
      refine lv_iconst (v := 1) hx hb dX6_judge_71 (by decide) ?_
      refine lv_icmp_ne (tgt := 100) hx hb dX6_judge_72 (by decide) (fun c72 => ?_) (fun c72 => ?_)
      · refine lv_aload_n hx hb dX6_judge_100 rfl (lv_at hl 2 rfl) ?_
        refine lv_iconst (v := 1) hx hb dX6_judge_101 (by decide) ?_
        refine lv_iconst (v := 5) hx hb dX6_judge_102 (by decide) ?_
        refine lv_iconst (v := 4) hx hb dX6_judge_103 (by decide) ?_
        refine lv_bipush (v := 8) hx hb dX6_judge_104 (by decide) ?_
        refine lv_iconst (v := 1) hx hb dX6_judge_106 (by decide) ?_
        refine lv_bipush (v := 11) hx hb dX6_judge_107 (by decide) ?_
        have hV : rfV G ad ce T Q M := ⟨_, _, _, _, ⟨h100, h101, h102, h103, h104, h105, h106, h107, h108, h109, h110, h111⟩, hQ, hM⟩
        refine z_invV F (rest := []) (r_tell1_1 l T Q M hV 5 4 8 (by decide) (by decide) (by decide) 11) yv_X6_112 ⟨Nat.le_of_ble_eq_true rfl, Nat.le_of_ble_eq_true rfl⟩ hw hA hS hl h100 rfl rfl rfl (Nat.le_of_ble_eq_true rfl) dX6_judge_109 ⟨Nat.le_of_ble_eq_true rfl, Nat.le_of_ble_eq_true rfl⟩ (fun r ad1 ce7 H locs hp hw hS => ?_)
        obtain ⟨rfl, rfl, hV, hF2⟩ := hp
        have hF : ∀ j, j < 100 → ce7 j = ce j := fun j hj => (hF2 j hj).trans (hF j hj)
        obtain ⟨cn, zs, bs, hh, ⟨h100, h101, h102, h103, h104, h105, h106, h107, h108, h109, h110, h111⟩, hQ, hM⟩ := hV
        refine W.eq (g2 := F0 m 112 ls []) rfl ?_
        refine lv_aload_n hx hb dX6_judge_112 rfl (lv_at hl 2 rfl) ?_
        refine lv_iconst (v := 1) hx hb dX6_judge_113 (by decide) ?_
        refine lv_iconst (v := 0) hx hb dX6_judge_114 (by decide) ?_
        refine lv_aload_n hx hb dX6_judge_115 rfl (lv_at hl 2 rfl) ?_
        refine z_get F hw h100 fd_X6_26_X6 rfl dX6_judge_116 ?_
        refine lv_iconst (v := 1) hx hb dX6_judge_119 (by decide) ?_
        refine z_ld F hw h105 (1) (rfl) (by decide) (by decide) dX6_judge_120 ?_
        refine lv_iconst (v := 0) hx hb dX6_judge_121 (by decide) ?_
        have hV : rfV G ad ce7 T (rf_put T Q 1 ([5, 4, 8, 1] ++ rf_bytes 1 11)) M := ⟨_, _, _, _, ⟨h100, h101, h102, h103, h104, h105, h106, h107, h108, h109, h110, h111⟩, hQ, hM⟩
        refine z_invV F (rest := []) (r_become1 l T (rf_put T Q 1 ([5, 4, 8, 1] ++ rf_bytes 1 11)) M hV 0 ((T 2) 1) 0) yv_X6_83 ⟨Nat.le_of_ble_eq_true rfl, Nat.le_of_ble_eq_true rfl⟩ hw hA hS hl h100 rfl rfl rfl (Nat.le_of_ble_eq_true rfl) dX6_judge_122 ⟨Nat.le_of_ble_eq_true rfl, Nat.le_of_ble_eq_true rfl⟩ (fun r ad1 ce8 H locs hp hw hS => ?_)
        obtain ⟨rfl, rfl, hV, hF2⟩ := hp
        have hF : ∀ j, j < 100 → ce8 j = ce j := fun j hj => (hF2 j hj).trans (hF j hj)
        obtain ⟨cn, zs, bs, hh, ⟨h100, h101, h102, h103, h104, h105, h106, h107, h108, h109, h110, h111⟩, hQ, hM⟩ := hV
        refine W.eq (g2 := F0 m 125 ls []) rfl ?_
        refine lv_goto (tgt := 189) hx hb dX6_judge_125 (by decide) ?_
        exact z_vret F hw hS (by unfold sp_judge; rw [if_pos c27, if_pos c62, if_neg c72]; exact ⟨rfl, rfl, ⟨_, _, _, _, ⟨h100, h101, h102, h103, h104, h105, h106, h107, h108, h109, h110, h111⟩, hQ, hM⟩, hF⟩) dX6_judge_189
      · refine lv_aload_n hx hb dX6_judge_75 rfl (lv_at hl 2 rfl) ?_
        refine lv_aload_n hx hb dX6_judge_76 rfl (lv_at hl 2 rfl) ?_
        refine z_get F hw h100 fd_X6_126_X6 rfl dX6_judge_77 ?_
        refine z_put F hw hS (fs' := [.int (T 0 0), .int (T 0 1), .int (T 0 2), .int (T 0 3), .int (T 0 4), .ref (ad 101), .ref (ad 102), .ref (ad 103), .int (T 0 5), .ref (ad 104), .ref (ad 105), .ref (ad 106), .ref (ad 107), .ref (ad 108), .int (T 0 6), .int (T 0 8), .int (T 0 8), .ref (ad 109), .int (T 0 9), .ref (ad 110), .int (T 0 10), .int (nI M.length), .ref (ad 111)]) h100 fd_X6_39_X6 ptX6 rfl (rfl) (rfl) (Nat.le_of_ble_eq_true rfl) rfl dX6_judge_80 (fun ce9 H locs h100 fr10 hw hS => ?_)
        have h101 := (fr10 101 (by decide)).trans h101
        have h102 := (fr10 102 (by decide)).trans h102
        have h103 := (fr10 103 (by decide)).trans h103
        have h104 := (fr10 104 (by decide)).trans h104
        have h105 := (fr10 105 (by decide)).trans h105
        have h106 := (fr10 106 (by decide)).trans h106
        have h107 := (fr10 107 (by decide)).trans h107
        have h108 := (fr10 108 (by decide)).trans h108
        have h109 := (fr10 109 (by decide)).trans h109
        have h110 := (fr10 110 (by decide)).trans h110
        have h111 := (fr10 111 (by decide)).trans h111
        have hF : ∀ j, j < 100 → _ = ce j := fun j hj => (fr10 j (by omega)).trans (hF j hj)
        refine lv_aload_n hx hb dX6_judge_83 rfl (lv_at hl 2 rfl) ?_
        refine lv_iconst (v := 1) hx hb dX6_judge_84 (by decide) ?_
        refine lv_iconst (v := 5) hx hb dX6_judge_85 (by decide) ?_
        refine lv_iconst (v := 2) hx hb dX6_judge_86 (by decide) ?_
        refine lv_bipush (v := 19) hx hb dX6_judge_87 (by decide) ?_
        refine lv_iconst (v := 2) hx hb dX6_judge_89 (by decide) ?_
        refine lv_aload_n hx hb dX6_judge_90 rfl (lv_at hl 2 rfl) ?_
        refine z_get F hw h100 fd_X6_126_X6 rfl dX6_judge_91 ?_
        have hV : rfV G ad ce9 (va_up T 0 (va_up (T 0) 7 (T 0 8))) Q M := ⟨_, _, _, _, ⟨h100, h101, h102, h103, h104, h105, h106, h107, h108, h109, h110, h111⟩, hQ, hM⟩
        refine z_invV F (rest := []) (r_tell1_2 l (va_up T 0 (va_up (T 0) 7 (T 0 8))) Q M hV 5 2 19 (by decide) (by decide) (by decide) (T 0 8)) yv_X6_112 ⟨Nat.le_of_ble_eq_true rfl, Nat.le_of_ble_eq_true rfl⟩ hw hA hS hl h100 rfl rfl rfl (Nat.le_of_ble_eq_true rfl) dX6_judge_94 ⟨Nat.le_of_ble_eq_true rfl, Nat.le_of_ble_eq_true rfl⟩ (fun r ad1 ce11 H locs hp hw hS => ?_)
        obtain ⟨rfl, rfl, hV, hF2⟩ := hp
        have hF : ∀ j, j < 100 → ce11 j = ce j := fun j hj => (hF2 j hj).trans (hF j hj)
        obtain ⟨cn, zs, bs, hh, ⟨h100, h101, h102, h103, h104, h105, h106, h107, h108, h109, h110, h111⟩, hQ, hM⟩ := hV
        refine W.eq (g2 := F0 m 97 ls []) rfl ?_
        refine lv_goto (tgt := 112) hx hb dX6_judge_97 (by decide) ?_
        refine lv_aload_n hx hb dX6_judge_112 rfl (lv_at hl 2 rfl) ?_
        refine lv_iconst (v := 1) hx hb dX6_judge_113 (by decide) ?_
        refine lv_iconst (v := 0) hx hb dX6_judge_114 (by decide) ?_
        refine lv_aload_n hx hb dX6_judge_115 rfl (lv_at hl 2 rfl) ?_
        refine z_get F hw h100 fd_X6_26_X6 rfl dX6_judge_116 ?_
        refine lv_iconst (v := 1) hx hb dX6_judge_119 (by decide) ?_
        refine z_ld F hw h105 (1) (rfl) (by decide) (by decide) dX6_judge_120 ?_
        refine lv_iconst (v := 0) hx hb dX6_judge_121 (by decide) ?_
        have hV : rfV G ad ce11 (va_up T 0 (va_up (T 0) 7 (T 0 8))) (rf_put (va_up T 0 (va_up (T 0) 7 (T 0 8))) Q 1 ([5, 2, 19, 2] ++ rf_bytes 2 (T 0 8))) M := ⟨_, _, _, _, ⟨h100, h101, h102, h103, h104, h105, h106, h107, h108, h109, h110, h111⟩, hQ, hM⟩
        refine z_invV F (rest := []) (r_become1 l (va_up T 0 (va_up (T 0) 7 (T 0 8))) (rf_put (va_up T 0 (va_up (T 0) 7 (T 0 8))) Q 1 ([5, 2, 19, 2] ++ rf_bytes 2 (T 0 8))) M hV 0 (((va_up T 0 (va_up (T 0) 7 (T 0 8))) 2) 1) 0) yv_X6_83 ⟨Nat.le_of_ble_eq_true rfl, Nat.le_of_ble_eq_true rfl⟩ hw hA hS hl h100 rfl rfl rfl (Nat.le_of_ble_eq_true rfl) dX6_judge_122 ⟨Nat.le_of_ble_eq_true rfl, Nat.le_of_ble_eq_true rfl⟩ (fun r ad1 ce12 H locs hp hw hS => ?_)
        obtain ⟨rfl, rfl, hV, hF2⟩ := hp
        have hF : ∀ j, j < 100 → ce12 j = ce j := fun j hj => (hF2 j hj).trans (hF j hj)
        obtain ⟨cn, zs, bs, hh, ⟨h100, h101, h102, h103, h104, h105, h106, h107, h108, h109, h110, h111⟩, hQ, hM⟩ := hV
        refine W.eq (g2 := F0 m 125 ls []) rfl ?_
        refine lv_goto (tgt := 189) hx hb dX6_judge_125 (by decide) ?_
        exact z_vret F hw hS (by unfold sp_judge; rw [if_pos c27, if_pos c62, if_pos c72]; exact ⟨rfl, rfl, ⟨_, _, _, _, ⟨h100, h101, h102, h103, h104, h105, h106, h107, h108, h109, h110, h111⟩, hQ, hM⟩, hF⟩) dX6_judge_189
  · refine lv_aload_n hx hb dX6_judge_30 rfl (lv_at hl 2 rfl) ?_
    refine lv_iconst (v := 1) hx hb dX6_judge_31 (by decide) ?_
    refine lv_iconst (v := 5) hx hb dX6_judge_32 (by decide) ?_
    refine lv_bipush (v := 17) hx hb dX6_judge_33 (by decide) ?_
    have hV : rfV G ad ce T Q M := ⟨_, _, _, _, ⟨h100, h101, h102, h103, h104, h105, h106, h107, h108, h109, h110, h111⟩, hQ, hM⟩
    refine z_invV F (rest := []) (r_put1 l T Q M hV 5 17 (by decide) (by decide)) yv_X6_64 ⟨Nat.le_of_ble_eq_true rfl, Nat.le_of_ble_eq_true rfl⟩ hw hA hS hl h100 rfl rfl rfl (Nat.le_of_ble_eq_true rfl) dX6_judge_35 ⟨Nat.le_of_ble_eq_true rfl, Nat.le_of_ble_eq_true rfl⟩ (fun r ad1 ce13 H locs hp hw hS => ?_)
    obtain ⟨rfl, rfl, hV, hF2⟩ := hp
    have hF : ∀ j, j < 100 → ce13 j = ce j := fun j hj => (hF2 j hj).trans (hF j hj)
    obtain ⟨cn, zs, bs, hh, ⟨h100, h101, h102, h103, h104, h105, h106, h107, h108, h109, h110, h111⟩, hQ, hM⟩ := hV
    refine W.eq (g2 := F0 m 38 ls [.int (rf_hd T Q 1)]) rfl ?_
    refine lv_istore_n (lv' := [(1, .int (rf_hd T Q 1)), (2, .int ((T 1) 1)), (0, .ref (ad 100))]) hx hb dX6_judge_38 rfl hl (by decide) rfl (fun ls hl => ?_)
    refine lv_aload_n hx hb dX6_judge_39 rfl (lv_at hl 2 rfl) ?_
    refine lv_iconst (v := -1) hx hb dX6_judge_40 (by decide) ?_
    refine z_put F hw hS (fs' := [.int (T 0 0), .int (T 0 1), .int (T 0 2), .int (T 0 3), .int (T 0 4), .ref (ad 101), .ref (ad 102), .ref (ad 103), .int (T 0 5), .ref (ad 104), .ref (ad 105), .ref (ad 106), .ref (ad 107), .ref (ad 108), .int (T 0 6), .int (-1), .int (T 0 8), .ref (ad 109), .int (T 0 9), .ref (ad 110), .int (T 0 10), .int (nI (M).length), .ref (ad 111)]) h100 fd_X6_39_X6 ptX6 rfl (rfl) (rfl) (Nat.le_of_ble_eq_true rfl) rfl dX6_judge_41 (fun ce14 H locs h100 fr15 hw hS => ?_)
    have h101 := (fr15 101 (by decide)).trans h101
    have h102 := (fr15 102 (by decide)).trans h102
    have h103 := (fr15 103 (by decide)).trans h103
    have h104 := (fr15 104 (by decide)).trans h104
    have h105 := (fr15 105 (by decide)).trans h105
    have h106 := (fr15 106 (by decide)).trans h106
    have h107 := (fr15 107 (by decide)).trans h107
    have h108 := (fr15 108 (by decide)).trans h108
    have h109 := (fr15 109 (by decide)).trans h109
    have h110 := (fr15 110 (by decide)).trans h110
    have h111 := (fr15 111 (by decide)).trans h111
    have hF : ∀ j, j < 100 → _ = ce j := fun j hj => (fr15 j (by omega)).trans (hF j hj)
    refine lv_aload_n hx hb dX6_judge_44 rfl (lv_at hl 2 rfl) ?_
    refine lv_iconst (v := 1) hx hb dX6_judge_45 (by decide) ?_
    refine lv_iconst (v := 0) hx hb dX6_judge_46 (by decide) ?_
    refine lv_aload_n hx hb dX6_judge_47 rfl (lv_at hl 2 rfl) ?_
    refine z_get F hw h100 fd_X6_26_X6 rfl dX6_judge_48 ?_
    refine lv_iconst (v := 1) hx hb dX6_judge_51 (by decide) ?_
    refine z_ld F hw h105 (1) (rfl) (by decide) (by decide) dX6_judge_52 ?_
    refine lv_iconst (v := 0) hx hb dX6_judge_53 (by decide) ?_
    have hV : rfV G ad ce14 (va_up T 0 (va_up (T 0) 7 (-1))) (rf_put T Q 1 [5, 17]) M := ⟨_, _, _, _, ⟨h100, h101, h102, h103, h104, h105, h106, h107, h108, h109, h110, h111⟩, hQ, hM⟩
    refine z_invV F (rest := []) (r_become1 l (va_up T 0 (va_up (T 0) 7 (-1))) (rf_put T Q 1 [5, 17]) M hV 0 ((T 2) 1) 0) yv_X6_83 ⟨Nat.le_of_ble_eq_true rfl, Nat.le_of_ble_eq_true rfl⟩ hw hA hS hl h100 rfl rfl rfl (Nat.le_of_ble_eq_true rfl) dX6_judge_54 ⟨Nat.le_of_ble_eq_true rfl, Nat.le_of_ble_eq_true rfl⟩ (fun r ad1 ce16 H locs hp hw hS => ?_)
    obtain ⟨rfl, rfl, hV, hF2⟩ := hp
    have hF : ∀ j, j < 100 → ce16 j = ce j := fun j hj => (hF2 j hj).trans (hF j hj)
    obtain ⟨cn, zs, bs, hh, ⟨h100, h101, h102, h103, h104, h105, h106, h107, h108, h109, h110, h111⟩, hQ, hM⟩ := hV
    refine W.eq (g2 := F0 m 57 ls []) rfl ?_
    refine lv_goto (tgt := 189) hx hb dX6_judge_57 (by decide) ?_
    exact z_vret F hw hS (by unfold sp_judge; rw [if_neg c27]; exact ⟨rfl, rfl, ⟨_, _, _, _, ⟨h100, h101, h102, h103, h104, h105, h106, h107, h108, h109, h110, h111⟩, hQ, hM⟩, hF⟩) dX6_judge_189
