def sp_networkMoves (T : rf_T) (Q : rf_Q) (M : List Nat) (ty : Nat) : rf_R := (if ty = 1 then (1, (rf_become (va_up T 0 (va_up (T 0) 7 (-1))) 1 0 0 0), Q) else (if ty = 8 then (if (((T 1) 1) : Int32) = 0 then (if rf_sz M 19 = some 2 then (1, ((sp_ask (va_up T 0 (va_up (T 0) 8 (rf_val M 19))) Q M 1).2.1), (sp_ask (va_up T 0 (va_up (T 0) 8 (rf_val M 19))) Q M 1).2.2) else (0, T, Q)) else (0, T, Q)) else (if ty = 20 then (if (((T 1) 1) : Int32) = 1 then (if rf_sz M 34 = some 4 then (1, ((sp_judge T Q M).2.1), (sp_judge T Q M).2.2) else (0, T, Q)) else (if (((T 1) 1) : Int32) = 2 then (if rf_sz M 34 = some 4 then (1, ((sp_judge T Q M).2.1), (sp_judge T Q M).2.2) else (0, T, Q)) else (0, T, Q))) else (if ty = 36 then (if (((T 1) 1) : Int32) = 0 then (if (0 : Int32) ≤ (T 0 7) then (1, ((sp_ask T Q M 2).2.1), (sp_ask T Q M 2).2.2) else (1, T, rf_put T Q 1 ([5, 34, 8, 1] ++ rf_bytes 1 4))) else (0, T, Q)) else (0, T, Q)))))
theorem sp_networkMoves_b (T : rf_T) (Q : rf_Q) (M : List Nat) (ty : Nat) : narrow .boolean (.int (sp_networkMoves T Q M ty).1) = .int (sp_networkMoves T Q M ty).1 := by unfold sp_networkMoves; simp only [rf_if1]; (repeat' split) <;> first | rfl | exact sp_closes_b _ _ _ _ _
set_option maxHeartbeats 4000000 in
set_option maxRecDepth 100000 in
theorem r_networkMoves (l : Launch) {G : zz_G} {ad : Nat → Nat} {ce : zz_C} {sz : Nat} (T : rf_T) (Q : rf_Q) (M : List Nat) (hV : rfV G ad ce T Q M) (hg : rf_good M) (ty : Nat) (hty : ty < 256) : zz_M l yX6_networkMoves cX6_networkMoves 2 (some .boolean) 3 74 0 0 G [.ref (ad 100), .int (nI ty)] ad ce sz (fun r ad1 ce1 => r = some (.int (sp_networkMoves T Q M ty).1) ∧ ad = ad1 ∧ rfV G ad ce1 (sp_networkMoves T Q M ty).2.1 (sp_networkMoves T Q M ty).2.2 M ∧ (∀ j, j < 100 → ce1 j = ce j)) := by
  refine zz_enter (by decide) (Nat.le_of_ble_eq_true rfl) ?_
  intro p e s m below meth c ls F hl hw hS hA
  obtain ⟨hx, hb, hr, hml, hown, hts, hlocks, hK, hnm⟩ := id F
  have hl : lv_has ls 2 [(0, .ref (ad 100)), (1, .int (nI ty))] := hl
  obtain ⟨cn, zs, bs, hh, ⟨h100, h101, h102, h103, h104, h105, h106, h107, h108, h109, h110, h111⟩, hQ, hM⟩ := hV
  have hF : ∀ j, j < 100 → ce j = ce j := fun _ _ => rfl
  refine lv_iload_n hx hb dX6_networkMoves_0 rfl (lv_at hl 1 rfl) ?_
  by_cases h1_1 : ty = 1
  · refine lv_lookup (tgt := 160) (off := 159) hx hb dX6_networkMoves_1 (by decide) (by rw [h1_1]; rfl) (by decide) ?_
    refine lv_aload_n hx hb dX6_networkMoves_160 rfl (lv_at hl 0 rfl) ?_
    refine lv_iconst (v := -1) hx hb dX6_networkMoves_161 (by decide) ?_
    refine z_put F hw hS (fs' := [.int (T 0 0), .int (T 0 1), .int (T 0 2), .int (T 0 3), .int (T 0 4), .ref (ad 101), .ref (ad 102), .ref (ad 103), .int (T 0 5), .ref (ad 104), .ref (ad 105), .ref (ad 106), .ref (ad 107), .ref (ad 108), .int (T 0 6), .int (-1), .int (T 0 8), .ref (ad 109), .int (T 0 9), .ref (ad 110), .int (T 0 10), .int (nI M.length), .ref (ad 111)]) h100 fd_X6_39_X6 ptX6 rfl (rfl) (rfl) (Nat.le_of_ble_eq_true rfl) rfl dX6_networkMoves_162 (fun ce1 H locs h100 fr2 hw hS => ?_)
    have h101 := (fr2 101 (by decide)).trans h101
    have h102 := (fr2 102 (by decide)).trans h102
    have h103 := (fr2 103 (by decide)).trans h103
    have h104 := (fr2 104 (by decide)).trans h104
    have h105 := (fr2 105 (by decide)).trans h105
    have h106 := (fr2 106 (by decide)).trans h106
    have h107 := (fr2 107 (by decide)).trans h107
    have h108 := (fr2 108 (by decide)).trans h108
    have h109 := (fr2 109 (by decide)).trans h109
    have h110 := (fr2 110 (by decide)).trans h110
    have h111 := (fr2 111 (by decide)).trans h111
    have hF : ∀ j, j < 100 → _ = ce j := fun j hj => (fr2 j (by omega)).trans (hF j hj)
    refine lv_aload_n hx hb dX6_networkMoves_165 rfl (lv_at hl 0 rfl) ?_
    refine lv_iconst (v := 1) hx hb dX6_networkMoves_166 (by decide) ?_
    refine lv_iconst (v := 0) hx hb dX6_networkMoves_167 (by decide) ?_
    refine lv_iconst (v := 0) hx hb dX6_networkMoves_168 (by decide) ?_
    refine lv_iconst (v := 0) hx hb dX6_networkMoves_169 (by decide) ?_
    have hV : rfV G ad ce1 (va_up T 0 (va_up (T 0) 7 (-1))) Q M := ⟨_, _, _, _, ⟨h100, h101, h102, h103, h104, h105, h106, h107, h108, h109, h110, h111⟩, hQ, hM⟩
    refine z_invV F (rest := []) (r_become1 l (va_up T 0 (va_up (T 0) 7 (-1))) Q M hV 0 0 0) yv_X6_83 ⟨Nat.le_of_ble_eq_true rfl, Nat.le_of_ble_eq_true rfl⟩ hw hA hS hl h100 rfl rfl rfl (Nat.le_of_ble_eq_true rfl) dX6_networkMoves_170 ⟨Nat.le_of_ble_eq_true rfl, Nat.le_of_ble_eq_true rfl⟩ (fun r ad1 ce3 H locs hp hw hS => ?_)
    obtain ⟨rfl, rfl, hV, hF2⟩ := hp
    have hF : ∀ j, j < 100 → ce3 j = ce j := fun j hj => (hF2 j hj).trans (hF j hj)
    obtain ⟨cn, zs, bs, hh, ⟨h100, h101, h102, h103, h104, h105, h106, h107, h108, h109, h110, h111⟩, hQ, hM⟩ := hV
    refine W.eq (g2 := F0 m 173 ls []) rfl ?_
    refine lv_iconst (v := 1) hx hb dX6_networkMoves_173 (by decide) ?_
    exact z_iret F (rfl) hw hS (by unfold sp_networkMoves; rw [if_pos h1_1]; exact ⟨rfl, rfl, ⟨_, _, _, _, ⟨h100, h101, h102, h103, h104, h105, h106, h107, h108, h109, h110, h111⟩, hQ, hM⟩, hF⟩) dX6_networkMoves_174
  by_cases h1_8 : ty = 8
  · refine lv_lookup (tgt := 44) (off := 43) hx hb dX6_networkMoves_1 (by decide) (by rw [h1_8]; rfl) (by decide) ?_
    refine lv_aload_n hx hb dX6_networkMoves_44 rfl (lv_at hl 0 rfl) ?_
    refine z_get F hw h100 fd_X6_23_X6 rfl dX6_networkMoves_45 ?_
    refine lv_iconst (v := 1) hx hb dX6_networkMoves_48 (by decide) ?_
    refine z_ld F hw h104 (1) (rfl) (by decide) (by decide) dX6_networkMoves_49 ?_
    refine lv_if_ne (tgt := 63) hx hb dX6_networkMoves_50 (by decide) (fun c50 => ?_) (fun c50 => ?_)
    · refine lv_iconst (v := 0) hx hb dX6_networkMoves_63 (by decide) ?_
      exact z_iret F (rfl) hw hS (by unfold sp_networkMoves; rw [if_neg h1_1, if_pos h1_8, if_neg c50]; exact ⟨rfl, rfl, ⟨_, _, _, _, ⟨h100, h101, h102, h103, h104, h105, h106, h107, h108, h109, h110, h111⟩, hQ, hM⟩, hF⟩) dX6_networkMoves_64
    · refine lv_aload_n hx hb dX6_networkMoves_53 rfl (lv_at hl 0 rfl) ?_
      refine lv_bipush (v := 19) hx hb dX6_networkMoves_54 (by decide) ?_
      refine lv_iconst (v := 2) hx hb dX6_networkMoves_56 (by decide) ?_
      have hV : rfV G ad ce T Q M := ⟨_, _, _, _, ⟨h100, h101, h102, h103, h104, h105, h106, h107, h108, h109, h110, h111⟩, hQ, hM⟩
      refine z_invV F (rest := []) (r_has l T Q M hV hg 19 2 (by decide) (by decide)) yv_X6_87 ⟨Nat.le_of_ble_eq_true rfl, Nat.le_of_ble_eq_true rfl⟩ hw hA hS hl h100 rfl rfl rfl (Nat.le_of_ble_eq_true rfl) dX6_networkMoves_57 ⟨Nat.le_of_ble_eq_true rfl, Nat.le_of_ble_eq_true rfl⟩ (fun r ad1 ce4 H locs hp hw hS => ?_)
      obtain ⟨hp, rfl, rfl⟩ := hp
      rcases hp with ⟨hs, rfl⟩ | ⟨hs, rfl⟩
      · refine W.eq (g2 := F0 m 60 ls [.int 1]) rfl ?_
        refine lv_if_ne (tgt := 65) hx hb dX6_networkMoves_60 (by decide) (fun c60 => ?_) (fun c60 => absurd c60 (by decide))
        refine lv_aload_n hx hb dX6_networkMoves_65 rfl (lv_at hl 0 rfl) ?_
        refine lv_aload_n hx hb dX6_networkMoves_66 rfl (lv_at hl 0 rfl) ?_
        refine lv_bipush (v := 19) hx hb dX6_networkMoves_67 (by decide) ?_
        have hV : rfV G ad ce T Q M := ⟨_, _, _, _, ⟨h100, h101, h102, h103, h104, h105, h106, h107, h108, h109, h110, h111⟩, hQ, hM⟩
        refine z_invV F (rest := [.ref (ad 100)]) (r_number l T Q M hV hg 19 2 (by decide) hs) yv_X6_95 ⟨Nat.le_of_ble_eq_true rfl, Nat.le_of_ble_eq_true rfl⟩ hw hA hS hl h100 rfl rfl rfl (Nat.le_of_ble_eq_true rfl) dX6_networkMoves_69 ⟨Nat.le_of_ble_eq_true rfl, Nat.le_of_ble_eq_true rfl⟩ (fun r ad1 ce5 H locs hp hw hS => ?_)
        obtain ⟨rfl, rfl, rfl⟩ := hp
        refine W.eq (g2 := F0 m 72 ls [.int (rf_val M 19), .ref (ad 100)]) rfl ?_
        refine z_put F hw hS (fs' := [.int (T 0 0), .int (T 0 1), .int (T 0 2), .int (T 0 3), .int (T 0 4), .ref (ad 101), .ref (ad 102), .ref (ad 103), .int (T 0 5), .ref (ad 104), .ref (ad 105), .ref (ad 106), .ref (ad 107), .ref (ad 108), .int (T 0 6), .int (T 0 7), .int (rf_val M 19), .ref (ad 109), .int (T 0 9), .ref (ad 110), .int (T 0 10), .int (nI M.length), .ref (ad 111)]) h100 fd_X6_126_X6 ptX6 rfl (rfl) (rfl) (Nat.le_of_ble_eq_true rfl) rfl dX6_networkMoves_72 (fun ce6 H locs h100 fr7 hw hS => ?_)
        have h101 := (fr7 101 (by decide)).trans h101
        have h102 := (fr7 102 (by decide)).trans h102
        have h103 := (fr7 103 (by decide)).trans h103
        have h104 := (fr7 104 (by decide)).trans h104
        have h105 := (fr7 105 (by decide)).trans h105
        have h106 := (fr7 106 (by decide)).trans h106
        have h107 := (fr7 107 (by decide)).trans h107
        have h108 := (fr7 108 (by decide)).trans h108
        have h109 := (fr7 109 (by decide)).trans h109
        have h110 := (fr7 110 (by decide)).trans h110
        have h111 := (fr7 111 (by decide)).trans h111
        have hF : ∀ j, j < 100 → _ = ce j := fun j hj => (fr7 j (by omega)).trans (hF j hj)
        refine lv_aload_n hx hb dX6_networkMoves_75 rfl (lv_at hl 0 rfl) ?_
        refine lv_iconst (v := 1) hx hb dX6_networkMoves_76 (by decide) ?_
        have hV : rfV G ad ce6 (va_up T 0 (va_up (T 0) 8 (rf_val M 19))) Q M := ⟨_, _, _, _, ⟨h100, h101, h102, h103, h104, h105, h106, h107, h108, h109, h110, h111⟩, hQ, hM⟩
        refine z_invV F (rest := []) (r_ask l (va_up T 0 (va_up (T 0) 8 (rf_val M 19))) Q M hV 1) yv_X6_129 ⟨Nat.le_of_ble_eq_true rfl, Nat.le_of_ble_eq_true rfl⟩ hw hA hS hl h100 rfl rfl rfl (Nat.le_of_ble_eq_true rfl) dX6_networkMoves_77 ⟨Nat.le_of_ble_eq_true rfl, Nat.le_of_ble_eq_true rfl⟩ (fun r ad1 ce8 H locs hp hw hS => ?_)
        obtain ⟨rfl, rfl, hV, hF2⟩ := hp
        have hF : ∀ j, j < 100 → ce8 j = ce j := fun j hj => (hF2 j hj).trans (hF j hj)
        obtain ⟨cn, zs, bs, hh, ⟨h100, h101, h102, h103, h104, h105, h106, h107, h108, h109, h110, h111⟩, hQ, hM⟩ := hV
        refine W.eq (g2 := F0 m 80 ls []) rfl ?_
        refine lv_iconst (v := 1) hx hb dX6_networkMoves_80 (by decide) ?_
        exact z_iret F (rfl) hw hS (by unfold sp_networkMoves; rw [if_neg h1_1, if_pos h1_8, if_pos c50, if_pos hs]; exact ⟨rfl, rfl, ⟨_, _, _, _, ⟨h100, h101, h102, h103, h104, h105, h106, h107, h108, h109, h110, h111⟩, hQ, hM⟩, hF⟩) dX6_networkMoves_81
      · refine W.eq (g2 := F0 m 60 ls [.int 0]) rfl ?_
        refine lv_if_ne (tgt := 65) hx hb dX6_networkMoves_60 (by decide) (fun c60 => absurd c60 (by decide)) (fun c60 => ?_)
        refine lv_iconst (v := 0) hx hb dX6_networkMoves_63 (by decide) ?_
        exact z_iret F (rfl) hw hS (by unfold sp_networkMoves; rw [if_neg h1_1, if_pos h1_8, if_pos c50, if_neg hs]; exact ⟨rfl, rfl, ⟨_, _, _, _, ⟨h100, h101, h102, h103, h104, h105, h106, h107, h108, h109, h110, h111⟩, hQ, hM⟩, hF⟩) dX6_networkMoves_64
  by_cases h1_20 : ty = 20
  · refine lv_lookup (tgt := 122) (off := 121) hx hb dX6_networkMoves_1 (by decide) (by rw [h1_20]; rfl) (by decide) ?_
    refine lv_aload_n hx hb dX6_networkMoves_122 rfl (lv_at hl 0 rfl) ?_
    refine z_get F hw h100 fd_X6_23_X6 rfl dX6_networkMoves_123 ?_
    refine lv_iconst (v := 1) hx hb dX6_networkMoves_126 (by decide) ?_
    refine z_ld F hw h104 (1) (rfl) (by decide) (by decide) dX6_networkMoves_127 ?_
    refine lv_iconst (v := 1) hx hb dX6_networkMoves_128 (by decide) ?_
    refine lv_icmp_eq (tgt := 142) hx hb dX6_networkMoves_129 (by decide) (fun c129 => ?_) (fun c129 => ?_)
    · refine lv_aload_n hx hb dX6_networkMoves_142 rfl (lv_at hl 0 rfl) ?_
      refine lv_bipush (v := 34) hx hb dX6_networkMoves_143 (by decide) ?_
      refine lv_iconst (v := 4) hx hb dX6_networkMoves_145 (by decide) ?_
      have hV : rfV G ad ce T Q M := ⟨_, _, _, _, ⟨h100, h101, h102, h103, h104, h105, h106, h107, h108, h109, h110, h111⟩, hQ, hM⟩
      refine z_invV F (rest := []) (r_has l T Q M hV hg 34 4 (by decide) (by decide)) yv_X6_87 ⟨Nat.le_of_ble_eq_true rfl, Nat.le_of_ble_eq_true rfl⟩ hw hA hS hl h100 rfl rfl rfl (Nat.le_of_ble_eq_true rfl) dX6_networkMoves_146 ⟨Nat.le_of_ble_eq_true rfl, Nat.le_of_ble_eq_true rfl⟩ (fun r ad1 ce9 H locs hp hw hS => ?_)
      obtain ⟨hp, rfl, rfl⟩ := hp
      rcases hp with ⟨hs, rfl⟩ | ⟨hs, rfl⟩
      · refine W.eq (g2 := F0 m 149 ls [.int 1]) rfl ?_
        refine lv_if_ne (tgt := 154) hx hb dX6_networkMoves_149 (by decide) (fun c149 => ?_) (fun c149 => absurd c149 (by decide))
        refine lv_aload_n hx hb dX6_networkMoves_154 rfl (lv_at hl 0 rfl) ?_
        have hV : rfV G ad ce T Q M := ⟨_, _, _, _, ⟨h100, h101, h102, h103, h104, h105, h106, h107, h108, h109, h110, h111⟩, hQ, hM⟩
        refine z_invV F (rest := []) (r_judge l T Q M hV hg hs) yv_X6_132 ⟨Nat.le_of_ble_eq_true rfl, Nat.le_of_ble_eq_true rfl⟩ hw hA hS hl h100 rfl rfl rfl (Nat.le_of_ble_eq_true rfl) dX6_networkMoves_155 ⟨Nat.le_of_ble_eq_true rfl, Nat.le_of_ble_eq_true rfl⟩ (fun r ad1 ce10 H locs hp hw hS => ?_)
        obtain ⟨rfl, rfl, hV, hF2⟩ := hp
        have hF : ∀ j, j < 100 → ce10 j = ce j := fun j hj => (hF2 j hj).trans (hF j hj)
        obtain ⟨cn, zs, bs, hh, ⟨h100, h101, h102, h103, h104, h105, h106, h107, h108, h109, h110, h111⟩, hQ, hM⟩ := hV
        refine W.eq (g2 := F0 m 158 ls []) rfl ?_
        refine lv_iconst (v := 1) hx hb dX6_networkMoves_158 (by decide) ?_
        exact z_iret F (rfl) hw hS (by unfold sp_networkMoves; rw [if_neg h1_1, if_neg h1_8, if_pos h1_20, if_pos c129, if_pos hs]; exact ⟨rfl, rfl, ⟨_, _, _, _, ⟨h100, h101, h102, h103, h104, h105, h106, h107, h108, h109, h110, h111⟩, hQ, hM⟩, hF⟩) dX6_networkMoves_159
      · refine W.eq (g2 := F0 m 149 ls [.int 0]) rfl ?_
        refine lv_if_ne (tgt := 154) hx hb dX6_networkMoves_149 (by decide) (fun c149 => absurd c149 (by decide)) (fun c149 => ?_)
        refine lv_iconst (v := 0) hx hb dX6_networkMoves_152 (by decide) ?_
        exact z_iret F (rfl) hw hS (by unfold sp_networkMoves; rw [if_neg h1_1, if_neg h1_8, if_pos h1_20, if_pos c129, if_neg hs]; exact ⟨rfl, rfl, ⟨_, _, _, _, ⟨h100, h101, h102, h103, h104, h105, h106, h107, h108, h109, h110, h111⟩, hQ, hM⟩, hF⟩) dX6_networkMoves_153
    · refine lv_aload_n hx hb dX6_networkMoves_132 rfl (lv_at hl 0 rfl) ?_
      refine z_get F hw h100 fd_X6_23_X6 rfl dX6_networkMoves_133 ?_
      refine lv_iconst (v := 1) hx hb dX6_networkMoves_136 (by decide) ?_
      refine z_ld F hw h104 (1) (rfl) (by decide) (by decide) dX6_networkMoves_137 ?_
      refine lv_iconst (v := 2) hx hb dX6_networkMoves_138 (by decide) ?_
      refine lv_icmp_ne (tgt := 152) hx hb dX6_networkMoves_139 (by decide) (fun c139 => ?_) (fun c139 => ?_)
      · refine lv_iconst (v := 0) hx hb dX6_networkMoves_152 (by decide) ?_
        exact z_iret F (rfl) hw hS (by unfold sp_networkMoves; rw [if_neg h1_1, if_neg h1_8, if_pos h1_20, if_neg c129, if_neg c139]; exact ⟨rfl, rfl, ⟨_, _, _, _, ⟨h100, h101, h102, h103, h104, h105, h106, h107, h108, h109, h110, h111⟩, hQ, hM⟩, hF⟩) dX6_networkMoves_153
      · refine lv_aload_n hx hb dX6_networkMoves_142 rfl (lv_at hl 0 rfl) ?_
        refine lv_bipush (v := 34) hx hb dX6_networkMoves_143 (by decide) ?_
        refine lv_iconst (v := 4) hx hb dX6_networkMoves_145 (by decide) ?_
        have hV : rfV G ad ce T Q M := ⟨_, _, _, _, ⟨h100, h101, h102, h103, h104, h105, h106, h107, h108, h109, h110, h111⟩, hQ, hM⟩
        refine z_invV F (rest := []) (r_has l T Q M hV hg 34 4 (by decide) (by decide)) yv_X6_87 ⟨Nat.le_of_ble_eq_true rfl, Nat.le_of_ble_eq_true rfl⟩ hw hA hS hl h100 rfl rfl rfl (Nat.le_of_ble_eq_true rfl) dX6_networkMoves_146 ⟨Nat.le_of_ble_eq_true rfl, Nat.le_of_ble_eq_true rfl⟩ (fun r ad1 ce11 H locs hp hw hS => ?_)
        obtain ⟨hp, rfl, rfl⟩ := hp
        rcases hp with ⟨hs, rfl⟩ | ⟨hs, rfl⟩
        · refine W.eq (g2 := F0 m 149 ls [.int 1]) rfl ?_
          refine lv_if_ne (tgt := 154) hx hb dX6_networkMoves_149 (by decide) (fun c149 => ?_) (fun c149 => absurd c149 (by decide))
          refine lv_aload_n hx hb dX6_networkMoves_154 rfl (lv_at hl 0 rfl) ?_
          have hV : rfV G ad ce T Q M := ⟨_, _, _, _, ⟨h100, h101, h102, h103, h104, h105, h106, h107, h108, h109, h110, h111⟩, hQ, hM⟩
          refine z_invV F (rest := []) (r_judge l T Q M hV hg hs) yv_X6_132 ⟨Nat.le_of_ble_eq_true rfl, Nat.le_of_ble_eq_true rfl⟩ hw hA hS hl h100 rfl rfl rfl (Nat.le_of_ble_eq_true rfl) dX6_networkMoves_155 ⟨Nat.le_of_ble_eq_true rfl, Nat.le_of_ble_eq_true rfl⟩ (fun r ad1 ce12 H locs hp hw hS => ?_)
          obtain ⟨rfl, rfl, hV, hF2⟩ := hp
          have hF : ∀ j, j < 100 → ce12 j = ce j := fun j hj => (hF2 j hj).trans (hF j hj)
          obtain ⟨cn, zs, bs, hh, ⟨h100, h101, h102, h103, h104, h105, h106, h107, h108, h109, h110, h111⟩, hQ, hM⟩ := hV
          refine W.eq (g2 := F0 m 158 ls []) rfl ?_
          refine lv_iconst (v := 1) hx hb dX6_networkMoves_158 (by decide) ?_
          exact z_iret F (rfl) hw hS (by unfold sp_networkMoves; rw [if_neg h1_1, if_neg h1_8, if_pos h1_20, if_neg c129, if_pos c139, if_pos hs]; exact ⟨rfl, rfl, ⟨_, _, _, _, ⟨h100, h101, h102, h103, h104, h105, h106, h107, h108, h109, h110, h111⟩, hQ, hM⟩, hF⟩) dX6_networkMoves_159
        · refine W.eq (g2 := F0 m 149 ls [.int 0]) rfl ?_
          refine lv_if_ne (tgt := 154) hx hb dX6_networkMoves_149 (by decide) (fun c149 => absurd c149 (by decide)) (fun c149 => ?_)
          refine lv_iconst (v := 0) hx hb dX6_networkMoves_152 (by decide) ?_
          exact z_iret F (rfl) hw hS (by unfold sp_networkMoves; rw [if_neg h1_1, if_neg h1_8, if_pos h1_20, if_neg c129, if_pos c139, if_neg hs]; exact ⟨rfl, rfl, ⟨_, _, _, _, ⟨h100, h101, h102, h103, h104, h105, h106, h107, h108, h109, h110, h111⟩, hQ, hM⟩, hF⟩) dX6_networkMoves_153
  by_cases h1_36 : ty = 36
  · refine lv_lookup (tgt := 82) (off := 81) hx hb dX6_networkMoves_1 (by decide) (by rw [h1_36]; rfl) (by decide) ?_
    refine lv_aload_n hx hb dX6_networkMoves_82 rfl (lv_at hl 0 rfl) ?_
    refine z_get F hw h100 fd_X6_23_X6 rfl dX6_networkMoves_83 ?_
    refine lv_iconst (v := 1) hx hb dX6_networkMoves_86 (by decide) ?_
    refine z_ld F hw h104 (1) (rfl) (by decide) (by decide) dX6_networkMoves_87 ?_
    refine lv_if_eq (tgt := 93) hx hb dX6_networkMoves_88 (by decide) (fun c88 => ?_) (fun c88 => ?_)
    · refine lv_aload_n hx hb dX6_networkMoves_93 rfl (lv_at hl 0 rfl) ?_
      refine z_get F hw h100 fd_X6_39_X6 rfl dX6_networkMoves_94 ?_
      refine lv_if_ge (tgt := 115) hx hb dX6_networkMoves_97 (by decide) (fun c97 => ?_) (fun c97 => ?_)
      · refine lv_aload_n hx hb dX6_networkMoves_115 rfl (lv_at hl 0 rfl) ?_
        refine lv_iconst (v := 2) hx hb dX6_networkMoves_116 (by decide) ?_
        have hV : rfV G ad ce T Q M := ⟨_, _, _, _, ⟨h100, h101, h102, h103, h104, h105, h106, h107, h108, h109, h110, h111⟩, hQ, hM⟩
        refine z_invV F (rest := []) (r_ask l T Q M hV 2) yv_X6_129 ⟨Nat.le_of_ble_eq_true rfl, Nat.le_of_ble_eq_true rfl⟩ hw hA hS hl h100 rfl rfl rfl (Nat.le_of_ble_eq_true rfl) dX6_networkMoves_117 ⟨Nat.le_of_ble_eq_true rfl, Nat.le_of_ble_eq_true rfl⟩ (fun r ad1 ce13 H locs hp hw hS => ?_)
        obtain ⟨rfl, rfl, hV, hF2⟩ := hp
        have hF : ∀ j, j < 100 → ce13 j = ce j := fun j hj => (hF2 j hj).trans (hF j hj)
        obtain ⟨cn, zs, bs, hh, ⟨h100, h101, h102, h103, h104, h105, h106, h107, h108, h109, h110, h111⟩, hQ, hM⟩ := hV
        refine W.eq (g2 := F0 m 120 ls []) rfl ?_
        refine lv_iconst (v := 1) hx hb dX6_networkMoves_120 (by decide) ?_
        exact z_iret F (rfl) hw hS (by unfold sp_networkMoves; rw [if_neg h1_1, if_neg h1_8, if_neg h1_20, if_pos h1_36, if_pos c88, if_pos c97]; exact ⟨rfl, rfl, ⟨_, _, _, _, ⟨h100, h101, h102, h103, h104, h105, h106, h107, h108, h109, h110, h111⟩, hQ, hM⟩, hF⟩) dX6_networkMoves_121
      · refine lv_aload_n hx hb dX6_networkMoves_100 rfl (lv_at hl 0 rfl) ?_
        refine lv_iconst (v := 1) hx hb dX6_networkMoves_101 (by decide) ?_
        refine lv_iconst (v := 5) hx hb dX6_networkMoves_102 (by decide) ?_
        refine lv_bipush (v := 34) hx hb dX6_networkMoves_103 (by decide) ?_
        refine lv_bipush (v := 8) hx hb dX6_networkMoves_105 (by decide) ?_
        refine lv_iconst (v := 1) hx hb dX6_networkMoves_107 (by decide) ?_
        refine lv_iconst (v := 4) hx hb dX6_networkMoves_108 (by decide) ?_
        have hV : rfV G ad ce T Q M := ⟨_, _, _, _, ⟨h100, h101, h102, h103, h104, h105, h106, h107, h108, h109, h110, h111⟩, hQ, hM⟩
        refine z_invV F (rest := []) (r_tell1_1 l T Q M hV 5 34 8 (by decide) (by decide) (by decide) 4) yv_X6_112 ⟨Nat.le_of_ble_eq_true rfl, Nat.le_of_ble_eq_true rfl⟩ hw hA hS hl h100 rfl rfl rfl (Nat.le_of_ble_eq_true rfl) dX6_networkMoves_109 ⟨Nat.le_of_ble_eq_true rfl, Nat.le_of_ble_eq_true rfl⟩ (fun r ad1 ce14 H locs hp hw hS => ?_)
        obtain ⟨rfl, rfl, hV, hF2⟩ := hp
        have hF : ∀ j, j < 100 → ce14 j = ce j := fun j hj => (hF2 j hj).trans (hF j hj)
        obtain ⟨cn, zs, bs, hh, ⟨h100, h101, h102, h103, h104, h105, h106, h107, h108, h109, h110, h111⟩, hQ, hM⟩ := hV
        refine W.eq (g2 := F0 m 112 ls []) rfl ?_
        refine lv_goto (tgt := 120) hx hb dX6_networkMoves_112 (by decide) ?_
        refine lv_iconst (v := 1) hx hb dX6_networkMoves_120 (by decide) ?_
        exact z_iret F (rfl) hw hS (by unfold sp_networkMoves; rw [if_neg h1_1, if_neg h1_8, if_neg h1_20, if_pos h1_36, if_pos c88, if_neg c97]; exact ⟨rfl, rfl, ⟨_, _, _, _, ⟨h100, h101, h102, h103, h104, h105, h106, h107, h108, h109, h110, h111⟩, hQ, hM⟩, hF⟩) dX6_networkMoves_121
    · refine lv_iconst (v := 0) hx hb dX6_networkMoves_91 (by decide) ?_
      exact z_iret F (rfl) hw hS (by unfold sp_networkMoves; rw [if_neg h1_1, if_neg h1_8, if_neg h1_20, if_pos h1_36, if_neg c88]; exact ⟨rfl, rfl, ⟨_, _, _, _, ⟨h100, h101, h102, h103, h104, h105, h106, h107, h108, h109, h110, h111⟩, hQ, hM⟩, hF⟩) dX6_networkMoves_92
  refine lv_lookup (tgt := 175) (off := 174) hx hb dX6_networkMoves_1 (by decide) ((lv_osw (k := 1) (fun q => h1_1 (rf_ei hty (by decide) q)) rfl).trans ((lv_osw (k := 8) (fun q => h1_8 (rf_ei hty (by decide) q)) rfl).trans ((lv_osw (k := 20) (fun q => h1_20 (rf_ei hty (by decide) q)) rfl).trans ((lv_osw (k := 36) (fun q => h1_36 (rf_ei hty (by decide) q)) rfl).trans (rfl))))) (by decide) ?_
  refine lv_iconst (v := 0) hx hb dX6_networkMoves_175 (by decide) ?_
  exact z_iret F (rfl) hw hS (by unfold sp_networkMoves; rw [if_neg h1_1, if_neg h1_8, if_neg h1_20, if_neg h1_36]; exact ⟨rfl, rfl, ⟨_, _, _, _, ⟨h100, h101, h102, h103, h104, h105, h106, h107, h108, h109, h110, h111⟩, hQ, hM⟩, hF⟩) dX6_networkMoves_176
def sp_out0 (T : rf_T) (Q : rf_Q) (M : List Nat) : rf_R := (if (((T 2) 0) : Int32) = 5 then (0, (rf_rel T 0), rf_put T Q 0 [3, 45]) else (if (((T 2) 0) : Int32) = 6 then (if (((T 4) 0) : Int32) = 0 then (0, va_up (va_up T 3 (upd (T 3) 0 30)) 4 (upd (T 4) 0 1), rf_put T Q 0 [3, 45]) else (if (((T 2) 0) : Int32) = 6 then (0, (rf_become T 0 3 0 0), Q) else (if (((T 2) 0) : Int32) = 1 then (0, (rf_become T 0 3 0 0), rf_put T Q 0 [3, 42]) else (if (((T 1) 0) : Int32) = 2 then (0, (rf_become T 0 1 ((T 2) 0) 0), Q) else (if (((T 1) 0) : Int32) = 4 then (0, (rf_become T 0 3 ((T 2) 0) 0), Q) else (0, (rf_become T 0 ((T 1) 0) ((T 2) 0) 0), Q)))))) else (if (((T 2) 0) : Int32) = 6 then (0, (rf_become T 0 3 0 0), Q) else (if (((T 2) 0) : Int32) = 1 then (0, (rf_become T 0 3 0 0), rf_put T Q 0 [3, 42]) else (if (((T 1) 0) : Int32) = 2 then (0, (rf_become T 0 1 ((T 2) 0) 0), Q) else (if (((T 1) 0) : Int32) = 4 then (0, (rf_become T 0 3 ((T 2) 0) 0), Q) else (0, (rf_become T 0 ((T 1) 0) ((T 2) 0) 0), Q)))))))
set_option maxHeartbeats 4000000 in
set_option maxRecDepth 100000 in
theorem r_out0 (l : Launch) {G : zz_G} {ad : Nat → Nat} {ce : zz_C} {sz : Nat} (T : rf_T) (Q : rf_Q) (M : List Nat) (hV : rfV G ad ce T Q M) : zz_M l yX6_out cX6_out 3 none 2 52 0 0 G [.ref (ad 100), .int 0] ad ce sz (fun r ad1 ce1 => r = none ∧ ad = ad1 ∧ rfV G ad ce1 (sp_out0 T Q M).2.1 (sp_out0 T Q M).2.2 M ∧ (∀ j, j < 100 → ce1 j = ce j)) := by
  refine zz_enter (by decide) (Nat.le_of_ble_eq_true rfl) ?_
  intro p e s m below meth c ls F hl hw hS hA
  obtain ⟨hx, hb, hr, hml, hown, hts, hlocks, hK, hnm⟩ := id F
  have hl : lv_has ls 3 [(0, .ref (ad 100)), (1, .int 0)] := hl
  obtain ⟨cn, zs, bs, hh, ⟨h100, h101, h102, h103, h104, h105, h106, h107, h108, h109, h110, h111⟩, hQ, hM⟩ := hV
  have hF : ∀ j, j < 100 → ce j = ce j := fun _ _ => rfl
  refine lv_bipush (v := -3) hx hb dX6_out_0 (by decide) ?_
  refine lv_istore_n (lv' := [(2, .int (-3)), (0, .ref (ad 100)), (1, .int 0)]) hx hb dX6_out_2 rfl hl (by decide) rfl (fun ls hl => ?_)
  refine lv_aload_n hx hb dX6_out_3 rfl (lv_at hl 1 rfl) ?_
  refine z_get F hw h100 fd_X6_26_X6 rfl dX6_out_4 ?_
  refine lv_iload_n hx hb dX6_out_7 rfl (lv_at hl 2 rfl) ?_
  refine z_ld F hw h105 (0) (rfl) (by decide) (by decide) dX6_out_8 ?_
  refine lv_iconst (v := 5) hx hb dX6_out_9 (by decide) ?_
  refine lv_icmp_ne (tgt := 21) hx hb dX6_out_10 (by decide) (fun c10 => ?_) (fun c10 => ?_)
  · refine lv_aload_n hx hb dX6_out_21 rfl (lv_at hl 1 rfl) ?_
    refine z_get F hw h100 fd_X6_26_X6 rfl dX6_out_22 ?_
    refine lv_iload_n hx hb dX6_out_25 rfl (lv_at hl 2 rfl) ?_
    refine z_ld F hw h105 (0) (rfl) (by decide) (by decide) dX6_out_26 ?_
    refine lv_bipush (v := 6) hx hb dX6_out_27 (by decide) ?_
    refine lv_icmp_ne (tgt := 72) hx hb dX6_out_29 (by decide) (fun c29 => ?_) (fun c29 => ?_)
    · refine lv_aload_n hx hb dX6_out_72 rfl (lv_at hl 1 rfl) ?_
      refine z_get F hw h100 fd_X6_26_X6 rfl dX6_out_73 ?_
      refine lv_iload_n hx hb dX6_out_76 rfl (lv_at hl 2 rfl) ?_
      refine z_ld F hw h105 (0) (rfl) (by decide) (by decide) dX6_out_77 ?_
      refine lv_bipush (v := 6) hx hb dX6_out_78 (by decide) ?_
      refine lv_icmp_ne (tgt := 98) hx hb dX6_out_80 (by decide) (fun c80 => ?_) (fun c80 => ?_)
      · refine lv_iload_n hx hb dX6_out_98 rfl (lv_at hl 2 rfl) ?_
        refine lv_if_ne (tgt := 132) hx hb dX6_out_99 (by decide) (fun c99 => absurd c99 (by decide)) (fun c99 => ?_)
        refine lv_aload_n hx hb dX6_out_102 rfl (lv_at hl 1 rfl) ?_
        refine z_get F hw h100 fd_X6_26_X6 rfl dX6_out_103 ?_
        refine lv_iconst (v := 0) hx hb dX6_out_106 (by decide) ?_
        refine z_ld F hw h105 (0) (rfl) (by decide) (by decide) dX6_out_107 ?_
        refine lv_iconst (v := 1) hx hb dX6_out_108 (by decide) ?_
        refine lv_icmp_ne (tgt := 132) hx hb dX6_out_109 (by decide) (fun c109 => ?_) (fun c109 => ?_)
        · refine lv_iload_n hx hb dX6_out_132 rfl (lv_at hl 2 rfl) ?_
          refine lv_if_ne (tgt := 185) hx hb dX6_out_133 (by decide) (fun c133 => absurd c133 (by decide)) (fun c133 => ?_)
          refine lv_aload_n hx hb dX6_out_136 rfl (lv_at hl 1 rfl) ?_
          refine lv_iconst (v := 0) hx hb dX6_out_137 (by decide) ?_
          refine lv_aload_n hx hb dX6_out_138 rfl (lv_at hl 1 rfl) ?_
          refine z_get F hw h100 fd_X6_23_X6 rfl dX6_out_139 ?_
          refine lv_iconst (v := 0) hx hb dX6_out_142 (by decide) ?_
          refine z_ld F hw h104 (0) (rfl) (by decide) (by decide) dX6_out_143 ?_
          refine lv_iconst (v := 2) hx hb dX6_out_144 (by decide) ?_
          refine lv_icmp_ne (tgt := 152) hx hb dX6_out_145 (by decide) (fun c145 => ?_) (fun c145 => ?_)
          · refine lv_aload_n hx hb dX6_out_152 rfl (lv_at hl 1 rfl) ?_
            refine z_get F hw h100 fd_X6_23_X6 rfl dX6_out_153 ?_
            refine lv_iconst (v := 0) hx hb dX6_out_156 (by decide) ?_
            refine z_ld F hw h104 (0) (rfl) (by decide) (by decide) dX6_out_157 ?_
            refine lv_iconst (v := 4) hx hb dX6_out_158 (by decide) ?_
            refine lv_icmp_ne (tgt := 166) hx hb dX6_out_159 (by decide) (fun c159 => ?_) (fun c159 => ?_)
            · refine lv_aload_n hx hb dX6_out_166 rfl (lv_at hl 1 rfl) ?_
              refine z_get F hw h100 fd_X6_23_X6 rfl dX6_out_167 ?_
              refine lv_iconst (v := 0) hx hb dX6_out_170 (by decide) ?_
              refine z_ld F hw h104 (0) (rfl) (by decide) (by decide) dX6_out_171 ?_
              refine lv_aload_n hx hb dX6_out_172 rfl (lv_at hl 1 rfl) ?_
              refine z_get F hw h100 fd_X6_26_X6 rfl dX6_out_173 ?_
              refine lv_iconst (v := 0) hx hb dX6_out_176 (by decide) ?_
              refine z_ld F hw h105 (0) (rfl) (by decide) (by decide) dX6_out_177 ?_
              refine lv_iconst (v := 0) hx hb dX6_out_178 (by decide) ?_
              have hV : rfV G ad ce T Q M := ⟨_, _, _, _, ⟨h100, h101, h102, h103, h104, h105, h106, h107, h108, h109, h110, h111⟩, hQ, hM⟩
              refine z_invV F (rest := []) (r_become0 l T Q M hV ((T 1) 0) ((T 2) 0) 0) yv_X6_83 ⟨Nat.le_of_ble_eq_true rfl, Nat.le_of_ble_eq_true rfl⟩ hw hA hS hl h100 rfl rfl rfl (Nat.le_of_ble_eq_true rfl) dX6_out_179 ⟨Nat.le_of_ble_eq_true rfl, Nat.le_of_ble_eq_true rfl⟩ (fun r ad1 ce1 H locs hp hw hS => ?_)
              obtain ⟨rfl, rfl, hV, hF2⟩ := hp
              have hF : ∀ j, j < 100 → ce1 j = ce j := fun j hj => (hF2 j hj).trans (hF j hj)
              obtain ⟨cn, zs, bs, hh, ⟨h100, h101, h102, h103, h104, h105, h106, h107, h108, h109, h110, h111⟩, hQ, hM⟩ := hV
              refine W.eq (g2 := F0 m 182 ls []) rfl ?_
              refine lv_goto (tgt := 247) hx hb dX6_out_182 (by decide) ?_
              exact z_vret F hw hS (by unfold sp_out0; rw [if_neg c10, if_neg c29, if_neg c80, if_neg c109, if_neg c145, if_neg c159]; exact ⟨rfl, rfl, ⟨_, _, _, _, ⟨h100, h101, h102, h103, h104, h105, h106, h107, h108, h109, h110, h111⟩, hQ, hM⟩, hF⟩) dX6_out_247
            · refine lv_iconst (v := 3) hx hb dX6_out_162 (by decide) ?_
              refine lv_goto (tgt := 172) hx hb dX6_out_163 (by decide) ?_
              refine lv_aload_n hx hb dX6_out_172 rfl (lv_at hl 1 rfl) ?_
              refine z_get F hw h100 fd_X6_26_X6 rfl dX6_out_173 ?_
              refine lv_iconst (v := 0) hx hb dX6_out_176 (by decide) ?_
              refine z_ld F hw h105 (0) (rfl) (by decide) (by decide) dX6_out_177 ?_
              refine lv_iconst (v := 0) hx hb dX6_out_178 (by decide) ?_
              have hV : rfV G ad ce T Q M := ⟨_, _, _, _, ⟨h100, h101, h102, h103, h104, h105, h106, h107, h108, h109, h110, h111⟩, hQ, hM⟩
              refine z_invV F (rest := []) (r_become0 l T Q M hV 3 ((T 2) 0) 0) yv_X6_83 ⟨Nat.le_of_ble_eq_true rfl, Nat.le_of_ble_eq_true rfl⟩ hw hA hS hl h100 rfl rfl rfl (Nat.le_of_ble_eq_true rfl) dX6_out_179 ⟨Nat.le_of_ble_eq_true rfl, Nat.le_of_ble_eq_true rfl⟩ (fun r ad1 ce2 H locs hp hw hS => ?_)
              obtain ⟨rfl, rfl, hV, hF2⟩ := hp
              have hF : ∀ j, j < 100 → ce2 j = ce j := fun j hj => (hF2 j hj).trans (hF j hj)
              obtain ⟨cn, zs, bs, hh, ⟨h100, h101, h102, h103, h104, h105, h106, h107, h108, h109, h110, h111⟩, hQ, hM⟩ := hV
              refine W.eq (g2 := F0 m 182 ls []) rfl ?_
              refine lv_goto (tgt := 247) hx hb dX6_out_182 (by decide) ?_
              exact z_vret F hw hS (by unfold sp_out0; rw [if_neg c10, if_neg c29, if_neg c80, if_neg c109, if_neg c145, if_pos c159]; exact ⟨rfl, rfl, ⟨_, _, _, _, ⟨h100, h101, h102, h103, h104, h105, h106, h107, h108, h109, h110, h111⟩, hQ, hM⟩, hF⟩) dX6_out_247
          · refine lv_iconst (v := 1) hx hb dX6_out_148 (by decide) ?_
            refine lv_goto (tgt := 172) hx hb dX6_out_149 (by decide) ?_
            refine lv_aload_n hx hb dX6_out_172 rfl (lv_at hl 1 rfl) ?_
            refine z_get F hw h100 fd_X6_26_X6 rfl dX6_out_173 ?_
            refine lv_iconst (v := 0) hx hb dX6_out_176 (by decide) ?_
            refine z_ld F hw h105 (0) (rfl) (by decide) (by decide) dX6_out_177 ?_
            refine lv_iconst (v := 0) hx hb dX6_out_178 (by decide) ?_
            have hV : rfV G ad ce T Q M := ⟨_, _, _, _, ⟨h100, h101, h102, h103, h104, h105, h106, h107, h108, h109, h110, h111⟩, hQ, hM⟩
            refine z_invV F (rest := []) (r_become0 l T Q M hV 1 ((T 2) 0) 0) yv_X6_83 ⟨Nat.le_of_ble_eq_true rfl, Nat.le_of_ble_eq_true rfl⟩ hw hA hS hl h100 rfl rfl rfl (Nat.le_of_ble_eq_true rfl) dX6_out_179 ⟨Nat.le_of_ble_eq_true rfl, Nat.le_of_ble_eq_true rfl⟩ (fun r ad1 ce3 H locs hp hw hS => ?_)
            obtain ⟨rfl, rfl, hV, hF2⟩ := hp
            have hF : ∀ j, j < 100 → ce3 j = ce j := fun j hj => (hF2 j hj).trans (hF j hj)
            obtain ⟨cn, zs, bs, hh, ⟨h100, h101, h102, h103, h104, h105, h106, h107, h108, h109, h110, h111⟩, hQ, hM⟩ := hV
            refine W.eq (g2 := F0 m 182 ls []) rfl ?_
            refine lv_goto (tgt := 247) hx hb dX6_out_182 (by decide) ?_
            exact z_vret F hw hS (by unfold sp_out0; rw [if_neg c10, if_neg c29, if_neg c80, if_neg c109, if_pos c145]; exact ⟨rfl, rfl, ⟨_, _, _, _, ⟨h100, h101, h102, h103, h104, h105, h106, h107, h108, h109, h110, h111⟩, hQ, hM⟩, hF⟩) dX6_out_247
        · refine lv_aload_n hx hb dX6_out_112 rfl (lv_at hl 1 rfl) ?_
          refine lv_iconst (v := 0) hx hb dX6_out_113 (by decide) ?_
          refine lv_iconst (v := 3) hx hb dX6_out_114 (by decide) ?_
          refine lv_bipush (v := 42) hx hb dX6_out_115 (by decide) ?_
          have hV : rfV G ad ce T Q M := ⟨_, _, _, _, ⟨h100, h101, h102, h103, h104, h105, h106, h107, h108, h109, h110, h111⟩, hQ, hM⟩
          refine z_invV F (rest := []) (r_put0 l T Q M hV 3 42 (by decide) (by decide)) yv_X6_64 ⟨Nat.le_of_ble_eq_true rfl, Nat.le_of_ble_eq_true rfl⟩ hw hA hS hl h100 rfl rfl rfl (Nat.le_of_ble_eq_true rfl) dX6_out_117 ⟨Nat.le_of_ble_eq_true rfl, Nat.le_of_ble_eq_true rfl⟩ (fun r ad1 ce4 H locs hp hw hS => ?_)
          obtain ⟨rfl, rfl, hV, hF2⟩ := hp
          have hF : ∀ j, j < 100 → ce4 j = ce j := fun j hj => (hF2 j hj).trans (hF j hj)
          obtain ⟨cn, zs, bs, hh, ⟨h100, h101, h102, h103, h104, h105, h106, h107, h108, h109, h110, h111⟩, hQ, hM⟩ := hV
          refine W.eq (g2 := F0 m 120 ls [.int (rf_hd T Q 0)]) rfl ?_
          refine lv_istore_n (lv' := [(2, .int (rf_hd T Q 0)), (0, .ref (ad 100)), (1, .int 0)]) hx hb dX6_out_120 rfl hl (by decide) rfl (fun ls hl => ?_)
          refine lv_aload_n hx hb dX6_out_121 rfl (lv_at hl 1 rfl) ?_
          refine lv_iconst (v := 0) hx hb dX6_out_122 (by decide) ?_
          refine lv_iconst (v := 3) hx hb dX6_out_123 (by decide) ?_
          refine lv_iconst (v := 0) hx hb dX6_out_124 (by decide) ?_
          refine lv_iconst (v := 0) hx hb dX6_out_125 (by decide) ?_
          have hV : rfV G ad ce4 T (rf_put T Q 0 [3, 42]) M := ⟨_, _, _, _, ⟨h100, h101, h102, h103, h104, h105, h106, h107, h108, h109, h110, h111⟩, hQ, hM⟩
          refine z_invV F (rest := []) (r_become0 l T (rf_put T Q 0 [3, 42]) M hV 3 0 0) yv_X6_83 ⟨Nat.le_of_ble_eq_true rfl, Nat.le_of_ble_eq_true rfl⟩ hw hA hS hl h100 rfl rfl rfl (Nat.le_of_ble_eq_true rfl) dX6_out_126 ⟨Nat.le_of_ble_eq_true rfl, Nat.le_of_ble_eq_true rfl⟩ (fun r ad1 ce5 H locs hp hw hS => ?_)
          obtain ⟨rfl, rfl, hV, hF2⟩ := hp
          have hF : ∀ j, j < 100 → ce5 j = ce j := fun j hj => (hF2 j hj).trans (hF j hj)
          obtain ⟨cn, zs, bs, hh, ⟨h100, h101, h102, h103, h104, h105, h106, h107, h108, h109, h110, h111⟩, hQ, hM⟩ := hV
          refine W.eq (g2 := F0 m 129 ls []) rfl ?_
          refine lv_goto (tgt := 247) hx hb dX6_out_129 (by decide) ?_
          exact z_vret F hw hS (by unfold sp_out0; rw [if_neg c10, if_neg c29, if_neg c80, if_pos c109]; exact ⟨rfl, rfl, ⟨_, _, _, _, ⟨h100, h101, h102, h103, h104, h105, h106, h107, h108, h109, h110, h111⟩, hQ, hM⟩, hF⟩) dX6_out_247
      · refine lv_aload_n hx hb dX6_out_83 rfl (lv_at hl 1 rfl) ?_
        refine lv_iload_n hx hb dX6_out_84 rfl (lv_at hl 2 rfl) ?_
        refine lv_aload_n hx hb dX6_out_85 rfl (lv_at hl 1 rfl) ?_
        refine lv_iload_n hx hb dX6_out_86 rfl (lv_at hl 2 rfl) ?_
        have hV : rfV G ad ce T Q M := ⟨_, _, _, _, ⟨h100, h101, h102, h103, h104, h105, h106, h107, h108, h109, h110, h111⟩, hQ, hM⟩
        refine z_invV F (rest := [.int 0, .ref (ad 100)]) (r_rest0 l T Q M hV) yv_X6_102 ⟨Nat.le_of_ble_eq_true rfl, Nat.le_of_ble_eq_true rfl⟩ hw hA hS hl h100 rfl rfl rfl (Nat.le_of_ble_eq_true rfl) dX6_out_87 ⟨Nat.le_of_ble_eq_true rfl, Nat.le_of_ble_eq_true rfl⟩ (fun r ad1 ce6 H locs hp hw hS => ?_)
        obtain ⟨rfl, rfl, rfl⟩ := hp
        refine W.eq (g2 := F0 m 90 ls [.int 3, .int 0, .ref (ad 100)]) rfl ?_
        refine lv_iconst (v := 0) hx hb dX6_out_90 (by decide) ?_
        refine lv_iconst (v := 0) hx hb dX6_out_91 (by decide) ?_
        have hV : rfV G ad ce T Q M := ⟨_, _, _, _, ⟨h100, h101, h102, h103, h104, h105, h106, h107, h108, h109, h110, h111⟩, hQ, hM⟩
        refine z_invV F (rest := []) (r_become0 l T Q M hV 3 0 0) yv_X6_83 ⟨Nat.le_of_ble_eq_true rfl, Nat.le_of_ble_eq_true rfl⟩ hw hA hS hl h100 rfl rfl rfl (Nat.le_of_ble_eq_true rfl) dX6_out_92 ⟨Nat.le_of_ble_eq_true rfl, Nat.le_of_ble_eq_true rfl⟩ (fun r ad1 ce7 H locs hp hw hS => ?_)
        obtain ⟨rfl, rfl, hV, hF2⟩ := hp
        have hF : ∀ j, j < 100 → ce7 j = ce j := fun j hj => (hF2 j hj).trans (hF j hj)
        obtain ⟨cn, zs, bs, hh, ⟨h100, h101, h102, h103, h104, h105, h106, h107, h108, h109, h110, h111⟩, hQ, hM⟩ := hV
        refine W.eq (g2 := F0 m 95 ls []) rfl ?_
        refine lv_goto (tgt := 247) hx hb dX6_out_95 (by decide) ?_
        exact z_vret F hw hS (by unfold sp_out0; rw [if_neg c10, if_neg c29, if_pos c80]; exact ⟨rfl, rfl, ⟨_, _, _, _, ⟨h100, h101, h102, h103, h104, h105, h106, h107, h108, h109, h110, h111⟩, hQ, hM⟩, hF⟩) dX6_out_247
    · refine lv_aload_n hx hb dX6_out_32 rfl (lv_at hl 1 rfl) ?_
      refine z_get F hw h100 fd_X6_32_X6 rfl dX6_out_33 ?_
      refine lv_iload_n hx hb dX6_out_36 rfl (lv_at hl 2 rfl) ?_
      refine z_zld F hw h107 (0) (rfl) (by decide) (by decide) dX6_out_37 ?_
      refine lv_if_ne (tgt := 72) hx hb dX6_out_38 (by decide) (fun c38 => ?_) (fun c38 => ?_)
      · refine lv_aload_n hx hb dX6_out_72 rfl (lv_at hl 1 rfl) ?_
        refine z_get F hw h100 fd_X6_26_X6 rfl dX6_out_73 ?_
        refine lv_iload_n hx hb dX6_out_76 rfl (lv_at hl 2 rfl) ?_
        refine z_ld F hw h105 (0) (rfl) (by decide) (by decide) dX6_out_77 ?_
        refine lv_bipush (v := 6) hx hb dX6_out_78 (by decide) ?_
        refine lv_icmp_ne (tgt := 98) hx hb dX6_out_80 (by decide) (fun c80 => ?_) (fun c80 => ?_)
        · refine lv_iload_n hx hb dX6_out_98 rfl (lv_at hl 2 rfl) ?_
          refine lv_if_ne (tgt := 132) hx hb dX6_out_99 (by decide) (fun c99 => absurd c99 (by decide)) (fun c99 => ?_)
          refine lv_aload_n hx hb dX6_out_102 rfl (lv_at hl 1 rfl) ?_
          refine z_get F hw h100 fd_X6_26_X6 rfl dX6_out_103 ?_
          refine lv_iconst (v := 0) hx hb dX6_out_106 (by decide) ?_
          refine z_ld F hw h105 (0) (rfl) (by decide) (by decide) dX6_out_107 ?_
          refine lv_iconst (v := 1) hx hb dX6_out_108 (by decide) ?_
          refine lv_icmp_ne (tgt := 132) hx hb dX6_out_109 (by decide) (fun c109 => ?_) (fun c109 => ?_)
          · refine lv_iload_n hx hb dX6_out_132 rfl (lv_at hl 2 rfl) ?_
            refine lv_if_ne (tgt := 185) hx hb dX6_out_133 (by decide) (fun c133 => absurd c133 (by decide)) (fun c133 => ?_)
            refine lv_aload_n hx hb dX6_out_136 rfl (lv_at hl 1 rfl) ?_
            refine lv_iconst (v := 0) hx hb dX6_out_137 (by decide) ?_
            refine lv_aload_n hx hb dX6_out_138 rfl (lv_at hl 1 rfl) ?_
            refine z_get F hw h100 fd_X6_23_X6 rfl dX6_out_139 ?_
            refine lv_iconst (v := 0) hx hb dX6_out_142 (by decide) ?_
            refine z_ld F hw h104 (0) (rfl) (by decide) (by decide) dX6_out_143 ?_
            refine lv_iconst (v := 2) hx hb dX6_out_144 (by decide) ?_
            refine lv_icmp_ne (tgt := 152) hx hb dX6_out_145 (by decide) (fun c145 => ?_) (fun c145 => ?_)
            · refine lv_aload_n hx hb dX6_out_152 rfl (lv_at hl 1 rfl) ?_
              refine z_get F hw h100 fd_X6_23_X6 rfl dX6_out_153 ?_
              refine lv_iconst (v := 0) hx hb dX6_out_156 (by decide) ?_
              refine z_ld F hw h104 (0) (rfl) (by decide) (by decide) dX6_out_157 ?_
              refine lv_iconst (v := 4) hx hb dX6_out_158 (by decide) ?_
              refine lv_icmp_ne (tgt := 166) hx hb dX6_out_159 (by decide) (fun c159 => ?_) (fun c159 => ?_)
              · refine lv_aload_n hx hb dX6_out_166 rfl (lv_at hl 1 rfl) ?_
                refine z_get F hw h100 fd_X6_23_X6 rfl dX6_out_167 ?_
                refine lv_iconst (v := 0) hx hb dX6_out_170 (by decide) ?_
                refine z_ld F hw h104 (0) (rfl) (by decide) (by decide) dX6_out_171 ?_
                refine lv_aload_n hx hb dX6_out_172 rfl (lv_at hl 1 rfl) ?_
                refine z_get F hw h100 fd_X6_26_X6 rfl dX6_out_173 ?_
                refine lv_iconst (v := 0) hx hb dX6_out_176 (by decide) ?_
                refine z_ld F hw h105 (0) (rfl) (by decide) (by decide) dX6_out_177 ?_
                refine lv_iconst (v := 0) hx hb dX6_out_178 (by decide) ?_
                have hV : rfV G ad ce T Q M := ⟨_, _, _, _, ⟨h100, h101, h102, h103, h104, h105, h106, h107, h108, h109, h110, h111⟩, hQ, hM⟩
                refine z_invV F (rest := []) (r_become0 l T Q M hV ((T 1) 0) ((T 2) 0) 0) yv_X6_83 ⟨Nat.le_of_ble_eq_true rfl, Nat.le_of_ble_eq_true rfl⟩ hw hA hS hl h100 rfl rfl rfl (Nat.le_of_ble_eq_true rfl) dX6_out_179 ⟨Nat.le_of_ble_eq_true rfl, Nat.le_of_ble_eq_true rfl⟩ (fun r ad1 ce8 H locs hp hw hS => ?_)
                obtain ⟨rfl, rfl, hV, hF2⟩ := hp
                have hF : ∀ j, j < 100 → ce8 j = ce j := fun j hj => (hF2 j hj).trans (hF j hj)
                obtain ⟨cn, zs, bs, hh, ⟨h100, h101, h102, h103, h104, h105, h106, h107, h108, h109, h110, h111⟩, hQ, hM⟩ := hV
                refine W.eq (g2 := F0 m 182 ls []) rfl ?_
                refine lv_goto (tgt := 247) hx hb dX6_out_182 (by decide) ?_
                exact z_vret F hw hS (by unfold sp_out0; rw [if_neg c10, if_pos c29, if_neg c38, if_neg c80, if_neg c109, if_neg c145, if_neg c159]; exact ⟨rfl, rfl, ⟨_, _, _, _, ⟨h100, h101, h102, h103, h104, h105, h106, h107, h108, h109, h110, h111⟩, hQ, hM⟩, hF⟩) dX6_out_247
              · refine lv_iconst (v := 3) hx hb dX6_out_162 (by decide) ?_
                refine lv_goto (tgt := 172) hx hb dX6_out_163 (by decide) ?_
                refine lv_aload_n hx hb dX6_out_172 rfl (lv_at hl 1 rfl) ?_
                refine z_get F hw h100 fd_X6_26_X6 rfl dX6_out_173 ?_
                refine lv_iconst (v := 0) hx hb dX6_out_176 (by decide) ?_
                refine z_ld F hw h105 (0) (rfl) (by decide) (by decide) dX6_out_177 ?_
                refine lv_iconst (v := 0) hx hb dX6_out_178 (by decide) ?_
                have hV : rfV G ad ce T Q M := ⟨_, _, _, _, ⟨h100, h101, h102, h103, h104, h105, h106, h107, h108, h109, h110, h111⟩, hQ, hM⟩
                refine z_invV F (rest := []) (r_become0 l T Q M hV 3 ((T 2) 0) 0) yv_X6_83 ⟨Nat.le_of_ble_eq_true rfl, Nat.le_of_ble_eq_true rfl⟩ hw hA hS hl h100 rfl rfl rfl (Nat.le_of_ble_eq_true rfl) dX6_out_179 ⟨Nat.le_of_ble_eq_true rfl, Nat.le_of_ble_eq_true rfl⟩ (fun r ad1 ce9 H locs hp hw hS => ?_)
                obtain ⟨rfl, rfl, hV, hF2⟩ := hp
                have hF : ∀ j, j < 100 → ce9 j = ce j := fun j hj => (hF2 j hj).trans (hF j hj)
                obtain ⟨cn, zs, bs, hh, ⟨h100, h101, h102, h103, h104, h105, h106, h107, h108, h109, h110, h111⟩, hQ, hM⟩ := hV
                refine W.eq (g2 := F0 m 182 ls []) rfl ?_
                refine lv_goto (tgt := 247) hx hb dX6_out_182 (by decide) ?_
                exact z_vret F hw hS (by unfold sp_out0; rw [if_neg c10, if_pos c29, if_neg c38, if_neg c80, if_neg c109, if_neg c145, if_pos c159]; exact ⟨rfl, rfl, ⟨_, _, _, _, ⟨h100, h101, h102, h103, h104, h105, h106, h107, h108, h109, h110, h111⟩, hQ, hM⟩, hF⟩) dX6_out_247
            · refine lv_iconst (v := 1) hx hb dX6_out_148 (by decide) ?_
              refine lv_goto (tgt := 172) hx hb dX6_out_149 (by decide) ?_
              refine lv_aload_n hx hb dX6_out_172 rfl (lv_at hl 1 rfl) ?_
              refine z_get F hw h100 fd_X6_26_X6 rfl dX6_out_173 ?_
              refine lv_iconst (v := 0) hx hb dX6_out_176 (by decide) ?_
              refine z_ld F hw h105 (0) (rfl) (by decide) (by decide) dX6_out_177 ?_
              refine lv_iconst (v := 0) hx hb dX6_out_178 (by decide) ?_
              have hV : rfV G ad ce T Q M := ⟨_, _, _, _, ⟨h100, h101, h102, h103, h104, h105, h106, h107, h108, h109, h110, h111⟩, hQ, hM⟩
              refine z_invV F (rest := []) (r_become0 l T Q M hV 1 ((T 2) 0) 0) yv_X6_83 ⟨Nat.le_of_ble_eq_true rfl, Nat.le_of_ble_eq_true rfl⟩ hw hA hS hl h100 rfl rfl rfl (Nat.le_of_ble_eq_true rfl) dX6_out_179 ⟨Nat.le_of_ble_eq_true rfl, Nat.le_of_ble_eq_true rfl⟩ (fun r ad1 ce10 H locs hp hw hS => ?_)
              obtain ⟨rfl, rfl, hV, hF2⟩ := hp
              have hF : ∀ j, j < 100 → ce10 j = ce j := fun j hj => (hF2 j hj).trans (hF j hj)
              obtain ⟨cn, zs, bs, hh, ⟨h100, h101, h102, h103, h104, h105, h106, h107, h108, h109, h110, h111⟩, hQ, hM⟩ := hV
              refine W.eq (g2 := F0 m 182 ls []) rfl ?_
              refine lv_goto (tgt := 247) hx hb dX6_out_182 (by decide) ?_
              exact z_vret F hw hS (by unfold sp_out0; rw [if_neg c10, if_pos c29, if_neg c38, if_neg c80, if_neg c109, if_pos c145]; exact ⟨rfl, rfl, ⟨_, _, _, _, ⟨h100, h101, h102, h103, h104, h105, h106, h107, h108, h109, h110, h111⟩, hQ, hM⟩, hF⟩) dX6_out_247
          · refine lv_aload_n hx hb dX6_out_112 rfl (lv_at hl 1 rfl) ?_
            refine lv_iconst (v := 0) hx hb dX6_out_113 (by decide) ?_
            refine lv_iconst (v := 3) hx hb dX6_out_114 (by decide) ?_
            refine lv_bipush (v := 42) hx hb dX6_out_115 (by decide) ?_
            have hV : rfV G ad ce T Q M := ⟨_, _, _, _, ⟨h100, h101, h102, h103, h104, h105, h106, h107, h108, h109, h110, h111⟩, hQ, hM⟩
            refine z_invV F (rest := []) (r_put0 l T Q M hV 3 42 (by decide) (by decide)) yv_X6_64 ⟨Nat.le_of_ble_eq_true rfl, Nat.le_of_ble_eq_true rfl⟩ hw hA hS hl h100 rfl rfl rfl (Nat.le_of_ble_eq_true rfl) dX6_out_117 ⟨Nat.le_of_ble_eq_true rfl, Nat.le_of_ble_eq_true rfl⟩ (fun r ad1 ce11 H locs hp hw hS => ?_)
            obtain ⟨rfl, rfl, hV, hF2⟩ := hp
            have hF : ∀ j, j < 100 → ce11 j = ce j := fun j hj => (hF2 j hj).trans (hF j hj)
            obtain ⟨cn, zs, bs, hh, ⟨h100, h101, h102, h103, h104, h105, h106, h107, h108, h109, h110, h111⟩, hQ, hM⟩ := hV
            refine W.eq (g2 := F0 m 120 ls [.int (rf_hd T Q 0)]) rfl ?_
            refine lv_istore_n (lv' := [(2, .int (rf_hd T Q 0)), (0, .ref (ad 100)), (1, .int 0)]) hx hb dX6_out_120 rfl hl (by decide) rfl (fun ls hl => ?_)
            refine lv_aload_n hx hb dX6_out_121 rfl (lv_at hl 1 rfl) ?_
            refine lv_iconst (v := 0) hx hb dX6_out_122 (by decide) ?_
            refine lv_iconst (v := 3) hx hb dX6_out_123 (by decide) ?_
            refine lv_iconst (v := 0) hx hb dX6_out_124 (by decide) ?_
            refine lv_iconst (v := 0) hx hb dX6_out_125 (by decide) ?_
            have hV : rfV G ad ce11 T (rf_put T Q 0 [3, 42]) M := ⟨_, _, _, _, ⟨h100, h101, h102, h103, h104, h105, h106, h107, h108, h109, h110, h111⟩, hQ, hM⟩
            refine z_invV F (rest := []) (r_become0 l T (rf_put T Q 0 [3, 42]) M hV 3 0 0) yv_X6_83 ⟨Nat.le_of_ble_eq_true rfl, Nat.le_of_ble_eq_true rfl⟩ hw hA hS hl h100 rfl rfl rfl (Nat.le_of_ble_eq_true rfl) dX6_out_126 ⟨Nat.le_of_ble_eq_true rfl, Nat.le_of_ble_eq_true rfl⟩ (fun r ad1 ce12 H locs hp hw hS => ?_)
            obtain ⟨rfl, rfl, hV, hF2⟩ := hp
            have hF : ∀ j, j < 100 → ce12 j = ce j := fun j hj => (hF2 j hj).trans (hF j hj)
            obtain ⟨cn, zs, bs, hh, ⟨h100, h101, h102, h103, h104, h105, h106, h107, h108, h109, h110, h111⟩, hQ, hM⟩ := hV
            refine W.eq (g2 := F0 m 129 ls []) rfl ?_
            refine lv_goto (tgt := 247) hx hb dX6_out_129 (by decide) ?_
            exact z_vret F hw hS (by unfold sp_out0; rw [if_neg c10, if_pos c29, if_neg c38, if_neg c80, if_pos c109]; exact ⟨rfl, rfl, ⟨_, _, _, _, ⟨h100, h101, h102, h103, h104, h105, h106, h107, h108, h109, h110, h111⟩, hQ, hM⟩, hF⟩) dX6_out_247
        · refine lv_aload_n hx hb dX6_out_83 rfl (lv_at hl 1 rfl) ?_
          refine lv_iload_n hx hb dX6_out_84 rfl (lv_at hl 2 rfl) ?_
          refine lv_aload_n hx hb dX6_out_85 rfl (lv_at hl 1 rfl) ?_
          refine lv_iload_n hx hb dX6_out_86 rfl (lv_at hl 2 rfl) ?_
          have hV : rfV G ad ce T Q M := ⟨_, _, _, _, ⟨h100, h101, h102, h103, h104, h105, h106, h107, h108, h109, h110, h111⟩, hQ, hM⟩
          refine z_invV F (rest := [.int 0, .ref (ad 100)]) (r_rest0 l T Q M hV) yv_X6_102 ⟨Nat.le_of_ble_eq_true rfl, Nat.le_of_ble_eq_true rfl⟩ hw hA hS hl h100 rfl rfl rfl (Nat.le_of_ble_eq_true rfl) dX6_out_87 ⟨Nat.le_of_ble_eq_true rfl, Nat.le_of_ble_eq_true rfl⟩ (fun r ad1 ce13 H locs hp hw hS => ?_)
          obtain ⟨rfl, rfl, rfl⟩ := hp
          refine W.eq (g2 := F0 m 90 ls [.int 3, .int 0, .ref (ad 100)]) rfl ?_
          refine lv_iconst (v := 0) hx hb dX6_out_90 (by decide) ?_
          refine lv_iconst (v := 0) hx hb dX6_out_91 (by decide) ?_
          have hV : rfV G ad ce T Q M := ⟨_, _, _, _, ⟨h100, h101, h102, h103, h104, h105, h106, h107, h108, h109, h110, h111⟩, hQ, hM⟩
          refine z_invV F (rest := []) (r_become0 l T Q M hV 3 0 0) yv_X6_83 ⟨Nat.le_of_ble_eq_true rfl, Nat.le_of_ble_eq_true rfl⟩ hw hA hS hl h100 rfl rfl rfl (Nat.le_of_ble_eq_true rfl) dX6_out_92 ⟨Nat.le_of_ble_eq_true rfl, Nat.le_of_ble_eq_true rfl⟩ (fun r ad1 ce14 H locs hp hw hS => ?_)
          obtain ⟨rfl, rfl, hV, hF2⟩ := hp
          have hF : ∀ j, j < 100 → ce14 j = ce j := fun j hj => (hF2 j hj).trans (hF j hj)
          obtain ⟨cn, zs, bs, hh, ⟨h100, h101, h102, h103, h104, h105, h106, h107, h108, h109, h110, h111⟩, hQ, hM⟩ := hV
          refine W.eq (g2 := F0 m 95 ls []) rfl ?_
          refine lv_goto (tgt := 247) hx hb dX6_out_95 (by decide) ?_
          exact z_vret F hw hS (by unfold sp_out0; rw [if_neg c10, if_pos c29, if_neg c38, if_pos c80]; exact ⟨rfl, rfl, ⟨_, _, _, _, ⟨h100, h101, h102, h103, h104, h105, h106, h107, h108, h109, h110, h111⟩, hQ, hM⟩, hF⟩) dX6_out_247
      · refine lv_aload_n hx hb dX6_out_41 rfl (lv_at hl 1 rfl) ?_
        refine lv_aload_n hx hb dX6_out_42 rfl (lv_at hl 1 rfl) ?_
        refine lv_iload_n hx hb dX6_out_43 rfl (lv_at hl 2 rfl) ?_
        have hV : rfV G ad ce T Q M := ⟨_, _, _, _, ⟨h100, h101, h102, h103, h104, h105, h106, h107, h108, h109, h110, h111⟩, hQ, hM⟩
        refine z_invV F (rest := [.ref (ad 100)]) (r_way0 l T Q M hV) yv_X6_80 ⟨Nat.le_of_ble_eq_true rfl, Nat.le_of_ble_eq_true rfl⟩ hw hA hS hl h100 rfl rfl rfl (Nat.le_of_ble_eq_true rfl) dX6_out_44 ⟨Nat.le_of_ble_eq_true rfl, Nat.le_of_ble_eq_true rfl⟩ (fun r ad1 ce15 H locs hp hw hS => ?_)
        obtain ⟨rfl, rfl, rfl⟩ := hp
        refine W.eq (g2 := F0 m 47 ls [.int 0, .ref (ad 100)]) rfl ?_
        refine lv_iconst (v := 3) hx hb dX6_out_47 (by decide) ?_
        refine lv_bipush (v := 45) hx hb dX6_out_48 (by decide) ?_
        have hV : rfV G ad ce T Q M := ⟨_, _, _, _, ⟨h100, h101, h102, h103, h104, h105, h106, h107, h108, h109, h110, h111⟩, hQ, hM⟩
        refine z_invV F (rest := []) (r_put0 l T Q M hV 3 45 (by decide) (by decide)) yv_X6_64 ⟨Nat.le_of_ble_eq_true rfl, Nat.le_of_ble_eq_true rfl⟩ hw hA hS hl h100 rfl rfl rfl (Nat.le_of_ble_eq_true rfl) dX6_out_50 ⟨Nat.le_of_ble_eq_true rfl, Nat.le_of_ble_eq_true rfl⟩ (fun r ad1 ce16 H locs hp hw hS => ?_)
        obtain ⟨rfl, rfl, hV, hF2⟩ := hp
        have hF : ∀ j, j < 100 → ce16 j = ce j := fun j hj => (hF2 j hj).trans (hF j hj)
        obtain ⟨cn, zs, bs, hh, ⟨h100, h101, h102, h103, h104, h105, h106, h107, h108, h109, h110, h111⟩, hQ, hM⟩ := hV
        refine W.eq (g2 := F0 m 53 ls [.int (rf_hd T Q 0)]) rfl ?_
        refine lv_istore_n (lv' := [(2, .int (rf_hd T Q 0)), (0, .ref (ad 100)), (1, .int 0)]) hx hb dX6_out_53 rfl hl (by decide) rfl (fun ls hl => ?_)
        refine lv_aload_n hx hb dX6_out_54 rfl (lv_at hl 1 rfl) ?_
        refine z_get F hw h100 fd_X6_32_X6 rfl dX6_out_55 ?_
        refine lv_iload_n hx hb dX6_out_58 rfl (lv_at hl 2 rfl) ?_
        refine lv_iconst (v := 1) hx hb dX6_out_59 (by decide) ?_
        refine z_zst F hw hS h107 (0) (rfl) (by decide) (by decide) (rfl) dX6_out_60 (fun ce17 H locs h107 fr18 hw hS => ?_)
        have h100 := (fr18 100 (by decide)).trans h100
        have h101 := (fr18 101 (by decide)).trans h101
        have h102 := (fr18 102 (by decide)).trans h102
        have h103 := (fr18 103 (by decide)).trans h103
        have h104 := (fr18 104 (by decide)).trans h104
        have h105 := (fr18 105 (by decide)).trans h105
        have h106 := (fr18 106 (by decide)).trans h106
        have h108 := (fr18 108 (by decide)).trans h108
        have h109 := (fr18 109 (by decide)).trans h109
        have h110 := (fr18 110 (by decide)).trans h110
        have h111 := (fr18 111 (by decide)).trans h111
        have hF : ∀ j, j < 100 → _ = ce j := fun j hj => (fr18 j (by omega)).trans (hF j hj)
        refine lv_aload_n hx hb dX6_out_61 rfl (lv_at hl 1 rfl) ?_
        refine z_get F hw h100 fd_X6_29_X6 rfl dX6_out_62 ?_
        refine lv_iload_n hx hb dX6_out_65 rfl (lv_at hl 2 rfl) ?_
        refine lv_bipush (v := 30) hx hb dX6_out_66 (by decide) ?_
        refine z_st F hw hS h106 (0) (rfl) (by decide) (by decide) dX6_out_68 (fun ce19 H locs h106 fr20 hw hS => ?_)
        have h100 := (fr20 100 (by decide)).trans h100
        have h101 := (fr20 101 (by decide)).trans h101
        have h102 := (fr20 102 (by decide)).trans h102
        have h103 := (fr20 103 (by decide)).trans h103
        have h104 := (fr20 104 (by decide)).trans h104
        have h105 := (fr20 105 (by decide)).trans h105
        have h107 := (fr20 107 (by decide)).trans h107
        have h108 := (fr20 108 (by decide)).trans h108
        have h109 := (fr20 109 (by decide)).trans h109
        have h110 := (fr20 110 (by decide)).trans h110
        have h111 := (fr20 111 (by decide)).trans h111
        have hF : ∀ j, j < 100 → _ = ce j := fun j hj => (fr20 j (by omega)).trans (hF j hj)
        refine lv_goto (tgt := 247) hx hb dX6_out_69 (by decide) ?_
        exact z_vret F hw hS (by unfold sp_out0; rw [if_neg c10, if_pos c29, if_pos c38]; exact ⟨rfl, rfl, ⟨_, _, _, _, ⟨h100, h101, h102, h103, h104, h105, h106, h107, h108, h109, h110, h111⟩, hQ, hM⟩, hF⟩) dX6_out_247
  · refine lv_aload_n hx hb dX6_out_13 rfl (lv_at hl 1 rfl) ?_
    refine lv_iload_n hx hb dX6_out_14 rfl (lv_at hl 2 rfl) ?_
    have hV : rfV G ad ce T Q M := ⟨_, _, _, _, ⟨h100, h101, h102, h103, h104, h105, h106, h107, h108, h109, h110, h111⟩, hQ, hM⟩
    refine z_invV F (rest := []) (r_release0 l T Q M hV) yv_X6_98 ⟨Nat.le_of_ble_eq_true rfl, Nat.le_of_ble_eq_true rfl⟩ hw hA hS hl h100 rfl rfl rfl (Nat.le_of_ble_eq_true rfl) dX6_out_15 ⟨Nat.le_of_ble_eq_true rfl, Nat.le_of_ble_eq_true rfl⟩ (fun r ad1 ce21 H locs hp hw hS => ?_)
    obtain ⟨rfl, rfl, hV, hF2⟩ := hp
    have hF : ∀ j, j < 100 → ce21 j = ce j := fun j hj => (hF2 j hj).trans (hF j hj)
    obtain ⟨cn, zs, bs, hh, ⟨h100, h101, h102, h103, h104, h105, h106, h107, h108, h109, h110, h111⟩, hQ, hM⟩ := hV
    refine W.eq (g2 := F0 m 18 ls []) rfl ?_
    refine lv_goto (tgt := 247) hx hb dX6_out_18 (by decide) ?_
    exact z_vret F hw hS (by unfold sp_out0; rw [if_pos c10]; exact ⟨rfl, rfl, ⟨_, _, _, _, ⟨h100, h101, h102, h103, h104, h105, h106, h107, h108, h109, h110, h111⟩, hQ, hM⟩, hF⟩) dX6_out_247
def sp_out1 (T : rf_T) (Q : rf_Q) (M : List Nat) : rf_R := (if (((T 2) 1) : Int32) = 5 then (0, (rf_rel T 1), rf_put T Q 1 [3, 45]) else (if (((T 2) 1) : Int32) = 6 then (if (((T 4) 1) : Int32) = 0 then (0, va_up (va_up T 3 (upd (T 3) 1 30)) 4 (upd (T 4) 1 1), rf_put T Q 1 [3, 45]) else (if (((T 2) 1) : Int32) = 6 then (0, (rf_become T 1 0 0 0), Q) else (if (((T 2) 1) : Int32) = 3 then (0, (rf_become T 1 3 5 30), rf_put T Q 1 ([3, 37, 8, 1] ++ rf_bytes 1 102)) else (if (((T 1) 1) : Int32) = 3 then (0, (rf_become T 1 3 ((T 2) 1) 0), Q) else (0, (rf_become T 1 0 ((T 2) 1) 0), Q))))) else (if (((T 2) 1) : Int32) = 6 then (0, (rf_become T 1 0 0 0), Q) else (if (((T 2) 1) : Int32) = 3 then (0, (rf_become T 1 3 5 30), rf_put T Q 1 ([3, 37, 8, 1] ++ rf_bytes 1 102)) else (if (((T 1) 1) : Int32) = 3 then (0, (rf_become T 1 3 ((T 2) 1) 0), Q) else (0, (rf_become T 1 0 ((T 2) 1) 0), Q))))))
set_option maxHeartbeats 4000000 in
set_option maxRecDepth 100000 in
theorem r_out1 (l : Launch) {G : zz_G} {ad : Nat → Nat} {ce : zz_C} {sz : Nat} (T : rf_T) (Q : rf_Q) (M : List Nat) (hV : rfV G ad ce T Q M) : zz_M l yX6_out cX6_out 3 none 2 52 0 0 G [.ref (ad 100), .int 1] ad ce sz (fun r ad1 ce1 => r = none ∧ ad = ad1 ∧ rfV G ad ce1 (sp_out1 T Q M).2.1 (sp_out1 T Q M).2.2 M ∧ (∀ j, j < 100 → ce1 j = ce j)) := by
  refine zz_enter (by decide) (Nat.le_of_ble_eq_true rfl) ?_
  intro p e s m below meth c ls F hl hw hS hA
  obtain ⟨hx, hb, hr, hml, hown, hts, hlocks, hK, hnm⟩ := id F
  have hl : lv_has ls 3 [(0, .ref (ad 100)), (1, .int 1)] := hl
  obtain ⟨cn, zs, bs, hh, ⟨h100, h101, h102, h103, h104, h105, h106, h107, h108, h109, h110, h111⟩, hQ, hM⟩ := hV
  have hF : ∀ j, j < 100 → ce j = ce j := fun _ _ => rfl
  refine lv_bipush (v := -3) hx hb dX6_out_0 (by decide) ?_
  refine lv_istore_n (lv' := [(2, .int (-3)), (0, .ref (ad 100)), (1, .int 1)]) hx hb dX6_out_2 rfl hl (by decide) rfl (fun ls hl => ?_)
  refine lv_aload_n hx hb dX6_out_3 rfl (lv_at hl 1 rfl) ?_
  refine z_get F hw h100 fd_X6_26_X6 rfl dX6_out_4 ?_
  refine lv_iload_n hx hb dX6_out_7 rfl (lv_at hl 2 rfl) ?_
  refine z_ld F hw h105 (1) (rfl) (by decide) (by decide) dX6_out_8 ?_
  refine lv_iconst (v := 5) hx hb dX6_out_9 (by decide) ?_
  refine lv_icmp_ne (tgt := 21) hx hb dX6_out_10 (by decide) (fun c10 => ?_) (fun c10 => ?_)
  · refine lv_aload_n hx hb dX6_out_21 rfl (lv_at hl 1 rfl) ?_
    refine z_get F hw h100 fd_X6_26_X6 rfl dX6_out_22 ?_
    refine lv_iload_n hx hb dX6_out_25 rfl (lv_at hl 2 rfl) ?_
    refine z_ld F hw h105 (1) (rfl) (by decide) (by decide) dX6_out_26 ?_
    refine lv_bipush (v := 6) hx hb dX6_out_27 (by decide) ?_
    refine lv_icmp_ne (tgt := 72) hx hb dX6_out_29 (by decide) (fun c29 => ?_) (fun c29 => ?_)
    · refine lv_aload_n hx hb dX6_out_72 rfl (lv_at hl 1 rfl) ?_
      refine z_get F hw h100 fd_X6_26_X6 rfl dX6_out_73 ?_
      refine lv_iload_n hx hb dX6_out_76 rfl (lv_at hl 2 rfl) ?_
      refine z_ld F hw h105 (1) (rfl) (by decide) (by decide) dX6_out_77 ?_
      refine lv_bipush (v := 6) hx hb dX6_out_78 (by decide) ?_
      refine lv_icmp_ne (tgt := 98) hx hb dX6_out_80 (by decide) (fun c80 => ?_) (fun c80 => ?_)
      · refine lv_iload_n hx hb dX6_out_98 rfl (lv_at hl 2 rfl) ?_
        refine lv_if_ne (tgt := 132) hx hb dX6_out_99 (by decide) (fun c99 => ?_) (fun c99 => absurd c99 (by decide))
        refine lv_iload_n hx hb dX6_out_132 rfl (lv_at hl 2 rfl) ?_
        refine lv_if_ne (tgt := 185) hx hb dX6_out_133 (by decide) (fun c133 => ?_) (fun c133 => absurd c133 (by decide))
        refine lv_aload_n hx hb dX6_out_185 rfl (lv_at hl 1 rfl) ?_
        refine z_get F hw h100 fd_X6_26_X6 rfl dX6_out_186 ?_
        refine lv_iconst (v := 1) hx hb dX6_out_189 (by decide) ?_
        refine z_ld F hw h105 (1) (rfl) (by decide) (by decide) dX6_out_190 ?_
        refine lv_iconst (v := 3) hx hb dX6_out_191 (by decide) ?_
        refine lv_icmp_ne (tgt := 220) hx hb dX6_out_192 (by decide) (fun c192 => ?_) (fun c192 => ?_)
        · refine lv_aload_n hx hb dX6_out_220 rfl (lv_at hl 1 rfl) ?_
          refine lv_iconst (v := 1) hx hb dX6_out_221 (by decide) ?_
          refine lv_aload_n hx hb dX6_out_222 rfl (lv_at hl 1 rfl) ?_
          refine z_get F hw h100 fd_X6_23_X6 rfl dX6_out_223 ?_
          refine lv_iconst (v := 1) hx hb dX6_out_226 (by decide) ?_
          refine z_ld F hw h104 (1) (rfl) (by decide) (by decide) dX6_out_227 ?_
          refine lv_iconst (v := 3) hx hb dX6_out_228 (by decide) ?_
          refine lv_icmp_ne (tgt := 236) hx hb dX6_out_229 (by decide) (fun c229 => ?_) (fun c229 => ?_)
          · refine lv_iconst (v := 0) hx hb dX6_out_236 (by decide) ?_
            refine lv_aload_n hx hb dX6_out_237 rfl (lv_at hl 1 rfl) ?_
            refine z_get F hw h100 fd_X6_26_X6 rfl dX6_out_238 ?_
            refine lv_iconst (v := 1) hx hb dX6_out_241 (by decide) ?_
            refine z_ld F hw h105 (1) (rfl) (by decide) (by decide) dX6_out_242 ?_
            refine lv_iconst (v := 0) hx hb dX6_out_243 (by decide) ?_
            have hV : rfV G ad ce T Q M := ⟨_, _, _, _, ⟨h100, h101, h102, h103, h104, h105, h106, h107, h108, h109, h110, h111⟩, hQ, hM⟩
            refine z_invV F (rest := []) (r_become1 l T Q M hV 0 ((T 2) 1) 0) yv_X6_83 ⟨Nat.le_of_ble_eq_true rfl, Nat.le_of_ble_eq_true rfl⟩ hw hA hS hl h100 rfl rfl rfl (Nat.le_of_ble_eq_true rfl) dX6_out_244 ⟨Nat.le_of_ble_eq_true rfl, Nat.le_of_ble_eq_true rfl⟩ (fun r ad1 ce1 H locs hp hw hS => ?_)
            obtain ⟨rfl, rfl, hV, hF2⟩ := hp
            have hF : ∀ j, j < 100 → ce1 j = ce j := fun j hj => (hF2 j hj).trans (hF j hj)
            obtain ⟨cn, zs, bs, hh, ⟨h100, h101, h102, h103, h104, h105, h106, h107, h108, h109, h110, h111⟩, hQ, hM⟩ := hV
            refine W.eq (g2 := F0 m 247 ls []) rfl ?_
            exact z_vret F hw hS (by unfold sp_out1; rw [if_neg c10, if_neg c29, if_neg c80, if_neg c192, if_neg c229]; exact ⟨rfl, rfl, ⟨_, _, _, _, ⟨h100, h101, h102, h103, h104, h105, h106, h107, h108, h109, h110, h111⟩, hQ, hM⟩, hF⟩) dX6_out_247
          · refine lv_iconst (v := 3) hx hb dX6_out_232 (by decide) ?_
            refine lv_goto (tgt := 237) hx hb dX6_out_233 (by decide) ?_
            refine lv_aload_n hx hb dX6_out_237 rfl (lv_at hl 1 rfl) ?_
            refine z_get F hw h100 fd_X6_26_X6 rfl dX6_out_238 ?_
            refine lv_iconst (v := 1) hx hb dX6_out_241 (by decide) ?_
            refine z_ld F hw h105 (1) (rfl) (by decide) (by decide) dX6_out_242 ?_
            refine lv_iconst (v := 0) hx hb dX6_out_243 (by decide) ?_
            have hV : rfV G ad ce T Q M := ⟨_, _, _, _, ⟨h100, h101, h102, h103, h104, h105, h106, h107, h108, h109, h110, h111⟩, hQ, hM⟩
            refine z_invV F (rest := []) (r_become1 l T Q M hV 3 ((T 2) 1) 0) yv_X6_83 ⟨Nat.le_of_ble_eq_true rfl, Nat.le_of_ble_eq_true rfl⟩ hw hA hS hl h100 rfl rfl rfl (Nat.le_of_ble_eq_true rfl) dX6_out_244 ⟨Nat.le_of_ble_eq_true rfl, Nat.le_of_ble_eq_true rfl⟩ (fun r ad1 ce2 H locs hp hw hS => ?_)
            obtain ⟨rfl, rfl, hV, hF2⟩ := hp
            have hF : ∀ j, j < 100 → ce2 j = ce j := fun j hj => (hF2 j hj).trans (hF j hj)
            obtain ⟨cn, zs, bs, hh, ⟨h100, h101, h102, h103, h104, h105, h106, h107, h108, h109, h110, h111⟩, hQ, hM⟩ := hV
            refine W.eq (g2 := F0 m 247 ls []) rfl ?_
            exact z_vret F hw hS (by unfold sp_out1; rw [if_neg c10, if_neg c29, if_neg c80, if_neg c192, if_pos c229]; exact ⟨rfl, rfl, ⟨_, _, _, _, ⟨h100, h101, h102, h103, h104, h105, h106, h107, h108, h109, h110, h111⟩, hQ, hM⟩, hF⟩) dX6_out_247
        · refine lv_aload_n hx hb dX6_out_195 rfl (lv_at hl 1 rfl) ?_
          refine lv_iconst (v := 1) hx hb dX6_out_196 (by decide) ?_
          refine lv_iconst (v := 3) hx hb dX6_out_197 (by decide) ?_
          refine lv_bipush (v := 37) hx hb dX6_out_198 (by decide) ?_
          refine lv_bipush (v := 8) hx hb dX6_out_200 (by decide) ?_
          refine lv_iconst (v := 1) hx hb dX6_out_202 (by decide) ?_
          refine lv_bipush (v := 102) hx hb dX6_out_203 (by decide) ?_
          have hV : rfV G ad ce T Q M := ⟨_, _, _, _, ⟨h100, h101, h102, h103, h104, h105, h106, h107, h108, h109, h110, h111⟩, hQ, hM⟩
          refine z_invV F (rest := []) (r_tell1_1 l T Q M hV 3 37 8 (by decide) (by decide) (by decide) 102) yv_X6_112 ⟨Nat.le_of_ble_eq_true rfl, Nat.le_of_ble_eq_true rfl⟩ hw hA hS hl h100 rfl rfl rfl (Nat.le_of_ble_eq_true rfl) dX6_out_205 ⟨Nat.le_of_ble_eq_true rfl, Nat.le_of_ble_eq_true rfl⟩ (fun r ad1 ce3 H locs hp hw hS => ?_)
          obtain ⟨rfl, rfl, hV, hF2⟩ := hp
          have hF : ∀ j, j < 100 → ce3 j = ce j := fun j hj => (hF2 j hj).trans (hF j hj)
          obtain ⟨cn, zs, bs, hh, ⟨h100, h101, h102, h103, h104, h105, h106, h107, h108, h109, h110, h111⟩, hQ, hM⟩ := hV
          refine W.eq (g2 := F0 m 208 ls []) rfl ?_
          refine lv_aload_n hx hb dX6_out_208 rfl (lv_at hl 1 rfl) ?_
          refine lv_iconst (v := 1) hx hb dX6_out_209 (by decide) ?_
          refine lv_iconst (v := 3) hx hb dX6_out_210 (by decide) ?_
          refine lv_iconst (v := 5) hx hb dX6_out_211 (by decide) ?_
          refine lv_bipush (v := 30) hx hb dX6_out_212 (by decide) ?_
          have hV : rfV G ad ce3 T (rf_put T Q 1 ([3, 37, 8, 1] ++ rf_bytes 1 102)) M := ⟨_, _, _, _, ⟨h100, h101, h102, h103, h104, h105, h106, h107, h108, h109, h110, h111⟩, hQ, hM⟩
          refine z_invV F (rest := []) (r_become1 l T (rf_put T Q 1 ([3, 37, 8, 1] ++ rf_bytes 1 102)) M hV 3 5 30) yv_X6_83 ⟨Nat.le_of_ble_eq_true rfl, Nat.le_of_ble_eq_true rfl⟩ hw hA hS hl h100 rfl rfl rfl (Nat.le_of_ble_eq_true rfl) dX6_out_214 ⟨Nat.le_of_ble_eq_true rfl, Nat.le_of_ble_eq_true rfl⟩ (fun r ad1 ce4 H locs hp hw hS => ?_)
          obtain ⟨rfl, rfl, hV, hF2⟩ := hp
          have hF : ∀ j, j < 100 → ce4 j = ce j := fun j hj => (hF2 j hj).trans (hF j hj)
          obtain ⟨cn, zs, bs, hh, ⟨h100, h101, h102, h103, h104, h105, h106, h107, h108, h109, h110, h111⟩, hQ, hM⟩ := hV
          refine W.eq (g2 := F0 m 217 ls []) rfl ?_
          refine lv_goto (tgt := 247) hx hb dX6_out_217 (by decide) ?_
          exact z_vret F hw hS (by unfold sp_out1; rw [if_neg c10, if_neg c29, if_neg c80, if_pos c192]; exact ⟨rfl, rfl, ⟨_, _, _, _, ⟨h100, h101, h102, h103, h104, h105, h106, h107, h108, h109, h110, h111⟩, hQ, hM⟩, hF⟩) dX6_out_247
      · refine lv_aload_n hx hb dX6_out_83 rfl (lv_at hl 1 rfl) ?_
        refine lv_iload_n hx hb dX6_out_84 rfl (lv_at hl 2 rfl) ?_
        refine lv_aload_n hx hb dX6_out_85 rfl (lv_at hl 1 rfl) ?_
        refine lv_iload_n hx hb dX6_out_86 rfl (lv_at hl 2 rfl) ?_
        have hV : rfV G ad ce T Q M := ⟨_, _, _, _, ⟨h100, h101, h102, h103, h104, h105, h106, h107, h108, h109, h110, h111⟩, hQ, hM⟩
        refine z_invV F (rest := [.int 1, .ref (ad 100)]) (r_rest1 l T Q M hV) yv_X6_102 ⟨Nat.le_of_ble_eq_true rfl, Nat.le_of_ble_eq_true rfl⟩ hw hA hS hl h100 rfl rfl rfl (Nat.le_of_ble_eq_true rfl) dX6_out_87 ⟨Nat.le_of_ble_eq_true rfl, Nat.le_of_ble_eq_true rfl⟩ (fun r ad1 ce5 H locs hp hw hS => ?_)
        obtain ⟨rfl, rfl, rfl⟩ := hp
        refine W.eq (g2 := F0 m 90 ls [.int 0, .int 1, .ref (ad 100)]) rfl ?_
        refine lv_iconst (v := 0) hx hb dX6_out_90 (by decide) ?_
        refine lv_iconst (v := 0) hx hb dX6_out_91 (by decide) ?_
        have hV : rfV G ad ce T Q M := ⟨_, _, _, _, ⟨h100, h101, h102, h103, h104, h105, h106, h107, h108, h109, h110, h111⟩, hQ, hM⟩
        refine z_invV F (rest := []) (r_become1 l T Q M hV 0 0 0) yv_X6_83 ⟨Nat.le_of_ble_eq_true rfl, Nat.le_of_ble_eq_true rfl⟩ hw hA hS hl h100 rfl rfl rfl (Nat.le_of_ble_eq_true rfl) dX6_out_92 ⟨Nat.le_of_ble_eq_true rfl, Nat.le_of_ble_eq_true rfl⟩ (fun r ad1 ce6 H locs hp hw hS => ?_)
        obtain ⟨rfl, rfl, hV, hF2⟩ := hp
        have hF : ∀ j, j < 100 → ce6 j = ce j := fun j hj => (hF2 j hj).trans (hF j hj)
        obtain ⟨cn, zs, bs, hh, ⟨h100, h101, h102, h103, h104, h105, h106, h107, h108, h109, h110, h111⟩, hQ, hM⟩ := hV
        refine W.eq (g2 := F0 m 95 ls []) rfl ?_
        refine lv_goto (tgt := 247) hx hb dX6_out_95 (by decide) ?_
        exact z_vret F hw hS (by unfold sp_out1; rw [if_neg c10, if_neg c29, if_pos c80]; exact ⟨rfl, rfl, ⟨_, _, _, _, ⟨h100, h101, h102, h103, h104, h105, h106, h107, h108, h109, h110, h111⟩, hQ, hM⟩, hF⟩) dX6_out_247
    · refine lv_aload_n hx hb dX6_out_32 rfl (lv_at hl 1 rfl) ?_
      refine z_get F hw h100 fd_X6_32_X6 rfl dX6_out_33 ?_
      refine lv_iload_n hx hb dX6_out_36 rfl (lv_at hl 2 rfl) ?_
      refine z_zld F hw h107 (1) (rfl) (by decide) (by decide) dX6_out_37 ?_
      refine lv_if_ne (tgt := 72) hx hb dX6_out_38 (by decide) (fun c38 => ?_) (fun c38 => ?_)
      · refine lv_aload_n hx hb dX6_out_72 rfl (lv_at hl 1 rfl) ?_
        refine z_get F hw h100 fd_X6_26_X6 rfl dX6_out_73 ?_
        refine lv_iload_n hx hb dX6_out_76 rfl (lv_at hl 2 rfl) ?_
        refine z_ld F hw h105 (1) (rfl) (by decide) (by decide) dX6_out_77 ?_
        refine lv_bipush (v := 6) hx hb dX6_out_78 (by decide) ?_
        refine lv_icmp_ne (tgt := 98) hx hb dX6_out_80 (by decide) (fun c80 => ?_) (fun c80 => ?_)
        · refine lv_iload_n hx hb dX6_out_98 rfl (lv_at hl 2 rfl) ?_
          refine lv_if_ne (tgt := 132) hx hb dX6_out_99 (by decide) (fun c99 => ?_) (fun c99 => absurd c99 (by decide))
          refine lv_iload_n hx hb dX6_out_132 rfl (lv_at hl 2 rfl) ?_
          refine lv_if_ne (tgt := 185) hx hb dX6_out_133 (by decide) (fun c133 => ?_) (fun c133 => absurd c133 (by decide))
          refine lv_aload_n hx hb dX6_out_185 rfl (lv_at hl 1 rfl) ?_
          refine z_get F hw h100 fd_X6_26_X6 rfl dX6_out_186 ?_
          refine lv_iconst (v := 1) hx hb dX6_out_189 (by decide) ?_
          refine z_ld F hw h105 (1) (rfl) (by decide) (by decide) dX6_out_190 ?_
          refine lv_iconst (v := 3) hx hb dX6_out_191 (by decide) ?_
          refine lv_icmp_ne (tgt := 220) hx hb dX6_out_192 (by decide) (fun c192 => ?_) (fun c192 => ?_)
          · refine lv_aload_n hx hb dX6_out_220 rfl (lv_at hl 1 rfl) ?_
            refine lv_iconst (v := 1) hx hb dX6_out_221 (by decide) ?_
            refine lv_aload_n hx hb dX6_out_222 rfl (lv_at hl 1 rfl) ?_
            refine z_get F hw h100 fd_X6_23_X6 rfl dX6_out_223 ?_
            refine lv_iconst (v := 1) hx hb dX6_out_226 (by decide) ?_
            refine z_ld F hw h104 (1) (rfl) (by decide) (by decide) dX6_out_227 ?_
            refine lv_iconst (v := 3) hx hb dX6_out_228 (by decide) ?_
            refine lv_icmp_ne (tgt := 236) hx hb dX6_out_229 (by decide) (fun c229 => ?_) (fun c229 => ?_)
            · refine lv_iconst (v := 0) hx hb dX6_out_236 (by decide) ?_
              refine lv_aload_n hx hb dX6_out_237 rfl (lv_at hl 1 rfl) ?_
              refine z_get F hw h100 fd_X6_26_X6 rfl dX6_out_238 ?_
              refine lv_iconst (v := 1) hx hb dX6_out_241 (by decide) ?_
              refine z_ld F hw h105 (1) (rfl) (by decide) (by decide) dX6_out_242 ?_
              refine lv_iconst (v := 0) hx hb dX6_out_243 (by decide) ?_
              have hV : rfV G ad ce T Q M := ⟨_, _, _, _, ⟨h100, h101, h102, h103, h104, h105, h106, h107, h108, h109, h110, h111⟩, hQ, hM⟩
              refine z_invV F (rest := []) (r_become1 l T Q M hV 0 ((T 2) 1) 0) yv_X6_83 ⟨Nat.le_of_ble_eq_true rfl, Nat.le_of_ble_eq_true rfl⟩ hw hA hS hl h100 rfl rfl rfl (Nat.le_of_ble_eq_true rfl) dX6_out_244 ⟨Nat.le_of_ble_eq_true rfl, Nat.le_of_ble_eq_true rfl⟩ (fun r ad1 ce7 H locs hp hw hS => ?_)
              obtain ⟨rfl, rfl, hV, hF2⟩ := hp
              have hF : ∀ j, j < 100 → ce7 j = ce j := fun j hj => (hF2 j hj).trans (hF j hj)
              obtain ⟨cn, zs, bs, hh, ⟨h100, h101, h102, h103, h104, h105, h106, h107, h108, h109, h110, h111⟩, hQ, hM⟩ := hV
              refine W.eq (g2 := F0 m 247 ls []) rfl ?_
              exact z_vret F hw hS (by unfold sp_out1; rw [if_neg c10, if_pos c29, if_neg c38, if_neg c80, if_neg c192, if_neg c229]; exact ⟨rfl, rfl, ⟨_, _, _, _, ⟨h100, h101, h102, h103, h104, h105, h106, h107, h108, h109, h110, h111⟩, hQ, hM⟩, hF⟩) dX6_out_247
            · refine lv_iconst (v := 3) hx hb dX6_out_232 (by decide) ?_
              refine lv_goto (tgt := 237) hx hb dX6_out_233 (by decide) ?_
              refine lv_aload_n hx hb dX6_out_237 rfl (lv_at hl 1 rfl) ?_
              refine z_get F hw h100 fd_X6_26_X6 rfl dX6_out_238 ?_
              refine lv_iconst (v := 1) hx hb dX6_out_241 (by decide) ?_
              refine z_ld F hw h105 (1) (rfl) (by decide) (by decide) dX6_out_242 ?_
              refine lv_iconst (v := 0) hx hb dX6_out_243 (by decide) ?_
              have hV : rfV G ad ce T Q M := ⟨_, _, _, _, ⟨h100, h101, h102, h103, h104, h105, h106, h107, h108, h109, h110, h111⟩, hQ, hM⟩
              refine z_invV F (rest := []) (r_become1 l T Q M hV 3 ((T 2) 1) 0) yv_X6_83 ⟨Nat.le_of_ble_eq_true rfl, Nat.le_of_ble_eq_true rfl⟩ hw hA hS hl h100 rfl rfl rfl (Nat.le_of_ble_eq_true rfl) dX6_out_244 ⟨Nat.le_of_ble_eq_true rfl, Nat.le_of_ble_eq_true rfl⟩ (fun r ad1 ce8 H locs hp hw hS => ?_)
              obtain ⟨rfl, rfl, hV, hF2⟩ := hp
              have hF : ∀ j, j < 100 → ce8 j = ce j := fun j hj => (hF2 j hj).trans (hF j hj)
              obtain ⟨cn, zs, bs, hh, ⟨h100, h101, h102, h103, h104, h105, h106, h107, h108, h109, h110, h111⟩, hQ, hM⟩ := hV
              refine W.eq (g2 := F0 m 247 ls []) rfl ?_
              exact z_vret F hw hS (by unfold sp_out1; rw [if_neg c10, if_pos c29, if_neg c38, if_neg c80, if_neg c192, if_pos c229]; exact ⟨rfl, rfl, ⟨_, _, _, _, ⟨h100, h101, h102, h103, h104, h105, h106, h107, h108, h109, h110, h111⟩, hQ, hM⟩, hF⟩) dX6_out_247
          · refine lv_aload_n hx hb dX6_out_195 rfl (lv_at hl 1 rfl) ?_
            refine lv_iconst (v := 1) hx hb dX6_out_196 (by decide) ?_
            refine lv_iconst (v := 3) hx hb dX6_out_197 (by decide) ?_
            refine lv_bipush (v := 37) hx hb dX6_out_198 (by decide) ?_
            refine lv_bipush (v := 8) hx hb dX6_out_200 (by decide) ?_
            refine lv_iconst (v := 1) hx hb dX6_out_202 (by decide) ?_
            refine lv_bipush (v := 102) hx hb dX6_out_203 (by decide) ?_
            have hV : rfV G ad ce T Q M := ⟨_, _, _, _, ⟨h100, h101, h102, h103, h104, h105, h106, h107, h108, h109, h110, h111⟩, hQ, hM⟩
            refine z_invV F (rest := []) (r_tell1_1 l T Q M hV 3 37 8 (by decide) (by decide) (by decide) 102) yv_X6_112 ⟨Nat.le_of_ble_eq_true rfl, Nat.le_of_ble_eq_true rfl⟩ hw hA hS hl h100 rfl rfl rfl (Nat.le_of_ble_eq_true rfl) dX6_out_205 ⟨Nat.le_of_ble_eq_true rfl, Nat.le_of_ble_eq_true rfl⟩ (fun r ad1 ce9 H locs hp hw hS => ?_)
            obtain ⟨rfl, rfl, hV, hF2⟩ := hp
            have hF : ∀ j, j < 100 → ce9 j = ce j := fun j hj => (hF2 j hj).trans (hF j hj)
            obtain ⟨cn, zs, bs, hh, ⟨h100, h101, h102, h103, h104, h105, h106, h107, h108, h109, h110, h111⟩, hQ, hM⟩ := hV
            refine W.eq (g2 := F0 m 208 ls []) rfl ?_
            refine lv_aload_n hx hb dX6_out_208 rfl (lv_at hl 1 rfl) ?_
            refine lv_iconst (v := 1) hx hb dX6_out_209 (by decide) ?_
            refine lv_iconst (v := 3) hx hb dX6_out_210 (by decide) ?_
            refine lv_iconst (v := 5) hx hb dX6_out_211 (by decide) ?_
            refine lv_bipush (v := 30) hx hb dX6_out_212 (by decide) ?_
            have hV : rfV G ad ce9 T (rf_put T Q 1 ([3, 37, 8, 1] ++ rf_bytes 1 102)) M := ⟨_, _, _, _, ⟨h100, h101, h102, h103, h104, h105, h106, h107, h108, h109, h110, h111⟩, hQ, hM⟩
            refine z_invV F (rest := []) (r_become1 l T (rf_put T Q 1 ([3, 37, 8, 1] ++ rf_bytes 1 102)) M hV 3 5 30) yv_X6_83 ⟨Nat.le_of_ble_eq_true rfl, Nat.le_of_ble_eq_true rfl⟩ hw hA hS hl h100 rfl rfl rfl (Nat.le_of_ble_eq_true rfl) dX6_out_214 ⟨Nat.le_of_ble_eq_true rfl, Nat.le_of_ble_eq_true rfl⟩ (fun r ad1 ce10 H locs hp hw hS => ?_)
            obtain ⟨rfl, rfl, hV, hF2⟩ := hp
            have hF : ∀ j, j < 100 → ce10 j = ce j := fun j hj => (hF2 j hj).trans (hF j hj)
            obtain ⟨cn, zs, bs, hh, ⟨h100, h101, h102, h103, h104, h105, h106, h107, h108, h109, h110, h111⟩, hQ, hM⟩ := hV
            refine W.eq (g2 := F0 m 217 ls []) rfl ?_
            refine lv_goto (tgt := 247) hx hb dX6_out_217 (by decide) ?_
            exact z_vret F hw hS (by unfold sp_out1; rw [if_neg c10, if_pos c29, if_neg c38, if_neg c80, if_pos c192]; exact ⟨rfl, rfl, ⟨_, _, _, _, ⟨h100, h101, h102, h103, h104, h105, h106, h107, h108, h109, h110, h111⟩, hQ, hM⟩, hF⟩) dX6_out_247
        · refine lv_aload_n hx hb dX6_out_83 rfl (lv_at hl 1 rfl) ?_
          refine lv_iload_n hx hb dX6_out_84 rfl (lv_at hl 2 rfl) ?_
          refine lv_aload_n hx hb dX6_out_85 rfl (lv_at hl 1 rfl) ?_
          refine lv_iload_n hx hb dX6_out_86 rfl (lv_at hl 2 rfl) ?_
          have hV : rfV G ad ce T Q M := ⟨_, _, _, _, ⟨h100, h101, h102, h103, h104, h105, h106, h107, h108, h109, h110, h111⟩, hQ, hM⟩
          refine z_invV F (rest := [.int 1, .ref (ad 100)]) (r_rest1 l T Q M hV) yv_X6_102 ⟨Nat.le_of_ble_eq_true rfl, Nat.le_of_ble_eq_true rfl⟩ hw hA hS hl h100 rfl rfl rfl (Nat.le_of_ble_eq_true rfl) dX6_out_87 ⟨Nat.le_of_ble_eq_true rfl, Nat.le_of_ble_eq_true rfl⟩ (fun r ad1 ce11 H locs hp hw hS => ?_)
          obtain ⟨rfl, rfl, rfl⟩ := hp
          refine W.eq (g2 := F0 m 90 ls [.int 0, .int 1, .ref (ad 100)]) rfl ?_
          refine lv_iconst (v := 0) hx hb dX6_out_90 (by decide) ?_
          refine lv_iconst (v := 0) hx hb dX6_out_91 (by decide) ?_
          have hV : rfV G ad ce T Q M := ⟨_, _, _, _, ⟨h100, h101, h102, h103, h104, h105, h106, h107, h108, h109, h110, h111⟩, hQ, hM⟩
          refine z_invV F (rest := []) (r_become1 l T Q M hV 0 0 0) yv_X6_83 ⟨Nat.le_of_ble_eq_true rfl, Nat.le_of_ble_eq_true rfl⟩ hw hA hS hl h100 rfl rfl rfl (Nat.le_of_ble_eq_true rfl) dX6_out_92 ⟨Nat.le_of_ble_eq_true rfl, Nat.le_of_ble_eq_true rfl⟩ (fun r ad1 ce12 H locs hp hw hS => ?_)
          obtain ⟨rfl, rfl, hV, hF2⟩ := hp
          have hF : ∀ j, j < 100 → ce12 j = ce j := fun j hj => (hF2 j hj).trans (hF j hj)
          obtain ⟨cn, zs, bs, hh, ⟨h100, h101, h102, h103, h104, h105, h106, h107, h108, h109, h110, h111⟩, hQ, hM⟩ := hV
          refine W.eq (g2 := F0 m 95 ls []) rfl ?_
          refine lv_goto (tgt := 247) hx hb dX6_out_95 (by decide) ?_
          exact z_vret F hw hS (by unfold sp_out1; rw [if_neg c10, if_pos c29, if_neg c38, if_pos c80]; exact ⟨rfl, rfl, ⟨_, _, _, _, ⟨h100, h101, h102, h103, h104, h105, h106, h107, h108, h109, h110, h111⟩, hQ, hM⟩, hF⟩) dX6_out_247
      · refine lv_aload_n hx hb dX6_out_41 rfl (lv_at hl 1 rfl) ?_
        refine lv_aload_n hx hb dX6_out_42 rfl (lv_at hl 1 rfl) ?_
        refine lv_iload_n hx hb dX6_out_43 rfl (lv_at hl 2 rfl) ?_
        have hV : rfV G ad ce T Q M := ⟨_, _, _, _, ⟨h100, h101, h102, h103, h104, h105, h106, h107, h108, h109, h110, h111⟩, hQ, hM⟩
        refine z_invV F (rest := [.ref (ad 100)]) (r_way1 l T Q M hV) yv_X6_80 ⟨Nat.le_of_ble_eq_true rfl, Nat.le_of_ble_eq_true rfl⟩ hw hA hS hl h100 rfl rfl rfl (Nat.le_of_ble_eq_true rfl) dX6_out_44 ⟨Nat.le_of_ble_eq_true rfl, Nat.le_of_ble_eq_true rfl⟩ (fun r ad1 ce13 H locs hp hw hS => ?_)
        obtain ⟨rfl, rfl, rfl⟩ := hp
        refine W.eq (g2 := F0 m 47 ls [.int 1, .ref (ad 100)]) rfl ?_
        refine lv_iconst (v := 3) hx hb dX6_out_47 (by decide) ?_
        refine lv_bipush (v := 45) hx hb dX6_out_48 (by decide) ?_
        have hV : rfV G ad ce T Q M := ⟨_, _, _, _, ⟨h100, h101, h102, h103, h104, h105, h106, h107, h108, h109, h110, h111⟩, hQ, hM⟩
        refine z_invV F (rest := []) (r_put1 l T Q M hV 3 45 (by decide) (by decide)) yv_X6_64 ⟨Nat.le_of_ble_eq_true rfl, Nat.le_of_ble_eq_true rfl⟩ hw hA hS hl h100 rfl rfl rfl (Nat.le_of_ble_eq_true rfl) dX6_out_50 ⟨Nat.le_of_ble_eq_true rfl, Nat.le_of_ble_eq_true rfl⟩ (fun r ad1 ce14 H locs hp hw hS => ?_)
        obtain ⟨rfl, rfl, hV, hF2⟩ := hp
        have hF : ∀ j, j < 100 → ce14 j = ce j := fun j hj => (hF2 j hj).trans (hF j hj)
        obtain ⟨cn, zs, bs, hh, ⟨h100, h101, h102, h103, h104, h105, h106, h107, h108, h109, h110, h111⟩, hQ, hM⟩ := hV
        refine W.eq (g2 := F0 m 53 ls [.int (rf_hd T Q 1)]) rfl ?_
        refine lv_istore_n (lv' := [(2, .int (rf_hd T Q 1)), (0, .ref (ad 100)), (1, .int 1)]) hx hb dX6_out_53 rfl hl (by decide) rfl (fun ls hl => ?_)
        refine lv_aload_n hx hb dX6_out_54 rfl (lv_at hl 1 rfl) ?_
        refine z_get F hw h100 fd_X6_32_X6 rfl dX6_out_55 ?_
        refine lv_iload_n hx hb dX6_out_58 rfl (lv_at hl 2 rfl) ?_
        refine lv_iconst (v := 1) hx hb dX6_out_59 (by decide) ?_
        refine z_zst F hw hS h107 (1) (rfl) (by decide) (by decide) (rfl) dX6_out_60 (fun ce15 H locs h107 fr16 hw hS => ?_)
        have h100 := (fr16 100 (by decide)).trans h100
        have h101 := (fr16 101 (by decide)).trans h101
        have h102 := (fr16 102 (by decide)).trans h102
        have h103 := (fr16 103 (by decide)).trans h103
        have h104 := (fr16 104 (by decide)).trans h104
        have h105 := (fr16 105 (by decide)).trans h105
        have h106 := (fr16 106 (by decide)).trans h106
        have h108 := (fr16 108 (by decide)).trans h108
        have h109 := (fr16 109 (by decide)).trans h109
        have h110 := (fr16 110 (by decide)).trans h110
        have h111 := (fr16 111 (by decide)).trans h111
        have hF : ∀ j, j < 100 → _ = ce j := fun j hj => (fr16 j (by omega)).trans (hF j hj)
        refine lv_aload_n hx hb dX6_out_61 rfl (lv_at hl 1 rfl) ?_
        refine z_get F hw h100 fd_X6_29_X6 rfl dX6_out_62 ?_
        refine lv_iload_n hx hb dX6_out_65 rfl (lv_at hl 2 rfl) ?_
        refine lv_bipush (v := 30) hx hb dX6_out_66 (by decide) ?_
        refine z_st F hw hS h106 (1) (rfl) (by decide) (by decide) dX6_out_68 (fun ce17 H locs h106 fr18 hw hS => ?_)
        have h100 := (fr18 100 (by decide)).trans h100
        have h101 := (fr18 101 (by decide)).trans h101
        have h102 := (fr18 102 (by decide)).trans h102
        have h103 := (fr18 103 (by decide)).trans h103
        have h104 := (fr18 104 (by decide)).trans h104
        have h105 := (fr18 105 (by decide)).trans h105
        have h107 := (fr18 107 (by decide)).trans h107
        have h108 := (fr18 108 (by decide)).trans h108
        have h109 := (fr18 109 (by decide)).trans h109
        have h110 := (fr18 110 (by decide)).trans h110
        have h111 := (fr18 111 (by decide)).trans h111
        have hF : ∀ j, j < 100 → _ = ce j := fun j hj => (fr18 j (by omega)).trans (hF j hj)
        refine lv_goto (tgt := 247) hx hb dX6_out_69 (by decide) ?_
        exact z_vret F hw hS (by unfold sp_out1; rw [if_neg c10, if_pos c29, if_pos c38]; exact ⟨rfl, rfl, ⟨_, _, _, _, ⟨h100, h101, h102, h103, h104, h105, h106, h107, h108, h109, h110, h111⟩, hQ, hM⟩, hF⟩) dX6_out_247
  · refine lv_aload_n hx hb dX6_out_13 rfl (lv_at hl 1 rfl) ?_
    refine lv_iload_n hx hb dX6_out_14 rfl (lv_at hl 2 rfl) ?_
    have hV : rfV G ad ce T Q M := ⟨_, _, _, _, ⟨h100, h101, h102, h103, h104, h105, h106, h107, h108, h109, h110, h111⟩, hQ, hM⟩
    refine z_invV F (rest := []) (r_release1 l T Q M hV) yv_X6_98 ⟨Nat.le_of_ble_eq_true rfl, Nat.le_of_ble_eq_true rfl⟩ hw hA hS hl h100 rfl rfl rfl (Nat.le_of_ble_eq_true rfl) dX6_out_15 ⟨Nat.le_of_ble_eq_true rfl, Nat.le_of_ble_eq_true rfl⟩ (fun r ad1 ce19 H locs hp hw hS => ?_)
    obtain ⟨rfl, rfl, hV, hF2⟩ := hp
    have hF : ∀ j, j < 100 → ce19 j = ce j := fun j hj => (hF2 j hj).trans (hF j hj)
    obtain ⟨cn, zs, bs, hh, ⟨h100, h101, h102, h103, h104, h105, h106, h107, h108, h109, h110, h111⟩, hQ, hM⟩ := hV
    refine W.eq (g2 := F0 m 18 ls []) rfl ?_
    refine lv_goto (tgt := 247) hx hb dX6_out_18 (by decide) ?_
    exact z_vret F hw hS (by unfold sp_out1; rw [if_pos c10]; exact ⟨rfl, rfl, ⟨_, _, _, _, ⟨h100, h101, h102, h103, h104, h105, h106, h107, h108, h109, h110, h111⟩, hQ, hM⟩, hF⟩) dX6_out_247
def sp_power0 (T : rf_T) (Q : rf_Q) (M : List Nat) : rf_R := (if (((T 1) 0) : Int32) = 0 then ((-2), T, Q) else (1, (rf_become T 0 0 0 0), rf_put T Q 0 [5, 1]))
set_option maxHeartbeats 4000000 in
set_option maxRecDepth 100000 in
theorem r_power0 (l : Launch) {G : zz_G} {ad : Nat → Nat} {ce : zz_C} {sz : Nat} (T : rf_T) (Q : rf_Q) (M : List Nat) (hV : rfV G ad ce T Q M) : zz_M l yX6_power cX6_power 3 (some .int) 1 24 0 0 G [.ref (ad 100), .int 0] ad ce sz (fun r ad1 ce1 => r = some (.int (sp_power0 T Q M).1) ∧ ad = ad1 ∧ rfV G ad ce1 (sp_power0 T Q M).2.1 (sp_power0 T Q M).2.2 M ∧ (∀ j, j < 100 → ce1 j = ce j)) := by
  refine zz_enter (by decide) (Nat.le_of_ble_eq_true rfl) ?_
  intro p e s m below meth c ls F hl hw hS hA
  obtain ⟨hx, hb, hr, hml, hown, hts, hlocks, hK, hnm⟩ := id F
  have hl : lv_has ls 3 [(0, .ref (ad 100)), (1, .int 0)] := hl
  obtain ⟨cn, zs, bs, hh, ⟨h100, h101, h102, h103, h104, h105, h106, h107, h108, h109, h110, h111⟩, hQ, hM⟩ := hV
  have hF : ∀ j, j < 100 → ce j = ce j := fun _ _ => rfl
  refine lv_iload_n hx hb dX6_power_0 rfl (lv_at hl 1 rfl) ?_
  refine lv_aload_n hx hb dX6_power_1 rfl (lv_at hl 0 rfl) ?_
  refine z_get F hw h100 fd_X6_23_X6 rfl dX6_power_2 ?_
  refine lv_iconst (v := 0) hx hb dX6_power_5 (by decide) ?_
  refine z_ld F hw h104 (0) (rfl) (by decide) (by decide) dX6_power_6 ?_
  refine lv_if_eq (tgt := 14) hx hb dX6_power_7 (by decide) (fun c7 => ?_) (fun c7 => ?_)
  · refine lv_iconst (v := 0) hx hb dX6_power_14 (by decide) ?_
    refine lv_icmp_ne (tgt := 21) hx hb dX6_power_15 (by decide) (fun c15 => absurd c15 (by decide)) (fun c15 => ?_)
    refine lv_bipush (v := -2) hx hb dX6_power_18 (by decide) ?_
    exact z_iret F (rfl) hw hS (by unfold sp_power0; rw [if_pos c7]; exact ⟨rfl, rfl, ⟨_, _, _, _, ⟨h100, h101, h102, h103, h104, h105, h106, h107, h108, h109, h110, h111⟩, hQ, hM⟩, hF⟩) dX6_power_20
  · refine lv_iconst (v := 1) hx hb dX6_power_10 (by decide) ?_
    refine lv_goto (tgt := 15) hx hb dX6_power_11 (by decide) ?_
    refine lv_icmp_ne (tgt := 21) hx hb dX6_power_15 (by decide) (fun c15 => ?_) (fun c15 => absurd c15 (by decide))
    refine lv_iload_n hx hb dX6_power_21 rfl (lv_at hl 1 rfl) ?_
    refine lv_if_eq (tgt := 40) hx hb dX6_power_22 (by decide) (fun c22 => ?_) (fun c22 => absurd c22 (by decide))
    refine lv_aload_n hx hb dX6_power_40 rfl (lv_at hl 0 rfl) ?_
    refine lv_iconst (v := 0) hx hb dX6_power_41 (by decide) ?_
    refine lv_iconst (v := 5) hx hb dX6_power_42 (by decide) ?_
    refine lv_iconst (v := 1) hx hb dX6_power_43 (by decide) ?_
    have hV : rfV G ad ce T Q M := ⟨_, _, _, _, ⟨h100, h101, h102, h103, h104, h105, h106, h107, h108, h109, h110, h111⟩, hQ, hM⟩
    refine z_invV F (rest := []) (r_put0 l T Q M hV 5 1 (by decide) (by decide)) yv_X6_64 ⟨Nat.le_of_ble_eq_true rfl, Nat.le_of_ble_eq_true rfl⟩ hw hA hS hl h100 rfl rfl rfl (Nat.le_of_ble_eq_true rfl) dX6_power_44 ⟨Nat.le_of_ble_eq_true rfl, Nat.le_of_ble_eq_true rfl⟩ (fun r ad1 ce1 H locs hp hw hS => ?_)
    obtain ⟨rfl, rfl, hV, hF2⟩ := hp
    have hF : ∀ j, j < 100 → ce1 j = ce j := fun j hj => (hF2 j hj).trans (hF j hj)
    obtain ⟨cn, zs, bs, hh, ⟨h100, h101, h102, h103, h104, h105, h106, h107, h108, h109, h110, h111⟩, hQ, hM⟩ := hV
    refine W.eq (g2 := F0 m 47 ls [.int (rf_hd T Q 0)]) rfl ?_
    refine lv_istore_n (lv' := [(2, .int (rf_hd T Q 0)), (0, .ref (ad 100)), (1, .int 0)]) hx hb dX6_power_47 rfl hl (by decide) rfl (fun ls hl => ?_)
    refine lv_aload_n hx hb dX6_power_48 rfl (lv_at hl 1 rfl) ?_
    refine lv_iconst (v := 0) hx hb dX6_power_49 (by decide) ?_
    refine lv_iconst (v := 0) hx hb dX6_power_50 (by decide) ?_
    refine lv_iconst (v := 0) hx hb dX6_power_51 (by decide) ?_
    refine lv_iconst (v := 0) hx hb dX6_power_52 (by decide) ?_
    have hV : rfV G ad ce1 T (rf_put T Q 0 [5, 1]) M := ⟨_, _, _, _, ⟨h100, h101, h102, h103, h104, h105, h106, h107, h108, h109, h110, h111⟩, hQ, hM⟩
    refine z_invV F (rest := []) (r_become0 l T (rf_put T Q 0 [5, 1]) M hV 0 0 0) yv_X6_83 ⟨Nat.le_of_ble_eq_true rfl, Nat.le_of_ble_eq_true rfl⟩ hw hA hS hl h100 rfl rfl rfl (Nat.le_of_ble_eq_true rfl) dX6_power_53 ⟨Nat.le_of_ble_eq_true rfl, Nat.le_of_ble_eq_true rfl⟩ (fun r ad1 ce2 H locs hp hw hS => ?_)
    obtain ⟨rfl, rfl, hV, hF2⟩ := hp
    have hF : ∀ j, j < 100 → ce2 j = ce j := fun j hj => (hF2 j hj).trans (hF j hj)
    obtain ⟨cn, zs, bs, hh, ⟨h100, h101, h102, h103, h104, h105, h106, h107, h108, h109, h110, h111⟩, hQ, hM⟩ := hV
    refine W.eq (g2 := F0 m 56 ls []) rfl ?_
    refine lv_iconst (v := 1) hx hb dX6_power_56 (by decide) ?_
    exact z_iret F (rfl) hw hS (by unfold sp_power0; rw [if_neg c7]; exact ⟨rfl, rfl, ⟨_, _, _, _, ⟨h100, h101, h102, h103, h104, h105, h106, h107, h108, h109, h110, h111⟩, hQ, hM⟩, hF⟩) dX6_power_57
def sp_power1 (T : rf_T) (Q : rf_Q) (M : List Nat) : rf_R := (if (((T 1) 0) : Int32) = 0 then (1, (rf_become (va_up T 0 (va_up (T 0) 6 0)) 0 1 0 0), Q) else ((-2), T, Q))
set_option maxHeartbeats 4000000 in
set_option maxRecDepth 100000 in
theorem r_power1 (l : Launch) {G : zz_G} {ad : Nat → Nat} {ce : zz_C} {sz : Nat} (T : rf_T) (Q : rf_Q) (M : List Nat) (hV : rfV G ad ce T Q M) : zz_M l yX6_power cX6_power 3 (some .int) 1 24 0 0 G [.ref (ad 100), .int 1] ad ce sz (fun r ad1 ce1 => r = some (.int (sp_power1 T Q M).1) ∧ ad = ad1 ∧ rfV G ad ce1 (sp_power1 T Q M).2.1 (sp_power1 T Q M).2.2 M ∧ (∀ j, j < 100 → ce1 j = ce j)) := by
  refine zz_enter (by decide) (Nat.le_of_ble_eq_true rfl) ?_
  intro p e s m below meth c ls F hl hw hS hA
  obtain ⟨hx, hb, hr, hml, hown, hts, hlocks, hK, hnm⟩ := id F
  have hl : lv_has ls 3 [(0, .ref (ad 100)), (1, .int 1)] := hl
  obtain ⟨cn, zs, bs, hh, ⟨h100, h101, h102, h103, h104, h105, h106, h107, h108, h109, h110, h111⟩, hQ, hM⟩ := hV
  have hF : ∀ j, j < 100 → ce j = ce j := fun _ _ => rfl
  refine lv_iload_n hx hb dX6_power_0 rfl (lv_at hl 1 rfl) ?_
  refine lv_aload_n hx hb dX6_power_1 rfl (lv_at hl 0 rfl) ?_
  refine z_get F hw h100 fd_X6_23_X6 rfl dX6_power_2 ?_
  refine lv_iconst (v := 0) hx hb dX6_power_5 (by decide) ?_
  refine z_ld F hw h104 (0) (rfl) (by decide) (by decide) dX6_power_6 ?_
  refine lv_if_eq (tgt := 14) hx hb dX6_power_7 (by decide) (fun c7 => ?_) (fun c7 => ?_)
  · refine lv_iconst (v := 0) hx hb dX6_power_14 (by decide) ?_
    refine lv_icmp_ne (tgt := 21) hx hb dX6_power_15 (by decide) (fun c15 => ?_) (fun c15 => absurd c15 (by decide))
    refine lv_iload_n hx hb dX6_power_21 rfl (lv_at hl 1 rfl) ?_
    refine lv_if_eq (tgt := 40) hx hb dX6_power_22 (by decide) (fun c22 => absurd c22 (by decide)) (fun c22 => ?_)
    refine lv_aload_n hx hb dX6_power_25 rfl (lv_at hl 0 rfl) ?_
    refine lv_iconst (v := 0) hx hb dX6_power_26 (by decide) ?_
    refine z_put F hw hS (fs' := [.int (T 0 0), .int (T 0 1), .int (T 0 2), .int (T 0 3), .int (T 0 4), .ref (ad 101), .ref (ad 102), .ref (ad 103), .int (T 0 5), .ref (ad 104), .ref (ad 105), .ref (ad 106), .ref (ad 107), .ref (ad 108), .int 0, .int (T 0 7), .int (T 0 8), .ref (ad 109), .int (T 0 9), .ref (ad 110), .int (T 0 10), .int (nI M.length), .ref (ad 111)]) h100 fd_X6_105_X6 ptX6 rfl (rfl) (rfl) (Nat.le_of_ble_eq_true rfl) rfl dX6_power_27 (fun ce1 H locs h100 fr2 hw hS => ?_)
    have h101 := (fr2 101 (by decide)).trans h101
    have h102 := (fr2 102 (by decide)).trans h102
    have h103 := (fr2 103 (by decide)).trans h103
    have h104 := (fr2 104 (by decide)).trans h104
    have h105 := (fr2 105 (by decide)).trans h105
    have h106 := (fr2 106 (by decide)).trans h106
    have h107 := (fr2 107 (by decide)).trans h107
    have h108 := (fr2 108 (by decide)).trans h108
    have h109 := (fr2 109 (by decide)).trans h109
    have h110 := (fr2 110 (by decide)).trans h110
    have h111 := (fr2 111 (by decide)).trans h111
    have hF : ∀ j, j < 100 → _ = ce j := fun j hj => (fr2 j (by omega)).trans (hF j hj)
    refine lv_aload_n hx hb dX6_power_30 rfl (lv_at hl 0 rfl) ?_
    refine lv_iconst (v := 0) hx hb dX6_power_31 (by decide) ?_
    refine lv_iconst (v := 1) hx hb dX6_power_32 (by decide) ?_
    refine lv_iconst (v := 0) hx hb dX6_power_33 (by decide) ?_
    refine lv_iconst (v := 0) hx hb dX6_power_34 (by decide) ?_
    have hV : rfV G ad ce1 (va_up T 0 (va_up (T 0) 6 0)) Q M := ⟨_, _, _, _, ⟨h100, h101, h102, h103, h104, h105, h106, h107, h108, h109, h110, h111⟩, hQ, hM⟩
    refine z_invV F (rest := []) (r_become0 l (va_up T 0 (va_up (T 0) 6 0)) Q M hV 1 0 0) yv_X6_83 ⟨Nat.le_of_ble_eq_true rfl, Nat.le_of_ble_eq_true rfl⟩ hw hA hS hl h100 rfl rfl rfl (Nat.le_of_ble_eq_true rfl) dX6_power_35 ⟨Nat.le_of_ble_eq_true rfl, Nat.le_of_ble_eq_true rfl⟩ (fun r ad1 ce3 H locs hp hw hS => ?_)
    obtain ⟨rfl, rfl, hV, hF2⟩ := hp
    have hF : ∀ j, j < 100 → ce3 j = ce j := fun j hj => (hF2 j hj).trans (hF j hj)
    obtain ⟨cn, zs, bs, hh, ⟨h100, h101, h102, h103, h104, h105, h106, h107, h108, h109, h110, h111⟩, hQ, hM⟩ := hV
    refine W.eq (g2 := F0 m 38 ls []) rfl ?_
    refine lv_iconst (v := 1) hx hb dX6_power_38 (by decide) ?_
    exact z_iret F (rfl) hw hS (by unfold sp_power1; rw [if_pos c7]; exact ⟨rfl, rfl, ⟨_, _, _, _, ⟨h100, h101, h102, h103, h104, h105, h106, h107, h108, h109, h110, h111⟩, hQ, hM⟩, hF⟩) dX6_power_39
  · refine lv_iconst (v := 1) hx hb dX6_power_10 (by decide) ?_
    refine lv_goto (tgt := 15) hx hb dX6_power_11 (by decide) ?_
    refine lv_icmp_ne (tgt := 21) hx hb dX6_power_15 (by decide) (fun c15 => absurd c15 (by decide)) (fun c15 => ?_)
    refine lv_bipush (v := -2) hx hb dX6_power_18 (by decide) ?_
    exact z_iret F (rfl) hw hS (by unfold sp_power1; rw [if_neg c7]; exact ⟨rfl, rfl, ⟨_, _, _, _, ⟨h100, h101, h102, h103, h104, h105, h106, h107, h108, h109, h110, h111⟩, hQ, hM⟩, hF⟩) dX6_power_20
def sp_update (T : rf_T) (Q : rf_Q) (M : List Nat) (v : Int32) : rf_R := (if (v : Int32) < 0 then ((-1), T, Q) else (if (v : Int32) ≤ 65535 then (if (((T 1) 0) : Int32) = 1 then (1, (rf_become T 0 2 ((T 2) 0) 20), rf_put T Q 0 ([5, 8, 19, 2] ++ rf_bytes 2 v)) else (if (((T 1) 0) : Int32) = 3 then (1, (rf_become T 0 2 ((T 2) 0) 20), rf_put T Q 0 ([5, 8, 19, 2] ++ rf_bytes 2 v)) else ((-2), T, Q))) else ((-1), T, Q)))
set_option maxHeartbeats 4000000 in
set_option maxRecDepth 100000 in
theorem r_update (l : Launch) {G : zz_G} {ad : Nat → Nat} {ce : zz_C} {sz : Nat} (T : rf_T) (Q : rf_Q) (M : List Nat) (hV : rfV G ad ce T Q M) (v : Int32) : zz_M l yX6_update cX6_update 2 (some .int) 2 52 0 0 G [.ref (ad 100), .int v] ad ce sz (fun r ad1 ce1 => r = some (.int (sp_update T Q M v).1) ∧ ad = ad1 ∧ rfV G ad ce1 (sp_update T Q M v).2.1 (sp_update T Q M v).2.2 M ∧ (∀ j, j < 100 → ce1 j = ce j)) := by
  refine zz_enter (by decide) (Nat.le_of_ble_eq_true rfl) ?_
  intro p e s m below meth c ls F hl hw hS hA
  obtain ⟨hx, hb, hr, hml, hown, hts, hlocks, hK, hnm⟩ := id F
  have hl : lv_has ls 2 [(0, .ref (ad 100)), (1, .int v)] := hl
  obtain ⟨cn, zs, bs, hh, ⟨h100, h101, h102, h103, h104, h105, h106, h107, h108, h109, h110, h111⟩, hQ, hM⟩ := hV
  have hF : ∀ j, j < 100 → ce j = ce j := fun _ _ => rfl
  refine lv_iload_n hx hb dX6_update_0 rfl (lv_at hl 1 rfl) ?_
  refine lv_if_lt (tgt := 10) hx hb dX6_update_1 (by decide) (fun c1 => ?_) (fun c1 => ?_)
  · refine lv_iconst (v := -1) hx hb dX6_update_10 (by decide) ?_
    exact z_iret F (rfl) hw hS (by unfold sp_update; rw [if_pos c1]; exact ⟨rfl, rfl, ⟨_, _, _, _, ⟨h100, h101, h102, h103, h104, h105, h106, h107, h108, h109, h110, h111⟩, hQ, hM⟩, hF⟩) dX6_update_11
  · refine lv_iload_n hx hb dX6_update_4 rfl (lv_at hl 1 rfl) ?_
    refine lv_ldc (v := 65535) hx hb hown (hts _ wd_759) dX6_update_5 ?_
    refine lv_icmp_le (tgt := 12) hx hb dX6_update_7 (by decide) (fun c7 => ?_) (fun c7 => ?_)
    · refine lv_aload_n hx hb dX6_update_12 rfl (lv_at hl 0 rfl) ?_
      refine z_get F hw h100 fd_X6_23_X6 rfl dX6_update_13 ?_
      refine lv_iconst (v := 0) hx hb dX6_update_16 (by decide) ?_
      refine z_ld F hw h104 (0) (rfl) (by decide) (by decide) dX6_update_17 ?_
      refine lv_iconst (v := 1) hx hb dX6_update_18 (by decide) ?_
      refine lv_icmp_eq (tgt := 35) hx hb dX6_update_19 (by decide) (fun c19 => ?_) (fun c19 => ?_)
      · refine lv_aload_n hx hb dX6_update_35 rfl (lv_at hl 0 rfl) ?_
        refine lv_iconst (v := 0) hx hb dX6_update_36 (by decide) ?_
        refine lv_iconst (v := 5) hx hb dX6_update_37 (by decide) ?_
        refine lv_bipush (v := 8) hx hb dX6_update_38 (by decide) ?_
        refine lv_bipush (v := 19) hx hb dX6_update_40 (by decide) ?_
        refine lv_iconst (v := 2) hx hb dX6_update_42 (by decide) ?_
        refine lv_iload_n hx hb dX6_update_43 rfl (lv_at hl 1 rfl) ?_
        have hV : rfV G ad ce T Q M := ⟨_, _, _, _, ⟨h100, h101, h102, h103, h104, h105, h106, h107, h108, h109, h110, h111⟩, hQ, hM⟩
        refine z_invV F (rest := []) (r_tell0_2 l T Q M hV 5 8 19 (by decide) (by decide) (by decide) v) yv_X6_112 ⟨Nat.le_of_ble_eq_true rfl, Nat.le_of_ble_eq_true rfl⟩ hw hA hS hl h100 rfl rfl rfl (Nat.le_of_ble_eq_true rfl) dX6_update_44 ⟨Nat.le_of_ble_eq_true rfl, Nat.le_of_ble_eq_true rfl⟩ (fun r ad1 ce1 H locs hp hw hS => ?_)
        obtain ⟨rfl, rfl, hV, hF2⟩ := hp
        have hF : ∀ j, j < 100 → ce1 j = ce j := fun j hj => (hF2 j hj).trans (hF j hj)
        obtain ⟨cn, zs, bs, hh, ⟨h100, h101, h102, h103, h104, h105, h106, h107, h108, h109, h110, h111⟩, hQ, hM⟩ := hV
        refine W.eq (g2 := F0 m 47 ls []) rfl ?_
        refine lv_aload_n hx hb dX6_update_47 rfl (lv_at hl 0 rfl) ?_
        refine lv_iconst (v := 0) hx hb dX6_update_48 (by decide) ?_
        refine lv_iconst (v := 2) hx hb dX6_update_49 (by decide) ?_
        refine lv_aload_n hx hb dX6_update_50 rfl (lv_at hl 0 rfl) ?_
        refine z_get F hw h100 fd_X6_26_X6 rfl dX6_update_51 ?_
        refine lv_iconst (v := 0) hx hb dX6_update_54 (by decide) ?_
        refine z_ld F hw h105 (0) (rfl) (by decide) (by decide) dX6_update_55 ?_
        refine lv_bipush (v := 20) hx hb dX6_update_56 (by decide) ?_
        have hV : rfV G ad ce1 T (rf_put T Q 0 ([5, 8, 19, 2] ++ rf_bytes 2 v)) M := ⟨_, _, _, _, ⟨h100, h101, h102, h103, h104, h105, h106, h107, h108, h109, h110, h111⟩, hQ, hM⟩
        refine z_invV F (rest := []) (r_become0 l T (rf_put T Q 0 ([5, 8, 19, 2] ++ rf_bytes 2 v)) M hV 2 ((T 2) 0) 20) yv_X6_83 ⟨Nat.le_of_ble_eq_true rfl, Nat.le_of_ble_eq_true rfl⟩ hw hA hS hl h100 rfl rfl rfl (Nat.le_of_ble_eq_true rfl) dX6_update_58 ⟨Nat.le_of_ble_eq_true rfl, Nat.le_of_ble_eq_true rfl⟩ (fun r ad1 ce2 H locs hp hw hS => ?_)
        obtain ⟨rfl, rfl, hV, hF2⟩ := hp
        have hF : ∀ j, j < 100 → ce2 j = ce j := fun j hj => (hF2 j hj).trans (hF j hj)
        obtain ⟨cn, zs, bs, hh, ⟨h100, h101, h102, h103, h104, h105, h106, h107, h108, h109, h110, h111⟩, hQ, hM⟩ := hV
        refine W.eq (g2 := F0 m 61 ls []) rfl ?_
        refine lv_iconst (v := 1) hx hb dX6_update_61 (by decide) ?_
        exact z_iret F (rfl) hw hS (by unfold sp_update; rw [if_neg c1, if_pos c7, if_pos c19]; exact ⟨rfl, rfl, ⟨_, _, _, _, ⟨h100, h101, h102, h103, h104, h105, h106, h107, h108, h109, h110, h111⟩, hQ, hM⟩, hF⟩) dX6_update_62
      · refine lv_aload_n hx hb dX6_update_22 rfl (lv_at hl 0 rfl) ?_
        refine z_get F hw h100 fd_X6_23_X6 rfl dX6_update_23 ?_
        refine lv_iconst (v := 0) hx hb dX6_update_26 (by decide) ?_
        refine z_ld F hw h104 (0) (rfl) (by decide) (by decide) dX6_update_27 ?_
        refine lv_iconst (v := 3) hx hb dX6_update_28 (by decide) ?_
        refine lv_icmp_eq (tgt := 35) hx hb dX6_update_29 (by decide) (fun c29 => ?_) (fun c29 => ?_)
        · refine lv_aload_n hx hb dX6_update_35 rfl (lv_at hl 0 rfl) ?_
          refine lv_iconst (v := 0) hx hb dX6_update_36 (by decide) ?_
          refine lv_iconst (v := 5) hx hb dX6_update_37 (by decide) ?_
          refine lv_bipush (v := 8) hx hb dX6_update_38 (by decide) ?_
          refine lv_bipush (v := 19) hx hb dX6_update_40 (by decide) ?_
          refine lv_iconst (v := 2) hx hb dX6_update_42 (by decide) ?_
          refine lv_iload_n hx hb dX6_update_43 rfl (lv_at hl 1 rfl) ?_
          have hV : rfV G ad ce T Q M := ⟨_, _, _, _, ⟨h100, h101, h102, h103, h104, h105, h106, h107, h108, h109, h110, h111⟩, hQ, hM⟩
          refine z_invV F (rest := []) (r_tell0_2 l T Q M hV 5 8 19 (by decide) (by decide) (by decide) v) yv_X6_112 ⟨Nat.le_of_ble_eq_true rfl, Nat.le_of_ble_eq_true rfl⟩ hw hA hS hl h100 rfl rfl rfl (Nat.le_of_ble_eq_true rfl) dX6_update_44 ⟨Nat.le_of_ble_eq_true rfl, Nat.le_of_ble_eq_true rfl⟩ (fun r ad1 ce3 H locs hp hw hS => ?_)
          obtain ⟨rfl, rfl, hV, hF2⟩ := hp
          have hF : ∀ j, j < 100 → ce3 j = ce j := fun j hj => (hF2 j hj).trans (hF j hj)
          obtain ⟨cn, zs, bs, hh, ⟨h100, h101, h102, h103, h104, h105, h106, h107, h108, h109, h110, h111⟩, hQ, hM⟩ := hV
          refine W.eq (g2 := F0 m 47 ls []) rfl ?_
          refine lv_aload_n hx hb dX6_update_47 rfl (lv_at hl 0 rfl) ?_
          refine lv_iconst (v := 0) hx hb dX6_update_48 (by decide) ?_
          refine lv_iconst (v := 2) hx hb dX6_update_49 (by decide) ?_
          refine lv_aload_n hx hb dX6_update_50 rfl (lv_at hl 0 rfl) ?_
          refine z_get F hw h100 fd_X6_26_X6 rfl dX6_update_51 ?_
          refine lv_iconst (v := 0) hx hb dX6_update_54 (by decide) ?_
          refine z_ld F hw h105 (0) (rfl) (by decide) (by decide) dX6_update_55 ?_
          refine lv_bipush (v := 20) hx hb dX6_update_56 (by decide) ?_
          have hV : rfV G ad ce3 T (rf_put T Q 0 ([5, 8, 19, 2] ++ rf_bytes 2 v)) M := ⟨_, _, _, _, ⟨h100, h101, h102, h103, h104, h105, h106, h107, h108, h109, h110, h111⟩, hQ, hM⟩
          refine z_invV F (rest := []) (r_become0 l T (rf_put T Q 0 ([5, 8, 19, 2] ++ rf_bytes 2 v)) M hV 2 ((T 2) 0) 20) yv_X6_83 ⟨Nat.le_of_ble_eq_true rfl, Nat.le_of_ble_eq_true rfl⟩ hw hA hS hl h100 rfl rfl rfl (Nat.le_of_ble_eq_true rfl) dX6_update_58 ⟨Nat.le_of_ble_eq_true rfl, Nat.le_of_ble_eq_true rfl⟩ (fun r ad1 ce4 H locs hp hw hS => ?_)
          obtain ⟨rfl, rfl, hV, hF2⟩ := hp
          have hF : ∀ j, j < 100 → ce4 j = ce j := fun j hj => (hF2 j hj).trans (hF j hj)
          obtain ⟨cn, zs, bs, hh, ⟨h100, h101, h102, h103, h104, h105, h106, h107, h108, h109, h110, h111⟩, hQ, hM⟩ := hV
          refine W.eq (g2 := F0 m 61 ls []) rfl ?_
          refine lv_iconst (v := 1) hx hb dX6_update_61 (by decide) ?_
          exact z_iret F (rfl) hw hS (by unfold sp_update; rw [if_neg c1, if_pos c7, if_neg c19, if_pos c29]; exact ⟨rfl, rfl, ⟨_, _, _, _, ⟨h100, h101, h102, h103, h104, h105, h106, h107, h108, h109, h110, h111⟩, hQ, hM⟩, hF⟩) dX6_update_62
        · refine lv_bipush (v := -2) hx hb dX6_update_32 (by decide) ?_
          exact z_iret F (rfl) hw hS (by unfold sp_update; rw [if_neg c1, if_pos c7, if_neg c19, if_neg c29]; exact ⟨rfl, rfl, ⟨_, _, _, _, ⟨h100, h101, h102, h103, h104, h105, h106, h107, h108, h109, h110, h111⟩, hQ, hM⟩, hF⟩) dX6_update_34
    · refine lv_iconst (v := -1) hx hb dX6_update_10 (by decide) ?_
      exact z_iret F (rfl) hw hS (by unfold sp_update; rw [if_neg c1, if_neg c7]; exact ⟨rfl, rfl, ⟨_, _, _, _, ⟨h100, h101, h102, h103, h104, h105, h106, h107, h108, h109, h110, h111⟩, hQ, hM⟩, hF⟩) dX6_update_11
def sp_hang (T : rf_T) (Q : rf_Q) (M : List Nat) : rf_R := (if rf_inC T 0 1 4 then (1, (rf_become T 0 (T 1 0) 5 30), rf_put T Q 0 ([3, 37, 8, 1] ++ rf_bytes 1 16)) else ((-2), T, Q))
set_option maxHeartbeats 4000000 in
set_option maxRecDepth 100000 in
theorem r_hang (l : Launch) {G : zz_G} {ad : Nat → Nat} {ce : zz_C} {sz : Nat} (T : rf_T) (Q : rf_Q) (M : List Nat) (hV : rfV G ad ce T Q M) : zz_M l yX6_hang cX6_hang 1 (some .int) 3 74 0 0 G [.ref (ad 100)] ad ce sz (fun r ad1 ce1 => r = some (.int (sp_hang T Q M).1) ∧ ad = ad1 ∧ rfV G ad ce1 (sp_hang T Q M).2.1 (sp_hang T Q M).2.2 M ∧ (∀ j, j < 100 → ce1 j = ce j)) := by
  refine zz_enter (by decide) (Nat.le_of_ble_eq_true rfl) ?_
  intro p e s m below meth c ls F hl hw hS hA
  obtain ⟨hx, hb, hr, hml, hown, hts, hlocks, hK, hnm⟩ := id F
  have hl : lv_has ls 1 [(0, .ref (ad 100))] := hl
  obtain ⟨cn, zs, bs, hh, ⟨h100, h101, h102, h103, h104, h105, h106, h107, h108, h109, h110, h111⟩, hQ, hM⟩ := hV
  have hF : ∀ j, j < 100 → ce j = ce j := fun _ _ => rfl
  refine lv_aload_n hx hb dX6_hang_0 rfl (lv_at hl 0 rfl) ?_
  refine lv_iconst (v := 0) hx hb dX6_hang_1 (by decide) ?_
  refine lv_iconst (v := 1) hx hb dX6_hang_2 (by decide) ?_
  refine lv_iconst (v := 4) hx hb dX6_hang_3 (by decide) ?_
  have hV : rfV G ad ce T Q M := ⟨_, _, _, _, ⟨h100, h101, h102, h103, h104, h105, h106, h107, h108, h109, h110, h111⟩, hQ, hM⟩
  refine z_invV F (rest := []) (r_isCall0 l T Q M hV 1 4) yv_X6_91 ⟨Nat.le_of_ble_eq_true rfl, Nat.le_of_ble_eq_true rfl⟩ hw hA hS hl h100 rfl rfl rfl (Nat.le_of_ble_eq_true rfl) dX6_hang_4 ⟨Nat.le_of_ble_eq_true rfl, Nat.le_of_ble_eq_true rfl⟩ (fun r ad1 ce1 H locs hp hw hS => ?_)
  obtain ⟨hp, rfl, rfl⟩ := hp
  rcases hp with ⟨hc, rfl⟩ | ⟨hc, rfl⟩
  · refine W.eq (g2 := F0 m 7 ls [.int 1]) rfl ?_
    refine lv_if_ne (tgt := 13) hx hb dX6_hang_7 (by decide) (fun c7 => ?_) (fun c7 => absurd c7 (by decide))
    refine lv_aload_n hx hb dX6_hang_13 rfl (lv_at hl 0 rfl) ?_
    refine lv_iconst (v := 0) hx hb dX6_hang_14 (by decide) ?_
    refine lv_bipush (v := 16) hx hb dX6_hang_15 (by decide) ?_
    have hV : rfV G ad ce T Q M := ⟨_, _, _, _, ⟨h100, h101, h102, h103, h104, h105, h106, h107, h108, h109, h110, h111⟩, hQ, hM⟩
    refine z_invV F (rest := []) (r_end0 l T Q M hV 16) yv_X6_142 ⟨Nat.le_of_ble_eq_true rfl, Nat.le_of_ble_eq_true rfl⟩ hw hA hS hl h100 rfl rfl rfl (Nat.le_of_ble_eq_true rfl) dX6_hang_17 ⟨Nat.le_of_ble_eq_true rfl, Nat.le_of_ble_eq_true rfl⟩ (fun r ad1 ce2 H locs hp hw hS => ?_)
    obtain ⟨rfl, rfl, hV, hF2⟩ := hp
    have hF : ∀ j, j < 100 → ce2 j = ce j := fun j hj => (hF2 j hj).trans (hF j hj)
    obtain ⟨cn, zs, bs, hh, ⟨h100, h101, h102, h103, h104, h105, h106, h107, h108, h109, h110, h111⟩, hQ, hM⟩ := hV
    refine W.eq (g2 := F0 m 20 ls []) rfl ?_
    refine lv_iconst (v := 1) hx hb dX6_hang_20 (by decide) ?_
    exact z_iret F (rfl) hw hS (by unfold sp_hang; rw [if_pos hc]; exact ⟨rfl, rfl, ⟨_, _, _, _, ⟨h100, h101, h102, h103, h104, h105, h106, h107, h108, h109, h110, h111⟩, hQ, hM⟩, hF⟩) dX6_hang_21
  · refine W.eq (g2 := F0 m 7 ls [.int 0]) rfl ?_
    refine lv_if_ne (tgt := 13) hx hb dX6_hang_7 (by decide) (fun c7 => absurd c7 (by decide)) (fun c7 => ?_)
    refine lv_bipush (v := -2) hx hb dX6_hang_10 (by decide) ?_
    exact z_iret F (rfl) hw hS (by unfold sp_hang; rw [if_neg hc]; exact ⟨rfl, rfl, ⟨_, _, _, _, ⟨h100, h101, h102, h103, h104, h105, h106, h107, h108, h109, h110, h111⟩, hQ, hM⟩, hF⟩) dX6_hang_12
def sp_alert (T : rf_T) (Q : rf_Q) (M : List Nat) : rf_R := (if (((T 2) 1) : Int32) = 1 then (1, (rf_become T 1 ((T 1) 1) 2 0), rf_put T Q 1 [3, 1]) else ((-2), T, Q))
set_option maxHeartbeats 4000000 in
set_option maxRecDepth 100000 in
theorem r_alert (l : Launch) {G : zz_G} {ad : Nat → Nat} {ce : zz_C} {sz : Nat} (T : rf_T) (Q : rf_Q) (M : List Nat) (hV : rfV G ad ce T Q M) : zz_M l yX6_alert cX6_alert 2 (some .int) 1 24 0 0 G [.ref (ad 100)] ad ce sz (fun r ad1 ce1 => r = some (.int (sp_alert T Q M).1) ∧ ad = ad1 ∧ rfV G ad ce1 (sp_alert T Q M).2.1 (sp_alert T Q M).2.2 M ∧ (∀ j, j < 100 → ce1 j = ce j)) := by
  refine zz_enter (by decide) (Nat.le_of_ble_eq_true rfl) ?_
  intro p e s m below meth c ls F hl hw hS hA
  obtain ⟨hx, hb, hr, hml, hown, hts, hlocks, hK, hnm⟩ := id F
  have hl : lv_has ls 2 [(0, .ref (ad 100))] := hl
  obtain ⟨cn, zs, bs, hh, ⟨h100, h101, h102, h103, h104, h105, h106, h107, h108, h109, h110, h111⟩, hQ, hM⟩ := hV
  have hF : ∀ j, j < 100 → ce j = ce j := fun _ _ => rfl
  refine lv_aload_n hx hb dX6_alert_0 rfl (lv_at hl 0 rfl) ?_
  refine z_get F hw h100 fd_X6_26_X6 rfl dX6_alert_1 ?_
  refine lv_iconst (v := 1) hx hb dX6_alert_4 (by decide) ?_
  refine z_ld F hw h105 (1) (rfl) (by decide) (by decide) dX6_alert_5 ?_
  refine lv_iconst (v := 1) hx hb dX6_alert_6 (by decide) ?_
  refine lv_icmp_eq (tgt := 13) hx hb dX6_alert_7 (by decide) (fun c7 => ?_) (fun c7 => ?_)
  · refine lv_aload_n hx hb dX6_alert_13 rfl (lv_at hl 0 rfl) ?_
    refine lv_iconst (v := 1) hx hb dX6_alert_14 (by decide) ?_
    refine lv_iconst (v := 3) hx hb dX6_alert_15 (by decide) ?_
    refine lv_iconst (v := 1) hx hb dX6_alert_16 (by decide) ?_
    have hV : rfV G ad ce T Q M := ⟨_, _, _, _, ⟨h100, h101, h102, h103, h104, h105, h106, h107, h108, h109, h110, h111⟩, hQ, hM⟩
    refine z_invV F (rest := []) (r_put1 l T Q M hV 3 1 (by decide) (by decide)) yv_X6_64 ⟨Nat.le_of_ble_eq_true rfl, Nat.le_of_ble_eq_true rfl⟩ hw hA hS hl h100 rfl rfl rfl (Nat.le_of_ble_eq_true rfl) dX6_alert_17 ⟨Nat.le_of_ble_eq_true rfl, Nat.le_of_ble_eq_true rfl⟩ (fun r ad1 ce1 H locs hp hw hS => ?_)
    obtain ⟨rfl, rfl, hV, hF2⟩ := hp
    have hF : ∀ j, j < 100 → ce1 j = ce j := fun j hj => (hF2 j hj).trans (hF j hj)
    obtain ⟨cn, zs, bs, hh, ⟨h100, h101, h102, h103, h104, h105, h106, h107, h108, h109, h110, h111⟩, hQ, hM⟩ := hV
    refine W.eq (g2 := F0 m 20 ls [.int (rf_hd T Q 1)]) rfl ?_
    refine lv_istore_n (lv' := [(1, .int (rf_hd T Q 1)), (0, .ref (ad 100))]) hx hb dX6_alert_20 rfl hl (by decide) rfl (fun ls hl => ?_)
    refine lv_aload_n hx hb dX6_alert_21 rfl (lv_at hl 1 rfl) ?_
    refine lv_iconst (v := 1) hx hb dX6_alert_22 (by decide) ?_
    refine lv_aload_n hx hb dX6_alert_23 rfl (lv_at hl 1 rfl) ?_
    refine z_get F hw h100 fd_X6_23_X6 rfl dX6_alert_24 ?_
    refine lv_iconst (v := 1) hx hb dX6_alert_27 (by decide) ?_
    refine z_ld F hw h104 (1) (rfl) (by decide) (by decide) dX6_alert_28 ?_
    refine lv_iconst (v := 2) hx hb dX6_alert_29 (by decide) ?_
    refine lv_iconst (v := 0) hx hb dX6_alert_30 (by decide) ?_
    have hV : rfV G ad ce1 T (rf_put T Q 1 [3, 1]) M := ⟨_, _, _, _, ⟨h100, h101, h102, h103, h104, h105, h106, h107, h108, h109, h110, h111⟩, hQ, hM⟩
    refine z_invV F (rest := []) (r_become1 l T (rf_put T Q 1 [3, 1]) M hV ((T 1) 1) 2 0) yv_X6_83 ⟨Nat.le_of_ble_eq_true rfl, Nat.le_of_ble_eq_true rfl⟩ hw hA hS hl h100 rfl rfl rfl (Nat.le_of_ble_eq_true rfl) dX6_alert_31 ⟨Nat.le_of_ble_eq_true rfl, Nat.le_of_ble_eq_true rfl⟩ (fun r ad1 ce2 H locs hp hw hS => ?_)
    obtain ⟨rfl, rfl, hV, hF2⟩ := hp
    have hF : ∀ j, j < 100 → ce2 j = ce j := fun j hj => (hF2 j hj).trans (hF j hj)
    obtain ⟨cn, zs, bs, hh, ⟨h100, h101, h102, h103, h104, h105, h106, h107, h108, h109, h110, h111⟩, hQ, hM⟩ := hV
    refine W.eq (g2 := F0 m 34 ls []) rfl ?_
    refine lv_iconst (v := 1) hx hb dX6_alert_34 (by decide) ?_
    exact z_iret F (rfl) hw hS (by unfold sp_alert; rw [if_pos c7]; exact ⟨rfl, rfl, ⟨_, _, _, _, ⟨h100, h101, h102, h103, h104, h105, h106, h107, h108, h109, h110, h111⟩, hQ, hM⟩, hF⟩) dX6_alert_35
  · refine lv_bipush (v := -2) hx hb dX6_alert_10 (by decide) ?_
    exact z_iret F (rfl) hw hS (by unfold sp_alert; rw [if_neg c7]; exact ⟨rfl, rfl, ⟨_, _, _, _, ⟨h100, h101, h102, h103, h104, h105, h106, h107, h108, h109, h110, h111⟩, hQ, hM⟩, hF⟩) dX6_alert_12
def sp_answer (T : rf_T) (Q : rf_Q) (M : List Nat) : rf_R := (if rf_inC T 1 1 2 then (1, (rf_become T 1 ((T 1) 1) 3 10), rf_put T Q 1 [3, 7]) else ((-2), T, Q))
set_option maxHeartbeats 4000000 in
set_option maxRecDepth 100000 in
theorem r_answer (l : Launch) {G : zz_G} {ad : Nat → Nat} {ce : zz_C} {sz : Nat} (T : rf_T) (Q : rf_Q) (M : List Nat) (hV : rfV G ad ce T Q M) : zz_M l yX6_answer cX6_answer 2 (some .int) 1 24 0 0 G [.ref (ad 100)] ad ce sz (fun r ad1 ce1 => r = some (.int (sp_answer T Q M).1) ∧ ad = ad1 ∧ rfV G ad ce1 (sp_answer T Q M).2.1 (sp_answer T Q M).2.2 M ∧ (∀ j, j < 100 → ce1 j = ce j)) := by
  refine zz_enter (by decide) (Nat.le_of_ble_eq_true rfl) ?_
  intro p e s m below meth c ls F hl hw hS hA
  obtain ⟨hx, hb, hr, hml, hown, hts, hlocks, hK, hnm⟩ := id F
  have hl : lv_has ls 2 [(0, .ref (ad 100))] := hl
  obtain ⟨cn, zs, bs, hh, ⟨h100, h101, h102, h103, h104, h105, h106, h107, h108, h109, h110, h111⟩, hQ, hM⟩ := hV
  have hF : ∀ j, j < 100 → ce j = ce j := fun _ _ => rfl
  refine lv_aload_n hx hb dX6_answer_0 rfl (lv_at hl 0 rfl) ?_
  refine lv_iconst (v := 1) hx hb dX6_answer_1 (by decide) ?_
  refine lv_iconst (v := 1) hx hb dX6_answer_2 (by decide) ?_
  refine lv_iconst (v := 2) hx hb dX6_answer_3 (by decide) ?_
  have hV : rfV G ad ce T Q M := ⟨_, _, _, _, ⟨h100, h101, h102, h103, h104, h105, h106, h107, h108, h109, h110, h111⟩, hQ, hM⟩
  refine z_invV F (rest := []) (r_isCall1 l T Q M hV 1 2) yv_X6_91 ⟨Nat.le_of_ble_eq_true rfl, Nat.le_of_ble_eq_true rfl⟩ hw hA hS hl h100 rfl rfl rfl (Nat.le_of_ble_eq_true rfl) dX6_answer_4 ⟨Nat.le_of_ble_eq_true rfl, Nat.le_of_ble_eq_true rfl⟩ (fun r ad1 ce1 H locs hp hw hS => ?_)
  obtain ⟨hp, rfl, rfl⟩ := hp
  rcases hp with ⟨hc, rfl⟩ | ⟨hc, rfl⟩
  · refine W.eq (g2 := F0 m 7 ls [.int 1]) rfl ?_
    refine lv_if_ne (tgt := 13) hx hb dX6_answer_7 (by decide) (fun c7 => ?_) (fun c7 => absurd c7 (by decide))
    refine lv_aload_n hx hb dX6_answer_13 rfl (lv_at hl 0 rfl) ?_
    refine lv_iconst (v := 1) hx hb dX6_answer_14 (by decide) ?_
    refine lv_iconst (v := 3) hx hb dX6_answer_15 (by decide) ?_
    refine lv_bipush (v := 7) hx hb dX6_answer_16 (by decide) ?_
    have hV : rfV G ad ce T Q M := ⟨_, _, _, _, ⟨h100, h101, h102, h103, h104, h105, h106, h107, h108, h109, h110, h111⟩, hQ, hM⟩
    refine z_invV F (rest := []) (r_put1 l T Q M hV 3 7 (by decide) (by decide)) yv_X6_64 ⟨Nat.le_of_ble_eq_true rfl, Nat.le_of_ble_eq_true rfl⟩ hw hA hS hl h100 rfl rfl rfl (Nat.le_of_ble_eq_true rfl) dX6_answer_18 ⟨Nat.le_of_ble_eq_true rfl, Nat.le_of_ble_eq_true rfl⟩ (fun r ad1 ce2 H locs hp hw hS => ?_)
    obtain ⟨rfl, rfl, hV, hF2⟩ := hp
    have hF : ∀ j, j < 100 → ce2 j = ce j := fun j hj => (hF2 j hj).trans (hF j hj)
    obtain ⟨cn, zs, bs, hh, ⟨h100, h101, h102, h103, h104, h105, h106, h107, h108, h109, h110, h111⟩, hQ, hM⟩ := hV
    refine W.eq (g2 := F0 m 21 ls [.int (rf_hd T Q 1)]) rfl ?_
    refine lv_istore_n (lv' := [(1, .int (rf_hd T Q 1)), (0, .ref (ad 100))]) hx hb dX6_answer_21 rfl hl (by decide) rfl (fun ls hl => ?_)
    refine lv_aload_n hx hb dX6_answer_22 rfl (lv_at hl 1 rfl) ?_
    refine lv_iconst (v := 1) hx hb dX6_answer_23 (by decide) ?_
    refine lv_aload_n hx hb dX6_answer_24 rfl (lv_at hl 1 rfl) ?_
    refine z_get F hw h100 fd_X6_23_X6 rfl dX6_answer_25 ?_
    refine lv_iconst (v := 1) hx hb dX6_answer_28 (by decide) ?_
    refine z_ld F hw h104 (1) (rfl) (by decide) (by decide) dX6_answer_29 ?_
    refine lv_iconst (v := 3) hx hb dX6_answer_30 (by decide) ?_
    refine lv_bipush (v := 10) hx hb dX6_answer_31 (by decide) ?_
    have hV : rfV G ad ce2 T (rf_put T Q 1 [3, 7]) M := ⟨_, _, _, _, ⟨h100, h101, h102, h103, h104, h105, h106, h107, h108, h109, h110, h111⟩, hQ, hM⟩
    refine z_invV F (rest := []) (r_become1 l T (rf_put T Q 1 [3, 7]) M hV ((T 1) 1) 3 10) yv_X6_83 ⟨Nat.le_of_ble_eq_true rfl, Nat.le_of_ble_eq_true rfl⟩ hw hA hS hl h100 rfl rfl rfl (Nat.le_of_ble_eq_true rfl) dX6_answer_33 ⟨Nat.le_of_ble_eq_true rfl, Nat.le_of_ble_eq_true rfl⟩ (fun r ad1 ce3 H locs hp hw hS => ?_)
    obtain ⟨rfl, rfl, hV, hF2⟩ := hp
    have hF : ∀ j, j < 100 → ce3 j = ce j := fun j hj => (hF2 j hj).trans (hF j hj)
    obtain ⟨cn, zs, bs, hh, ⟨h100, h101, h102, h103, h104, h105, h106, h107, h108, h109, h110, h111⟩, hQ, hM⟩ := hV
    refine W.eq (g2 := F0 m 36 ls []) rfl ?_
    refine lv_iconst (v := 1) hx hb dX6_answer_36 (by decide) ?_
    exact z_iret F (rfl) hw hS (by unfold sp_answer; rw [if_pos hc]; exact ⟨rfl, rfl, ⟨_, _, _, _, ⟨h100, h101, h102, h103, h104, h105, h106, h107, h108, h109, h110, h111⟩, hQ, hM⟩, hF⟩) dX6_answer_37
  · refine W.eq (g2 := F0 m 7 ls [.int 0]) rfl ?_
    refine lv_if_ne (tgt := 13) hx hb dX6_answer_7 (by decide) (fun c7 => absurd c7 (by decide)) (fun c7 => ?_)
    refine lv_bipush (v := -2) hx hb dX6_answer_10 (by decide) ?_
    exact z_iret F (rfl) hw hS (by unfold sp_answer; rw [if_neg hc]; exact ⟨rfl, rfl, ⟨_, _, _, _, ⟨h100, h101, h102, h103, h104, h105, h106, h107, h108, h109, h110, h111⟩, hQ, hM⟩, hF⟩) dX6_answer_12
def sp_clear (T : rf_T) (Q : rf_Q) (M : List Nat) (v : Int32) : rf_R := (if (v : Int32) < 0 then ((-1), T, Q) else (if (v : Int32) ≤ 255 then (if rf_inC T 1 1 4 then (1, (rf_become T 1 (T 1 1) 5 30), rf_put T Q 1 ([3, 37, 8, 1] ++ rf_bytes 1 v)) else ((-2), T, Q)) else ((-1), T, Q)))
set_option maxHeartbeats 4000000 in
set_option maxRecDepth 100000 in
theorem r_clear (l : Launch) {G : zz_G} {ad : Nat → Nat} {ce : zz_C} {sz : Nat} (T : rf_T) (Q : rf_Q) (M : List Nat) (hV : rfV G ad ce T Q M) (v : Int32) : zz_M l yX6_clear cX6_clear 2 (some .int) 3 74 0 0 G [.ref (ad 100), .int v] ad ce sz (fun r ad1 ce1 => r = some (.int (sp_clear T Q M v).1) ∧ ad = ad1 ∧ rfV G ad ce1 (sp_clear T Q M v).2.1 (sp_clear T Q M v).2.2 M ∧ (∀ j, j < 100 → ce1 j = ce j)) := by
  refine zz_enter (by decide) (Nat.le_of_ble_eq_true rfl) ?_
  intro p e s m below meth c ls F hl hw hS hA
  obtain ⟨hx, hb, hr, hml, hown, hts, hlocks, hK, hnm⟩ := id F
  have hl : lv_has ls 2 [(0, .ref (ad 100)), (1, .int v)] := hl
  obtain ⟨cn, zs, bs, hh, ⟨h100, h101, h102, h103, h104, h105, h106, h107, h108, h109, h110, h111⟩, hQ, hM⟩ := hV
  have hF : ∀ j, j < 100 → ce j = ce j := fun _ _ => rfl
  refine lv_iload_n hx hb dX6_clear_0 rfl (lv_at hl 1 rfl) ?_
  refine lv_if_lt (tgt := 11) hx hb dX6_clear_1 (by decide) (fun c1 => ?_) (fun c1 => ?_)
  · refine lv_iconst (v := -1) hx hb dX6_clear_11 (by decide) ?_
    exact z_iret F (rfl) hw hS (by unfold sp_clear; rw [if_pos c1]; exact ⟨rfl, rfl, ⟨_, _, _, _, ⟨h100, h101, h102, h103, h104, h105, h106, h107, h108, h109, h110, h111⟩, hQ, hM⟩, hF⟩) dX6_clear_12
  · refine lv_iload_n hx hb dX6_clear_4 rfl (lv_at hl 1 rfl) ?_
    refine lv_sipush (v := 255) hx hb dX6_clear_5 (by decide) ?_
    refine lv_icmp_le (tgt := 13) hx hb dX6_clear_8 (by decide) (fun c8 => ?_) (fun c8 => ?_)
    · refine lv_aload_n hx hb dX6_clear_13 rfl (lv_at hl 0 rfl) ?_
      refine lv_iconst (v := 1) hx hb dX6_clear_14 (by decide) ?_
      refine lv_iconst (v := 1) hx hb dX6_clear_15 (by decide) ?_
      refine lv_iconst (v := 4) hx hb dX6_clear_16 (by decide) ?_
      have hV : rfV G ad ce T Q M := ⟨_, _, _, _, ⟨h100, h101, h102, h103, h104, h105, h106, h107, h108, h109, h110, h111⟩, hQ, hM⟩
      refine z_invV F (rest := []) (r_isCall1 l T Q M hV 1 4) yv_X6_91 ⟨Nat.le_of_ble_eq_true rfl, Nat.le_of_ble_eq_true rfl⟩ hw hA hS hl h100 rfl rfl rfl (Nat.le_of_ble_eq_true rfl) dX6_clear_17 ⟨Nat.le_of_ble_eq_true rfl, Nat.le_of_ble_eq_true rfl⟩ (fun r ad1 ce1 H locs hp hw hS => ?_)
      obtain ⟨hp, rfl, rfl⟩ := hp
      rcases hp with ⟨hc, rfl⟩ | ⟨hc, rfl⟩
      · refine W.eq (g2 := F0 m 20 ls [.int 1]) rfl ?_
        refine lv_if_ne (tgt := 26) hx hb dX6_clear_20 (by decide) (fun c20 => ?_) (fun c20 => absurd c20 (by decide))
        refine lv_aload_n hx hb dX6_clear_26 rfl (lv_at hl 0 rfl) ?_
        refine lv_iconst (v := 1) hx hb dX6_clear_27 (by decide) ?_
        refine lv_iload_n hx hb dX6_clear_28 rfl (lv_at hl 1 rfl) ?_
        have hV : rfV G ad ce T Q M := ⟨_, _, _, _, ⟨h100, h101, h102, h103, h104, h105, h106, h107, h108, h109, h110, h111⟩, hQ, hM⟩
        refine z_invV F (rest := []) (r_end1 l T Q M hV v) yv_X6_142 ⟨Nat.le_of_ble_eq_true rfl, Nat.le_of_ble_eq_true rfl⟩ hw hA hS hl h100 rfl rfl rfl (Nat.le_of_ble_eq_true rfl) dX6_clear_29 ⟨Nat.le_of_ble_eq_true rfl, Nat.le_of_ble_eq_true rfl⟩ (fun r ad1 ce2 H locs hp hw hS => ?_)
        obtain ⟨rfl, rfl, hV, hF2⟩ := hp
        have hF : ∀ j, j < 100 → ce2 j = ce j := fun j hj => (hF2 j hj).trans (hF j hj)
        obtain ⟨cn, zs, bs, hh, ⟨h100, h101, h102, h103, h104, h105, h106, h107, h108, h109, h110, h111⟩, hQ, hM⟩ := hV
        refine W.eq (g2 := F0 m 32 ls []) rfl ?_
        refine lv_iconst (v := 1) hx hb dX6_clear_32 (by decide) ?_
        exact z_iret F (rfl) hw hS (by unfold sp_clear; rw [if_neg c1, if_pos c8, if_pos hc]; exact ⟨rfl, rfl, ⟨_, _, _, _, ⟨h100, h101, h102, h103, h104, h105, h106, h107, h108, h109, h110, h111⟩, hQ, hM⟩, hF⟩) dX6_clear_33
      · refine W.eq (g2 := F0 m 20 ls [.int 0]) rfl ?_
        refine lv_if_ne (tgt := 26) hx hb dX6_clear_20 (by decide) (fun c20 => absurd c20 (by decide)) (fun c20 => ?_)
        refine lv_bipush (v := -2) hx hb dX6_clear_23 (by decide) ?_
        exact z_iret F (rfl) hw hS (by unfold sp_clear; rw [if_neg c1, if_pos c8, if_neg hc]; exact ⟨rfl, rfl, ⟨_, _, _, _, ⟨h100, h101, h102, h103, h104, h105, h106, h107, h108, h109, h110, h111⟩, hQ, hM⟩, hF⟩) dX6_clear_25
    · refine lv_iconst (v := -1) hx hb dX6_clear_11 (by decide) ?_
      exact z_iret F (rfl) hw hS (by unfold sp_clear; rw [if_neg c1, if_neg c8]; exact ⟨rfl, rfl, ⟨_, _, _, _, ⟨h100, h101, h102, h103, h104, h105, h106, h107, h108, h109, h110, h111⟩, hQ, hM⟩, hF⟩) dX6_clear_12
def sp_accept (T : rf_T) (Q : rf_Q) (M : List Nat) (v : Int32) : rf_R := (1, va_up T 0 (va_up (T 0) 3 v), Q)
set_option maxHeartbeats 4000000 in
set_option maxRecDepth 100000 in
theorem r_accept (l : Launch) {G : zz_G} {ad : Nat → Nat} {ce : zz_C} {sz : Nat} (T : rf_T) (Q : rf_Q) (M : List Nat) (hV : rfV G ad ce T Q M) (v : Int32) : zz_M l yX6_accept cX6_accept 2 (some .int) 0 0 0 0 G [.ref (ad 100), .int v] ad ce sz (fun r ad1 ce1 => r = some (.int (sp_accept T Q M v).1) ∧ ad = ad1 ∧ rfV G ad ce1 (sp_accept T Q M v).2.1 (sp_accept T Q M v).2.2 M ∧ (∀ j, j < 100 → ce1 j = ce j)) := by
  refine zz_enter (by decide) (Nat.le_of_ble_eq_true rfl) ?_
  intro p e s m below meth c ls F hl hw hS hA
  obtain ⟨hx, hb, hr, hml, hown, hts, hlocks, hK, hnm⟩ := id F
  have hl : lv_has ls 2 [(0, .ref (ad 100)), (1, .int v)] := hl
  obtain ⟨cn, zs, bs, hh, ⟨h100, h101, h102, h103, h104, h105, h106, h107, h108, h109, h110, h111⟩, hQ, hM⟩ := hV
  have hF : ∀ j, j < 100 → ce j = ce j := fun _ _ => rfl
  refine lv_aload_n hx hb dX6_accept_0 rfl (lv_at hl 0 rfl) ?_
  refine lv_iload_n hx hb dX6_accept_1 rfl (lv_at hl 1 rfl) ?_
  refine z_put F hw hS (fs' := [.int (T 0 0), .int (T 0 1), .int (T 0 2), .int v, .int (T 0 4), .ref (ad 101), .ref (ad 102), .ref (ad 103), .int (T 0 5), .ref (ad 104), .ref (ad 105), .ref (ad 106), .ref (ad 107), .ref (ad 108), .int (T 0 6), .int (T 0 7), .int (T 0 8), .ref (ad 109), .int (T 0 9), .ref (ad 110), .int (T 0 10), .int (nI M.length), .ref (ad 111)]) h100 fd_X6_7_X6 ptX6 rfl (rfl) (rfl) (Nat.le_of_ble_eq_true rfl) rfl dX6_accept_2 (fun ce1 H locs h100 fr2 hw hS => ?_)
  have h101 := (fr2 101 (by decide)).trans h101
  have h102 := (fr2 102 (by decide)).trans h102
  have h103 := (fr2 103 (by decide)).trans h103
  have h104 := (fr2 104 (by decide)).trans h104
  have h105 := (fr2 105 (by decide)).trans h105
  have h106 := (fr2 106 (by decide)).trans h106
  have h107 := (fr2 107 (by decide)).trans h107
  have h108 := (fr2 108 (by decide)).trans h108
  have h109 := (fr2 109 (by decide)).trans h109
  have h110 := (fr2 110 (by decide)).trans h110
  have h111 := (fr2 111 (by decide)).trans h111
  have hF : ∀ j, j < 100 → _ = ce j := fun j hj => (fr2 j (by omega)).trans (hF j hj)
  refine lv_iconst (v := 1) hx hb dX6_accept_5 (by decide) ?_
  exact z_iret F (rfl) hw hS (by unfold sp_accept; exact ⟨rfl, rfl, ⟨_, _, _, _, ⟨h100, h101, h102, h103, h104, h105, h106, h107, h108, h109, h110, h111⟩, hQ, hM⟩, hF⟩) dX6_accept_6
