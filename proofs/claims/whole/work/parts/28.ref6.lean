theorem rfQ_nil (cn zs bs : Nat → Int32) : rfQ (upd (upd cn 0 0) 1 0) zs bs (fun _ => []) := by
  intro w hw
  refine ⟨by simp, ?_, fun k hk => by simp at hk⟩
  rcases (show w = 0 ∨ w = 1 by omega) with rfl | rfl
  · rw [rf_up_n _ _ (by decide), rf_up_s]; rfl
  · rw [rf_up_s]; rfl
def sp_radio0 (T : rf_T) (Q : rf_Q) (M : List Nat) : rf_R := (if ((T 0 4) : Int32) = 0 then (if (((T 1) 0) : Int32) = 2 then (1, (rf_become (rf_become (va_up T 0 (va_up (T 0) 4 1)) 0 1 0 0) 1 0 0 0), (fun _ => [])) else (if (((T 1) 0) : Int32) = 4 then (1, (rf_become (rf_become (va_up T 0 (va_up (T 0) 4 1)) 0 3 0 0) 1 0 0 0), (fun _ => [])) else (if (((T 1) 0) : Int32) = 5 then (1, (rf_become (rf_become (va_up T 0 (va_up (T 0) 4 1)) 0 3 0 0) 1 0 0 0), (fun _ => [])) else (1, (rf_become (rf_become (va_up T 0 (va_up (T 0) 4 1)) 0 ((T 1) 0) 0 0) 1 0 0 0), (fun _ => []))))) else ((-2), T, Q))
set_option maxHeartbeats 4000000 in
set_option maxRecDepth 100000 in
theorem r_radio0 (l : Launch) {G : zz_G} {ad : Nat → Nat} {ce : zz_C} {sz : Nat} (T : rf_T) (Q : rf_Q) (M : List Nat) (hV : rfV G ad ce T Q M) : zz_M l yX6_radio cX6_radio 3 (some .int) 1 24 0 0 G [.ref (ad 100), .int 0] ad ce sz (fun r ad1 ce1 => r = some (.int (sp_radio0 T Q M).1) ∧ ad = ad1 ∧ rfV G ad ce1 (sp_radio0 T Q M).2.1 (sp_radio0 T Q M).2.2 M ∧ (∀ j, j < 100 → ce1 j = ce j)) := by
  refine zz_enter (by decide) (Nat.le_of_ble_eq_true rfl) ?_
  intro p e s m below meth c ls F hl hw hS hA
  obtain ⟨hx, hb, hr, hml, hown, hts, hlocks, hK, hnm⟩ := id F
  have hl : lv_has ls 3 [(0, .ref (ad 100)), (1, .int 0)] := hl
  obtain ⟨cn, zs, bs, hh, ⟨h100, h101, h102, h103, h104, h105, h106, h107, h108, h109, h110, h111⟩, hQ, hM⟩ := hV
  have hF : ∀ j, j < 100 → ce j = ce j := fun _ _ => rfl
  refine lv_iload_n hx hb dX6_radio_0 rfl (lv_at hl 1 rfl) ?_
  refine lv_aload_n hx hb dX6_radio_1 rfl (lv_at hl 0 rfl) ?_
  refine z_get F hw h100 fd_X6_60_X6 rfl dX6_radio_2 ?_
  refine lv_if_ne (tgt := 12) hx hb dX6_radio_5 (by decide) (fun c5 => ?_) (fun c5 => ?_)
  · refine lv_iconst (v := 0) hx hb dX6_radio_12 (by decide) ?_
    refine lv_icmp_ne (tgt := 19) hx hb dX6_radio_13 (by decide) (fun c13 => absurd c13 (by decide)) (fun c13 => ?_)
    refine lv_bipush (v := -2) hx hb dX6_radio_16 (by decide) ?_
    exact z_iret F (rfl) hw hS (by unfold sp_radio0; rw [if_neg c5]; exact ⟨rfl, rfl, ⟨_, _, _, _, ⟨h100, h101, h102, h103, h104, h105, h106, h107, h108, h109, h110, h111⟩, hQ, hM⟩, hF⟩) dX6_radio_18
  · refine lv_iconst (v := 1) hx hb dX6_radio_8 (by decide) ?_
    refine lv_goto (tgt := 13) hx hb dX6_radio_9 (by decide) ?_
    refine lv_icmp_ne (tgt := 19) hx hb dX6_radio_13 (by decide) (fun c13 => ?_) (fun c13 => absurd c13 (by decide))
    refine lv_aload_n hx hb dX6_radio_19 rfl (lv_at hl 0 rfl) ?_
    refine lv_iload_n hx hb dX6_radio_20 rfl (lv_at hl 1 rfl) ?_
    refine lv_if_ne (tgt := 28) hx hb dX6_radio_21 (by decide) (fun c21 => absurd c21 (by decide)) (fun c21 => ?_)
    refine lv_iconst (v := 1) hx hb dX6_radio_24 (by decide) ?_
    refine lv_goto (tgt := 29) hx hb dX6_radio_25 (by decide) ?_
    refine z_put F hw hS (fs' := [.int (T 0 0), .int (T 0 1), .int (T 0 2), .int (T 0 3), .int 1, .ref (ad 101), .ref (ad 102), .ref (ad 103), .int (T 0 5), .ref (ad 104), .ref (ad 105), .ref (ad 106), .ref (ad 107), .ref (ad 108), .int (T 0 6), .int (T 0 7), .int (T 0 8), .ref (ad 109), .int (T 0 9), .ref (ad 110), .int (T 0 10), .int (nI M.length), .ref (ad 111)]) h100 fd_X6_60_X6 ptX6 rfl (rfl) (rfl) (Nat.le_of_ble_eq_true rfl) rfl dX6_radio_29 (fun ce1 H locs h100 fr2 hw hS => ?_)
    have h101 := (fr2 101 (by decide)).trans h101
    have h102 := (fr2 102 (by decide)).trans h102
    have h103 := (fr2 103 (by decide)).trans h103
    have h104 := (fr2 104 (by decide)).trans h104
    have h105 := (fr2 105 (by decide)).trans h105
    have h106 := (fr2 106 (by decide)).trans h106
    have h107 := (fr2 107 (by decide)).trans h107
    have h108 := (fr2 108 (by decide)).trans h108
    have h109 := (fr2 109 (by decide)).trans h109
    have h110 := (fr2 110 (by decide)).trans h110
    have h111 := (fr2 111 (by decide)).trans h111
    have hF : ∀ j, j < 100 → _ = ce j := fun j hj => (fr2 j (by omega)).trans (hF j hj)
    refine lv_iload_n hx hb dX6_radio_32 rfl (lv_at hl 1 rfl) ?_
    refine lv_if_ne (tgt := 96) hx hb dX6_radio_33 (by decide) (fun c33 => absurd c33 (by decide)) (fun c33 => ?_)
    refine lv_aload_n hx hb dX6_radio_36 rfl (lv_at hl 0 rfl) ?_
    refine z_get F hw h100 fd_X6_13_X6 rfl dX6_radio_37 ?_
    refine lv_iconst (v := 0) hx hb dX6_radio_40 (by decide) ?_
    refine lv_iconst (v := 0) hx hb dX6_radio_41 (by decide) ?_
    refine z_st F hw hS h101 (0) (rfl) (by decide) (by decide) dX6_radio_42 (fun ce3 H locs h101 fr4 hw hS => ?_)
    have h100 := (fr4 100 (by decide)).trans h100
    have h102 := (fr4 102 (by decide)).trans h102
    have h103 := (fr4 103 (by decide)).trans h103
    have h104 := (fr4 104 (by decide)).trans h104
    have h105 := (fr4 105 (by decide)).trans h105
    have h106 := (fr4 106 (by decide)).trans h106
    have h107 := (fr4 107 (by decide)).trans h107
    have h108 := (fr4 108 (by decide)).trans h108
    have h109 := (fr4 109 (by decide)).trans h109
    have h110 := (fr4 110 (by decide)).trans h110
    have h111 := (fr4 111 (by decide)).trans h111
    have hF : ∀ j, j < 100 → _ = ce j := fun j hj => (fr4 j (by omega)).trans (hF j hj)
    refine lv_aload_n hx hb dX6_radio_43 rfl (lv_at hl 0 rfl) ?_
    refine z_get F hw h100 fd_X6_13_X6 rfl dX6_radio_44 ?_
    refine lv_iconst (v := 1) hx hb dX6_radio_47 (by decide) ?_
    refine lv_iconst (v := 0) hx hb dX6_radio_48 (by decide) ?_
    refine z_st F hw hS h101 (1) (rfl) (by decide) (by decide) dX6_radio_49 (fun ce5 H locs h101 fr6 hw hS => ?_)
    have h100 := (fr6 100 (by decide)).trans h100
    have h102 := (fr6 102 (by decide)).trans h102
    have h103 := (fr6 103 (by decide)).trans h103
    have h104 := (fr6 104 (by decide)).trans h104
    have h105 := (fr6 105 (by decide)).trans h105
    have h106 := (fr6 106 (by decide)).trans h106
    have h107 := (fr6 107 (by decide)).trans h107
    have h108 := (fr6 108 (by decide)).trans h108
    have h109 := (fr6 109 (by decide)).trans h109
    have h110 := (fr6 110 (by decide)).trans h110
    have h111 := (fr6 111 (by decide)).trans h111
    have hF : ∀ j, j < 100 → _ = ce j := fun j hj => (fr6 j (by omega)).trans (hF j hj)
    have hQ : rfQ (upd (upd cn 0 0) 1 0) zs bs (fun _ => []) := rfQ_nil _ _ _
    refine lv_aload_n hx hb dX6_radio_50 rfl (lv_at hl 0 rfl) ?_
    refine z_get F hw h100 fd_X6_23_X6 rfl dX6_radio_51 ?_
    refine lv_iconst (v := 0) hx hb dX6_radio_54 (by decide) ?_
    refine z_ld F hw h104 (0) (rfl) (by decide) (by decide) dX6_radio_55 ?_
    refine lv_istore_n (lv' := [(2, .int ((T 1) 0)), (0, .ref (ad 100)), (1, .int 0)]) hx hb dX6_radio_56 rfl hl (by decide) rfl (fun ls hl => ?_)
    refine lv_aload_n hx hb dX6_radio_57 rfl (lv_at hl 1 rfl) ?_
    refine lv_iconst (v := 0) hx hb dX6_radio_58 (by decide) ?_
    refine lv_iload_n hx hb dX6_radio_59 rfl (lv_at hl 0 rfl) ?_
    refine lv_iconst (v := 2) hx hb dX6_radio_60 (by decide) ?_
    refine lv_icmp_ne (tgt := 68) hx hb dX6_radio_61 (by decide) (fun c61 => ?_) (fun c61 => ?_)
    · refine lv_iload_n hx hb dX6_radio_68 rfl (lv_at hl 0 rfl) ?_
      refine lv_iconst (v := 4) hx hb dX6_radio_69 (by decide) ?_
      refine lv_icmp_eq (tgt := 78) hx hb dX6_radio_70 (by decide) (fun c70 => ?_) (fun c70 => ?_)
      · refine lv_iconst (v := 3) hx hb dX6_radio_78 (by decide) ?_
        refine lv_goto (tgt := 83) hx hb dX6_radio_79 (by decide) ?_
        refine lv_iconst (v := 0) hx hb dX6_radio_83 (by decide) ?_
        refine lv_iconst (v := 0) hx hb dX6_radio_84 (by decide) ?_
        have hV : rfV G ad ce5 (va_up T 0 (va_up (T 0) 4 1)) (fun _ => []) M := ⟨_, _, _, _, ⟨h100, h101, h102, h103, h104, h105, h106, h107, h108, h109, h110, h111⟩, hQ, hM⟩
        refine z_invV F (rest := []) (r_become0 l (va_up T 0 (va_up (T 0) 4 1)) (fun _ => []) M hV 3 0 0) yv_X6_83 ⟨Nat.le_of_ble_eq_true rfl, Nat.le_of_ble_eq_true rfl⟩ hw hA hS hl h100 rfl rfl rfl (Nat.le_of_ble_eq_true rfl) dX6_radio_85 ⟨Nat.le_of_ble_eq_true rfl, Nat.le_of_ble_eq_true rfl⟩ (fun r ad1 ce7 H locs hp hw hS => ?_)
        obtain ⟨rfl, rfl, hV, hF2⟩ := hp
        have hF : ∀ j, j < 100 → ce7 j = ce j := fun j hj => (hF2 j hj).trans (hF j hj)
        obtain ⟨cn, zs, bs, hh, ⟨h100, h101, h102, h103, h104, h105, h106, h107, h108, h109, h110, h111⟩, hQ, hM⟩ := hV
        refine W.eq (g2 := F0 m 88 ls []) rfl ?_
        refine lv_aload_n hx hb dX6_radio_88 rfl (lv_at hl 1 rfl) ?_
        refine lv_iconst (v := 1) hx hb dX6_radio_89 (by decide) ?_
        refine lv_iconst (v := 0) hx hb dX6_radio_90 (by decide) ?_
        refine lv_iconst (v := 0) hx hb dX6_radio_91 (by decide) ?_
        refine lv_iconst (v := 0) hx hb dX6_radio_92 (by decide) ?_
        have hV : rfV G ad ce7 (rf_become (va_up T 0 (va_up (T 0) 4 1)) 0 3 0 0) (fun _ => []) M := ⟨_, _, _, _, ⟨h100, h101, h102, h103, h104, h105, h106, h107, h108, h109, h110, h111⟩, hQ, hM⟩
        refine z_invV F (rest := []) (r_become1 l (rf_become (va_up T 0 (va_up (T 0) 4 1)) 0 3 0 0) (fun _ => []) M hV 0 0 0) yv_X6_83 ⟨Nat.le_of_ble_eq_true rfl, Nat.le_of_ble_eq_true rfl⟩ hw hA hS hl h100 rfl rfl rfl (Nat.le_of_ble_eq_true rfl) dX6_radio_93 ⟨Nat.le_of_ble_eq_true rfl, Nat.le_of_ble_eq_true rfl⟩ (fun r ad1 ce8 H locs hp hw hS => ?_)
        obtain ⟨rfl, rfl, hV, hF2⟩ := hp
        have hF : ∀ j, j < 100 → ce8 j = ce j := fun j hj => (hF2 j hj).trans (hF j hj)
        obtain ⟨cn, zs, bs, hh, ⟨h100, h101, h102, h103, h104, h105, h106, h107, h108, h109, h110, h111⟩, hQ, hM⟩ := hV
        refine W.eq (g2 := F0 m 96 ls []) rfl ?_
        refine lv_iconst (v := 1) hx hb dX6_radio_96 (by decide) ?_
        exact z_iret F (rfl) hw hS (by unfold sp_radio0; rw [if_pos c5, if_neg c61, if_pos c70]; exact ⟨rfl, rfl, ⟨_, _, _, _, ⟨h100, h101, h102, h103, h104, h105, h106, h107, h108, h109, h110, h111⟩, hQ, hM⟩, hF⟩) dX6_radio_97
      · refine lv_iload_n hx hb dX6_radio_73 rfl (lv_at hl 0 rfl) ?_
        refine lv_iconst (v := 5) hx hb dX6_radio_74 (by decide) ?_
        refine lv_icmp_ne (tgt := 82) hx hb dX6_radio_75 (by decide) (fun c75 => ?_) (fun c75 => ?_)
        · refine lv_iload_n hx hb dX6_radio_82 rfl (lv_at hl 0 rfl) ?_
          refine lv_iconst (v := 0) hx hb dX6_radio_83 (by decide) ?_
          refine lv_iconst (v := 0) hx hb dX6_radio_84 (by decide) ?_
          have hV : rfV G ad ce5 (va_up T 0 (va_up (T 0) 4 1)) (fun _ => []) M := ⟨_, _, _, _, ⟨h100, h101, h102, h103, h104, h105, h106, h107, h108, h109, h110, h111⟩, hQ, hM⟩
          refine z_invV F (rest := []) (r_become0 l (va_up T 0 (va_up (T 0) 4 1)) (fun _ => []) M hV ((T 1) 0) 0 0) yv_X6_83 ⟨Nat.le_of_ble_eq_true rfl, Nat.le_of_ble_eq_true rfl⟩ hw hA hS hl h100 rfl rfl rfl (Nat.le_of_ble_eq_true rfl) dX6_radio_85 ⟨Nat.le_of_ble_eq_true rfl, Nat.le_of_ble_eq_true rfl⟩ (fun r ad1 ce9 H locs hp hw hS => ?_)
          obtain ⟨rfl, rfl, hV, hF2⟩ := hp
          have hF : ∀ j, j < 100 → ce9 j = ce j := fun j hj => (hF2 j hj).trans (hF j hj)
          obtain ⟨cn, zs, bs, hh, ⟨h100, h101, h102, h103, h104, h105, h106, h107, h108, h109, h110, h111⟩, hQ, hM⟩ := hV
          refine W.eq (g2 := F0 m 88 ls []) rfl ?_
          refine lv_aload_n hx hb dX6_radio_88 rfl (lv_at hl 1 rfl) ?_
          refine lv_iconst (v := 1) hx hb dX6_radio_89 (by decide) ?_
          refine lv_iconst (v := 0) hx hb dX6_radio_90 (by decide) ?_
          refine lv_iconst (v := 0) hx hb dX6_radio_91 (by decide) ?_
          refine lv_iconst (v := 0) hx hb dX6_radio_92 (by decide) ?_
          have hV : rfV G ad ce9 (rf_become (va_up T 0 (va_up (T 0) 4 1)) 0 ((T 1) 0) 0 0) (fun _ => []) M := ⟨_, _, _, _, ⟨h100, h101, h102, h103, h104, h105, h106, h107, h108, h109, h110, h111⟩, hQ, hM⟩
          refine z_invV F (rest := []) (r_become1 l (rf_become (va_up T 0 (va_up (T 0) 4 1)) 0 ((T 1) 0) 0 0) (fun _ => []) M hV 0 0 0) yv_X6_83 ⟨Nat.le_of_ble_eq_true rfl, Nat.le_of_ble_eq_true rfl⟩ hw hA hS hl h100 rfl rfl rfl (Nat.le_of_ble_eq_true rfl) dX6_radio_93 ⟨Nat.le_of_ble_eq_true rfl, Nat.le_of_ble_eq_true rfl⟩ (fun r ad1 ce10 H locs hp hw hS => ?_)
          obtain ⟨rfl, rfl, hV, hF2⟩ := hp
          have hF : ∀ j, j < 100 → ce10 j = ce j := fun j hj => (hF2 j hj).trans (hF j hj)
          obtain ⟨cn, zs, bs, hh, ⟨h100, h101, h102, h103, h104, h105, h106, h107, h108, h109, h110, h111⟩, hQ, hM⟩ := hV
          refine W.eq (g2 := F0 m 96 ls []) rfl ?_
          refine lv_iconst (v := 1) hx hb dX6_radio_96 (by decide) ?_
          exact z_iret F (rfl) hw hS (by unfold sp_radio0; rw [if_pos c5, if_neg c61, if_neg c70, if_neg c75]; exact ⟨rfl, rfl, ⟨_, _, _, _, ⟨h100, h101, h102, h103, h104, h105, h106, h107, h108, h109, h110, h111⟩, hQ, hM⟩, hF⟩) dX6_radio_97
        · refine lv_iconst (v := 3) hx hb dX6_radio_78 (by decide) ?_
          refine lv_goto (tgt := 83) hx hb dX6_radio_79 (by decide) ?_
          refine lv_iconst (v := 0) hx hb dX6_radio_83 (by decide) ?_
          refine lv_iconst (v := 0) hx hb dX6_radio_84 (by decide) ?_
          have hV : rfV G ad ce5 (va_up T 0 (va_up (T 0) 4 1)) (fun _ => []) M := ⟨_, _, _, _, ⟨h100, h101, h102, h103, h104, h105, h106, h107, h108, h109, h110, h111⟩, hQ, hM⟩
          refine z_invV F (rest := []) (r_become0 l (va_up T 0 (va_up (T 0) 4 1)) (fun _ => []) M hV 3 0 0) yv_X6_83 ⟨Nat.le_of_ble_eq_true rfl, Nat.le_of_ble_eq_true rfl⟩ hw hA hS hl h100 rfl rfl rfl (Nat.le_of_ble_eq_true rfl) dX6_radio_85 ⟨Nat.le_of_ble_eq_true rfl, Nat.le_of_ble_eq_true rfl⟩ (fun r ad1 ce11 H locs hp hw hS => ?_)
          obtain ⟨rfl, rfl, hV, hF2⟩ := hp
          have hF : ∀ j, j < 100 → ce11 j = ce j := fun j hj => (hF2 j hj).trans (hF j hj)
          obtain ⟨cn, zs, bs, hh, ⟨h100, h101, h102, h103, h104, h105, h106, h107, h108, h109, h110, h111⟩, hQ, hM⟩ := hV
          refine W.eq (g2 := F0 m 88 ls []) rfl ?_
          refine lv_aload_n hx hb dX6_radio_88 rfl (lv_at hl 1 rfl) ?_
          refine lv_iconst (v := 1) hx hb dX6_radio_89 (by decide) ?_
          refine lv_iconst (v := 0) hx hb dX6_radio_90 (by decide) ?_
          refine lv_iconst (v := 0) hx hb dX6_radio_91 (by decide) ?_
          refine lv_iconst (v := 0) hx hb dX6_radio_92 (by decide) ?_
          have hV : rfV G ad ce11 (rf_become (va_up T 0 (va_up (T 0) 4 1)) 0 3 0 0) (fun _ => []) M := ⟨_, _, _, _, ⟨h100, h101, h102, h103, h104, h105, h106, h107, h108, h109, h110, h111⟩, hQ, hM⟩
          refine z_invV F (rest := []) (r_become1 l (rf_become (va_up T 0 (va_up (T 0) 4 1)) 0 3 0 0) (fun _ => []) M hV 0 0 0) yv_X6_83 ⟨Nat.le_of_ble_eq_true rfl, Nat.le_of_ble_eq_true rfl⟩ hw hA hS hl h100 rfl rfl rfl (Nat.le_of_ble_eq_true rfl) dX6_radio_93 ⟨Nat.le_of_ble_eq_true rfl, Nat.le_of_ble_eq_true rfl⟩ (fun r ad1 ce12 H locs hp hw hS => ?_)
          obtain ⟨rfl, rfl, hV, hF2⟩ := hp
          have hF : ∀ j, j < 100 → ce12 j = ce j := fun j hj => (hF2 j hj).trans (hF j hj)
          obtain ⟨cn, zs, bs, hh, ⟨h100, h101, h102, h103, h104, h105, h106, h107, h108, h109, h110, h111⟩, hQ, hM⟩ := hV
          refine W.eq (g2 := F0 m 96 ls []) rfl ?_
          refine lv_iconst (v := 1) hx hb dX6_radio_96 (by decide) ?_
          exact z_iret F (rfl) hw hS (by unfold sp_radio0; rw [if_pos c5, if_neg c61, if_neg c70, if_pos c75]; exact ⟨rfl, rfl, ⟨_, _, _, _, ⟨h100, h101, h102, h103, h104, h105, h106, h107, h108, h109, h110, h111⟩, hQ, hM⟩, hF⟩) dX6_radio_97
    · refine lv_iconst (v := 1) hx hb dX6_radio_64 (by decide) ?_
      refine lv_goto (tgt := 83) hx hb dX6_radio_65 (by decide) ?_
      refine lv_iconst (v := 0) hx hb dX6_radio_83 (by decide) ?_
      refine lv_iconst (v := 0) hx hb dX6_radio_84 (by decide) ?_
      have hV : rfV G ad ce5 (va_up T 0 (va_up (T 0) 4 1)) (fun _ => []) M := ⟨_, _, _, _, ⟨h100, h101, h102, h103, h104, h105, h106, h107, h108, h109, h110, h111⟩, hQ, hM⟩
      refine z_invV F (rest := []) (r_become0 l (va_up T 0 (va_up (T 0) 4 1)) (fun _ => []) M hV 1 0 0) yv_X6_83 ⟨Nat.le_of_ble_eq_true rfl, Nat.le_of_ble_eq_true rfl⟩ hw hA hS hl h100 rfl rfl rfl (Nat.le_of_ble_eq_true rfl) dX6_radio_85 ⟨Nat.le_of_ble_eq_true rfl, Nat.le_of_ble_eq_true rfl⟩ (fun r ad1 ce13 H locs hp hw hS => ?_)
      obtain ⟨rfl, rfl, hV, hF2⟩ := hp
      have hF : ∀ j, j < 100 → ce13 j = ce j := fun j hj => (hF2 j hj).trans (hF j hj)
      obtain ⟨cn, zs, bs, hh, ⟨h100, h101, h102, h103, h104, h105, h106, h107, h108, h109, h110, h111⟩, hQ, hM⟩ := hV
      refine W.eq (g2 := F0 m 88 ls []) rfl ?_
      refine lv_aload_n hx hb dX6_radio_88 rfl (lv_at hl 1 rfl) ?_
      refine lv_iconst (v := 1) hx hb dX6_radio_89 (by decide) ?_
      refine lv_iconst (v := 0) hx hb dX6_radio_90 (by decide) ?_
      refine lv_iconst (v := 0) hx hb dX6_radio_91 (by decide) ?_
      refine lv_iconst (v := 0) hx hb dX6_radio_92 (by decide) ?_
      have hV : rfV G ad ce13 (rf_become (va_up T 0 (va_up (T 0) 4 1)) 0 1 0 0) (fun _ => []) M := ⟨_, _, _, _, ⟨h100, h101, h102, h103, h104, h105, h106, h107, h108, h109, h110, h111⟩, hQ, hM⟩
      refine z_invV F (rest := []) (r_become1 l (rf_become (va_up T 0 (va_up (T 0) 4 1)) 0 1 0 0) (fun _ => []) M hV 0 0 0) yv_X6_83 ⟨Nat.le_of_ble_eq_true rfl, Nat.le_of_ble_eq_true rfl⟩ hw hA hS hl h100 rfl rfl rfl (Nat.le_of_ble_eq_true rfl) dX6_radio_93 ⟨Nat.le_of_ble_eq_true rfl, Nat.le_of_ble_eq_true rfl⟩ (fun r ad1 ce14 H locs hp hw hS => ?_)
      obtain ⟨rfl, rfl, hV, hF2⟩ := hp
      have hF : ∀ j, j < 100 → ce14 j = ce j := fun j hj => (hF2 j hj).trans (hF j hj)
      obtain ⟨cn, zs, bs, hh, ⟨h100, h101, h102, h103, h104, h105, h106, h107, h108, h109, h110, h111⟩, hQ, hM⟩ := hV
      refine W.eq (g2 := F0 m 96 ls []) rfl ?_
      refine lv_iconst (v := 1) hx hb dX6_radio_96 (by decide) ?_
      exact z_iret F (rfl) hw hS (by unfold sp_radio0; rw [if_pos c5, if_pos c61]; exact ⟨rfl, rfl, ⟨_, _, _, _, ⟨h100, h101, h102, h103, h104, h105, h106, h107, h108, h109, h110, h111⟩, hQ, hM⟩, hF⟩) dX6_radio_97
def sp_radio1 (T : rf_T) (Q : rf_Q) (M : List Nat) : rf_R := (if ((T 0 4) : Int32) = 0 then ((-2), T, Q) else (1, va_up T 0 (va_up (T 0) 4 0), Q))
set_option maxHeartbeats 4000000 in
set_option maxRecDepth 100000 in
theorem r_radio1 (l : Launch) {G : zz_G} {ad : Nat → Nat} {ce : zz_C} {sz : Nat} (T : rf_T) (Q : rf_Q) (M : List Nat) (hV : rfV G ad ce T Q M) : zz_M l yX6_radio cX6_radio 3 (some .int) 1 24 0 0 G [.ref (ad 100), .int 1] ad ce sz (fun r ad1 ce1 => r = some (.int (sp_radio1 T Q M).1) ∧ ad = ad1 ∧ rfV G ad ce1 (sp_radio1 T Q M).2.1 (sp_radio1 T Q M).2.2 M ∧ (∀ j, j < 100 → ce1 j = ce j)) := by
  refine zz_enter (by decide) (Nat.le_of_ble_eq_true rfl) ?_
  intro p e s m below meth c ls F hl hw hS hA
  obtain ⟨hx, hb, hr, hml, hown, hts, hlocks, hK, hnm⟩ := id F
  have hl : lv_has ls 3 [(0, .ref (ad 100)), (1, .int 1)] := hl
  obtain ⟨cn, zs, bs, hh, ⟨h100, h101, h102, h103, h104, h105, h106, h107, h108, h109, h110, h111⟩, hQ, hM⟩ := hV
  have hF : ∀ j, j < 100 → ce j = ce j := fun _ _ => rfl
  refine lv_iload_n hx hb dX6_radio_0 rfl (lv_at hl 1 rfl) ?_
  refine lv_aload_n hx hb dX6_radio_1 rfl (lv_at hl 0 rfl) ?_
  refine z_get F hw h100 fd_X6_60_X6 rfl dX6_radio_2 ?_
  refine lv_if_ne (tgt := 12) hx hb dX6_radio_5 (by decide) (fun c5 => ?_) (fun c5 => ?_)
  · refine lv_iconst (v := 0) hx hb dX6_radio_12 (by decide) ?_
    refine lv_icmp_ne (tgt := 19) hx hb dX6_radio_13 (by decide) (fun c13 => ?_) (fun c13 => absurd c13 (by decide))
    refine lv_aload_n hx hb dX6_radio_19 rfl (lv_at hl 0 rfl) ?_
    refine lv_iload_n hx hb dX6_radio_20 rfl (lv_at hl 1 rfl) ?_
    refine lv_if_ne (tgt := 28) hx hb dX6_radio_21 (by decide) (fun c21 => ?_) (fun c21 => absurd c21 (by decide))
    refine lv_iconst (v := 0) hx hb dX6_radio_28 (by decide) ?_
    refine z_put F hw hS (fs' := [.int (T 0 0), .int (T 0 1), .int (T 0 2), .int (T 0 3), .int 0, .ref (ad 101), .ref (ad 102), .ref (ad 103), .int (T 0 5), .ref (ad 104), .ref (ad 105), .ref (ad 106), .ref (ad 107), .ref (ad 108), .int (T 0 6), .int (T 0 7), .int (T 0 8), .ref (ad 109), .int (T 0 9), .ref (ad 110), .int (T 0 10), .int (nI M.length), .ref (ad 111)]) h100 fd_X6_60_X6 ptX6 rfl (rfl) (rfl) (Nat.le_of_ble_eq_true rfl) rfl dX6_radio_29 (fun ce1 H locs h100 fr2 hw hS => ?_)
    have h101 := (fr2 101 (by decide)).trans h101
    have h102 := (fr2 102 (by decide)).trans h102
    have h103 := (fr2 103 (by decide)).trans h103
    have h104 := (fr2 104 (by decide)).trans h104
    have h105 := (fr2 105 (by decide)).trans h105
    have h106 := (fr2 106 (by decide)).trans h106
    have h107 := (fr2 107 (by decide)).trans h107
    have h108 := (fr2 108 (by decide)).trans h108
    have h109 := (fr2 109 (by decide)).trans h109
    have h110 := (fr2 110 (by decide)).trans h110
    have h111 := (fr2 111 (by decide)).trans h111
    have hF : ∀ j, j < 100 → _ = ce j := fun j hj => (fr2 j (by omega)).trans (hF j hj)
    refine lv_iload_n hx hb dX6_radio_32 rfl (lv_at hl 1 rfl) ?_
    refine lv_if_ne (tgt := 96) hx hb dX6_radio_33 (by decide) (fun c33 => ?_) (fun c33 => absurd c33 (by decide))
    refine lv_iconst (v := 1) hx hb dX6_radio_96 (by decide) ?_
    exact z_iret F (rfl) hw hS (by unfold sp_radio1; rw [if_neg c5]; exact ⟨rfl, rfl, ⟨_, _, _, _, ⟨h100, h101, h102, h103, h104, h105, h106, h107, h108, h109, h110, h111⟩, hQ, hM⟩, hF⟩) dX6_radio_97
  · refine lv_iconst (v := 1) hx hb dX6_radio_8 (by decide) ?_
    refine lv_goto (tgt := 13) hx hb dX6_radio_9 (by decide) ?_
    refine lv_icmp_ne (tgt := 19) hx hb dX6_radio_13 (by decide) (fun c13 => absurd c13 (by decide)) (fun c13 => ?_)
    refine lv_bipush (v := -2) hx hb dX6_radio_16 (by decide) ?_
    exact z_iret F (rfl) hw hS (by unfold sp_radio1; rw [if_pos c5]; exact ⟨rfl, rfl, ⟨_, _, _, _, ⟨h100, h101, h102, h103, h104, h105, h106, h107, h108, h109, h110, h111⟩, hQ, hM⟩, hF⟩) dX6_radio_18
