theorem rf_clt (v : Int32) : v.toNatClampNeg < 2 ^ 31 := by
  by_cases h : v < 0
  · rw [Int32.lt_iff_toInt_lt, Int32.toInt_zero] at h
    have : v.toNatClampNeg = 0 := by
      unfold Int32.toNatClampNeg
      exact Int.toNat_of_nonpos (by omega)
    omega
  · obtain ⟨j, hj, e⟩ := nI_of h
    rw [e, nI_clamp hj]
    exact hj
def rf_dgs (f : Nat → Int32) (n : Int32) : Nat → (Nat → Int32)
  | 0 => f
  | k + 1 => rf_dgs (upd f k (n - n / 10 * 10)) (n / 10) k
def sp_dial (T : rf_T) (Q : rf_Q) (M : List Nat) (nv mv : Int32) : rf_R := (if (mv : Int32) < 1 then ((-1), T, Q) else (if (8 : Int32) < mv then ((-1), T, Q) else (if (0 : Int32) ≤ nv then (if (((T 1) 0) : Int32) = 3 then (1, (rf_become (va_up (va_up T 0 (va_up (T 0) 9 mv)) 6 (rf_dgs (T 6) nv mv.toNatClampNeg)) 0 4 (((va_up (va_up T 0 (va_up (T 0) 9 mv)) 6 (rf_dgs (T 6) nv mv.toNatClampNeg)) 2) 0) 15), rf_put (va_up (va_up T 0 (va_up (T 0) 9 mv)) 6 (rf_dgs (T 6) nv mv.toNatClampNeg)) Q 0 [5, 36]) else ((-2), T, Q)) else ((-1), T, Q))))
set_option maxHeartbeats 4000000 in
set_option maxRecDepth 100000 in
theorem r_dial (l : Launch) {G : zz_G} {ad : Nat → Nat} {ce : zz_C} {sz : Nat} (T : rf_T) (Q : rf_Q) (M : List Nat) (hV : rfV G ad ce T Q M) (nv mv : Int32) : zz_M l yX6_dial cX6_dial 5 (some .int) 1 24 0 0 G [.ref (ad 100), .int nv, .int mv] ad ce sz (fun r ad1 ce1 => r = some (.int (sp_dial T Q M nv mv).1) ∧ ad = ad1 ∧ rfV G ad ce1 (sp_dial T Q M nv mv).2.1 (sp_dial T Q M nv mv).2.2 M ∧ (∀ j, j < 100 → ce1 j = ce j)) := by
  refine zz_enter (by decide) (Nat.le_of_ble_eq_true rfl) ?_
  intro p e s m below meth c ls F hl hw hS hA
  obtain ⟨hx, hb, hr, hml, hown, hts, hlocks, hK, hnm⟩ := id F
  have hl : lv_has ls 5 [(0, .ref (ad 100)), (1, .int nv), (2, .int mv)] := hl
  obtain ⟨cn, zs, bs, hh, ⟨h100, h101, h102, h103, h104, h105, h106, h107, h108, h109, h110, h111⟩, hQ, hM⟩ := hV
  have hF : ∀ j, j < 100 → ce j = ce j := fun _ _ => rfl
  refine lv_iload_n hx hb dX6_dial_0 rfl (lv_at hl 2 rfl) ?_
  refine lv_iconst (v := 1) hx hb dX6_dial_1 (by decide) ?_
  refine lv_icmp_lt (tgt := 15) hx hb dX6_dial_2 (by decide) (fun c2 => ?_) (fun c2 => ?_)
  · refine lv_iconst (v := -1) hx hb dX6_dial_15 (by decide) ?_
    exact z_iret F (rfl) hw hS (by unfold sp_dial; rw [if_pos c2]; exact ⟨rfl, rfl, ⟨_, _, _, _, ⟨h100, h101, h102, h103, h104, h105, h106, h107, h108, h109, h110, h111⟩, hQ, hM⟩, hF⟩) dX6_dial_16
  · refine lv_iload_n hx hb dX6_dial_5 rfl (lv_at hl 2 rfl) ?_
    refine lv_bipush (v := 8) hx hb dX6_dial_6 (by decide) ?_
    refine lv_icmp_gt (tgt := 15) hx hb dX6_dial_8 (by decide) (fun c8 => ?_) (fun c8 => ?_)
    · refine lv_iconst (v := -1) hx hb dX6_dial_15 (by decide) ?_
      exact z_iret F (rfl) hw hS (by unfold sp_dial; rw [if_neg c2, if_pos c8]; exact ⟨rfl, rfl, ⟨_, _, _, _, ⟨h100, h101, h102, h103, h104, h105, h106, h107, h108, h109, h110, h111⟩, hQ, hM⟩, hF⟩) dX6_dial_16
    · refine lv_iload_n hx hb dX6_dial_11 rfl (lv_at hl 1 rfl) ?_
      refine lv_if_ge (tgt := 17) hx hb dX6_dial_12 (by decide) (fun c12 => ?_) (fun c12 => ?_)
      · refine lv_aload_n hx hb dX6_dial_17 rfl (lv_at hl 0 rfl) ?_
        refine z_get F hw h100 fd_X6_23_X6 rfl dX6_dial_18 ?_
        refine lv_iconst (v := 0) hx hb dX6_dial_21 (by decide) ?_
        refine z_ld F hw h104 (0) (rfl) (by decide) (by decide) dX6_dial_22 ?_
        refine lv_iconst (v := 3) hx hb dX6_dial_23 (by decide) ?_
        refine lv_icmp_eq (tgt := 30) hx hb dX6_dial_24 (by decide) (fun c24 => ?_) (fun c24 => ?_)
        · have hm0 : ¬ mv < 0 := fun q => c2 (by rw [Int32.lt_iff_toInt_lt] at q ⊢; rw [Int32.toInt_zero] at q; rw [show (1 : Int32).toInt = 1 from rfl]; omega)
          have hmv : mv = nI mv.toNatClampNeg := rf_ixv hm0
          have hd8 : mv.toNatClampNeg ≤ 8 := Nat.le_of_not_lt (fun q => c8 (by rw [hmv]; exact nI_lt (a := 8) q (rf_clt mv)))
          refine lv_aload_n hx hb dX6_dial_30 rfl (lv_at hl 0 rfl) ?_
          refine lv_iload_n hx hb dX6_dial_31 rfl (lv_at hl 2 rfl) ?_
          refine z_put F hw hS (fs' := [.int (T 0 0), .int (T 0 1), .int (T 0 2), .int (T 0 3), .int (T 0 4), .ref (ad 101), .ref (ad 102), .ref (ad 103), .int (T 0 5), .ref (ad 104), .ref (ad 105), .ref (ad 106), .ref (ad 107), .ref (ad 108), .int (T 0 6), .int (T 0 7), .int (T 0 8), .ref (ad 109), .int mv, .ref (ad 110), .int (T 0 10), .int (nI M.length), .ref (ad 111)]) h100 fd_X6_119_X6 ptX6 rfl (rfl) (rfl) (Nat.le_of_ble_eq_true rfl) rfl dX6_dial_32 (fun ce1 H locs h100 fr2 hw hS => ?_)
          have h101 := (fr2 101 (by decide)).trans h101
          have h102 := (fr2 102 (by decide)).trans h102
          have h103 := (fr2 103 (by decide)).trans h103
          have h104 := (fr2 104 (by decide)).trans h104
          have h105 := (fr2 105 (by decide)).trans h105
          have h106 := (fr2 106 (by decide)).trans h106
          have h107 := (fr2 107 (by decide)).trans h107
          have h108 := (fr2 108 (by decide)).trans h108
          have h109 := (fr2 109 (by decide)).trans h109
          have h110 := (fr2 110 (by decide)).trans h110
          have h111 := (fr2 111 (by decide)).trans h111
          have hF : ∀ j, j < 100 → _ = ce j := fun j hj => (fr2 j (by omega)).trans (hF j hj)
          refine lv_iload_n hx hb dX6_dial_35 rfl (lv_at hl 1 rfl) ?_
          refine lv_istore_n (lv' := [(3, .int nv), (0, .ref (ad 100)), (1, .int nv), (2, .int mv)]) hx hb dX6_dial_36 rfl hl (by decide) rfl (fun ls hl => ?_)
          refine lv_iload_n hx hb dX6_dial_37 rfl (lv_at hl 3 rfl) ?_
          refine lv_iconst (v := 1) hx hb dX6_dial_38 (by decide) ?_
          refine lv_isub hx hb dX6_dial_39 ?_
          refine z_top (nI mv.toNatClampNeg - 1) (congrArg (fun z => z - 1) hmv) ?_
          refine lv_istore (lv' := [(4, .int (nI mv.toNatClampNeg - 1)), (3, .int nv), (0, .ref (ad 100)), (1, .int nv), (2, .int mv)]) hx hb dX6_dial_40 hl (by decide) rfl (fun ls hl => ?_)
          refine z_loop (α := Nat × Int32 × (Nat → Int32)) (fun a => a.1) (fun a ce9 ls9 => lv_has ls9 5 [(0, .ref (ad 100)), (1, .int nv), (2, .int mv), (3, .int a.2.1), (4, .int (nI a.1 - 1))] ∧ ce9 109 = some (.inl (zz_cI G, 8, .inl a.2.2)) ∧ rf_dgs a.2.2 a.2.1 a.1 = rf_dgs (T 6) nv mv.toNatClampNeg ∧ (∀ j, j ≠ 109 → ce9 j = ce1 j) ∧ a.1 ≤ mv.toNatClampNeg) (mv.toNatClampNeg, nv, T 6) ⟨lv_sub hl [2, 3, 4, 1, 0] rfl, h109, rfl, fun _ _ => rfl, Nat.le_refl _⟩ hw hS (fun a ih42 ce9 H locs ls hI hw hS => ?_)
          obtain ⟨hl, h109, hdg, frA, hqd⟩ := hI
          have h100 := (frA 100 (by decide)).trans h100
          have h101 := (frA 101 (by decide)).trans h101
          have h102 := (frA 102 (by decide)).trans h102
          have h103 := (frA 103 (by decide)).trans h103
          have h104 := (frA 104 (by decide)).trans h104
          have h105 := (frA 105 (by decide)).trans h105
          have h106 := (frA 106 (by decide)).trans h106
          have h107 := (frA 107 (by decide)).trans h107
          have h108 := (frA 108 (by decide)).trans h108
          have h110 := (frA 110 (by decide)).trans h110
          have h111 := (frA 111 (by decide)).trans h111
          have hF : ∀ j, j < 100 → ce9 j = ce j := fun j hj => (frA j (by omega)).trans (hF j hj)
          rcases a with ⟨_ | q9, n9, f9⟩
          · have hf9 : f9 = rf_dgs (T 6) nv mv.toNatClampNeg := hdg
            subst hf9
            have hl : lv_has ls 5 [(0, .ref (ad 100)), (1, .int nv), (2, .int mv), (3, .int n9), (4, .int (nI 0 - 1))] := hl
            refine lv_iload hx hb dX6_dial_42 (lv_at hl 4 rfl) ?_
            refine lv_if_lt (tgt := 69) hx hb dX6_dial_44 (by decide) (fun c44 => ?_) (fun c44 => absurd (show (nI 0 - 1 : Int32) < 0 by decide) c44)
            refine lv_aload_n hx hb dX6_dial_69 rfl (lv_at hl 0 rfl) ?_
            refine lv_iconst (v := 0) hx hb dX6_dial_70 (by decide) ?_
            refine lv_iconst (v := 5) hx hb dX6_dial_71 (by decide) ?_
            refine lv_bipush (v := 36) hx hb dX6_dial_72 (by decide) ?_
            have hV : rfV G ad ce9 (va_up (va_up T 0 (va_up (T 0) 9 mv)) 6 (rf_dgs (T 6) nv mv.toNatClampNeg)) Q M := ⟨_, _, _, _, ⟨h100, h101, h102, h103, h104, h105, h106, h107, h108, h109, h110, h111⟩, hQ, hM⟩
            refine z_invV F (rest := []) (r_put0 l (va_up (va_up T 0 (va_up (T 0) 9 mv)) 6 (rf_dgs (T 6) nv mv.toNatClampNeg)) Q M hV 5 36 (by decide) (by decide)) yv_X6_64 ⟨Nat.le_of_ble_eq_true rfl, Nat.le_of_ble_eq_true rfl⟩ hw hA hS hl h100 rfl rfl rfl (Nat.le_of_ble_eq_true rfl) dX6_dial_74 ⟨Nat.le_of_ble_eq_true rfl, Nat.le_of_ble_eq_true rfl⟩ (fun r ad1 ce3 H locs hp hw hS => ?_)
            obtain ⟨rfl, rfl, hV, hF2⟩ := hp
            have hF : ∀ j, j < 100 → ce3 j = ce j := fun j hj => (hF2 j hj).trans (hF j hj)
            obtain ⟨cn, zs, bs, hh, ⟨h100, h101, h102, h103, h104, h105, h106, h107, h108, h109, h110, h111⟩, hQ, hM⟩ := hV
            refine W.eq (g2 := F0 m 77 ls [.int (rf_hd (va_up (va_up T 0 (va_up (T 0) 9 mv)) 6 (rf_dgs (T 6) nv mv.toNatClampNeg)) Q 0)]) rfl ?_
            refine lv_istore (lv' := [(4, .int (rf_hd (va_up (va_up T 0 (va_up (T 0) 9 mv)) 6 (rf_dgs (T 6) nv mv.toNatClampNeg)) Q 0)), (0, .ref (ad 100)), (1, .int nv), (2, .int mv), (3, .int n9)]) hx hb dX6_dial_77 hl (by decide) rfl (fun ls hl => ?_)
            refine lv_aload_n hx hb dX6_dial_79 rfl (lv_at hl 1 rfl) ?_
            refine lv_iconst (v := 0) hx hb dX6_dial_80 (by decide) ?_
            refine lv_iconst (v := 4) hx hb dX6_dial_81 (by decide) ?_
            refine lv_aload_n hx hb dX6_dial_82 rfl (lv_at hl 1 rfl) ?_
            refine z_get F hw h100 fd_X6_26_X6 rfl dX6_dial_83 ?_
            refine lv_iconst (v := 0) hx hb dX6_dial_86 (by decide) ?_
            refine z_ld F hw h105 (0) (rfl) (by decide) (by decide) dX6_dial_87 ?_
            refine lv_bipush (v := 15) hx hb dX6_dial_88 (by decide) ?_
            have hV : rfV G ad ce3 (va_up (va_up T 0 (va_up (T 0) 9 mv)) 6 (rf_dgs (T 6) nv mv.toNatClampNeg)) (rf_put (va_up (va_up T 0 (va_up (T 0) 9 mv)) 6 (rf_dgs (T 6) nv mv.toNatClampNeg)) Q 0 [5, 36]) M := ⟨_, _, _, _, ⟨h100, h101, h102, h103, h104, h105, h106, h107, h108, h109, h110, h111⟩, hQ, hM⟩
            refine z_invV F (rest := []) (r_become0 l (va_up (va_up T 0 (va_up (T 0) 9 mv)) 6 (rf_dgs (T 6) nv mv.toNatClampNeg)) (rf_put (va_up (va_up T 0 (va_up (T 0) 9 mv)) 6 (rf_dgs (T 6) nv mv.toNatClampNeg)) Q 0 [5, 36]) M hV 4 (((va_up (va_up T 0 (va_up (T 0) 9 mv)) 6 (rf_dgs (T 6) nv mv.toNatClampNeg)) 2) 0) 15) yv_X6_83 ⟨Nat.le_of_ble_eq_true rfl, Nat.le_of_ble_eq_true rfl⟩ hw hA hS hl h100 rfl rfl rfl (Nat.le_of_ble_eq_true rfl) dX6_dial_90 ⟨Nat.le_of_ble_eq_true rfl, Nat.le_of_ble_eq_true rfl⟩ (fun r ad1 ce4 H locs hp hw hS => ?_)
            obtain ⟨rfl, rfl, hV, hF2⟩ := hp
            have hF : ∀ j, j < 100 → ce4 j = ce j := fun j hj => (hF2 j hj).trans (hF j hj)
            obtain ⟨cn, zs, bs, hh, ⟨h100, h101, h102, h103, h104, h105, h106, h107, h108, h109, h110, h111⟩, hQ, hM⟩ := hV
            refine W.eq (g2 := F0 m 93 ls []) rfl ?_
            refine lv_iconst (v := 1) hx hb dX6_dial_93 (by decide) ?_
            exact z_iret F (rfl) hw hS (by unfold sp_dial; rw [if_neg c2, if_neg c8, if_pos c12, if_pos c24]; exact ⟨rfl, rfl, ⟨_, _, _, _, ⟨h100, h101, h102, h103, h104, h105, h106, h107, h108, h109, h110, h111⟩, hQ, hM⟩, hF⟩) dX6_dial_94
          · have hl : lv_has ls 5 [(0, .ref (ad 100)), (1, .int nv), (2, .int mv), (3, .int n9), (4, .int (nI q9))] := by rw [← nI_pred q9]; exact hl
            have hdg : rf_dgs (upd f9 q9 (n9 - n9 / 10 * 10)) (n9 / 10) q9 = rf_dgs (T 6) nv mv.toNatClampNeg := hdg
            have hqd : q9 + 1 ≤ mv.toNatClampNeg := hqd
            refine lv_iload hx hb dX6_dial_42 (lv_at hl 4 rfl) ?_
            refine lv_if_lt (tgt := 69) hx hb dX6_dial_44 (by decide) (fun c44 => absurd c44 (nI_pos (by omega))) (fun c44 => ?_)
            refine lv_aload_n hx hb dX6_dial_47 rfl (lv_at hl 0 rfl) ?_
            refine z_get F hw h100 fd_X6_42_X6 rfl dX6_dial_48 ?_
            refine lv_iload hx hb dX6_dial_51 (lv_at hl 4 rfl) ?_
            refine lv_iload_n hx hb dX6_dial_53 rfl (lv_at hl 3 rfl) ?_
            refine lv_bipush (v := 10) hx hb dX6_dial_54 (by decide) ?_
            refine lv_irem hx hb dX6_dial_56 (by decide) ?_
            refine z_st F hw hS h109 (q9) (rfl) (by omega) (by decide) dX6_dial_57 (fun ce5 H locs h109 fr6 hw hS => ?_)
            have h100 := (fr6 100 (by decide)).trans h100
            have h101 := (fr6 101 (by decide)).trans h101
            have h102 := (fr6 102 (by decide)).trans h102
            have h103 := (fr6 103 (by decide)).trans h103
            have h104 := (fr6 104 (by decide)).trans h104
            have h105 := (fr6 105 (by decide)).trans h105
            have h106 := (fr6 106 (by decide)).trans h106
            have h107 := (fr6 107 (by decide)).trans h107
            have h108 := (fr6 108 (by decide)).trans h108
            have h110 := (fr6 110 (by decide)).trans h110
            have h111 := (fr6 111 (by decide)).trans h111
            have hF : ∀ j, j < 100 → _ = ce j := fun j hj => (fr6 j (by omega)).trans (hF j hj)
            refine lv_iload_n hx hb dX6_dial_58 rfl (lv_at hl 3 rfl) ?_
            refine lv_bipush (v := 10) hx hb dX6_dial_59 (by decide) ?_
            refine lv_idiv hx hb dX6_dial_61 (by decide) ?_
            refine lv_istore_n (lv' := [(3, .int (n9 / 10)), (0, .ref (ad 100)), (1, .int nv), (2, .int mv), (4, .int (nI q9))]) hx hb dX6_dial_62 rfl hl (by decide) rfl (fun ls hl => ?_)
            refine lv_iinc (v := nI q9 - 1) (lv' := [(4, .int (nI q9 - 1)), (3, .int (n9 / 10)), (0, .ref (ad 100)), (1, .int nv), (2, .int mv)]) hx hb dX6_dial_63 hl (k := 4) rfl (by rw [Int32.sub_eq_add_neg]; rfl) (by decide) rfl (fun ls hl => ?_)
            refine lv_goto (tgt := 42) hx hb dX6_dial_66 (by decide) ?_
            exact ih42 (q9, n9 / 10, upd f9 q9 (n9 - n9 / 10 * 10)) _ _ _ _ (by simp) ⟨lv_sub hl [2, 3, 4, 1, 0] rfl, h109, hdg, fun j hj => (fr6 j hj).trans (frA j hj), by omega⟩ hw hS
        · refine lv_bipush (v := -2) hx hb dX6_dial_27 (by decide) ?_
          exact z_iret F (rfl) hw hS (by unfold sp_dial; rw [if_neg c2, if_neg c8, if_pos c12, if_neg c24]; exact ⟨rfl, rfl, ⟨_, _, _, _, ⟨h100, h101, h102, h103, h104, h105, h106, h107, h108, h109, h110, h111⟩, hQ, hM⟩, hF⟩) dX6_dial_29
      · refine lv_iconst (v := -1) hx hb dX6_dial_15 (by decide) ?_
        exact z_iret F (rfl) hw hS (by unfold sp_dial; rw [if_neg c2, if_neg c8, if_neg c12]; exact ⟨rfl, rfl, ⟨_, _, _, _, ⟨h100, h101, h102, h103, h104, h105, h106, h107, h108, h109, h110, h111⟩, hQ, hM⟩, hF⟩) dX6_dial_16
def rf_i (M : List Nat) (tg : Nat) : Nat := (rf_fd M tg).getD 0
theorem rf_i_s {M : List Nat} {tg : Nat} (h : ¬ rf_fd M tg = none) : rf_fd M tg = some (rf_i M tg) := by
  unfold rf_i
  cases e : rf_fd M tg with
  | none => exact absurd e h
  | some i => rfl
def rf_cp (f : Nat → Int32) (M : List Nat) (i : Nat) : Nat → (Nat → Int32)
  | 0 => f
  | k + 1 => upd (rf_cp f M i k) k (nI (M.getD (i + 2 + k) 0))
def sp_networkCalls (T : rf_T) (Q : rf_Q) (M : List Nat) (ty : Nat) : rf_R := (if (((T 1) 1) : Int32) = 3 then (if ((nI ty) : Int32) = 5 then (if (((T 2) 1) : Int32) = 0 then (if rf_fd M 94 = none then (if ((nI ty) : Int32) = 15 then (if (((T 2) 1) : Int32) = 3 then (1, (rf_become T 1 3 4 0), Q) else (((sp_closes T Q M 1 ty).1), ((sp_closes T Q M 1 ty).2.1), (sp_closes T Q M 1 ty).2.2)) else (((sp_closes T Q M 1 ty).1), ((sp_closes T Q M 1 ty).2.1), (sp_closes T Q M 1 ty).2.2)) else (if ((nI (M.getD (rf_i M 94 + 1) 0)) : Int32) < 1 then (if ((nI ty) : Int32) = 15 then (if (((T 2) 1) : Int32) = 3 then (1, (rf_become T 1 3 4 0), Q) else (((sp_closes T Q M 1 ty).1), ((sp_closes T Q M 1 ty).2.1), (sp_closes T Q M 1 ty).2.2)) else (((sp_closes T Q M 1 ty).1), ((sp_closes T Q M 1 ty).2.1), (sp_closes T Q M 1 ty).2.2)) else (if (8 : Int32) < (nI (M.getD (rf_i M 94 + 1) 0)) then (if ((nI ty) : Int32) = 15 then (if (((T 2) 1) : Int32) = 3 then (1, (rf_become T 1 3 4 0), Q) else (((sp_closes T Q M 1 ty).1), ((sp_closes T Q M 1 ty).2.1), (sp_closes T Q M 1 ty).2.2)) else (((sp_closes T Q M 1 ty).1), ((sp_closes T Q M 1 ty).2.1), (sp_closes T Q M 1 ty).2.2)) else (1, (rf_become (va_up (va_up T 0 (va_up (T 0) 10 (nI (M.getD (rf_i M 94 + 1) 0)))) 7 (rf_cp (T 7) M (rf_i M 94) (M.getD (rf_i M 94 + 1) 0))) 1 3 1 0), rf_put (va_up (va_up T 0 (va_up (T 0) 10 (nI (M.getD (rf_i M 94 + 1) 0)))) 7 (rf_cp (T 7) M (rf_i M 94) (M.getD (rf_i M 94 + 1) 0))) Q 1 [3, 2])))) else (if ((nI ty) : Int32) = 15 then (if (((T 2) 1) : Int32) = 3 then (1, (rf_become T 1 3 4 0), Q) else (((sp_closes T Q M 1 ty).1), ((sp_closes T Q M 1 ty).2.1), (sp_closes T Q M 1 ty).2.2)) else (((sp_closes T Q M 1 ty).1), ((sp_closes T Q M 1 ty).2.1), (sp_closes T Q M 1 ty).2.2))) else (if ((nI ty) : Int32) = 15 then (if (((T 2) 1) : Int32) = 3 then (1, (rf_become T 1 3 4 0), Q) else (((sp_closes T Q M 1 ty).1), ((sp_closes T Q M 1 ty).2.1), (sp_closes T Q M 1 ty).2.2)) else (((sp_closes T Q M 1 ty).1), ((sp_closes T Q M 1 ty).2.1), (sp_closes T Q M 1 ty).2.2))) else (0, T, Q))
theorem sp_networkCalls_b (T : rf_T) (Q : rf_Q) (M : List Nat) (ty : Nat) : narrow .boolean (.int (sp_networkCalls T Q M ty).1) = .int (sp_networkCalls T Q M ty).1 := by unfold sp_networkCalls; simp only [rf_if1]; (repeat' split) <;> first | rfl | exact sp_closes_b _ _ _ _ _
set_option maxHeartbeats 4000000 in
set_option maxRecDepth 100000 in
theorem r_networkCalls (l : Launch) {G : zz_G} {ad : Nat → Nat} {ce : zz_C} {sz : Nat} (T : rf_T) (Q : rf_Q) (M : List Nat) (hV : rfV G ad ce T Q M) (hg : rf_good M) (ty : Nat) (hty : ty < 256) : zz_M l yX6_networkCalls cX6_networkCalls 4 (some .boolean) 3 69 0 0 G [.ref (ad 100), .int (nI ty)] ad ce sz (fun r ad1 ce1 => r = some (.int (sp_networkCalls T Q M ty).1) ∧ ad = ad1 ∧ rfV G ad ce1 (sp_networkCalls T Q M ty).2.1 (sp_networkCalls T Q M ty).2.2 M ∧ (∀ j, j < 100 → ce1 j = ce j)) := by
  refine zz_enter (by decide) (Nat.le_of_ble_eq_true rfl) ?_
  intro p e s m below meth c ls F hl hw hS hA
  obtain ⟨hx, hb, hr, hml, hown, hts, hlocks, hK, hnm⟩ := id F
  have hl : lv_has ls 4 [(0, .ref (ad 100)), (1, .int (nI ty))] := hl
  obtain ⟨cn, zs, bs, hh, ⟨h100, h101, h102, h103, h104, h105, h106, h107, h108, h109, h110, h111⟩, hQ, hM⟩ := hV
  have hF : ∀ j, j < 100 → ce j = ce j := fun _ _ => rfl
  refine lv_aload_n hx hb dX6_networkCalls_0 rfl (lv_at hl 0 rfl) ?_
  refine z_get F hw h100 fd_X6_23_X6 rfl dX6_networkCalls_1 ?_
  refine lv_iconst (v := 1) hx hb dX6_networkCalls_4 (by decide) ?_
  refine z_ld F hw h104 (1) (rfl) (by decide) (by decide) dX6_networkCalls_5 ?_
  refine lv_iconst (v := 3) hx hb dX6_networkCalls_6 (by decide) ?_
  refine lv_icmp_eq (tgt := 12) hx hb dX6_networkCalls_7 (by decide) (fun c7 => ?_) (fun c7 => ?_)
  · refine lv_aload_n hx hb dX6_networkCalls_12 rfl (lv_at hl 0 rfl) ?_
    refine lv_bipush (v := 94) hx hb dX6_networkCalls_13 (by decide) ?_
    have hV : rfV G ad ce T Q M := ⟨_, _, _, _, ⟨h100, h101, h102, h103, h104, h105, h106, h107, h108, h109, h110, h111⟩, hQ, hM⟩
    refine z_invV F (rest := []) (r_find l T Q M hV hg 94 (by decide)) yv_X6_75 ⟨Nat.le_of_ble_eq_true rfl, Nat.le_of_ble_eq_true rfl⟩ hw hA hS hl h100 rfl rfl rfl (Nat.le_of_ble_eq_true rfl) dX6_networkCalls_15 ⟨Nat.le_of_ble_eq_true rfl, Nat.le_of_ble_eq_true rfl⟩ (fun r ad1 ce1 H locs hp hw hS => ?_)
    obtain ⟨rfl, rfl, rfl⟩ := hp
    refine W.eq (g2 := F0 m 18 ls [.int (rf_at M 94)]) rfl ?_
    refine lv_istore_n (lv' := [(2, .int (rf_at M 94)), (0, .ref (ad 100)), (1, .int (nI ty))]) hx hb dX6_networkCalls_18 rfl hl (by decide) rfl (fun ls hl => ?_)
    refine lv_iload_n hx hb dX6_networkCalls_19 rfl (lv_at hl 2 rfl) ?_
    refine lv_iconst (v := 5) hx hb dX6_networkCalls_20 (by decide) ?_
    refine lv_icmp_ne (tgt := 124) hx hb dX6_networkCalls_21 (by decide) (fun c21 => ?_) (fun c21 => ?_)
    · refine lv_iload_n hx hb dX6_networkCalls_124 rfl (lv_at hl 2 rfl) ?_
      refine lv_bipush (v := 15) hx hb dX6_networkCalls_125 (by decide) ?_
      refine lv_icmp_ne (tgt := 150) hx hb dX6_networkCalls_127 (by decide) (fun c127 => ?_) (fun c127 => ?_)
      · refine lv_aload_n hx hb dX6_networkCalls_150 rfl (lv_at hl 1 rfl) ?_
        refine lv_iconst (v := 1) hx hb dX6_networkCalls_151 (by decide) ?_
        refine lv_iload_n hx hb dX6_networkCalls_152 rfl (lv_at hl 2 rfl) ?_
        have hV : rfV G ad ce T Q M := ⟨_, _, _, _, ⟨h100, h101, h102, h103, h104, h105, h106, h107, h108, h109, h110, h111⟩, hQ, hM⟩
        refine z_invV F (rest := []) (r_closes1 l T Q M hV hg ty hty) yv_X6_122 ⟨Nat.le_of_ble_eq_true rfl, Nat.le_of_ble_eq_true rfl⟩ hw hA hS hl h100 rfl rfl rfl (Nat.le_of_ble_eq_true rfl) dX6_networkCalls_153 ⟨Nat.le_of_ble_eq_true rfl, Nat.le_of_ble_eq_true rfl⟩ (fun r ad1 ce2 H locs hp hw hS => ?_)
        obtain ⟨rfl, rfl, hV, hF2⟩ := hp
        have hF : ∀ j, j < 100 → ce2 j = ce j := fun j hj => (hF2 j hj).trans (hF j hj)
        obtain ⟨cn, zs, bs, hh, ⟨h100, h101, h102, h103, h104, h105, h106, h107, h108, h109, h110, h111⟩, hQ, hM⟩ := hV
        refine W.eq (g2 := F0 m 156 ls [.int ((sp_closes T Q M 1 ty).1)]) rfl ?_
        exact z_iret F (sp_closes_b _ _ _ _ _) hw hS (by unfold sp_networkCalls; rw [if_pos c7, if_neg c21, if_neg c127]; exact ⟨rfl, rfl, ⟨_, _, _, _, ⟨h100, h101, h102, h103, h104, h105, h106, h107, h108, h109, h110, h111⟩, hQ, hM⟩, hF⟩) dX6_networkCalls_156
      · refine lv_aload_n hx hb dX6_networkCalls_130 rfl (lv_at hl 1 rfl) ?_
        refine z_get F hw h100 fd_X6_26_X6 rfl dX6_networkCalls_131 ?_
        refine lv_iconst (v := 1) hx hb dX6_networkCalls_134 (by decide) ?_
        refine z_ld F hw h105 (1) (rfl) (by decide) (by decide) dX6_networkCalls_135 ?_
        refine lv_iconst (v := 3) hx hb dX6_networkCalls_136 (by decide) ?_
        refine lv_icmp_ne (tgt := 150) hx hb dX6_networkCalls_137 (by decide) (fun c137 => ?_) (fun c137 => ?_)
        · refine lv_aload_n hx hb dX6_networkCalls_150 rfl (lv_at hl 1 rfl) ?_
          refine lv_iconst (v := 1) hx hb dX6_networkCalls_151 (by decide) ?_
          refine lv_iload_n hx hb dX6_networkCalls_152 rfl (lv_at hl 2 rfl) ?_
          have hV : rfV G ad ce T Q M := ⟨_, _, _, _, ⟨h100, h101, h102, h103, h104, h105, h106, h107, h108, h109, h110, h111⟩, hQ, hM⟩
          refine z_invV F (rest := []) (r_closes1 l T Q M hV hg ty hty) yv_X6_122 ⟨Nat.le_of_ble_eq_true rfl, Nat.le_of_ble_eq_true rfl⟩ hw hA hS hl h100 rfl rfl rfl (Nat.le_of_ble_eq_true rfl) dX6_networkCalls_153 ⟨Nat.le_of_ble_eq_true rfl, Nat.le_of_ble_eq_true rfl⟩ (fun r ad1 ce3 H locs hp hw hS => ?_)
          obtain ⟨rfl, rfl, hV, hF2⟩ := hp
          have hF : ∀ j, j < 100 → ce3 j = ce j := fun j hj => (hF2 j hj).trans (hF j hj)
          obtain ⟨cn, zs, bs, hh, ⟨h100, h101, h102, h103, h104, h105, h106, h107, h108, h109, h110, h111⟩, hQ, hM⟩ := hV
          refine W.eq (g2 := F0 m 156 ls [.int ((sp_closes T Q M 1 ty).1)]) rfl ?_
          exact z_iret F (sp_closes_b _ _ _ _ _) hw hS (by unfold sp_networkCalls; rw [if_pos c7, if_neg c21, if_pos c127, if_neg c137]; exact ⟨rfl, rfl, ⟨_, _, _, _, ⟨h100, h101, h102, h103, h104, h105, h106, h107, h108, h109, h110, h111⟩, hQ, hM⟩, hF⟩) dX6_networkCalls_156
        · refine lv_aload_n hx hb dX6_networkCalls_140 rfl (lv_at hl 1 rfl) ?_
          refine lv_iconst (v := 1) hx hb dX6_networkCalls_141 (by decide) ?_
          refine lv_iconst (v := 3) hx hb dX6_networkCalls_142 (by decide) ?_
          refine lv_iconst (v := 4) hx hb dX6_networkCalls_143 (by decide) ?_
          refine lv_iconst (v := 0) hx hb dX6_networkCalls_144 (by decide) ?_
          have hV : rfV G ad ce T Q M := ⟨_, _, _, _, ⟨h100, h101, h102, h103, h104, h105, h106, h107, h108, h109, h110, h111⟩, hQ, hM⟩
          refine z_invV F (rest := []) (r_become1 l T Q M hV 3 4 0) yv_X6_83 ⟨Nat.le_of_ble_eq_true rfl, Nat.le_of_ble_eq_true rfl⟩ hw hA hS hl h100 rfl rfl rfl (Nat.le_of_ble_eq_true rfl) dX6_networkCalls_145 ⟨Nat.le_of_ble_eq_true rfl, Nat.le_of_ble_eq_true rfl⟩ (fun r ad1 ce4 H locs hp hw hS => ?_)
          obtain ⟨rfl, rfl, hV, hF2⟩ := hp
          have hF : ∀ j, j < 100 → ce4 j = ce j := fun j hj => (hF2 j hj).trans (hF j hj)
          obtain ⟨cn, zs, bs, hh, ⟨h100, h101, h102, h103, h104, h105, h106, h107, h108, h109, h110, h111⟩, hQ, hM⟩ := hV
          refine W.eq (g2 := F0 m 148 ls []) rfl ?_
          refine lv_iconst (v := 1) hx hb dX6_networkCalls_148 (by decide) ?_
          exact z_iret F (rfl) hw hS (by unfold sp_networkCalls; rw [if_pos c7, if_neg c21, if_pos c127, if_pos c137]; exact ⟨rfl, rfl, ⟨_, _, _, _, ⟨h100, h101, h102, h103, h104, h105, h106, h107, h108, h109, h110, h111⟩, hQ, hM⟩, hF⟩) dX6_networkCalls_149
    · refine lv_aload_n hx hb dX6_networkCalls_24 rfl (lv_at hl 1 rfl) ?_
      refine z_get F hw h100 fd_X6_26_X6 rfl dX6_networkCalls_25 ?_
      refine lv_iconst (v := 1) hx hb dX6_networkCalls_28 (by decide) ?_
      refine z_ld F hw h105 (1) (rfl) (by decide) (by decide) dX6_networkCalls_29 ?_
      refine lv_if_ne (tgt := 124) hx hb dX6_networkCalls_30 (by decide) (fun c30 => ?_) (fun c30 => ?_)
      · refine lv_iload_n hx hb dX6_networkCalls_124 rfl (lv_at hl 2 rfl) ?_
        refine lv_bipush (v := 15) hx hb dX6_networkCalls_125 (by decide) ?_
        refine lv_icmp_ne (tgt := 150) hx hb dX6_networkCalls_127 (by decide) (fun c127 => ?_) (fun c127 => ?_)
        · refine lv_aload_n hx hb dX6_networkCalls_150 rfl (lv_at hl 1 rfl) ?_
          refine lv_iconst (v := 1) hx hb dX6_networkCalls_151 (by decide) ?_
          refine lv_iload_n hx hb dX6_networkCalls_152 rfl (lv_at hl 2 rfl) ?_
          have hV : rfV G ad ce T Q M := ⟨_, _, _, _, ⟨h100, h101, h102, h103, h104, h105, h106, h107, h108, h109, h110, h111⟩, hQ, hM⟩
          refine z_invV F (rest := []) (r_closes1 l T Q M hV hg ty hty) yv_X6_122 ⟨Nat.le_of_ble_eq_true rfl, Nat.le_of_ble_eq_true rfl⟩ hw hA hS hl h100 rfl rfl rfl (Nat.le_of_ble_eq_true rfl) dX6_networkCalls_153 ⟨Nat.le_of_ble_eq_true rfl, Nat.le_of_ble_eq_true rfl⟩ (fun r ad1 ce5 H locs hp hw hS => ?_)
          obtain ⟨rfl, rfl, hV, hF2⟩ := hp
          have hF : ∀ j, j < 100 → ce5 j = ce j := fun j hj => (hF2 j hj).trans (hF j hj)
          obtain ⟨cn, zs, bs, hh, ⟨h100, h101, h102, h103, h104, h105, h106, h107, h108, h109, h110, h111⟩, hQ, hM⟩ := hV
          refine W.eq (g2 := F0 m 156 ls [.int ((sp_closes T Q M 1 ty).1)]) rfl ?_
          exact z_iret F (sp_closes_b _ _ _ _ _) hw hS (by unfold sp_networkCalls; rw [if_pos c7, if_pos c21, if_neg c30, if_neg c127]; exact ⟨rfl, rfl, ⟨_, _, _, _, ⟨h100, h101, h102, h103, h104, h105, h106, h107, h108, h109, h110, h111⟩, hQ, hM⟩, hF⟩) dX6_networkCalls_156
        · refine lv_aload_n hx hb dX6_networkCalls_130 rfl (lv_at hl 1 rfl) ?_
          refine z_get F hw h100 fd_X6_26_X6 rfl dX6_networkCalls_131 ?_
          refine lv_iconst (v := 1) hx hb dX6_networkCalls_134 (by decide) ?_
          refine z_ld F hw h105 (1) (rfl) (by decide) (by decide) dX6_networkCalls_135 ?_
          refine lv_iconst (v := 3) hx hb dX6_networkCalls_136 (by decide) ?_
          refine lv_icmp_ne (tgt := 150) hx hb dX6_networkCalls_137 (by decide) (fun c137 => ?_) (fun c137 => ?_)
          · refine lv_aload_n hx hb dX6_networkCalls_150 rfl (lv_at hl 1 rfl) ?_
            refine lv_iconst (v := 1) hx hb dX6_networkCalls_151 (by decide) ?_
            refine lv_iload_n hx hb dX6_networkCalls_152 rfl (lv_at hl 2 rfl) ?_
            have hV : rfV G ad ce T Q M := ⟨_, _, _, _, ⟨h100, h101, h102, h103, h104, h105, h106, h107, h108, h109, h110, h111⟩, hQ, hM⟩
            refine z_invV F (rest := []) (r_closes1 l T Q M hV hg ty hty) yv_X6_122 ⟨Nat.le_of_ble_eq_true rfl, Nat.le_of_ble_eq_true rfl⟩ hw hA hS hl h100 rfl rfl rfl (Nat.le_of_ble_eq_true rfl) dX6_networkCalls_153 ⟨Nat.le_of_ble_eq_true rfl, Nat.le_of_ble_eq_true rfl⟩ (fun r ad1 ce6 H locs hp hw hS => ?_)
            obtain ⟨rfl, rfl, hV, hF2⟩ := hp
            have hF : ∀ j, j < 100 → ce6 j = ce j := fun j hj => (hF2 j hj).trans (hF j hj)
            obtain ⟨cn, zs, bs, hh, ⟨h100, h101, h102, h103, h104, h105, h106, h107, h108, h109, h110, h111⟩, hQ, hM⟩ := hV
            refine W.eq (g2 := F0 m 156 ls [.int ((sp_closes T Q M 1 ty).1)]) rfl ?_
            exact z_iret F (sp_closes_b _ _ _ _ _) hw hS (by unfold sp_networkCalls; rw [if_pos c7, if_pos c21, if_neg c30, if_pos c127, if_neg c137]; exact ⟨rfl, rfl, ⟨_, _, _, _, ⟨h100, h101, h102, h103, h104, h105, h106, h107, h108, h109, h110, h111⟩, hQ, hM⟩, hF⟩) dX6_networkCalls_156
          · refine lv_aload_n hx hb dX6_networkCalls_140 rfl (lv_at hl 1 rfl) ?_
            refine lv_iconst (v := 1) hx hb dX6_networkCalls_141 (by decide) ?_
            refine lv_iconst (v := 3) hx hb dX6_networkCalls_142 (by decide) ?_
            refine lv_iconst (v := 4) hx hb dX6_networkCalls_143 (by decide) ?_
            refine lv_iconst (v := 0) hx hb dX6_networkCalls_144 (by decide) ?_
            have hV : rfV G ad ce T Q M := ⟨_, _, _, _, ⟨h100, h101, h102, h103, h104, h105, h106, h107, h108, h109, h110, h111⟩, hQ, hM⟩
            refine z_invV F (rest := []) (r_become1 l T Q M hV 3 4 0) yv_X6_83 ⟨Nat.le_of_ble_eq_true rfl, Nat.le_of_ble_eq_true rfl⟩ hw hA hS hl h100 rfl rfl rfl (Nat.le_of_ble_eq_true rfl) dX6_networkCalls_145 ⟨Nat.le_of_ble_eq_true rfl, Nat.le_of_ble_eq_true rfl⟩ (fun r ad1 ce7 H locs hp hw hS => ?_)
            obtain ⟨rfl, rfl, hV, hF2⟩ := hp
            have hF : ∀ j, j < 100 → ce7 j = ce j := fun j hj => (hF2 j hj).trans (hF j hj)
            obtain ⟨cn, zs, bs, hh, ⟨h100, h101, h102, h103, h104, h105, h106, h107, h108, h109, h110, h111⟩, hQ, hM⟩ := hV
            refine W.eq (g2 := F0 m 148 ls []) rfl ?_
            refine lv_iconst (v := 1) hx hb dX6_networkCalls_148 (by decide) ?_
            exact z_iret F (rfl) hw hS (by unfold sp_networkCalls; rw [if_pos c7, if_pos c21, if_neg c30, if_pos c127, if_pos c137]; exact ⟨rfl, rfl, ⟨_, _, _, _, ⟨h100, h101, h102, h103, h104, h105, h106, h107, h108, h109, h110, h111⟩, hQ, hM⟩, hF⟩) dX6_networkCalls_149
      · by_cases hfn : rf_fd M 94 = none
        · have hl : lv_has ls 4 [(2, .int (-3)), (0, .ref (ad 100)), (1, .int (nI ty))] := by rw [show ((-3) : Int32) = rf_at M 94 from by rw [rf_at, hfn]]; exact hl
          refine lv_iload_n hx hb dX6_networkCalls_33 rfl (lv_at hl 0 rfl) ?_
          refine lv_bipush (v := -3) hx hb dX6_networkCalls_34 (by decide) ?_
          refine lv_icmp_eq (tgt := 124) hx hb dX6_networkCalls_36 (by decide) (fun c36 => ?_) (fun c36 => absurd rfl c36)
          refine lv_iload_n hx hb dX6_networkCalls_124 rfl (lv_at hl 2 rfl) ?_
          refine lv_bipush (v := 15) hx hb dX6_networkCalls_125 (by decide) ?_
          refine lv_icmp_ne (tgt := 150) hx hb dX6_networkCalls_127 (by decide) (fun c127 => ?_) (fun c127 => ?_)
          · refine lv_aload_n hx hb dX6_networkCalls_150 rfl (lv_at hl 1 rfl) ?_
            refine lv_iconst (v := 1) hx hb dX6_networkCalls_151 (by decide) ?_
            refine lv_iload_n hx hb dX6_networkCalls_152 rfl (lv_at hl 2 rfl) ?_
            have hV : rfV G ad ce T Q M := ⟨_, _, _, _, ⟨h100, h101, h102, h103, h104, h105, h106, h107, h108, h109, h110, h111⟩, hQ, hM⟩
            refine z_invV F (rest := []) (r_closes1 l T Q M hV hg ty hty) yv_X6_122 ⟨Nat.le_of_ble_eq_true rfl, Nat.le_of_ble_eq_true rfl⟩ hw hA hS hl h100 rfl rfl rfl (Nat.le_of_ble_eq_true rfl) dX6_networkCalls_153 ⟨Nat.le_of_ble_eq_true rfl, Nat.le_of_ble_eq_true rfl⟩ (fun r ad1 ce8 H locs hp hw hS => ?_)
            obtain ⟨rfl, rfl, hV, hF2⟩ := hp
            have hF : ∀ j, j < 100 → ce8 j = ce j := fun j hj => (hF2 j hj).trans (hF j hj)
            obtain ⟨cn, zs, bs, hh, ⟨h100, h101, h102, h103, h104, h105, h106, h107, h108, h109, h110, h111⟩, hQ, hM⟩ := hV
            refine W.eq (g2 := F0 m 156 ls [.int ((sp_closes T Q M 1 ty).1)]) rfl ?_
            exact z_iret F (sp_closes_b _ _ _ _ _) hw hS (by unfold sp_networkCalls; rw [if_pos c7, if_pos c21, if_pos c30, if_pos hfn, if_neg c127]; exact ⟨rfl, rfl, ⟨_, _, _, _, ⟨h100, h101, h102, h103, h104, h105, h106, h107, h108, h109, h110, h111⟩, hQ, hM⟩, hF⟩) dX6_networkCalls_156
          · refine lv_aload_n hx hb dX6_networkCalls_130 rfl (lv_at hl 1 rfl) ?_
            refine z_get F hw h100 fd_X6_26_X6 rfl dX6_networkCalls_131 ?_
            refine lv_iconst (v := 1) hx hb dX6_networkCalls_134 (by decide) ?_
            refine z_ld F hw h105 (1) (rfl) (by decide) (by decide) dX6_networkCalls_135 ?_
            refine lv_iconst (v := 3) hx hb dX6_networkCalls_136 (by decide) ?_
            refine lv_icmp_ne (tgt := 150) hx hb dX6_networkCalls_137 (by decide) (fun c137 => ?_) (fun c137 => ?_)
            · refine lv_aload_n hx hb dX6_networkCalls_150 rfl (lv_at hl 1 rfl) ?_
              refine lv_iconst (v := 1) hx hb dX6_networkCalls_151 (by decide) ?_
              refine lv_iload_n hx hb dX6_networkCalls_152 rfl (lv_at hl 2 rfl) ?_
              have hV : rfV G ad ce T Q M := ⟨_, _, _, _, ⟨h100, h101, h102, h103, h104, h105, h106, h107, h108, h109, h110, h111⟩, hQ, hM⟩
              refine z_invV F (rest := []) (r_closes1 l T Q M hV hg ty hty) yv_X6_122 ⟨Nat.le_of_ble_eq_true rfl, Nat.le_of_ble_eq_true rfl⟩ hw hA hS hl h100 rfl rfl rfl (Nat.le_of_ble_eq_true rfl) dX6_networkCalls_153 ⟨Nat.le_of_ble_eq_true rfl, Nat.le_of_ble_eq_true rfl⟩ (fun r ad1 ce9 H locs hp hw hS => ?_)
              obtain ⟨rfl, rfl, hV, hF2⟩ := hp
              have hF : ∀ j, j < 100 → ce9 j = ce j := fun j hj => (hF2 j hj).trans (hF j hj)
              obtain ⟨cn, zs, bs, hh, ⟨h100, h101, h102, h103, h104, h105, h106, h107, h108, h109, h110, h111⟩, hQ, hM⟩ := hV
              refine W.eq (g2 := F0 m 156 ls [.int ((sp_closes T Q M 1 ty).1)]) rfl ?_
              exact z_iret F (sp_closes_b _ _ _ _ _) hw hS (by unfold sp_networkCalls; rw [if_pos c7, if_pos c21, if_pos c30, if_pos hfn, if_pos c127, if_neg c137]; exact ⟨rfl, rfl, ⟨_, _, _, _, ⟨h100, h101, h102, h103, h104, h105, h106, h107, h108, h109, h110, h111⟩, hQ, hM⟩, hF⟩) dX6_networkCalls_156
            · refine lv_aload_n hx hb dX6_networkCalls_140 rfl (lv_at hl 1 rfl) ?_
              refine lv_iconst (v := 1) hx hb dX6_networkCalls_141 (by decide) ?_
              refine lv_iconst (v := 3) hx hb dX6_networkCalls_142 (by decide) ?_
              refine lv_iconst (v := 4) hx hb dX6_networkCalls_143 (by decide) ?_
              refine lv_iconst (v := 0) hx hb dX6_networkCalls_144 (by decide) ?_
              have hV : rfV G ad ce T Q M := ⟨_, _, _, _, ⟨h100, h101, h102, h103, h104, h105, h106, h107, h108, h109, h110, h111⟩, hQ, hM⟩
              refine z_invV F (rest := []) (r_become1 l T Q M hV 3 4 0) yv_X6_83 ⟨Nat.le_of_ble_eq_true rfl, Nat.le_of_ble_eq_true rfl⟩ hw hA hS hl h100 rfl rfl rfl (Nat.le_of_ble_eq_true rfl) dX6_networkCalls_145 ⟨Nat.le_of_ble_eq_true rfl, Nat.le_of_ble_eq_true rfl⟩ (fun r ad1 ce10 H locs hp hw hS => ?_)
              obtain ⟨rfl, rfl, hV, hF2⟩ := hp
              have hF : ∀ j, j < 100 → ce10 j = ce j := fun j hj => (hF2 j hj).trans (hF j hj)
              obtain ⟨cn, zs, bs, hh, ⟨h100, h101, h102, h103, h104, h105, h106, h107, h108, h109, h110, h111⟩, hQ, hM⟩ := hV
              refine W.eq (g2 := F0 m 148 ls []) rfl ?_
              refine lv_iconst (v := 1) hx hb dX6_networkCalls_148 (by decide) ?_
              exact z_iret F (rfl) hw hS (by unfold sp_networkCalls; rw [if_pos c7, if_pos c21, if_pos c30, if_pos hfn, if_pos c127, if_pos c137]; exact ⟨rfl, rfl, ⟨_, _, _, _, ⟨h100, h101, h102, h103, h104, h105, h106, h107, h108, h109, h110, h111⟩, hQ, hM⟩, hF⟩) dX6_networkCalls_149
        · have hfd := rf_i_s hfn
          have hl : lv_has ls 4 [(2, .int (nI (rf_i M 94 + 2))), (0, .ref (ad 100)), (1, .int (nI ty))] := by rw [show nI (rf_i M 94 + 2) = rf_at M 94 from by rw [rf_at, hfd]]; exact hl
          obtain ⟨hi2, hlt⟩ := rf_find_in M 94 24 2 _ hfd
          have hin := rf_find_good M 94 24 2 _ hfd hg
          have hM24 := hM.1
          have hb8 := (hM.2 (rf_i M 94 + 1) hlt).2
          refine lv_iload_n hx hb dX6_networkCalls_33 rfl (lv_at hl 0 rfl) ?_
          refine lv_bipush (v := -3) hx hb dX6_networkCalls_34 (by decide) ?_
          refine lv_icmp_eq (tgt := 124) hx hb dX6_networkCalls_36 (by decide) (fun c36 => absurd c36 (fun q => nI_pos (n := rf_i M 94 + 2) (by omega) (by rw [q]; decide))) (fun c36 => ?_)
          refine lv_aload_n hx hb dX6_networkCalls_39 rfl (lv_at hl 1 rfl) ?_
          refine z_get F hw h100 fd_X6_48_X6 rfl dX6_networkCalls_40 ?_
          refine lv_iload_n hx hb dX6_networkCalls_43 rfl (lv_at hl 0 rfl) ?_
          refine lv_iconst (v := 1) hx hb dX6_networkCalls_44 (by decide) ?_
          refine lv_isub hx hb dX6_networkCalls_45 ?_
          refine z_top (nI (rf_i M 94 + 1)) (nI_pred _) ?_
          refine z_ld F hw h111 (rf_i M 94 + 1) (rfl) (by omega) (by decide) dX6_networkCalls_46 ?_
          refine z_top (nI (M.getD (rf_i M 94 + 1) 0)) ((hM.2 (rf_i M 94 + 1) hlt).1) ?_
          refine lv_iconst (v := 1) hx hb dX6_networkCalls_47 (by decide) ?_
          refine lv_icmp_lt (tgt := 124) hx hb dX6_networkCalls_48 (by decide) (fun c48 => ?_) (fun c48 => ?_)
          · refine lv_iload_n hx hb dX6_networkCalls_124 rfl (lv_at hl 2 rfl) ?_
            refine lv_bipush (v := 15) hx hb dX6_networkCalls_125 (by decide) ?_
            refine lv_icmp_ne (tgt := 150) hx hb dX6_networkCalls_127 (by decide) (fun c127 => ?_) (fun c127 => ?_)
            · refine lv_aload_n hx hb dX6_networkCalls_150 rfl (lv_at hl 1 rfl) ?_
              refine lv_iconst (v := 1) hx hb dX6_networkCalls_151 (by decide) ?_
              refine lv_iload_n hx hb dX6_networkCalls_152 rfl (lv_at hl 2 rfl) ?_
              have hV : rfV G ad ce T Q M := ⟨_, _, _, _, ⟨h100, h101, h102, h103, h104, h105, h106, h107, h108, h109, h110, h111⟩, hQ, hM⟩
              refine z_invV F (rest := []) (r_closes1 l T Q M hV hg ty hty) yv_X6_122 ⟨Nat.le_of_ble_eq_true rfl, Nat.le_of_ble_eq_true rfl⟩ hw hA hS hl h100 rfl rfl rfl (Nat.le_of_ble_eq_true rfl) dX6_networkCalls_153 ⟨Nat.le_of_ble_eq_true rfl, Nat.le_of_ble_eq_true rfl⟩ (fun r ad1 ce11 H locs hp hw hS => ?_)
              obtain ⟨rfl, rfl, hV, hF2⟩ := hp
              have hF : ∀ j, j < 100 → ce11 j = ce j := fun j hj => (hF2 j hj).trans (hF j hj)
              obtain ⟨cn, zs, bs, hh, ⟨h100, h101, h102, h103, h104, h105, h106, h107, h108, h109, h110, h111⟩, hQ, hM⟩ := hV
              refine W.eq (g2 := F0 m 156 ls [.int ((sp_closes T Q M 1 ty).1)]) rfl ?_
              exact z_iret F (sp_closes_b _ _ _ _ _) hw hS (by unfold sp_networkCalls; rw [if_pos c7, if_pos c21, if_pos c30, if_neg hfn, if_pos c48, if_neg c127]; exact ⟨rfl, rfl, ⟨_, _, _, _, ⟨h100, h101, h102, h103, h104, h105, h106, h107, h108, h109, h110, h111⟩, hQ, hM⟩, hF⟩) dX6_networkCalls_156
            · refine lv_aload_n hx hb dX6_networkCalls_130 rfl (lv_at hl 1 rfl) ?_
              refine z_get F hw h100 fd_X6_26_X6 rfl dX6_networkCalls_131 ?_
              refine lv_iconst (v := 1) hx hb dX6_networkCalls_134 (by decide) ?_
              refine z_ld F hw h105 (1) (rfl) (by decide) (by decide) dX6_networkCalls_135 ?_
              refine lv_iconst (v := 3) hx hb dX6_networkCalls_136 (by decide) ?_
              refine lv_icmp_ne (tgt := 150) hx hb dX6_networkCalls_137 (by decide) (fun c137 => ?_) (fun c137 => ?_)
              · refine lv_aload_n hx hb dX6_networkCalls_150 rfl (lv_at hl 1 rfl) ?_
                refine lv_iconst (v := 1) hx hb dX6_networkCalls_151 (by decide) ?_
                refine lv_iload_n hx hb dX6_networkCalls_152 rfl (lv_at hl 2 rfl) ?_
                have hV : rfV G ad ce T Q M := ⟨_, _, _, _, ⟨h100, h101, h102, h103, h104, h105, h106, h107, h108, h109, h110, h111⟩, hQ, hM⟩
                refine z_invV F (rest := []) (r_closes1 l T Q M hV hg ty hty) yv_X6_122 ⟨Nat.le_of_ble_eq_true rfl, Nat.le_of_ble_eq_true rfl⟩ hw hA hS hl h100 rfl rfl rfl (Nat.le_of_ble_eq_true rfl) dX6_networkCalls_153 ⟨Nat.le_of_ble_eq_true rfl, Nat.le_of_ble_eq_true rfl⟩ (fun r ad1 ce12 H locs hp hw hS => ?_)
                obtain ⟨rfl, rfl, hV, hF2⟩ := hp
                have hF : ∀ j, j < 100 → ce12 j = ce j := fun j hj => (hF2 j hj).trans (hF j hj)
                obtain ⟨cn, zs, bs, hh, ⟨h100, h101, h102, h103, h104, h105, h106, h107, h108, h109, h110, h111⟩, hQ, hM⟩ := hV
                refine W.eq (g2 := F0 m 156 ls [.int ((sp_closes T Q M 1 ty).1)]) rfl ?_
                exact z_iret F (sp_closes_b _ _ _ _ _) hw hS (by unfold sp_networkCalls; rw [if_pos c7, if_pos c21, if_pos c30, if_neg hfn, if_pos c48, if_pos c127, if_neg c137]; exact ⟨rfl, rfl, ⟨_, _, _, _, ⟨h100, h101, h102, h103, h104, h105, h106, h107, h108, h109, h110, h111⟩, hQ, hM⟩, hF⟩) dX6_networkCalls_156
              · refine lv_aload_n hx hb dX6_networkCalls_140 rfl (lv_at hl 1 rfl) ?_
                refine lv_iconst (v := 1) hx hb dX6_networkCalls_141 (by decide) ?_
                refine lv_iconst (v := 3) hx hb dX6_networkCalls_142 (by decide) ?_
                refine lv_iconst (v := 4) hx hb dX6_networkCalls_143 (by decide) ?_
                refine lv_iconst (v := 0) hx hb dX6_networkCalls_144 (by decide) ?_
                have hV : rfV G ad ce T Q M := ⟨_, _, _, _, ⟨h100, h101, h102, h103, h104, h105, h106, h107, h108, h109, h110, h111⟩, hQ, hM⟩
                refine z_invV F (rest := []) (r_become1 l T Q M hV 3 4 0) yv_X6_83 ⟨Nat.le_of_ble_eq_true rfl, Nat.le_of_ble_eq_true rfl⟩ hw hA hS hl h100 rfl rfl rfl (Nat.le_of_ble_eq_true rfl) dX6_networkCalls_145 ⟨Nat.le_of_ble_eq_true rfl, Nat.le_of_ble_eq_true rfl⟩ (fun r ad1 ce13 H locs hp hw hS => ?_)
                obtain ⟨rfl, rfl, hV, hF2⟩ := hp
                have hF : ∀ j, j < 100 → ce13 j = ce j := fun j hj => (hF2 j hj).trans (hF j hj)
                obtain ⟨cn, zs, bs, hh, ⟨h100, h101, h102, h103, h104, h105, h106, h107, h108, h109, h110, h111⟩, hQ, hM⟩ := hV
                refine W.eq (g2 := F0 m 148 ls []) rfl ?_
                refine lv_iconst (v := 1) hx hb dX6_networkCalls_148 (by decide) ?_
                exact z_iret F (rfl) hw hS (by unfold sp_networkCalls; rw [if_pos c7, if_pos c21, if_pos c30, if_neg hfn, if_pos c48, if_pos c127, if_pos c137]; exact ⟨rfl, rfl, ⟨_, _, _, _, ⟨h100, h101, h102, h103, h104, h105, h106, h107, h108, h109, h110, h111⟩, hQ, hM⟩, hF⟩) dX6_networkCalls_149
          · refine lv_aload_n hx hb dX6_networkCalls_51 rfl (lv_at hl 1 rfl) ?_
            refine z_get F hw h100 fd_X6_48_X6 rfl dX6_networkCalls_52 ?_
            refine lv_iload_n hx hb dX6_networkCalls_55 rfl (lv_at hl 0 rfl) ?_
            refine lv_iconst (v := 1) hx hb dX6_networkCalls_56 (by decide) ?_
            refine lv_isub hx hb dX6_networkCalls_57 ?_
            refine z_top (nI (rf_i M 94 + 1)) (nI_pred _) ?_
            refine z_ld F hw h111 (rf_i M 94 + 1) (rfl) (by omega) (by decide) dX6_networkCalls_58 ?_
            refine z_top (nI (M.getD (rf_i M 94 + 1) 0)) ((hM.2 (rf_i M 94 + 1) hlt).1) ?_
            refine lv_bipush (v := 8) hx hb dX6_networkCalls_59 (by decide) ?_
            refine lv_icmp_gt (tgt := 124) hx hb dX6_networkCalls_61 (by decide) (fun c61 => ?_) (fun c61 => ?_)
            · refine lv_iload_n hx hb dX6_networkCalls_124 rfl (lv_at hl 2 rfl) ?_
              refine lv_bipush (v := 15) hx hb dX6_networkCalls_125 (by decide) ?_
              refine lv_icmp_ne (tgt := 150) hx hb dX6_networkCalls_127 (by decide) (fun c127 => ?_) (fun c127 => ?_)
              · refine lv_aload_n hx hb dX6_networkCalls_150 rfl (lv_at hl 1 rfl) ?_
                refine lv_iconst (v := 1) hx hb dX6_networkCalls_151 (by decide) ?_
                refine lv_iload_n hx hb dX6_networkCalls_152 rfl (lv_at hl 2 rfl) ?_
                have hV : rfV G ad ce T Q M := ⟨_, _, _, _, ⟨h100, h101, h102, h103, h104, h105, h106, h107, h108, h109, h110, h111⟩, hQ, hM⟩
                refine z_invV F (rest := []) (r_closes1 l T Q M hV hg ty hty) yv_X6_122 ⟨Nat.le_of_ble_eq_true rfl, Nat.le_of_ble_eq_true rfl⟩ hw hA hS hl h100 rfl rfl rfl (Nat.le_of_ble_eq_true rfl) dX6_networkCalls_153 ⟨Nat.le_of_ble_eq_true rfl, Nat.le_of_ble_eq_true rfl⟩ (fun r ad1 ce14 H locs hp hw hS => ?_)
                obtain ⟨rfl, rfl, hV, hF2⟩ := hp
                have hF : ∀ j, j < 100 → ce14 j = ce j := fun j hj => (hF2 j hj).trans (hF j hj)
                obtain ⟨cn, zs, bs, hh, ⟨h100, h101, h102, h103, h104, h105, h106, h107, h108, h109, h110, h111⟩, hQ, hM⟩ := hV
                refine W.eq (g2 := F0 m 156 ls [.int ((sp_closes T Q M 1 ty).1)]) rfl ?_
                exact z_iret F (sp_closes_b _ _ _ _ _) hw hS (by unfold sp_networkCalls; rw [if_pos c7, if_pos c21, if_pos c30, if_neg hfn, if_neg c48, if_pos c61, if_neg c127]; exact ⟨rfl, rfl, ⟨_, _, _, _, ⟨h100, h101, h102, h103, h104, h105, h106, h107, h108, h109, h110, h111⟩, hQ, hM⟩, hF⟩) dX6_networkCalls_156
              · refine lv_aload_n hx hb dX6_networkCalls_130 rfl (lv_at hl 1 rfl) ?_
                refine z_get F hw h100 fd_X6_26_X6 rfl dX6_networkCalls_131 ?_
                refine lv_iconst (v := 1) hx hb dX6_networkCalls_134 (by decide) ?_
                refine z_ld F hw h105 (1) (rfl) (by decide) (by decide) dX6_networkCalls_135 ?_
                refine lv_iconst (v := 3) hx hb dX6_networkCalls_136 (by decide) ?_
                refine lv_icmp_ne (tgt := 150) hx hb dX6_networkCalls_137 (by decide) (fun c137 => ?_) (fun c137 => ?_)
                · refine lv_aload_n hx hb dX6_networkCalls_150 rfl (lv_at hl 1 rfl) ?_
                  refine lv_iconst (v := 1) hx hb dX6_networkCalls_151 (by decide) ?_
                  refine lv_iload_n hx hb dX6_networkCalls_152 rfl (lv_at hl 2 rfl) ?_
                  have hV : rfV G ad ce T Q M := ⟨_, _, _, _, ⟨h100, h101, h102, h103, h104, h105, h106, h107, h108, h109, h110, h111⟩, hQ, hM⟩
                  refine z_invV F (rest := []) (r_closes1 l T Q M hV hg ty hty) yv_X6_122 ⟨Nat.le_of_ble_eq_true rfl, Nat.le_of_ble_eq_true rfl⟩ hw hA hS hl h100 rfl rfl rfl (Nat.le_of_ble_eq_true rfl) dX6_networkCalls_153 ⟨Nat.le_of_ble_eq_true rfl, Nat.le_of_ble_eq_true rfl⟩ (fun r ad1 ce15 H locs hp hw hS => ?_)
                  obtain ⟨rfl, rfl, hV, hF2⟩ := hp
                  have hF : ∀ j, j < 100 → ce15 j = ce j := fun j hj => (hF2 j hj).trans (hF j hj)
                  obtain ⟨cn, zs, bs, hh, ⟨h100, h101, h102, h103, h104, h105, h106, h107, h108, h109, h110, h111⟩, hQ, hM⟩ := hV
                  refine W.eq (g2 := F0 m 156 ls [.int ((sp_closes T Q M 1 ty).1)]) rfl ?_
                  exact z_iret F (sp_closes_b _ _ _ _ _) hw hS (by unfold sp_networkCalls; rw [if_pos c7, if_pos c21, if_pos c30, if_neg hfn, if_neg c48, if_pos c61, if_pos c127, if_neg c137]; exact ⟨rfl, rfl, ⟨_, _, _, _, ⟨h100, h101, h102, h103, h104, h105, h106, h107, h108, h109, h110, h111⟩, hQ, hM⟩, hF⟩) dX6_networkCalls_156
                · refine lv_aload_n hx hb dX6_networkCalls_140 rfl (lv_at hl 1 rfl) ?_
                  refine lv_iconst (v := 1) hx hb dX6_networkCalls_141 (by decide) ?_
                  refine lv_iconst (v := 3) hx hb dX6_networkCalls_142 (by decide) ?_
                  refine lv_iconst (v := 4) hx hb dX6_networkCalls_143 (by decide) ?_
                  refine lv_iconst (v := 0) hx hb dX6_networkCalls_144 (by decide) ?_
                  have hV : rfV G ad ce T Q M := ⟨_, _, _, _, ⟨h100, h101, h102, h103, h104, h105, h106, h107, h108, h109, h110, h111⟩, hQ, hM⟩
                  refine z_invV F (rest := []) (r_become1 l T Q M hV 3 4 0) yv_X6_83 ⟨Nat.le_of_ble_eq_true rfl, Nat.le_of_ble_eq_true rfl⟩ hw hA hS hl h100 rfl rfl rfl (Nat.le_of_ble_eq_true rfl) dX6_networkCalls_145 ⟨Nat.le_of_ble_eq_true rfl, Nat.le_of_ble_eq_true rfl⟩ (fun r ad1 ce16 H locs hp hw hS => ?_)
                  obtain ⟨rfl, rfl, hV, hF2⟩ := hp
                  have hF : ∀ j, j < 100 → ce16 j = ce j := fun j hj => (hF2 j hj).trans (hF j hj)
                  obtain ⟨cn, zs, bs, hh, ⟨h100, h101, h102, h103, h104, h105, h106, h107, h108, h109, h110, h111⟩, hQ, hM⟩ := hV
                  refine W.eq (g2 := F0 m 148 ls []) rfl ?_
                  refine lv_iconst (v := 1) hx hb dX6_networkCalls_148 (by decide) ?_
                  exact z_iret F (rfl) hw hS (by unfold sp_networkCalls; rw [if_pos c7, if_pos c21, if_pos c30, if_neg hfn, if_neg c48, if_pos c61, if_pos c127, if_pos c137]; exact ⟨rfl, rfl, ⟨_, _, _, _, ⟨h100, h101, h102, h103, h104, h105, h106, h107, h108, h109, h110, h111⟩, hQ, hM⟩, hF⟩) dX6_networkCalls_149
            · have hn8 : M.getD (rf_i M 94 + 1) 0 ≤ 8 := Nat.le_of_not_lt (fun q => c61 (nI_lt (a := 8) q (by omega)))
              refine lv_aload_n hx hb dX6_networkCalls_64 rfl (lv_at hl 1 rfl) ?_
              refine lv_aload_n hx hb dX6_networkCalls_65 rfl (lv_at hl 1 rfl) ?_
              refine z_get F hw h100 fd_X6_48_X6 rfl dX6_networkCalls_66 ?_
              refine lv_iload_n hx hb dX6_networkCalls_69 rfl (lv_at hl 0 rfl) ?_
              refine lv_iconst (v := 1) hx hb dX6_networkCalls_70 (by decide) ?_
              refine lv_isub hx hb dX6_networkCalls_71 ?_
              refine z_top (nI (rf_i M 94 + 1)) (nI_pred _) ?_
              refine z_ld F hw h111 (rf_i M 94 + 1) (rfl) (by omega) (by decide) dX6_networkCalls_72 ?_
              refine z_top (nI (M.getD (rf_i M 94 + 1) 0)) ((hM.2 (rf_i M 94 + 1) hlt).1) ?_
              refine z_put F hw hS (fs' := [.int (T 0 0), .int (T 0 1), .int (T 0 2), .int (T 0 3), .int (T 0 4), .ref (ad 101), .ref (ad 102), .ref (ad 103), .int (T 0 5), .ref (ad 104), .ref (ad 105), .ref (ad 106), .ref (ad 107), .ref (ad 108), .int (T 0 6), .int (T 0 7), .int (T 0 8), .ref (ad 109), .int (T 0 9), .ref (ad 110), .int (nI (M.getD (rf_i M 94 + 1) 0)), .int (nI M.length), .ref (ad 111)]) h100 fd_X6_135_X6 ptX6 rfl (rfl) (rfl) (Nat.le_of_ble_eq_true rfl) rfl dX6_networkCalls_73 (fun ce17 H locs h100 fr18 hw hS => ?_)
              have h101 := (fr18 101 (by decide)).trans h101
              have h102 := (fr18 102 (by decide)).trans h102
              have h103 := (fr18 103 (by decide)).trans h103
              have h104 := (fr18 104 (by decide)).trans h104
              have h105 := (fr18 105 (by decide)).trans h105
              have h106 := (fr18 106 (by decide)).trans h106
              have h107 := (fr18 107 (by decide)).trans h107
              have h108 := (fr18 108 (by decide)).trans h108
              have h109 := (fr18 109 (by decide)).trans h109
              have h110 := (fr18 110 (by decide)).trans h110
              have h111 := (fr18 111 (by decide)).trans h111
              have hF : ∀ j, j < 100 → _ = ce j := fun j hj => (fr18 j (by omega)).trans (hF j hj)
              refine lv_iconst (v := 0) hx hb dX6_networkCalls_76 (by decide) ?_
              refine lv_istore_n (lv' := [(3, .int 0), (2, .int (nI (rf_i M 94 + 2))), (0, .ref (ad 100)), (1, .int (nI ty))]) hx hb dX6_networkCalls_77 rfl hl (by decide) rfl (fun ls hl => ?_)
              refine z_loop (α := Nat) (fun t => M.getD (rf_i M 94 + 1) 0 - t) (fun t ce9 ls9 => lv_has ls9 4 [(0, .ref (ad 100)), (1, .int (nI ty)), (2, .int (nI (rf_i M 94 + 2))), (3, .int (nI t))] ∧ ce9 110 = some (.inl (zz_cI G, 8, .inl (rf_cp (T 7) M (rf_i M 94) t))) ∧ (∀ j, j ≠ 110 → ce9 j = ce17 j) ∧ t ≤ M.getD (rf_i M 94 + 1) 0) 0 ⟨lv_sub hl [2, 3, 1, 0] rfl, h110, fun _ _ => rfl, Nat.zero_le _⟩ hw hS (fun t ih78 ce9 H locs ls hI hw hS => ?_)
              obtain ⟨hl, h110, frA, htn⟩ := hI
              have h100 := (frA 100 (by decide)).trans h100
              have h101 := (frA 101 (by decide)).trans h101
              have h102 := (frA 102 (by decide)).trans h102
              have h103 := (frA 103 (by decide)).trans h103
              have h104 := (frA 104 (by decide)).trans h104
              have h105 := (frA 105 (by decide)).trans h105
              have h106 := (frA 106 (by decide)).trans h106
              have h107 := (frA 107 (by decide)).trans h107
              have h108 := (frA 108 (by decide)).trans h108
              have h109 := (frA 109 (by decide)).trans h109
              have h111 := (frA 111 (by decide)).trans h111
              have hF : ∀ j, j < 100 → ce9 j = ce j := fun j hj => (frA j (by omega)).trans (hF j hj)
              refine lv_iload_n hx hb dX6_networkCalls_78 rfl (lv_at hl 3 rfl) ?_
              refine lv_aload_n hx hb dX6_networkCalls_79 rfl (lv_at hl 0 rfl) ?_
              refine z_get F hw h100 fd_X6_135_X6 rfl dX6_networkCalls_80 ?_
              refine lv_icmp_ge (tgt := 106) hx hb dX6_networkCalls_83 (by decide) (fun c83 => ?_) (fun c83 => ?_)
              · have hte : t = M.getD (rf_i M 94 + 1) 0 := Nat.le_antisymm htn (Nat.le_of_not_lt (fun q => absurd c83 (nI_ge q (by omega))))
                rw [hte] at h110
                refine lv_aload_n hx hb dX6_networkCalls_106 rfl (lv_at hl 0 rfl) ?_
                refine lv_iconst (v := 1) hx hb dX6_networkCalls_107 (by decide) ?_
                refine lv_iconst (v := 3) hx hb dX6_networkCalls_108 (by decide) ?_
                refine lv_iconst (v := 2) hx hb dX6_networkCalls_109 (by decide) ?_
                have hV : rfV G ad ce9 (va_up (va_up T 0 (va_up (T 0) 10 (nI (M.getD (rf_i M 94 + 1) 0)))) 7 (rf_cp (T 7) M (rf_i M 94) (M.getD (rf_i M 94 + 1) 0))) Q M := ⟨_, _, _, _, ⟨h100, h101, h102, h103, h104, h105, h106, h107, h108, h109, h110, h111⟩, hQ, hM⟩
                refine z_invV F (rest := []) (r_put1 l (va_up (va_up T 0 (va_up (T 0) 10 (nI (M.getD (rf_i M 94 + 1) 0)))) 7 (rf_cp (T 7) M (rf_i M 94) (M.getD (rf_i M 94 + 1) 0))) Q M hV 3 2 (by decide) (by decide)) yv_X6_64 ⟨Nat.le_of_ble_eq_true rfl, Nat.le_of_ble_eq_true rfl⟩ hw hA hS hl h100 rfl rfl rfl (Nat.le_of_ble_eq_true rfl) dX6_networkCalls_110 ⟨Nat.le_of_ble_eq_true rfl, Nat.le_of_ble_eq_true rfl⟩ (fun r ad1 ce19 H locs hp hw hS => ?_)
                obtain ⟨rfl, rfl, hV, hF2⟩ := hp
                have hF : ∀ j, j < 100 → ce19 j = ce j := fun j hj => (hF2 j hj).trans (hF j hj)
                obtain ⟨cn, zs, bs, hh, ⟨h100, h101, h102, h103, h104, h105, h106, h107, h108, h109, h110, h111⟩, hQ, hM⟩ := hV
                refine W.eq (g2 := F0 m 113 ls [.int (rf_hd (va_up (va_up T 0 (va_up (T 0) 10 (nI (M.getD (rf_i M 94 + 1) 0)))) 7 (rf_cp (T 7) M (rf_i M 94) (M.getD (rf_i M 94 + 1) 0))) Q 1)]) rfl ?_
                refine lv_istore_n (lv' := [(3, .int (rf_hd (va_up (va_up T 0 (va_up (T 0) 10 (nI (M.getD (rf_i M 94 + 1) 0)))) 7 (rf_cp (T 7) M (rf_i M 94) (M.getD (rf_i M 94 + 1) 0))) Q 1)), (0, .ref (ad 100)), (1, .int (nI ty)), (2, .int (nI (rf_i M 94 + 2)))]) hx hb dX6_networkCalls_113 rfl hl (by decide) rfl (fun ls hl => ?_)
                refine lv_aload_n hx hb dX6_networkCalls_114 rfl (lv_at hl 1 rfl) ?_
                refine lv_iconst (v := 1) hx hb dX6_networkCalls_115 (by decide) ?_
                refine lv_iconst (v := 3) hx hb dX6_networkCalls_116 (by decide) ?_
                refine lv_iconst (v := 1) hx hb dX6_networkCalls_117 (by decide) ?_
                refine lv_iconst (v := 0) hx hb dX6_networkCalls_118 (by decide) ?_
                have hV : rfV G ad ce19 (va_up (va_up T 0 (va_up (T 0) 10 (nI (M.getD (rf_i M 94 + 1) 0)))) 7 (rf_cp (T 7) M (rf_i M 94) (M.getD (rf_i M 94 + 1) 0))) (rf_put (va_up (va_up T 0 (va_up (T 0) 10 (nI (M.getD (rf_i M 94 + 1) 0)))) 7 (rf_cp (T 7) M (rf_i M 94) (M.getD (rf_i M 94 + 1) 0))) Q 1 [3, 2]) M := ⟨_, _, _, _, ⟨h100, h101, h102, h103, h104, h105, h106, h107, h108, h109, h110, h111⟩, hQ, hM⟩
                refine z_invV F (rest := []) (r_become1 l (va_up (va_up T 0 (va_up (T 0) 10 (nI (M.getD (rf_i M 94 + 1) 0)))) 7 (rf_cp (T 7) M (rf_i M 94) (M.getD (rf_i M 94 + 1) 0))) (rf_put (va_up (va_up T 0 (va_up (T 0) 10 (nI (M.getD (rf_i M 94 + 1) 0)))) 7 (rf_cp (T 7) M (rf_i M 94) (M.getD (rf_i M 94 + 1) 0))) Q 1 [3, 2]) M hV 3 1 0) yv_X6_83 ⟨Nat.le_of_ble_eq_true rfl, Nat.le_of_ble_eq_true rfl⟩ hw hA hS hl h100 rfl rfl rfl (Nat.le_of_ble_eq_true rfl) dX6_networkCalls_119 ⟨Nat.le_of_ble_eq_true rfl, Nat.le_of_ble_eq_true rfl⟩ (fun r ad1 ce20 H locs hp hw hS => ?_)
                obtain ⟨rfl, rfl, hV, hF2⟩ := hp
                have hF : ∀ j, j < 100 → ce20 j = ce j := fun j hj => (hF2 j hj).trans (hF j hj)
                obtain ⟨cn, zs, bs, hh, ⟨h100, h101, h102, h103, h104, h105, h106, h107, h108, h109, h110, h111⟩, hQ, hM⟩ := hV
                refine W.eq (g2 := F0 m 122 ls []) rfl ?_
                refine lv_iconst (v := 1) hx hb dX6_networkCalls_122 (by decide) ?_
                exact z_iret F (rfl) hw hS (by unfold sp_networkCalls; rw [if_pos c7, if_pos c21, if_pos c30, if_neg hfn, if_neg c48, if_neg c61]; exact ⟨rfl, rfl, ⟨_, _, _, _, ⟨h100, h101, h102, h103, h104, h105, h106, h107, h108, h109, h110, h111⟩, hQ, hM⟩, hF⟩) dX6_networkCalls_123
              · have htl : t < M.getD (rf_i M 94 + 1) 0 := Nat.lt_of_not_le (fun q => c83 (nI_le q (by omega)))
                refine lv_aload_n hx hb dX6_networkCalls_86 rfl (lv_at hl 0 rfl) ?_
                refine z_get F hw h100 fd_X6_45_X6 rfl dX6_networkCalls_87 ?_
                refine lv_iload_n hx hb dX6_networkCalls_90 rfl (lv_at hl 3 rfl) ?_
                refine lv_aload_n hx hb dX6_networkCalls_91 rfl (lv_at hl 0 rfl) ?_
                refine z_get F hw h100 fd_X6_48_X6 rfl dX6_networkCalls_92 ?_
                refine lv_iload_n hx hb dX6_networkCalls_95 rfl (lv_at hl 2 rfl) ?_
                refine lv_iload_n hx hb dX6_networkCalls_96 rfl (lv_at hl 3 rfl) ?_
                refine lv_iadd hx hb dX6_networkCalls_97 ?_
                refine z_top (nI (rf_i M 94 + 2 + t)) (nI_add _ _) ?_
                refine z_ld F hw h111 (rf_i M 94 + 2 + t) (rfl) (by omega) (by decide) dX6_networkCalls_98 ?_
                refine z_top (nI (M.getD (rf_i M 94 + 2 + t) 0)) ((hM.2 _ (by omega)).1) ?_
                refine z_st F hw hS h110 (t) (rfl) (by omega) (by decide) dX6_networkCalls_99 (fun ce21 H locs h110 fr22 hw hS => ?_)
                have h100 := (fr22 100 (by decide)).trans h100
                have h101 := (fr22 101 (by decide)).trans h101
                have h102 := (fr22 102 (by decide)).trans h102
                have h103 := (fr22 103 (by decide)).trans h103
                have h104 := (fr22 104 (by decide)).trans h104
                have h105 := (fr22 105 (by decide)).trans h105
                have h106 := (fr22 106 (by decide)).trans h106
                have h107 := (fr22 107 (by decide)).trans h107
                have h108 := (fr22 108 (by decide)).trans h108
                have h109 := (fr22 109 (by decide)).trans h109
                have h111 := (fr22 111 (by decide)).trans h111
                have hF : ∀ j, j < 100 → _ = ce j := fun j hj => (fr22 j (by omega)).trans (hF j hj)
                refine lv_iinc (v := nI (t + 1)) (lv' := [(3, .int (nI (t + 1))), (0, .ref (ad 100)), (1, .int (nI ty)), (2, .int (nI (rf_i M 94 + 2)))]) hx hb dX6_networkCalls_100 hl (k := 3) rfl (nI_1 t) (by decide) rfl (fun ls hl => ?_)
                refine lv_goto (tgt := 78) hx hb dX6_networkCalls_103 (by decide) ?_
                exact ih78 (t + 1) _ _ _ _ (by omega) ⟨lv_sub hl [1, 2, 3, 0] rfl, h110, fun j hj => (fr22 j hj).trans (frA j hj), by omega⟩ hw hS
  · refine lv_iconst (v := 0) hx hb dX6_networkCalls_10 (by decide) ?_
    exact z_iret F (rfl) hw hS (by unfold sp_networkCalls; rw [if_neg c7]; exact ⟨rfl, rfl, ⟨_, _, _, _, ⟨h100, h101, h102, h103, h104, h105, h106, h107, h108, h109, h110, h111⟩, hQ, hM⟩, hF⟩) dX6_networkCalls_11
