theorem rf_ixv {v : Int32} (h0 : ¬ v < 0) : v = nI v.toNatClampNeg := by
  obtain ⟨j, hj, e⟩ := nI_of h0
  rw [e, nI_clamp hj]
theorem rf_ixl {v : Int32} {n : Nat} (h0 : ¬ v < 0) (h : ¬ nI n ≤ v) : v.toNatClampNeg < n := by
  obtain ⟨j, hj, e⟩ := nI_of h0
  rw [e, nI_clamp hj]
  rw [e] at h
  exact Nat.lt_of_not_le (fun q => h (nI_le q hj))
theorem rf_ixm {v : Int32} {n : Nat} (hn : n < 2 ^ 31) (h0 : ¬ v < 0) (h : v < nI n) : v.toNatClampNeg < n := by
  obtain ⟨j, hj, e⟩ := nI_of h0
  rw [e, nI_clamp hj]
  rw [e] at h
  exact (nI_ltI hj hn).mp h
theorem rf_tab {v : Int32} {n : Nat} (hn : n < 2 ^ 31) (h : ∀ k, k ≤ n → ¬ v = nI k) : v.toInt < 0 ∨ (n : Int) < v.toInt := by
  by_cases h0 : v < 0
  · left
    rw [Int32.lt_iff_toInt_lt, Int32.toInt_zero] at h0
    exact h0
  · right
    obtain ⟨j, hj, e⟩ := nI_of h0
    rw [e, nI_toInt hj]
    have : ¬ j ≤ n := fun q => h j q e
    omega
def sp_digit (T : rf_T) (Q : rf_Q) (M : List Nat) (v : Int32) : rf_R := (if (((T 2) 1) : Int32) ≤ 0 then ((-3), T, Q) else (if (v : Int32) < 0 then ((-3), T, Q) else (if ((T 0 10) : Int32) ≤ v then ((-3), T, Q) else (((T 7) v.toNatClampNeg), T, Q))))
set_option maxHeartbeats 4000000 in
set_option maxRecDepth 100000 in
theorem r_digit (l : Launch) {G : zz_G} {ad : Nat → Nat} {ce : zz_C} {sz : Nat} (T : rf_T) (Q : rf_Q) (M : List Nat) (hV : rfV G ad ce T Q M) (v : Int32) (cc : Nat) (hcc8 : cc ≤ 8) (hcc : T 0 10 = nI cc) : zz_M l yX6_digit cX6_digit 2 (some .int) 0 0 0 0 G [.ref (ad 100), .int v] ad ce sz (fun r ad1 ce1 => r = some (.int (sp_digit T Q M v).1) ∧ ad = ad1 ∧ rfV G ad ce1 (sp_digit T Q M v).2.1 (sp_digit T Q M v).2.2 M ∧ (∀ j, j < 100 → ce1 j = ce j)) := by
  refine zz_enter (by decide) (Nat.le_of_ble_eq_true rfl) ?_
  intro p e s m below meth c ls F hl hw hS hA
  obtain ⟨hx, hb, hr, hml, hown, hts, hlocks, hK, hnm⟩ := id F
  have hl : lv_has ls 2 [(0, .ref (ad 100)), (1, .int v)] := hl
  obtain ⟨cn, zs, bs, hh, ⟨h100, h101, h102, h103, h104, h105, h106, h107, h108, h109, h110, h111⟩, hQ, hM⟩ := hV
  have hF : ∀ j, j < 100 → ce j = ce j := fun _ _ => rfl
  refine lv_aload_n hx hb dX6_digit_0 rfl (lv_at hl 0 rfl) ?_
  refine z_get F hw h100 fd_X6_26_X6 rfl dX6_digit_1 ?_
  refine lv_iconst (v := 1) hx hb dX6_digit_4 (by decide) ?_
  refine z_ld F hw h105 (1) (rfl) (by decide) (by decide) dX6_digit_5 ?_
  refine lv_if_le (tgt := 30) hx hb dX6_digit_6 (by decide) (fun c6 => ?_) (fun c6 => ?_)
  · refine lv_bipush (v := -3) hx hb dX6_digit_30 (by decide) ?_
    exact z_iret F (rfl) hw hS (by unfold sp_digit; rw [if_pos c6]; exact ⟨rfl, rfl, ⟨_, _, _, _, ⟨h100, h101, h102, h103, h104, h105, h106, h107, h108, h109, h110, h111⟩, hQ, hM⟩, hF⟩) dX6_digit_32
  · refine lv_iload_n hx hb dX6_digit_9 rfl (lv_at hl 1 rfl) ?_
    refine lv_if_lt (tgt := 30) hx hb dX6_digit_10 (by decide) (fun c10 => ?_) (fun c10 => ?_)
    · refine lv_bipush (v := -3) hx hb dX6_digit_30 (by decide) ?_
      exact z_iret F (rfl) hw hS (by unfold sp_digit; rw [if_neg c6, if_pos c10]; exact ⟨rfl, rfl, ⟨_, _, _, _, ⟨h100, h101, h102, h103, h104, h105, h106, h107, h108, h109, h110, h111⟩, hQ, hM⟩, hF⟩) dX6_digit_32
    · refine lv_iload_n hx hb dX6_digit_13 rfl (lv_at hl 1 rfl) ?_
      refine lv_aload_n hx hb dX6_digit_14 rfl (lv_at hl 0 rfl) ?_
      refine z_get F hw h100 fd_X6_135_X6 rfl dX6_digit_15 ?_
      refine lv_icmp_ge (tgt := 30) hx hb dX6_digit_18 (by decide) (fun c18 => ?_) (fun c18 => ?_)
      · refine lv_bipush (v := -3) hx hb dX6_digit_30 (by decide) ?_
        exact z_iret F (rfl) hw hS (by unfold sp_digit; rw [if_neg c6, if_neg c10, if_pos c18]; exact ⟨rfl, rfl, ⟨_, _, _, _, ⟨h100, h101, h102, h103, h104, h105, h106, h107, h108, h109, h110, h111⟩, hQ, hM⟩, hF⟩) dX6_digit_32
      · refine lv_aload_n hx hb dX6_digit_21 rfl (lv_at hl 0 rfl) ?_
        refine z_get F hw h100 fd_X6_45_X6 rfl dX6_digit_22 ?_
        refine lv_iload_n hx hb dX6_digit_25 rfl (lv_at hl 1 rfl) ?_
        refine z_ld F hw h110 (v.toNatClampNeg) (rf_ixv c10) (by have h9 := rf_ixl c10 (by rw [← hcc]; exact c18); omega) (by decide) dX6_digit_26 ?_
        refine lv_goto (tgt := 32) hx hb dX6_digit_27 (by decide) ?_
        exact z_iret F (rfl) hw hS (by unfold sp_digit; rw [if_neg c6, if_neg c10, if_neg c18]; exact ⟨rfl, rfl, ⟨_, _, _, _, ⟨h100, h101, h102, h103, h104, h105, h106, h107, h108, h109, h110, h111⟩, hQ, hM⟩, hF⟩) dX6_digit_32
def sp_told (T : rf_T) (Q : rf_Q) (M : List Nat) (v : Int32) : rf_R := (if (v : Int32) = 0 then (((T 1) 0), T, Q) else (if (v : Int32) = 1 then (((T 2) 0), T, Q) else (if (v : Int32) = 2 then (((T 3) 0), T, Q) else (if (v : Int32) = 3 then ((T 0 6), T, Q) else (if (v : Int32) = 4 then (((T 1) 1), T, Q) else (if (v : Int32) = 5 then (((T 2) 1), T, Q) else (if (v : Int32) = 6 then (((T 3) 1), T, Q) else (if (v : Int32) = 7 then ((T 0 7), T, Q) else (if (v : Int32) = 8 then ((nI (Q 0).length), T, Q) else (if (v : Int32) = 9 then ((nI (Q 1).length), T, Q) else (if (v : Int32) = 10 then ((T 0 5), T, Q) else (if (v : Int32) = 11 then (if ((T 0 4) : Int32) = 0 then (1, T, Q) else (0, T, Q)) else (if (v : Int32) = 12 then (((T 5) 0), T, Q) else (if (v : Int32) = 13 then (((T 5) 1), T, Q) else ((-1), T, Q)))))))))))))))
set_option maxHeartbeats 4000000 in
set_option maxRecDepth 100000 in
theorem r_told (l : Launch) {G : zz_G} {ad : Nat → Nat} {ce : zz_C} {sz : Nat} (T : rf_T) (Q : rf_Q) (M : List Nat) (hV : rfV G ad ce T Q M) (v : Int32) : zz_M l yX6_told cX6_told 2 (some .int) 0 0 0 0 G [.ref (ad 100), .int v] ad ce sz (fun r ad1 ce1 => r = some (.int (sp_told T Q M v).1) ∧ ad = ad1 ∧ rfV G ad ce1 (sp_told T Q M v).2.1 (sp_told T Q M v).2.2 M ∧ (∀ j, j < 100 → ce1 j = ce j)) := by
  refine zz_enter (by decide) (Nat.le_of_ble_eq_true rfl) ?_
  intro p e s m below meth c ls F hl hw hS hA
  obtain ⟨hx, hb, hr, hml, hown, hts, hlocks, hK, hnm⟩ := id F
  have hl : lv_has ls 2 [(0, .ref (ad 100)), (1, .int v)] := hl
  obtain ⟨cn, zs, bs, hh, ⟨h100, h101, h102, h103, h104, h105, h106, h107, h108, h109, h110, h111⟩, hQ, hM⟩ := hV
  have hF : ∀ j, j < 100 → ce j = ce j := fun _ _ => rfl
  refine lv_iload_n hx hb dX6_told_0 rfl (lv_at hl 1 rfl) ?_
  by_cases h1_0 : (v : Int32) = 0
  · refine lv_tableIn (tgt := 72) (off := 71) hx hb dX6_told_1 (by rw [h1_0]; decide) (by rw [h1_0]; decide) (by rw [h1_0]; rfl) (by decide) ?_
    refine lv_aload_n hx hb dX6_told_72 rfl (lv_at hl 0 rfl) ?_
    refine z_get F hw h100 fd_X6_23_X6 rfl dX6_told_73 ?_
    refine lv_iconst (v := 0) hx hb dX6_told_76 (by decide) ?_
    refine z_ld F hw h104 (0) (rfl) (by decide) (by decide) dX6_told_77 ?_
    exact z_iret F (rfl) hw hS (by unfold sp_told; rw [if_pos h1_0]; exact ⟨rfl, rfl, ⟨_, _, _, _, ⟨h100, h101, h102, h103, h104, h105, h106, h107, h108, h109, h110, h111⟩, hQ, hM⟩, hF⟩) dX6_told_78
  by_cases h1_1 : (v : Int32) = 1
  · refine lv_tableIn (tgt := 79) (off := 78) hx hb dX6_told_1 (by rw [h1_1]; decide) (by rw [h1_1]; decide) (by rw [h1_1]; rfl) (by decide) ?_
    refine lv_aload_n hx hb dX6_told_79 rfl (lv_at hl 0 rfl) ?_
    refine z_get F hw h100 fd_X6_26_X6 rfl dX6_told_80 ?_
    refine lv_iconst (v := 0) hx hb dX6_told_83 (by decide) ?_
    refine z_ld F hw h105 (0) (rfl) (by decide) (by decide) dX6_told_84 ?_
    exact z_iret F (rfl) hw hS (by unfold sp_told; rw [if_neg h1_0, if_pos h1_1]; exact ⟨rfl, rfl, ⟨_, _, _, _, ⟨h100, h101, h102, h103, h104, h105, h106, h107, h108, h109, h110, h111⟩, hQ, hM⟩, hF⟩) dX6_told_85
  by_cases h1_2 : (v : Int32) = 2
  · refine lv_tableIn (tgt := 86) (off := 85) hx hb dX6_told_1 (by rw [h1_2]; decide) (by rw [h1_2]; decide) (by rw [h1_2]; rfl) (by decide) ?_
    refine lv_aload_n hx hb dX6_told_86 rfl (lv_at hl 0 rfl) ?_
    refine z_get F hw h100 fd_X6_29_X6 rfl dX6_told_87 ?_
    refine lv_iconst (v := 0) hx hb dX6_told_90 (by decide) ?_
    refine z_ld F hw h106 (0) (rfl) (by decide) (by decide) dX6_told_91 ?_
    exact z_iret F (rfl) hw hS (by unfold sp_told; rw [if_neg h1_0, if_neg h1_1, if_pos h1_2]; exact ⟨rfl, rfl, ⟨_, _, _, _, ⟨h100, h101, h102, h103, h104, h105, h106, h107, h108, h109, h110, h111⟩, hQ, hM⟩, hF⟩) dX6_told_92
  by_cases h1_3 : (v : Int32) = 3
  · refine lv_tableIn (tgt := 93) (off := 92) hx hb dX6_told_1 (by rw [h1_3]; decide) (by rw [h1_3]; decide) (by rw [h1_3]; rfl) (by decide) ?_
    refine lv_aload_n hx hb dX6_told_93 rfl (lv_at hl 0 rfl) ?_
    refine z_get F hw h100 fd_X6_105_X6 rfl dX6_told_94 ?_
    exact z_iret F (rfl) hw hS (by unfold sp_told; rw [if_neg h1_0, if_neg h1_1, if_neg h1_2, if_pos h1_3]; exact ⟨rfl, rfl, ⟨_, _, _, _, ⟨h100, h101, h102, h103, h104, h105, h106, h107, h108, h109, h110, h111⟩, hQ, hM⟩, hF⟩) dX6_told_97
  by_cases h1_4 : (v : Int32) = 4
  · refine lv_tableIn (tgt := 98) (off := 97) hx hb dX6_told_1 (by rw [h1_4]; decide) (by rw [h1_4]; decide) (by rw [h1_4]; rfl) (by decide) ?_
    refine lv_aload_n hx hb dX6_told_98 rfl (lv_at hl 0 rfl) ?_
    refine z_get F hw h100 fd_X6_23_X6 rfl dX6_told_99 ?_
    refine lv_iconst (v := 1) hx hb dX6_told_102 (by decide) ?_
    refine z_ld F hw h104 (1) (rfl) (by decide) (by decide) dX6_told_103 ?_
    exact z_iret F (rfl) hw hS (by unfold sp_told; rw [if_neg h1_0, if_neg h1_1, if_neg h1_2, if_neg h1_3, if_pos h1_4]; exact ⟨rfl, rfl, ⟨_, _, _, _, ⟨h100, h101, h102, h103, h104, h105, h106, h107, h108, h109, h110, h111⟩, hQ, hM⟩, hF⟩) dX6_told_104
  by_cases h1_5 : (v : Int32) = 5
  · refine lv_tableIn (tgt := 105) (off := 104) hx hb dX6_told_1 (by rw [h1_5]; decide) (by rw [h1_5]; decide) (by rw [h1_5]; rfl) (by decide) ?_
    refine lv_aload_n hx hb dX6_told_105 rfl (lv_at hl 0 rfl) ?_
    refine z_get F hw h100 fd_X6_26_X6 rfl dX6_told_106 ?_
    refine lv_iconst (v := 1) hx hb dX6_told_109 (by decide) ?_
    refine z_ld F hw h105 (1) (rfl) (by decide) (by decide) dX6_told_110 ?_
    exact z_iret F (rfl) hw hS (by unfold sp_told; rw [if_neg h1_0, if_neg h1_1, if_neg h1_2, if_neg h1_3, if_neg h1_4, if_pos h1_5]; exact ⟨rfl, rfl, ⟨_, _, _, _, ⟨h100, h101, h102, h103, h104, h105, h106, h107, h108, h109, h110, h111⟩, hQ, hM⟩, hF⟩) dX6_told_111
  by_cases h1_6 : (v : Int32) = 6
  · refine lv_tableIn (tgt := 112) (off := 111) hx hb dX6_told_1 (by rw [h1_6]; decide) (by rw [h1_6]; decide) (by rw [h1_6]; rfl) (by decide) ?_
    refine lv_aload_n hx hb dX6_told_112 rfl (lv_at hl 0 rfl) ?_
    refine z_get F hw h100 fd_X6_29_X6 rfl dX6_told_113 ?_
    refine lv_iconst (v := 1) hx hb dX6_told_116 (by decide) ?_
    refine z_ld F hw h106 (1) (rfl) (by decide) (by decide) dX6_told_117 ?_
    exact z_iret F (rfl) hw hS (by unfold sp_told; rw [if_neg h1_0, if_neg h1_1, if_neg h1_2, if_neg h1_3, if_neg h1_4, if_neg h1_5, if_pos h1_6]; exact ⟨rfl, rfl, ⟨_, _, _, _, ⟨h100, h101, h102, h103, h104, h105, h106, h107, h108, h109, h110, h111⟩, hQ, hM⟩, hF⟩) dX6_told_118
  by_cases h1_7 : (v : Int32) = 7
  · refine lv_tableIn (tgt := 119) (off := 118) hx hb dX6_told_1 (by rw [h1_7]; decide) (by rw [h1_7]; decide) (by rw [h1_7]; rfl) (by decide) ?_
    refine lv_aload_n hx hb dX6_told_119 rfl (lv_at hl 0 rfl) ?_
    refine z_get F hw h100 fd_X6_39_X6 rfl dX6_told_120 ?_
    exact z_iret F (rfl) hw hS (by unfold sp_told; rw [if_neg h1_0, if_neg h1_1, if_neg h1_2, if_neg h1_3, if_neg h1_4, if_neg h1_5, if_neg h1_6, if_pos h1_7]; exact ⟨rfl, rfl, ⟨_, _, _, _, ⟨h100, h101, h102, h103, h104, h105, h106, h107, h108, h109, h110, h111⟩, hQ, hM⟩, hF⟩) dX6_told_123
  by_cases h1_8 : (v : Int32) = 8
  · refine lv_tableIn (tgt := 124) (off := 123) hx hb dX6_told_1 (by rw [h1_8]; decide) (by rw [h1_8]; decide) (by rw [h1_8]; rfl) (by decide) ?_
    refine lv_aload_n hx hb dX6_told_124 rfl (lv_at hl 0 rfl) ?_
    refine z_get F hw h100 fd_X6_13_X6 rfl dX6_told_125 ?_
    refine lv_iconst (v := 0) hx hb dX6_told_128 (by decide) ?_
    refine z_ld F hw h101 (0) (rfl) (by decide) (by decide) dX6_told_129 ?_
    refine z_top (nI (Q 0).length) ((hQ 0 (by decide)).2.1) ?_
    exact z_iret F (rfl) hw hS (by unfold sp_told; rw [if_neg h1_0, if_neg h1_1, if_neg h1_2, if_neg h1_3, if_neg h1_4, if_neg h1_5, if_neg h1_6, if_neg h1_7, if_pos h1_8]; exact ⟨rfl, rfl, ⟨_, _, _, _, ⟨h100, h101, h102, h103, h104, h105, h106, h107, h108, h109, h110, h111⟩, hQ, hM⟩, hF⟩) dX6_told_130
  by_cases h1_9 : (v : Int32) = 9
  · refine lv_tableIn (tgt := 131) (off := 130) hx hb dX6_told_1 (by rw [h1_9]; decide) (by rw [h1_9]; decide) (by rw [h1_9]; rfl) (by decide) ?_
    refine lv_aload_n hx hb dX6_told_131 rfl (lv_at hl 0 rfl) ?_
    refine z_get F hw h100 fd_X6_13_X6 rfl dX6_told_132 ?_
    refine lv_iconst (v := 1) hx hb dX6_told_135 (by decide) ?_
    refine z_ld F hw h101 (1) (rfl) (by decide) (by decide) dX6_told_136 ?_
    refine z_top (nI (Q 1).length) ((hQ 1 (by decide)).2.1) ?_
    exact z_iret F (rfl) hw hS (by unfold sp_told; rw [if_neg h1_0, if_neg h1_1, if_neg h1_2, if_neg h1_3, if_neg h1_4, if_neg h1_5, if_neg h1_6, if_neg h1_7, if_neg h1_8, if_pos h1_9]; exact ⟨rfl, rfl, ⟨_, _, _, _, ⟨h100, h101, h102, h103, h104, h105, h106, h107, h108, h109, h110, h111⟩, hQ, hM⟩, hF⟩) dX6_told_137
  by_cases h1_10 : (v : Int32) = 10
  · refine lv_tableIn (tgt := 138) (off := 137) hx hb dX6_told_1 (by rw [h1_10]; decide) (by rw [h1_10]; decide) (by rw [h1_10]; rfl) (by decide) ?_
    refine lv_aload_n hx hb dX6_told_138 rfl (lv_at hl 0 rfl) ?_
    refine z_get F hw h100 fd_X6_168_X6 rfl dX6_told_139 ?_
    exact z_iret F (rfl) hw hS (by unfold sp_told; rw [if_neg h1_0, if_neg h1_1, if_neg h1_2, if_neg h1_3, if_neg h1_4, if_neg h1_5, if_neg h1_6, if_neg h1_7, if_neg h1_8, if_neg h1_9, if_pos h1_10]; exact ⟨rfl, rfl, ⟨_, _, _, _, ⟨h100, h101, h102, h103, h104, h105, h106, h107, h108, h109, h110, h111⟩, hQ, hM⟩, hF⟩) dX6_told_142
  by_cases h1_11 : (v : Int32) = 11
  · refine lv_tableIn (tgt := 143) (off := 142) hx hb dX6_told_1 (by rw [h1_11]; decide) (by rw [h1_11]; decide) (by rw [h1_11]; rfl) (by decide) ?_
    refine lv_aload_n hx hb dX6_told_143 rfl (lv_at hl 0 rfl) ?_
    refine z_get F hw h100 fd_X6_60_X6 rfl dX6_told_144 ?_
    refine lv_if_eq (tgt := 154) hx hb dX6_told_147 (by decide) (fun c147 => ?_) (fun c147 => ?_)
    · refine lv_iconst (v := 1) hx hb dX6_told_154 (by decide) ?_
      exact z_iret F (rfl) hw hS (by unfold sp_told; rw [if_neg h1_0, if_neg h1_1, if_neg h1_2, if_neg h1_3, if_neg h1_4, if_neg h1_5, if_neg h1_6, if_neg h1_7, if_neg h1_8, if_neg h1_9, if_neg h1_10, if_pos h1_11, if_pos c147]; exact ⟨rfl, rfl, ⟨_, _, _, _, ⟨h100, h101, h102, h103, h104, h105, h106, h107, h108, h109, h110, h111⟩, hQ, hM⟩, hF⟩) dX6_told_155
    · refine lv_iconst (v := 0) hx hb dX6_told_150 (by decide) ?_
      refine lv_goto (tgt := 155) hx hb dX6_told_151 (by decide) ?_
      exact z_iret F (rfl) hw hS (by unfold sp_told; rw [if_neg h1_0, if_neg h1_1, if_neg h1_2, if_neg h1_3, if_neg h1_4, if_neg h1_5, if_neg h1_6, if_neg h1_7, if_neg h1_8, if_neg h1_9, if_neg h1_10, if_pos h1_11, if_neg c147]; exact ⟨rfl, rfl, ⟨_, _, _, _, ⟨h100, h101, h102, h103, h104, h105, h106, h107, h108, h109, h110, h111⟩, hQ, hM⟩, hF⟩) dX6_told_155
  by_cases h1_12 : (v : Int32) = 12
  · refine lv_tableIn (tgt := 156) (off := 155) hx hb dX6_told_1 (by rw [h1_12]; decide) (by rw [h1_12]; decide) (by rw [h1_12]; rfl) (by decide) ?_
    refine lv_aload_n hx hb dX6_told_156 rfl (lv_at hl 0 rfl) ?_
    refine z_get F hw h100 fd_X6_36_X6 rfl dX6_told_157 ?_
    refine lv_iconst (v := 0) hx hb dX6_told_160 (by decide) ?_
    refine z_ld F hw h108 (0) (rfl) (by decide) (by decide) dX6_told_161 ?_
    exact z_iret F (rfl) hw hS (by unfold sp_told; rw [if_neg h1_0, if_neg h1_1, if_neg h1_2, if_neg h1_3, if_neg h1_4, if_neg h1_5, if_neg h1_6, if_neg h1_7, if_neg h1_8, if_neg h1_9, if_neg h1_10, if_neg h1_11, if_pos h1_12]; exact ⟨rfl, rfl, ⟨_, _, _, _, ⟨h100, h101, h102, h103, h104, h105, h106, h107, h108, h109, h110, h111⟩, hQ, hM⟩, hF⟩) dX6_told_162
  by_cases h1_13 : (v : Int32) = 13
  · refine lv_tableIn (tgt := 163) (off := 162) hx hb dX6_told_1 (by rw [h1_13]; decide) (by rw [h1_13]; decide) (by rw [h1_13]; rfl) (by decide) ?_
    refine lv_aload_n hx hb dX6_told_163 rfl (lv_at hl 0 rfl) ?_
    refine z_get F hw h100 fd_X6_36_X6 rfl dX6_told_164 ?_
    refine lv_iconst (v := 1) hx hb dX6_told_167 (by decide) ?_
    refine z_ld F hw h108 (1) (rfl) (by decide) (by decide) dX6_told_168 ?_
    exact z_iret F (rfl) hw hS (by unfold sp_told; rw [if_neg h1_0, if_neg h1_1, if_neg h1_2, if_neg h1_3, if_neg h1_4, if_neg h1_5, if_neg h1_6, if_neg h1_7, if_neg h1_8, if_neg h1_9, if_neg h1_10, if_neg h1_11, if_neg h1_12, if_pos h1_13]; exact ⟨rfl, rfl, ⟨_, _, _, _, ⟨h100, h101, h102, h103, h104, h105, h106, h107, h108, h109, h110, h111⟩, hQ, hM⟩, hF⟩) dX6_told_169
  refine lv_tableOut (tgt := 170) hx hb dX6_told_1 (rf_tab (n := 13) (by decide) (fun k9 hk9 => by rcases (show k9 = 0 ∨ k9 = 1 ∨ k9 = 2 ∨ k9 = 3 ∨ k9 = 4 ∨ k9 = 5 ∨ k9 = 6 ∨ k9 = 7 ∨ k9 = 8 ∨ k9 = 9 ∨ k9 = 10 ∨ k9 = 11 ∨ k9 = 12 ∨ k9 = 13 by omega) with rfl | rfl | rfl | rfl | rfl | rfl | rfl | rfl | rfl | rfl | rfl | rfl | rfl | rfl <;> first | exact h1_0 | exact h1_1 | exact h1_2 | exact h1_3 | exact h1_4 | exact h1_5 | exact h1_6 | exact h1_7 | exact h1_8 | exact h1_9 | exact h1_10 | exact h1_11 | exact h1_12 | exact h1_13)) (by decide) ?_
  refine lv_iconst (v := -1) hx hb dX6_told_170 (by decide) ?_
  exact z_iret F (rfl) hw hS (by unfold sp_told; rw [if_neg h1_0, if_neg h1_1, if_neg h1_2, if_neg h1_3, if_neg h1_4, if_neg h1_5, if_neg h1_6, if_neg h1_7, if_neg h1_8, if_neg h1_9, if_neg h1_10, if_neg h1_11, if_neg h1_12, if_neg h1_13]; exact ⟨rfl, rfl, ⟨_, _, _, _, ⟨h100, h101, h102, h103, h104, h105, h106, h107, h108, h109, h110, h111⟩, hQ, hM⟩, hF⟩) dX6_told_171
def sp_byteOf0 (T : rf_T) (Q : rf_Q) (M : List Nat) (kv iv0 : Int32) : rf_R := (if (kv : Int32) < 0 then ((-3), T, Q) else (if (kv : Int32) < (nI (Q 0).length) then (if (iv0 : Int32) < 0 then ((-3), T, Q) else (if ((nI ((Q 0).getD kv.toNatClampNeg []).length) : Int32) ≤ iv0 then ((-3), T, Q) else ((nI (((Q 0).getD kv.toNatClampNeg []).getD iv0.toNatClampNeg 0)), T, Q))) else ((-3), T, Q)))
set_option maxHeartbeats 4000000 in
set_option maxRecDepth 100000 in
theorem r_byteOf0 (l : Launch) {G : zz_G} {ad : Nat → Nat} {ce : zz_C} {sz : Nat} (T : rf_T) (Q : rf_Q) (M : List Nat) (hV : rfV G ad ce T Q M) (kv iv0 : Int32) : zz_M l yX6_byteOf cX6_byteOf 5 (some .int) 1 20 0 0 G [.ref (ad 100), .int 0, .int kv, .int iv0] ad ce sz (fun r ad1 ce1 => r = some (.int (sp_byteOf0 T Q M kv iv0).1) ∧ ad = ad1 ∧ rfV G ad ce1 (sp_byteOf0 T Q M kv iv0).2.1 (sp_byteOf0 T Q M kv iv0).2.2 M ∧ (∀ j, j < 100 → ce1 j = ce j)) := by
  refine zz_enter (by decide) (Nat.le_of_ble_eq_true rfl) ?_
  intro p e s m below meth c ls F hl hw hS hA
  obtain ⟨hx, hb, hr, hml, hown, hts, hlocks, hK, hnm⟩ := id F
  have hl : lv_has ls 5 [(0, .ref (ad 100)), (1, .int 0), (2, .int kv), (3, .int iv0)] := hl
  obtain ⟨cn, zs, bs, hh, ⟨h100, h101, h102, h103, h104, h105, h106, h107, h108, h109, h110, h111⟩, hQ, hM⟩ := hV
  have hF : ∀ j, j < 100 → ce j = ce j := fun _ _ => rfl
  refine lv_iload_n hx hb dX6_byteOf_0 rfl (lv_at hl 1 rfl) ?_
  refine z_invS F (rest := []) (r_isWay l 0) ys_X6_145 ⟨Nat.le_of_ble_eq_true rfl, Nat.le_of_ble_eq_true rfl⟩ hw hA hS hl rfl rfl (Nat.le_of_ble_eq_true rfl) dX6_byteOf_1 ⟨Nat.le_of_ble_eq_true rfl, Nat.le_of_ble_eq_true rfl⟩ (fun r ad1 ce1 H locs hp hw hS => ?_)
  obtain ⟨hp, rfl, rfl⟩ := hp
  rcases hp with ⟨-, rfl⟩ | ⟨hn9, rfl⟩
  rotate_left
  · exact absurd (Or.inl rfl) hn9
  refine W.eq (g2 := F0 m 4 ls [.int 1]) rfl ?_
  refine lv_if_eq (tgt := 21) hx hb dX6_byteOf_4 (by decide) (fun c4 => absurd c4 (by decide)) (fun c4 => ?_)
  refine lv_iload_n hx hb dX6_byteOf_7 rfl (lv_at hl 2 rfl) ?_
  refine lv_if_lt (tgt := 21) hx hb dX6_byteOf_8 (by decide) (fun c8 => ?_) (fun c8 => ?_)
  · refine lv_bipush (v := -3) hx hb dX6_byteOf_21 (by decide) ?_
    exact z_iret F (rfl) hw hS (by unfold sp_byteOf0; rw [if_pos c8]; exact ⟨rfl, rfl, ⟨_, _, _, _, ⟨h100, h101, h102, h103, h104, h105, h106, h107, h108, h109, h110, h111⟩, hQ, hM⟩, hF⟩) dX6_byteOf_23
  · refine lv_iload_n hx hb dX6_byteOf_11 rfl (lv_at hl 2 rfl) ?_
    refine lv_aload_n hx hb dX6_byteOf_12 rfl (lv_at hl 0 rfl) ?_
    refine z_get F hw h100 fd_X6_13_X6 rfl dX6_byteOf_13 ?_
    refine lv_iload_n hx hb dX6_byteOf_16 rfl (lv_at hl 1 rfl) ?_
    refine z_ld F hw h101 (0) (rfl) (by decide) (by decide) dX6_byteOf_17 ?_
    refine z_top (nI (Q 0).length) ((hQ 0 (by decide)).2.1) ?_
    refine lv_icmp_lt (tgt := 24) hx hb dX6_byteOf_18 (by decide) (fun c18 => ?_) (fun c18 => ?_)
    · have hk8 := (hQ 0 (by decide)).1
      have hkl : kv.toNatClampNeg < (Q 0).length := rf_ixm (by omega) c8 c18
      obtain ⟨hm2, hm24, hmz, hmm⟩ := (hQ 0 (by decide)).2.2 kv.toNatClampNeg hkl
      have hmz : zs (0 + kv.toNatClampNeg) = nI ((Q 0).getD kv.toNatClampNeg []).length := hmz
      have hmm : ∀ i, i < ((Q 0).getD kv.toNatClampNeg []).length → bs (24 * (0 + kv.toNatClampNeg) + i) = nI (((Q 0).getD kv.toNatClampNeg []).getD i 0) ∧ ((Q 0).getD kv.toNatClampNeg []).getD i 0 < 256 := hmm
      refine lv_bipush (v := 8) hx hb dX6_byteOf_24 (by decide) ?_
      refine lv_iload_n hx hb dX6_byteOf_26 rfl (lv_at hl 1 rfl) ?_
      refine lv_imul hx hb dX6_byteOf_27 ?_
      refine z_top 0 (by decide) ?_
      refine lv_iload_n hx hb dX6_byteOf_28 rfl (lv_at hl 2 rfl) ?_
      refine lv_iadd hx hb dX6_byteOf_29 ?_
      refine z_top (nI (0 + kv.toNatClampNeg)) ((congrArg (fun z => (0 : Int32) + z) (rf_ixv c8)).trans (nI_add 0 _)) ?_
      refine lv_istore (lv' := [(4, .int (nI (0 + kv.toNatClampNeg))), (0, .ref (ad 100)), (1, .int 0), (2, .int kv), (3, .int iv0)]) hx hb dX6_byteOf_30 hl (by decide) rfl (fun ls hl => ?_)
      refine lv_iload_n hx hb dX6_byteOf_32 rfl (lv_at hl 4 rfl) ?_
      refine lv_if_lt (tgt := 62) hx hb dX6_byteOf_33 (by decide) (fun c33 => ?_) (fun c33 => ?_)
      · refine lv_bipush (v := -3) hx hb dX6_byteOf_62 (by decide) ?_
        exact z_iret F (rfl) hw hS (by unfold sp_byteOf0; rw [if_neg c8, if_pos c18, if_pos c33]; exact ⟨rfl, rfl, ⟨_, _, _, _, ⟨h100, h101, h102, h103, h104, h105, h106, h107, h108, h109, h110, h111⟩, hQ, hM⟩, hF⟩) dX6_byteOf_64
      · refine lv_iload_n hx hb dX6_byteOf_36 rfl (lv_at hl 4 rfl) ?_
        refine lv_aload_n hx hb dX6_byteOf_37 rfl (lv_at hl 1 rfl) ?_
        refine z_get F hw h100 fd_X6_17_X6 rfl dX6_byteOf_38 ?_
        refine lv_iload hx hb dX6_byteOf_41 (lv_at hl 0 rfl) ?_
        refine z_ld F hw h102 (0 + kv.toNatClampNeg) (rfl) (by omega) (by decide) dX6_byteOf_43 ?_
        refine z_top (nI ((Q 0).getD kv.toNatClampNeg []).length) (hmz) ?_
        refine lv_icmp_ge (tgt := 62) hx hb dX6_byteOf_44 (by decide) (fun c44 => ?_) (fun c44 => ?_)
        · refine lv_bipush (v := -3) hx hb dX6_byteOf_62 (by decide) ?_
          exact z_iret F (rfl) hw hS (by unfold sp_byteOf0; rw [if_neg c8, if_pos c18, if_neg c33, if_pos c44]; exact ⟨rfl, rfl, ⟨_, _, _, _, ⟨h100, h101, h102, h103, h104, h105, h106, h107, h108, h109, h110, h111⟩, hQ, hM⟩, hF⟩) dX6_byteOf_64
        · refine lv_aload_n hx hb dX6_byteOf_47 rfl (lv_at hl 1 rfl) ?_
          refine z_get F hw h100 fd_X6_20_X6 rfl dX6_byteOf_48 ?_
          refine lv_bipush (v := 24) hx hb dX6_byteOf_51 (by decide) ?_
          refine lv_iload hx hb dX6_byteOf_53 (lv_at hl 0 rfl) ?_
          refine lv_imul hx hb dX6_byteOf_55 ?_
          refine z_top (nI (24 * (0 + kv.toNatClampNeg))) (by rw [show (24 : Int32) = nI 24 from rfl, pk_mul]) ?_
          refine lv_iload_n hx hb dX6_byteOf_56 rfl (lv_at hl 4 rfl) ?_
          refine lv_iadd hx hb dX6_byteOf_57 ?_
          refine z_top (nI (24 * (0 + kv.toNatClampNeg) + iv0.toNatClampNeg)) ((congrArg (fun z => nI (24 * (0 + kv.toNatClampNeg)) + z) (rf_ixv c33)).trans (nI_add _ _)) ?_
          refine z_ld F hw h103 (24 * (0 + kv.toNatClampNeg) + iv0.toNatClampNeg) (rfl) (by have h9 := rf_ixl c33 c44; omega) (by decide) dX6_byteOf_58 ?_
          refine z_top (nI (((Q 0).getD kv.toNatClampNeg []).getD iv0.toNatClampNeg 0)) ((hmm iv0.toNatClampNeg (rf_ixl c33 c44)).1) ?_
          refine lv_goto (tgt := 64) hx hb dX6_byteOf_59 (by decide) ?_
          exact z_iret F (rfl) hw hS (by unfold sp_byteOf0; rw [if_neg c8, if_pos c18, if_neg c33, if_neg c44]; exact ⟨rfl, rfl, ⟨_, _, _, _, ⟨h100, h101, h102, h103, h104, h105, h106, h107, h108, h109, h110, h111⟩, hQ, hM⟩, hF⟩) dX6_byteOf_64
    · refine lv_bipush (v := -3) hx hb dX6_byteOf_21 (by decide) ?_
      exact z_iret F (rfl) hw hS (by unfold sp_byteOf0; rw [if_neg c8, if_neg c18]; exact ⟨rfl, rfl, ⟨_, _, _, _, ⟨h100, h101, h102, h103, h104, h105, h106, h107, h108, h109, h110, h111⟩, hQ, hM⟩, hF⟩) dX6_byteOf_23
def sp_byteOf1 (T : rf_T) (Q : rf_Q) (M : List Nat) (kv iv0 : Int32) : rf_R := (if (kv : Int32) < 0 then ((-3), T, Q) else (if (kv : Int32) < (nI (Q 1).length) then (if (iv0 : Int32) < 0 then ((-3), T, Q) else (if ((nI ((Q 1).getD kv.toNatClampNeg []).length) : Int32) ≤ iv0 then ((-3), T, Q) else ((nI (((Q 1).getD kv.toNatClampNeg []).getD iv0.toNatClampNeg 0)), T, Q))) else ((-3), T, Q)))
set_option maxHeartbeats 4000000 in
set_option maxRecDepth 100000 in
theorem r_byteOf1 (l : Launch) {G : zz_G} {ad : Nat → Nat} {ce : zz_C} {sz : Nat} (T : rf_T) (Q : rf_Q) (M : List Nat) (hV : rfV G ad ce T Q M) (kv iv0 : Int32) : zz_M l yX6_byteOf cX6_byteOf 5 (some .int) 1 20 0 0 G [.ref (ad 100), .int 1, .int kv, .int iv0] ad ce sz (fun r ad1 ce1 => r = some (.int (sp_byteOf1 T Q M kv iv0).1) ∧ ad = ad1 ∧ rfV G ad ce1 (sp_byteOf1 T Q M kv iv0).2.1 (sp_byteOf1 T Q M kv iv0).2.2 M ∧ (∀ j, j < 100 → ce1 j = ce j)) := by
  refine zz_enter (by decide) (Nat.le_of_ble_eq_true rfl) ?_
  intro p e s m below meth c ls F hl hw hS hA
  obtain ⟨hx, hb, hr, hml, hown, hts, hlocks, hK, hnm⟩ := id F
  have hl : lv_has ls 5 [(0, .ref (ad 100)), (1, .int 1), (2, .int kv), (3, .int iv0)] := hl
  obtain ⟨cn, zs, bs, hh, ⟨h100, h101, h102, h103, h104, h105, h106, h107, h108, h109, h110, h111⟩, hQ, hM⟩ := hV
  have hF : ∀ j, j < 100 → ce j = ce j := fun _ _ => rfl
  refine lv_iload_n hx hb dX6_byteOf_0 rfl (lv_at hl 1 rfl) ?_
  refine z_invS F (rest := []) (r_isWay l 1) ys_X6_145 ⟨Nat.le_of_ble_eq_true rfl, Nat.le_of_ble_eq_true rfl⟩ hw hA hS hl rfl rfl (Nat.le_of_ble_eq_true rfl) dX6_byteOf_1 ⟨Nat.le_of_ble_eq_true rfl, Nat.le_of_ble_eq_true rfl⟩ (fun r ad1 ce1 H locs hp hw hS => ?_)
  obtain ⟨hp, rfl, rfl⟩ := hp
  rcases hp with ⟨-, rfl⟩ | ⟨hn9, rfl⟩
  rotate_left
  · exact absurd (Or.inr rfl) hn9
  refine W.eq (g2 := F0 m 4 ls [.int 1]) rfl ?_
  refine lv_if_eq (tgt := 21) hx hb dX6_byteOf_4 (by decide) (fun c4 => absurd c4 (by decide)) (fun c4 => ?_)
  refine lv_iload_n hx hb dX6_byteOf_7 rfl (lv_at hl 2 rfl) ?_
  refine lv_if_lt (tgt := 21) hx hb dX6_byteOf_8 (by decide) (fun c8 => ?_) (fun c8 => ?_)
  · refine lv_bipush (v := -3) hx hb dX6_byteOf_21 (by decide) ?_
    exact z_iret F (rfl) hw hS (by unfold sp_byteOf1; rw [if_pos c8]; exact ⟨rfl, rfl, ⟨_, _, _, _, ⟨h100, h101, h102, h103, h104, h105, h106, h107, h108, h109, h110, h111⟩, hQ, hM⟩, hF⟩) dX6_byteOf_23
  · refine lv_iload_n hx hb dX6_byteOf_11 rfl (lv_at hl 2 rfl) ?_
    refine lv_aload_n hx hb dX6_byteOf_12 rfl (lv_at hl 0 rfl) ?_
    refine z_get F hw h100 fd_X6_13_X6 rfl dX6_byteOf_13 ?_
    refine lv_iload_n hx hb dX6_byteOf_16 rfl (lv_at hl 1 rfl) ?_
    refine z_ld F hw h101 (1) (rfl) (by decide) (by decide) dX6_byteOf_17 ?_
    refine z_top (nI (Q 1).length) ((hQ 1 (by decide)).2.1) ?_
    refine lv_icmp_lt (tgt := 24) hx hb dX6_byteOf_18 (by decide) (fun c18 => ?_) (fun c18 => ?_)
    · have hk8 := (hQ 1 (by decide)).1
      have hkl : kv.toNatClampNeg < (Q 1).length := rf_ixm (by omega) c8 c18
      obtain ⟨hm2, hm24, hmz, hmm⟩ := (hQ 1 (by decide)).2.2 kv.toNatClampNeg hkl
      have hmz : zs (8 + kv.toNatClampNeg) = nI ((Q 1).getD kv.toNatClampNeg []).length := hmz
      have hmm : ∀ i, i < ((Q 1).getD kv.toNatClampNeg []).length → bs (24 * (8 + kv.toNatClampNeg) + i) = nI (((Q 1).getD kv.toNatClampNeg []).getD i 0) ∧ ((Q 1).getD kv.toNatClampNeg []).getD i 0 < 256 := hmm
      refine lv_bipush (v := 8) hx hb dX6_byteOf_24 (by decide) ?_
      refine lv_iload_n hx hb dX6_byteOf_26 rfl (lv_at hl 1 rfl) ?_
      refine lv_imul hx hb dX6_byteOf_27 ?_
      refine z_top 8 (by decide) ?_
      refine lv_iload_n hx hb dX6_byteOf_28 rfl (lv_at hl 2 rfl) ?_
      refine lv_iadd hx hb dX6_byteOf_29 ?_
      refine z_top (nI (8 + kv.toNatClampNeg)) ((congrArg (fun z => (8 : Int32) + z) (rf_ixv c8)).trans (nI_add 8 _)) ?_
      refine lv_istore (lv' := [(4, .int (nI (8 + kv.toNatClampNeg))), (0, .ref (ad 100)), (1, .int 1), (2, .int kv), (3, .int iv0)]) hx hb dX6_byteOf_30 hl (by decide) rfl (fun ls hl => ?_)
      refine lv_iload_n hx hb dX6_byteOf_32 rfl (lv_at hl 4 rfl) ?_
      refine lv_if_lt (tgt := 62) hx hb dX6_byteOf_33 (by decide) (fun c33 => ?_) (fun c33 => ?_)
      · refine lv_bipush (v := -3) hx hb dX6_byteOf_62 (by decide) ?_
        exact z_iret F (rfl) hw hS (by unfold sp_byteOf1; rw [if_neg c8, if_pos c18, if_pos c33]; exact ⟨rfl, rfl, ⟨_, _, _, _, ⟨h100, h101, h102, h103, h104, h105, h106, h107, h108, h109, h110, h111⟩, hQ, hM⟩, hF⟩) dX6_byteOf_64
      · refine lv_iload_n hx hb dX6_byteOf_36 rfl (lv_at hl 4 rfl) ?_
        refine lv_aload_n hx hb dX6_byteOf_37 rfl (lv_at hl 1 rfl) ?_
        refine z_get F hw h100 fd_X6_17_X6 rfl dX6_byteOf_38 ?_
        refine lv_iload hx hb dX6_byteOf_41 (lv_at hl 0 rfl) ?_
        refine z_ld F hw h102 (8 + kv.toNatClampNeg) (rfl) (by omega) (by decide) dX6_byteOf_43 ?_
        refine z_top (nI ((Q 1).getD kv.toNatClampNeg []).length) (hmz) ?_
        refine lv_icmp_ge (tgt := 62) hx hb dX6_byteOf_44 (by decide) (fun c44 => ?_) (fun c44 => ?_)
        · refine lv_bipush (v := -3) hx hb dX6_byteOf_62 (by decide) ?_
          exact z_iret F (rfl) hw hS (by unfold sp_byteOf1; rw [if_neg c8, if_pos c18, if_neg c33, if_pos c44]; exact ⟨rfl, rfl, ⟨_, _, _, _, ⟨h100, h101, h102, h103, h104, h105, h106, h107, h108, h109, h110, h111⟩, hQ, hM⟩, hF⟩) dX6_byteOf_64
        · refine lv_aload_n hx hb dX6_byteOf_47 rfl (lv_at hl 1 rfl) ?_
          refine z_get F hw h100 fd_X6_20_X6 rfl dX6_byteOf_48 ?_
          refine lv_bipush (v := 24) hx hb dX6_byteOf_51 (by decide) ?_
          refine lv_iload hx hb dX6_byteOf_53 (lv_at hl 0 rfl) ?_
          refine lv_imul hx hb dX6_byteOf_55 ?_
          refine z_top (nI (24 * (8 + kv.toNatClampNeg))) (by rw [show (24 : Int32) = nI 24 from rfl, pk_mul]) ?_
          refine lv_iload_n hx hb dX6_byteOf_56 rfl (lv_at hl 4 rfl) ?_
          refine lv_iadd hx hb dX6_byteOf_57 ?_
          refine z_top (nI (24 * (8 + kv.toNatClampNeg) + iv0.toNatClampNeg)) ((congrArg (fun z => nI (24 * (8 + kv.toNatClampNeg)) + z) (rf_ixv c33)).trans (nI_add _ _)) ?_
          refine z_ld F hw h103 (24 * (8 + kv.toNatClampNeg) + iv0.toNatClampNeg) (rfl) (by have h9 := rf_ixl c33 c44; omega) (by decide) dX6_byteOf_58 ?_
          refine z_top (nI (((Q 1).getD kv.toNatClampNeg []).getD iv0.toNatClampNeg 0)) ((hmm iv0.toNatClampNeg (rf_ixl c33 c44)).1) ?_
          refine lv_goto (tgt := 64) hx hb dX6_byteOf_59 (by decide) ?_
          exact z_iret F (rfl) hw hS (by unfold sp_byteOf1; rw [if_neg c8, if_pos c18, if_neg c33, if_neg c44]; exact ⟨rfl, rfl, ⟨_, _, _, _, ⟨h100, h101, h102, h103, h104, h105, h106, h107, h108, h109, h110, h111⟩, hQ, hM⟩, hF⟩) dX6_byteOf_64
    · refine lv_bipush (v := -3) hx hb dX6_byteOf_21 (by decide) ?_
      exact z_iret F (rfl) hw hS (by unfold sp_byteOf1; rw [if_neg c8, if_neg c18]; exact ⟨rfl, rfl, ⟨_, _, _, _, ⟨h100, h101, h102, h103, h104, h105, h106, h107, h108, h109, h110, h111⟩, hQ, hM⟩, hF⟩) dX6_byteOf_23
def sp_byteOfx (T : rf_T) (Q : rf_Q) (M : List Nat) (a kv iv0 : Int32) : rf_R := ((-3), T, Q)
set_option maxHeartbeats 4000000 in
set_option maxRecDepth 100000 in
theorem r_byteOfx (l : Launch) {G : zz_G} {ad : Nat → Nat} {ce : zz_C} {sz : Nat} (T : rf_T) (Q : rf_Q) (M : List Nat) (hV : rfV G ad ce T Q M) (a kv iv0 : Int32) (hnw : ¬ (a = 0 ∨ a = 1)) : zz_M l yX6_byteOf cX6_byteOf 5 (some .int) 1 20 0 0 G [.ref (ad 100), .int a, .int kv, .int iv0] ad ce sz (fun r ad1 ce1 => r = some (.int (sp_byteOfx T Q M a kv iv0).1) ∧ ad = ad1 ∧ rfV G ad ce1 (sp_byteOfx T Q M a kv iv0).2.1 (sp_byteOfx T Q M a kv iv0).2.2 M ∧ (∀ j, j < 100 → ce1 j = ce j)) := by
  refine zz_enter (by decide) (Nat.le_of_ble_eq_true rfl) ?_
  intro p e s m below meth c ls F hl hw hS hA
  obtain ⟨hx, hb, hr, hml, hown, hts, hlocks, hK, hnm⟩ := id F
  have hl : lv_has ls 5 [(0, .ref (ad 100)), (1, .int a), (2, .int kv), (3, .int iv0)] := hl
  obtain ⟨cn, zs, bs, hh, ⟨h100, h101, h102, h103, h104, h105, h106, h107, h108, h109, h110, h111⟩, hQ, hM⟩ := hV
  have hF : ∀ j, j < 100 → ce j = ce j := fun _ _ => rfl
  refine lv_iload_n hx hb dX6_byteOf_0 rfl (lv_at hl 1 rfl) ?_
  refine z_invS F (rest := []) (r_isWay l a) ys_X6_145 ⟨Nat.le_of_ble_eq_true rfl, Nat.le_of_ble_eq_true rfl⟩ hw hA hS hl rfl rfl (Nat.le_of_ble_eq_true rfl) dX6_byteOf_1 ⟨Nat.le_of_ble_eq_true rfl, Nat.le_of_ble_eq_true rfl⟩ (fun r ad1 ce1 H locs hp hw hS => ?_)
  obtain ⟨hp, rfl, rfl⟩ := hp
  rcases hp with ⟨hn9, rfl⟩ | ⟨-, rfl⟩
  · exact absurd hn9 hnw
  refine W.eq (g2 := F0 m 4 ls [.int 0]) rfl ?_
  refine lv_if_eq (tgt := 21) hx hb dX6_byteOf_4 (by decide) (fun c4 => ?_) (fun c4 => absurd c4 (by decide))
  refine lv_bipush (v := -3) hx hb dX6_byteOf_21 (by decide) ?_
  exact z_iret F (rfl) hw hS (by unfold sp_byteOfx; exact ⟨rfl, rfl, ⟨_, _, _, _, ⟨h100, h101, h102, h103, h104, h105, h106, h107, h108, h109, h110, h111⟩, hQ, hM⟩, hF⟩) dX6_byteOf_23
