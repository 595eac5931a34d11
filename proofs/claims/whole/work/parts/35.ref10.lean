theorem rf_xor (a b : Nat) : nI a ^^^ nI b = nI (a ^^^ b) := by
  apply Int32.toBitVec_inj.1
  show BitVec.ofNat 32 a ^^^ BitVec.ofNat 32 b = BitVec.ofNat 32 (a ^^^ b)
  apply BitVec.eq_of_getLsbD_eq
  intro i hi
  simp [hi]
theorem rf_sd (x : List Nat) (i c : Nat) {j : Nat} (h : j < x.length) : (x.set i c).getD j 0 = if j = i then c else x.getD j 0 := by
  simp only [List.getD, List.getElem?_set]
  by_cases e : j = i
  · subst e
    simp [h]
  · simp [e, Ne.symm e]
theorem rfQ_spl {cn zs bs : Nat → Int32} {Q : rf_Q} {w c i : Nat} (h : rfQ cn zs bs Q) (hw : w < 2) (hq : ¬ nI (Q w).length = 0) (hi : i < ((Q w).headD []).length) (hc : c < 256) : rfQ cn zs (upd bs (24 * (8 * w + 0) + i) (nI c)) (va_up Q w (((Q w).headD []).set i c :: (Q w).tail)) := by
  have e := rf_hdtl hq
  obtain ⟨f1, f2, f3, f4⟩ := rfQ_first h hw hq
  intro v hv
  obtain ⟨g1, g2, g3⟩ := h v hv
  have keep : ∀ k y, 8 * v + k ≠ 8 * w + 0 → rfm zs bs (8 * v + k) y → rfm zs (upd bs (24 * (8 * w + 0) + i) (nI c)) (8 * v + k) y := by
    intro k y hne hm
    obtain ⟨m1, m2, m3, m4⟩ := hm
    refine ⟨m1, m2, m3, fun j hj => ?_⟩
    rw [rf_up_n _ _ (by omega)]
    exact m4 j hj
  by_cases hvw : v = w
  · subst hvw
    rw [rf_vu_s]
    have hlen : (((Q v).headD []).set i c :: (Q v).tail).length = (Q v).length := by rw [e]; simp
    refine ⟨by rw [hlen]; exact g1, by rw [hlen]; exact g2, fun k hk => ?_⟩
    rw [hlen] at hk
    cases k with
    | zero =>
      show rfm zs _ (8 * v + 0) (((Q v).headD []).set i c)
      refine ⟨by simpa using f1, by simpa using f2, by simpa using f3, fun j hj => ?_⟩
      have hj2 : j < ((Q v).headD []).length := by simpa using hj
      rw [rf_sd _ _ _ hj2]
      by_cases ej : j = i
      · subst ej
        rw [rf_up_s, if_pos rfl]
        exact ⟨rfl, hc⟩
      · rw [rf_up_n _ _ (by omega), if_neg ej]
        exact f4 j hj2
    | succ k =>
      have h3 := g3 (k + 1) hk
      rw [e] at h3
      exact keep (k + 1) _ (by omega) h3
  · rw [rf_vu_n _ _ hvw]
    obtain ⟨q1, -, -⟩ := h w hw
    exact ⟨g1, g2, fun k hk => keep k _ (by omega) (g3 k hk)⟩
theorem rf_c255 {v : Int32} (h0 : ¬ v < 0) (h : v ≤ 255) : v.toNatClampNeg < 256 := by
  obtain ⟨j, hj, e⟩ := nI_of h0
  rw [e, nI_clamp hj]
  rw [e] at h
  have := (nI_leI (b := 255) hj (by decide)).mp h
  omega
def sp_spoil0 (T : rf_T) (Q : rf_Q) (M : List Nat) (iv0 mv : Int32) : rf_R := (if (mv : Int32) < 0 then ((-1), T, Q) else (if (mv : Int32) ≤ 255 then (if ((nI (Q 0).length) : Int32) = 0 then ((-3), T, Q) else (if (iv0 : Int32) < 0 then ((-3), T, Q) else (if (iv0 : Int32) < (nI ((Q 0).headD []).length) then ((nI (((Q 0).headD []).getD iv0.toNatClampNeg 0 ^^^ mv.toNatClampNeg)), T, va_up Q 0 (((Q 0).headD []).set iv0.toNatClampNeg (((Q 0).headD []).getD iv0.toNatClampNeg 0 ^^^ mv.toNatClampNeg) :: (Q 0).tail)) else ((-3), T, Q)))) else ((-1), T, Q)))
set_option maxHeartbeats 4000000 in
set_option maxRecDepth 100000 in
theorem r_spoil0 (l : Launch) {G : zz_G} {ad : Nat → Nat} {ce : zz_C} {sz : Nat} (T : rf_T) (Q : rf_Q) (M : List Nat) (hV : rfV G ad ce T Q M) (iv0 mv : Int32) : zz_M l yX6_spoil cX6_spoil 5 (some .int) 1 20 0 0 G [.ref (ad 100), .int 0, .int iv0, .int mv] ad ce sz (fun r ad1 ce1 => r = some (.int (sp_spoil0 T Q M iv0 mv).1) ∧ ad = ad1 ∧ rfV G ad ce1 (sp_spoil0 T Q M iv0 mv).2.1 (sp_spoil0 T Q M iv0 mv).2.2 M ∧ (∀ j, j < 100 → ce1 j = ce j)) := by
  refine zz_enter (by decide) (Nat.le_of_ble_eq_true rfl) ?_
  intro p e s m below meth c ls F hl hw hS hA
  obtain ⟨hx, hb, hr, hml, hown, hts, hlocks, hK, hnm⟩ := id F
  have hl : lv_has ls 5 [(0, .ref (ad 100)), (1, .int 0), (2, .int iv0), (3, .int mv)] := hl
  obtain ⟨cn, zs, bs, hh, ⟨h100, h101, h102, h103, h104, h105, h106, h107, h108, h109, h110, h111⟩, hQ, hM⟩ := hV
  have hF : ∀ j, j < 100 → ce j = ce j := fun _ _ => rfl
  refine lv_iload_n hx hb dX6_spoil_0 rfl (lv_at hl 1 rfl) ?_
  refine z_invS F (rest := []) (r_isWay l 0) ys_X6_145 ⟨Nat.le_of_ble_eq_true rfl, Nat.le_of_ble_eq_true rfl⟩ hw hA hS hl rfl rfl (Nat.le_of_ble_eq_true rfl) dX6_spoil_1 ⟨Nat.le_of_ble_eq_true rfl, Nat.le_of_ble_eq_true rfl⟩ (fun r ad1 ce1 H locs hp hw hS => ?_)
  obtain ⟨hp, rfl, rfl⟩ := hp
  rcases hp with ⟨-, rfl⟩ | ⟨hn9, rfl⟩
  rotate_left
  · exact absurd (Or.inl rfl) hn9
  refine W.eq (g2 := F0 m 4 ls [.int 1]) rfl ?_
  refine lv_if_eq (tgt := 18) hx hb dX6_spoil_4 (by decide) (fun c4 => absurd c4 (by decide)) (fun c4 => ?_)
  refine lv_iload_n hx hb dX6_spoil_7 rfl (lv_at hl 3 rfl) ?_
  refine lv_if_lt (tgt := 18) hx hb dX6_spoil_8 (by decide) (fun c8 => ?_) (fun c8 => ?_)
  · refine lv_iconst (v := -1) hx hb dX6_spoil_18 (by decide) ?_
    exact z_iret F (rfl) hw hS (by unfold sp_spoil0; rw [if_pos c8]; exact ⟨rfl, rfl, ⟨_, _, _, _, ⟨h100, h101, h102, h103, h104, h105, h106, h107, h108, h109, h110, h111⟩, hQ, hM⟩, hF⟩) dX6_spoil_19
  · refine lv_iload_n hx hb dX6_spoil_11 rfl (lv_at hl 3 rfl) ?_
    refine lv_sipush (v := 255) hx hb dX6_spoil_12 (by decide) ?_
    refine lv_icmp_le (tgt := 20) hx hb dX6_spoil_15 (by decide) (fun c15 => ?_) (fun c15 => ?_)
    · refine lv_aload_n hx hb dX6_spoil_20 rfl (lv_at hl 0 rfl) ?_
      refine z_get F hw h100 fd_X6_13_X6 rfl dX6_spoil_21 ?_
      refine lv_iload_n hx hb dX6_spoil_24 rfl (lv_at hl 1 rfl) ?_
      refine z_ld F hw h101 (0) (rfl) (by decide) (by decide) dX6_spoil_25 ?_
      refine z_top (nI (Q 0).length) ((hQ 0 (by decide)).2.1) ?_
      refine lv_if_eq (tgt := 46) hx hb dX6_spoil_26 (by decide) (fun c26 => ?_) (fun c26 => ?_)
      · refine lv_bipush (v := -3) hx hb dX6_spoil_46 (by decide) ?_
        exact z_iret F (rfl) hw hS (by unfold sp_spoil0; rw [if_neg c8, if_pos c15, if_pos c26]; exact ⟨rfl, rfl, ⟨_, _, _, _, ⟨h100, h101, h102, h103, h104, h105, h106, h107, h108, h109, h110, h111⟩, hQ, hM⟩, hF⟩) dX6_spoil_48
      · refine lv_iload_n hx hb dX6_spoil_29 rfl (lv_at hl 2 rfl) ?_
        refine lv_if_lt (tgt := 46) hx hb dX6_spoil_30 (by decide) (fun c30 => ?_) (fun c30 => ?_)
        · refine lv_bipush (v := -3) hx hb dX6_spoil_46 (by decide) ?_
          exact z_iret F (rfl) hw hS (by unfold sp_spoil0; rw [if_neg c8, if_pos c15, if_neg c26, if_pos c30]; exact ⟨rfl, rfl, ⟨_, _, _, _, ⟨h100, h101, h102, h103, h104, h105, h106, h107, h108, h109, h110, h111⟩, hQ, hM⟩, hF⟩) dX6_spoil_48
        · obtain ⟨hx2, hx24, hxz, hxm⟩ := rfQ_first hQ (by decide) c26
          refine lv_iload_n hx hb dX6_spoil_33 rfl (lv_at hl 2 rfl) ?_
          refine lv_aload_n hx hb dX6_spoil_34 rfl (lv_at hl 0 rfl) ?_
          refine z_get F hw h100 fd_X6_17_X6 rfl dX6_spoil_35 ?_
          refine lv_bipush (v := 8) hx hb dX6_spoil_38 (by decide) ?_
          refine lv_iload_n hx hb dX6_spoil_40 rfl (lv_at hl 1 rfl) ?_
          refine lv_imul hx hb dX6_spoil_41 ?_
          refine z_top 0 (by decide) ?_
          refine z_ld F hw h102 (0) (rfl) (by decide) (by decide) dX6_spoil_42 ?_
          refine z_top (nI ((Q 0).headD []).length) (hxz) ?_
          refine lv_icmp_lt (tgt := 49) hx hb dX6_spoil_43 (by decide) (fun c43 => ?_) (fun c43 => ?_)
          · have hii : iv0.toNatClampNeg < ((Q 0).headD []).length := rf_ixm (by omega) c30 c43
            have hmm := rf_c255 c8 c15
            have hb8 := (hxm iv0.toNatClampNeg hii).2
            refine lv_sipush (v := 192) hx hb dX6_spoil_49 (by decide) ?_
            refine lv_iload_n hx hb dX6_spoil_52 rfl (lv_at hl 1 rfl) ?_
            refine lv_imul hx hb dX6_spoil_53 ?_
            refine z_top 0 (by decide) ?_
            refine lv_iload_n hx hb dX6_spoil_54 rfl (lv_at hl 2 rfl) ?_
            refine lv_iadd hx hb dX6_spoil_55 ?_
            refine z_top (nI (24 * (8 * 0 + 0) + iv0.toNatClampNeg)) ((congrArg (fun z => (0 : Int32) + z) (rf_ixv c30)).trans (nI_add 0 _)) ?_
            refine lv_istore (lv' := [(4, .int (nI (24 * (8 * 0 + 0) + iv0.toNatClampNeg))), (0, .ref (ad 100)), (1, .int 0), (2, .int iv0), (3, .int mv)]) hx hb dX6_spoil_56 hl (by decide) rfl (fun ls hl => ?_)
            refine lv_aload_n hx hb dX6_spoil_58 rfl (lv_at hl 1 rfl) ?_
            refine z_get F hw h100 fd_X6_20_X6 rfl dX6_spoil_59 ?_
            refine lv_iload hx hb dX6_spoil_62 (lv_at hl 0 rfl) ?_
            refine lv_aload_n hx hb dX6_spoil_64 rfl (lv_at hl 1 rfl) ?_
            refine z_get F hw h100 fd_X6_20_X6 rfl dX6_spoil_65 ?_
            refine lv_iload hx hb dX6_spoil_68 (lv_at hl 0 rfl) ?_
            refine z_ld F hw h103 (24 * (8 * 0 + 0) + iv0.toNatClampNeg) (rfl) (by omega) (by decide) dX6_spoil_70 ?_
            refine z_top (nI (((Q 0).headD []).getD iv0.toNatClampNeg 0)) ((hxm iv0.toNatClampNeg hii).1) ?_
            refine lv_iload_n hx hb dX6_spoil_71 rfl (lv_at hl 4 rfl) ?_
            refine lv_ixor hx hb dX6_spoil_72 ?_
            refine z_top (nI (((Q 0).headD []).getD iv0.toNatClampNeg 0 ^^^ mv.toNatClampNeg)) ((congrArg (fun z => nI (((Q 0).headD []).getD iv0.toNatClampNeg 0) ^^^ z) (rf_ixv c8)).trans (rf_xor _ _)) ?_
            refine z_st F hw hS h103 (24 * (8 * 0 + 0) + iv0.toNatClampNeg) (rfl) (by omega) (by decide) dX6_spoil_73 (fun ce2 H locs h103 fr3 hw hS => ?_)
            have h100 := (fr3 100 (by decide)).trans h100
            have h101 := (fr3 101 (by decide)).trans h101
            have h102 := (fr3 102 (by decide)).trans h102
            have h104 := (fr3 104 (by decide)).trans h104
            have h105 := (fr3 105 (by decide)).trans h105
            have h106 := (fr3 106 (by decide)).trans h106
            have h107 := (fr3 107 (by decide)).trans h107
            have h108 := (fr3 108 (by decide)).trans h108
            have h109 := (fr3 109 (by decide)).trans h109
            have h110 := (fr3 110 (by decide)).trans h110
            have h111 := (fr3 111 (by decide)).trans h111
            have hF : ∀ j, j < 100 → _ = ce j := fun j hj => (fr3 j (by omega)).trans (hF j hj)
            have hQ := rfQ_spl hQ (by decide) c26 hii (c := (((Q 0).headD []).getD iv0.toNatClampNeg 0 ^^^ mv.toNatClampNeg)) (Nat.xor_lt_two_pow (n := 8) hb8 hmm)
            refine lv_aload_n hx hb dX6_spoil_74 rfl (lv_at hl 1 rfl) ?_
            refine z_get F hw h100 fd_X6_20_X6 rfl dX6_spoil_75 ?_
            refine lv_iload hx hb dX6_spoil_78 (lv_at hl 0 rfl) ?_
            refine z_ld F hw h103 (24 * (8 * 0 + 0) + iv0.toNatClampNeg) (rfl) (by omega) (by decide) dX6_spoil_80 ?_
            refine z_top (nI (((Q 0).headD []).getD iv0.toNatClampNeg 0 ^^^ mv.toNatClampNeg)) (rf_up_s _ _ _) ?_
            exact z_iret F (rfl) hw hS (by unfold sp_spoil0; rw [if_neg c8, if_pos c15, if_neg c26, if_neg c30, if_pos c43]; exact ⟨rfl, rfl, ⟨_, _, _, _, ⟨h100, h101, h102, h103, h104, h105, h106, h107, h108, h109, h110, h111⟩, hQ, hM⟩, hF⟩) dX6_spoil_81
          · refine lv_bipush (v := -3) hx hb dX6_spoil_46 (by decide) ?_
            exact z_iret F (rfl) hw hS (by unfold sp_spoil0; rw [if_neg c8, if_pos c15, if_neg c26, if_neg c30, if_neg c43]; exact ⟨rfl, rfl, ⟨_, _, _, _, ⟨h100, h101, h102, h103, h104, h105, h106, h107, h108, h109, h110, h111⟩, hQ, hM⟩, hF⟩) dX6_spoil_48
    · refine lv_iconst (v := -1) hx hb dX6_spoil_18 (by decide) ?_
      exact z_iret F (rfl) hw hS (by unfold sp_spoil0; rw [if_neg c8, if_neg c15]; exact ⟨rfl, rfl, ⟨_, _, _, _, ⟨h100, h101, h102, h103, h104, h105, h106, h107, h108, h109, h110, h111⟩, hQ, hM⟩, hF⟩) dX6_spoil_19
def sp_spoil1 (T : rf_T) (Q : rf_Q) (M : List Nat) (iv0 mv : Int32) : rf_R := (if (mv : Int32) < 0 then ((-1), T, Q) else (if (mv : Int32) ≤ 255 then (if ((nI (Q 1).length) : Int32) = 0 then ((-3), T, Q) else (if (iv0 : Int32) < 0 then ((-3), T, Q) else (if (iv0 : Int32) < (nI ((Q 1).headD []).length) then ((nI (((Q 1).headD []).getD iv0.toNatClampNeg 0 ^^^ mv.toNatClampNeg)), T, va_up Q 1 (((Q 1).headD []).set iv0.toNatClampNeg (((Q 1).headD []).getD iv0.toNatClampNeg 0 ^^^ mv.toNatClampNeg) :: (Q 1).tail)) else ((-3), T, Q)))) else ((-1), T, Q)))
set_option maxHeartbeats 4000000 in
set_option maxRecDepth 100000 in
theorem r_spoil1 (l : Launch) {G : zz_G} {ad : Nat → Nat} {ce : zz_C} {sz : Nat} (T : rf_T) (Q : rf_Q) (M : List Nat) (hV : rfV G ad ce T Q M) (iv0 mv : Int32) : zz_M l yX6_spoil cX6_spoil 5 (some .int) 1 20 0 0 G [.ref (ad 100), .int 1, .int iv0, .int mv] ad ce sz (fun r ad1 ce1 => r = some (.int (sp_spoil1 T Q M iv0 mv).1) ∧ ad = ad1 ∧ rfV G ad ce1 (sp_spoil1 T Q M iv0 mv).2.1 (sp_spoil1 T Q M iv0 mv).2.2 M ∧ (∀ j, j < 100 → ce1 j = ce j)) := by
  refine zz_enter (by decide) (Nat.le_of_ble_eq_true rfl) ?_
  intro p e s m below meth c ls F hl hw hS hA
  obtain ⟨hx, hb, hr, hml, hown, hts, hlocks, hK, hnm⟩ := id F
  have hl : lv_has ls 5 [(0, .ref (ad 100)), (1, .int 1), (2, .int iv0), (3, .int mv)] := hl
  obtain ⟨cn, zs, bs, hh, ⟨h100, h101, h102, h103, h104, h105, h106, h107, h108, h109, h110, h111⟩, hQ, hM⟩ := hV
  have hF : ∀ j, j < 100 → ce j = ce j := fun _ _ => rfl
  refine lv_iload_n hx hb dX6_spoil_0 rfl (lv_at hl 1 rfl) ?_
  refine z_invS F (rest := []) (r_isWay l 1) ys_X6_145 ⟨Nat.le_of_ble_eq_true rfl, Nat.le_of_ble_eq_true rfl⟩ hw hA hS hl rfl rfl (Nat.le_of_ble_eq_true rfl) dX6_spoil_1 ⟨Nat.le_of_ble_eq_true rfl, Nat.le_of_ble_eq_true rfl⟩ (fun r ad1 ce1 H locs hp hw hS => ?_)
  obtain ⟨hp, rfl, rfl⟩ := hp
  rcases hp with ⟨-, rfl⟩ | ⟨hn9, rfl⟩
  rotate_left
  · exact absurd (Or.inr rfl) hn9
  refine W.eq (g2 := F0 m 4 ls [.int 1]) rfl ?_
  refine lv_if_eq (tgt := 18) hx hb dX6_spoil_4 (by decide) (fun c4 => absurd c4 (by decide)) (fun c4 => ?_)
  refine lv_iload_n hx hb dX6_spoil_7 rfl (lv_at hl 3 rfl) ?_
  refine lv_if_lt (tgt := 18) hx hb dX6_spoil_8 (by decide) (fun c8 => ?_) (fun c8 => ?_)
  · refine lv_iconst (v := -1) hx hb dX6_spoil_18 (by decide) ?_
    exact z_iret F (rfl) hw hS (by unfold sp_spoil1; rw [if_pos c8]; exact ⟨rfl, rfl, ⟨_, _, _, _, ⟨h100, h101, h102, h103, h104, h105, h106, h107, h108, h109, h110, h111⟩, hQ, hM⟩, hF⟩) dX6_spoil_19
  · refine lv_iload_n hx hb dX6_spoil_11 rfl (lv_at hl 3 rfl) ?_
    refine lv_sipush (v := 255) hx hb dX6_spoil_12 (by decide) ?_
    refine lv_icmp_le (tgt := 20) hx hb dX6_spoil_15 (by decide) (fun c15 => ?_) (fun c15 => ?_)
    · refine lv_aload_n hx hb dX6_spoil_20 rfl (lv_at hl 0 rfl) ?_
      refine z_get F hw h100 fd_X6_13_X6 rfl dX6_spoil_21 ?_
      refine lv_iload_n hx hb dX6_spoil_24 rfl (lv_at hl 1 rfl) ?_
      refine z_ld F hw h101 (1) (rfl) (by decide) (by decide) dX6_spoil_25 ?_
      refine z_top (nI (Q 1).length) ((hQ 1 (by decide)).2.1) ?_
      refine lv_if_eq (tgt := 46) hx hb dX6_spoil_26 (by decide) (fun c26 => ?_) (fun c26 => ?_)
      · refine lv_bipush (v := -3) hx hb dX6_spoil_46 (by decide) ?_
        exact z_iret F (rfl) hw hS (by unfold sp_spoil1; rw [if_neg c8, if_pos c15, if_pos c26]; exact ⟨rfl, rfl, ⟨_, _, _, _, ⟨h100, h101, h102, h103, h104, h105, h106, h107, h108, h109, h110, h111⟩, hQ, hM⟩, hF⟩) dX6_spoil_48
      · refine lv_iload_n hx hb dX6_spoil_29 rfl (lv_at hl 2 rfl) ?_
        refine lv_if_lt (tgt := 46) hx hb dX6_spoil_30 (by decide) (fun c30 => ?_) (fun c30 => ?_)
        · refine lv_bipush (v := -3) hx hb dX6_spoil_46 (by decide) ?_
          exact z_iret F (rfl) hw hS (by unfold sp_spoil1; rw [if_neg c8, if_pos c15, if_neg c26, if_pos c30]; exact ⟨rfl, rfl, ⟨_, _, _, _, ⟨h100, h101, h102, h103, h104, h105, h106, h107, h108, h109, h110, h111⟩, hQ, hM⟩, hF⟩) dX6_spoil_48
        · obtain ⟨hx2, hx24, hxz, hxm⟩ := rfQ_first hQ (by decide) c26
          refine lv_iload_n hx hb dX6_spoil_33 rfl (lv_at hl 2 rfl) ?_
          refine lv_aload_n hx hb dX6_spoil_34 rfl (lv_at hl 0 rfl) ?_
          refine z_get F hw h100 fd_X6_17_X6 rfl dX6_spoil_35 ?_
          refine lv_bipush (v := 8) hx hb dX6_spoil_38 (by decide) ?_
          refine lv_iload_n hx hb dX6_spoil_40 rfl (lv_at hl 1 rfl) ?_
          refine lv_imul hx hb dX6_spoil_41 ?_
          refine z_top 8 (by decide) ?_
          refine z_ld F hw h102 (8) (rfl) (by decide) (by decide) dX6_spoil_42 ?_
          refine z_top (nI ((Q 1).headD []).length) (hxz) ?_
          refine lv_icmp_lt (tgt := 49) hx hb dX6_spoil_43 (by decide) (fun c43 => ?_) (fun c43 => ?_)
          · have hii : iv0.toNatClampNeg < ((Q 1).headD []).length := rf_ixm (by omega) c30 c43
            have hmm := rf_c255 c8 c15
            have hb8 := (hxm iv0.toNatClampNeg hii).2
            refine lv_sipush (v := 192) hx hb dX6_spoil_49 (by decide) ?_
            refine lv_iload_n hx hb dX6_spoil_52 rfl (lv_at hl 1 rfl) ?_
            refine lv_imul hx hb dX6_spoil_53 ?_
            refine z_top 192 (by decide) ?_
            refine lv_iload_n hx hb dX6_spoil_54 rfl (lv_at hl 2 rfl) ?_
            refine lv_iadd hx hb dX6_spoil_55 ?_
            refine z_top (nI (24 * (8 * 1 + 0) + iv0.toNatClampNeg)) ((congrArg (fun z => (192 : Int32) + z) (rf_ixv c30)).trans (nI_add 192 _)) ?_
            refine lv_istore (lv' := [(4, .int (nI (24 * (8 * 1 + 0) + iv0.toNatClampNeg))), (0, .ref (ad 100)), (1, .int 1), (2, .int iv0), (3, .int mv)]) hx hb dX6_spoil_56 hl (by decide) rfl (fun ls hl => ?_)
            refine lv_aload_n hx hb dX6_spoil_58 rfl (lv_at hl 1 rfl) ?_
            refine z_get F hw h100 fd_X6_20_X6 rfl dX6_spoil_59 ?_
            refine lv_iload hx hb dX6_spoil_62 (lv_at hl 0 rfl) ?_
            refine lv_aload_n hx hb dX6_spoil_64 rfl (lv_at hl 1 rfl) ?_
            refine z_get F hw h100 fd_X6_20_X6 rfl dX6_spoil_65 ?_
            refine lv_iload hx hb dX6_spoil_68 (lv_at hl 0 rfl) ?_
            refine z_ld F hw h103 (24 * (8 * 1 + 0) + iv0.toNatClampNeg) (rfl) (by omega) (by decide) dX6_spoil_70 ?_
            refine z_top (nI (((Q 1).headD []).getD iv0.toNatClampNeg 0)) ((hxm iv0.toNatClampNeg hii).1) ?_
            refine lv_iload_n hx hb dX6_spoil_71 rfl (lv_at hl 4 rfl) ?_
            refine lv_ixor hx hb dX6_spoil_72 ?_
            refine z_top (nI (((Q 1).headD []).getD iv0.toNatClampNeg 0 ^^^ mv.toNatClampNeg)) ((congrArg (fun z => nI (((Q 1).headD []).getD iv0.toNatClampNeg 0) ^^^ z) (rf_ixv c8)).trans (rf_xor _ _)) ?_
            refine z_st F hw hS h103 (24 * (8 * 1 + 0) + iv0.toNatClampNeg) (rfl) (by omega) (by decide) dX6_spoil_73 (fun ce2 H locs h103 fr3 hw hS => ?_)
            have h100 := (fr3 100 (by decide)).trans h100
            have h101 := (fr3 101 (by decide)).trans h101
            have h102 := (fr3 102 (by decide)).trans h102
            have h104 := (fr3 104 (by decide)).trans h104
            have h105 := (fr3 105 (by decide)).trans h105
            have h106 := (fr3 106 (by decide)).trans h106
            have h107 := (fr3 107 (by decide)).trans h107
            have h108 := (fr3 108 (by decide)).trans h108
            have h109 := (fr3 109 (by decide)).trans h109
            have h110 := (fr3 110 (by decide)).trans h110
            have h111 := (fr3 111 (by decide)).trans h111
            have hF : ∀ j, j < 100 → _ = ce j := fun j hj => (fr3 j (by omega)).trans (hF j hj)
            have hQ := rfQ_spl hQ (by decide) c26 hii (c := (((Q 1).headD []).getD iv0.toNatClampNeg 0 ^^^ mv.toNatClampNeg)) (Nat.xor_lt_two_pow (n := 8) hb8 hmm)
            refine lv_aload_n hx hb dX6_spoil_74 rfl (lv_at hl 1 rfl) ?_
            refine z_get F hw h100 fd_X6_20_X6 rfl dX6_spoil_75 ?_
            refine lv_iload hx hb dX6_spoil_78 (lv_at hl 0 rfl) ?_
            refine z_ld F hw h103 (24 * (8 * 1 + 0) + iv0.toNatClampNeg) (rfl) (by omega) (by decide) dX6_spoil_80 ?_
            refine z_top (nI (((Q 1).headD []).getD iv0.toNatClampNeg 0 ^^^ mv.toNatClampNeg)) (rf_up_s _ _ _) ?_
            exact z_iret F (rfl) hw hS (by unfold sp_spoil1; rw [if_neg c8, if_pos c15, if_neg c26, if_neg c30, if_pos c43]; exact ⟨rfl, rfl, ⟨_, _, _, _, ⟨h100, h101, h102, h103, h104, h105, h106, h107, h108, h109, h110, h111⟩, hQ, hM⟩, hF⟩) dX6_spoil_81
          · refine lv_bipush (v := -3) hx hb dX6_spoil_46 (by decide) ?_
            exact z_iret F (rfl) hw hS (by unfold sp_spoil1; rw [if_neg c8, if_pos c15, if_neg c26, if_neg c30, if_neg c43]; exact ⟨rfl, rfl, ⟨_, _, _, _, ⟨h100, h101, h102, h103, h104, h105, h106, h107, h108, h109, h110, h111⟩, hQ, hM⟩, hF⟩) dX6_spoil_48
    · refine lv_iconst (v := -1) hx hb dX6_spoil_18 (by decide) ?_
      exact z_iret F (rfl) hw hS (by unfold sp_spoil1; rw [if_neg c8, if_neg c15]; exact ⟨rfl, rfl, ⟨_, _, _, _, ⟨h100, h101, h102, h103, h104, h105, h106, h107, h108, h109, h110, h111⟩, hQ, hM⟩, hF⟩) dX6_spoil_19
def sp_spoilx (T : rf_T) (Q : rf_Q) (M : List Nat) (a iv0 mv : Int32) : rf_R := ((-1), T, Q)
set_option maxHeartbeats 4000000 in
set_option maxRecDepth 100000 in
theorem r_spoilx (l : Launch) {G : zz_G} {ad : Nat → Nat} {ce : zz_C} {sz : Nat} (T : rf_T) (Q : rf_Q) (M : List Nat) (hV : rfV G ad ce T Q M) (a iv0 mv : Int32) (hnw : ¬ (a = 0 ∨ a = 1)) : zz_M l yX6_spoil cX6_spoil 5 (some .int) 1 20 0 0 G [.ref (ad 100), .int a, .int iv0, .int mv] ad ce sz (fun r ad1 ce1 => r = some (.int (sp_spoilx T Q M a iv0 mv).1) ∧ ad = ad1 ∧ rfV G ad ce1 (sp_spoilx T Q M a iv0 mv).2.1 (sp_spoilx T Q M a iv0 mv).2.2 M ∧ (∀ j, j < 100 → ce1 j = ce j)) := by
  refine zz_enter (by decide) (Nat.le_of_ble_eq_true rfl) ?_
  intro p e s m below meth c ls F hl hw hS hA
  obtain ⟨hx, hb, hr, hml, hown, hts, hlocks, hK, hnm⟩ := id F
  have hl : lv_has ls 5 [(0, .ref (ad 100)), (1, .int a), (2, .int iv0), (3, .int mv)] := hl
  obtain ⟨cn, zs, bs, hh, ⟨h100, h101, h102, h103, h104, h105, h106, h107, h108, h109, h110, h111⟩, hQ, hM⟩ := hV
  have hF : ∀ j, j < 100 → ce j = ce j := fun _ _ => rfl
  refine lv_iload_n hx hb dX6_spoil_0 rfl (lv_at hl 1 rfl) ?_
  refine z_invS F (rest := []) (r_isWay l a) ys_X6_145 ⟨Nat.le_of_ble_eq_true rfl, Nat.le_of_ble_eq_true rfl⟩ hw hA hS hl rfl rfl (Nat.le_of_ble_eq_true rfl) dX6_spoil_1 ⟨Nat.le_of_ble_eq_true rfl, Nat.le_of_ble_eq_true rfl⟩ (fun r ad1 ce1 H locs hp hw hS => ?_)
  obtain ⟨hp, rfl, rfl⟩ := hp
  rcases hp with ⟨hn9, rfl⟩ | ⟨-, rfl⟩
  · exact absurd hn9 hnw
  refine W.eq (g2 := F0 m 4 ls [.int 0]) rfl ?_
  refine lv_if_eq (tgt := 18) hx hb dX6_spoil_4 (by decide) (fun c4 => ?_) (fun c4 => absurd c4 (by decide))
  refine lv_iconst (v := -1) hx hb dX6_spoil_18 (by decide) ?_
  exact z_iret F (rfl) hw hS (by unfold sp_spoilx; exact ⟨rfl, rfl, ⟨_, _, _, _, ⟨h100, h101, h102, h103, h104, h105, h106, h107, h108, h109, h110, h111⟩, hQ, hM⟩, hF⟩) dX6_spoil_19
def rf_lb (v : Int64) (j : Nat) : Nat := v.toBitVec.toNat / 2 ^ (8 * j) % 256
theorem rf_lb_lt (v : Int64) (j : Nat) : rf_lb v j < 256 := Nat.mod_lt _ (by decide)
theorem rf_lb_0 (v s : Int64) (j : Nat) (hs : (s.toBitVec.smod 64).toNat = 8 * j) (hj : j ≤ 7) : ((v >>> s) &&& 255).toInt32 = nI (rf_lb v j) := by
  have e : (v >>> s).toBitVec = v.toBitVec.sshiftRight (8 * j) := by
    show v.toBitVec.sshiftRight' (s.toBitVec.smod 64) = _
    rw [BitVec.sshiftRight', hs]
  apply Int32.toBitVec_inj.1
  show ((v >>> s).toBitVec &&& 255#64).signExtend 32 = BitVec.ofNat 32 (rf_lb v j)
  rw [e]
  unfold rf_lb
  apply BitVec.eq_of_toNat_eq
  have h1 : (v.toBitVec.sshiftRight (8 * j) &&& 255#64) = ((v.toBitVec >>> (8 * j)).setWidth 8).setWidth 64 := by
    apply BitVec.eq_of_getLsbD_eq
    intro i hi
    simp only [BitVec.getLsbD_and, BitVec.getLsbD_sshiftRight, BitVec.getLsbD_setWidth, BitVec.getLsbD_ushiftRight]
    have h255 : (255#64).getLsbD i = decide (i < 8) := by
      have : ∀ i, i < 64 → (255#64).getLsbD i = decide (i < 8) := by decide +kernel
      exact this i hi
    rw [h255]
    by_cases h8 : i < 8
    · have h9 : 8 * j + i < 64 := by omega
      simp [hi, h8, h9]
    · simp [hi, h8]
  rw [h1]
  rw [BitVec.signExtend_eq_setWidth_of_le _ (show (32 : Nat) ≤ 64 by decide)]
  simp only [BitVec.toNat_setWidth, BitVec.toNat_ushiftRight, BitVec.toNat_ofNat, Nat.shiftRight_eq_div_pow]
  omega
theorem rf_lb_k (v : Int64) {j : Nat} (hj : j ≤ 7) : ((v >>> ((nI (8 * j)).toInt64 &&& 63)) &&& 255).toInt32 = nI (rf_lb v j) := by
  refine rf_lb_0 v _ j ?_ hj
  have : ∀ j, j ≤ 7 → (((nI (8 * j)).toInt64 &&& 63).toBitVec.smod 64).toNat = 8 * j := by decide +kernel
  exact this j hj
def rf_fb (v : Int64) (n c : Nat) : List Nat := (List.range (n - c)).map (fun i => rf_lb v (n - 1 - i))
theorem rf_fb_2 (v : Int64) {n : Nat} (h : 2 ≤ n) : rf_fb v n (n - 2) = [rf_lb v (n - 1), rf_lb v (n - 2)] := by
  unfold rf_fb
  rw [show n - (n - 2) = 2 by omega]
  simp [List.range_succ]
  rw [show n - 1 - 1 = n - 2 by omega]
theorem rf_fb_s (v : Int64) {n c : Nat} (h : c + 1 ≤ n) : rf_fb v n (c + 1) ++ [rf_lb v c] = rf_fb v n c := by
  unfold rf_fb
  rw [show n - c = (n - (c + 1)) + 1 by omega, List.range_succ]
  simp
  rw [show n - 1 - (n - (c + 1)) = c by omega]
theorem rf_fb_l (v : Int64) (n c : Nat) : (rf_fb v n c).length = n - c := by simp [rf_fb]
