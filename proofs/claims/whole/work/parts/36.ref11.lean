theorem rf_n3 : ∀ n, n ≤ 8 → 2 ≤ n → nI n - 3 = nI (n - 2) - 1 := by decide +kernel
theorem rf_28 {v : Int32} (h1 : ¬ v < 2) (h2 : v ≤ 8) : v = nI v.toNatClampNeg ∧ 2 ≤ v.toNatClampNeg ∧ v.toNatClampNeg ≤ 8 := by
  have h0 : ¬ v < 0 := fun q => h1 (by
    rw [Int32.lt_iff_toInt_lt] at q ⊢
    rw [Int32.toInt_zero] at q
    rw [show (2 : Int32).toInt = 2 from rfl]
    omega)
  obtain ⟨j, hj, e⟩ := nI_of h0
  rw [e, nI_clamp hj]
  rw [e] at h1 h2
  have a := (nI_leI (b := 8) hj (by decide)).mp h2
  have b : ¬ j < 2 := fun q => h1 (nI_lt (b := 2) q (by decide))
  exact ⟨rfl, by omega, a⟩
def sp_forge0 (T : rf_T) (Q : rf_Q) (M : List Nat) (v : Int64) (nv : Int32) : rf_R := (if (nv : Int32) < 2 then ((-1), T, Q) else (if (nv : Int32) ≤ 8 then (if ((T 0 4) : Int32) = 0 then (if ((nI (Q 0).length) : Int32) = 8 then ((-2), T, Q) else ((nI (rf_put T Q 0 (rf_fb v (nv.toNatClampNeg) 0) 0).length), T, rf_put T Q 0 (rf_fb v (nv.toNatClampNeg) 0))) else ((-2), T, Q)) else ((-1), T, Q)))
set_option maxHeartbeats 4000000 in
set_option maxRecDepth 100000 in
theorem r_forge0 (l : Launch) {G : zz_G} {ad : Nat → Nat} {ce : zz_C} {sz : Nat} (T : rf_T) (Q : rf_Q) (M : List Nat) (hV : rfV G ad ce T Q M) (v : Int64) (nv : Int32) : zz_M l yX6_forge cX6_forge 7 (some .int) 1 24 0 0 G [.ref (ad 100), .int 0, .long v, .int nv] ad ce sz (fun r ad1 ce1 => r = some (.int (sp_forge0 T Q M v nv).1) ∧ ad = ad1 ∧ rfV G ad ce1 (sp_forge0 T Q M v nv).2.1 (sp_forge0 T Q M v nv).2.2 M ∧ (∀ j, j < 100 → ce1 j = ce j)) := by
  refine zz_enter (by decide) (Nat.le_of_ble_eq_true rfl) ?_
  intro p e s m below meth c ls F hl hw hS hA
  obtain ⟨hx, hb, hr, hml, hown, hts, hlocks, hK, hnm⟩ := id F
  have hl : lv_has ls 7 [(0, .ref (ad 100)), (1, .int 0), (2, .long v), (4, .int nv)] := hl
  obtain ⟨cn, zs, bs, hh, ⟨h100, h101, h102, h103, h104, h105, h106, h107, h108, h109, h110, h111⟩, hQ, hM⟩ := hV
  have hF : ∀ j, j < 100 → ce j = ce j := fun _ _ => rfl
  refine lv_iload_n hx hb dX6_forge_0 rfl (lv_at hl 1 rfl) ?_
  refine z_invS F (rest := []) (r_isWay l 0) ys_X6_145 ⟨Nat.le_of_ble_eq_true rfl, Nat.le_of_ble_eq_true rfl⟩ hw hA hS hl rfl rfl (Nat.le_of_ble_eq_true rfl) dX6_forge_1 ⟨Nat.le_of_ble_eq_true rfl, Nat.le_of_ble_eq_true rfl⟩ (fun r ad1 ce1 H locs hp hw hS => ?_)
  obtain ⟨hp, rfl, rfl⟩ := hp
  rcases hp with ⟨-, rfl⟩ | ⟨hn9, rfl⟩
  rotate_left
  · exact absurd (Or.inl rfl) hn9
  refine W.eq (g2 := F0 m 4 ls [.int 1]) rfl ?_
  refine lv_if_eq (tgt := 20) hx hb dX6_forge_4 (by decide) (fun c4 => absurd c4 (by decide)) (fun c4 => ?_)
  refine lv_iload hx hb dX6_forge_7 (lv_at hl 3 rfl) ?_
  refine lv_iconst (v := 2) hx hb dX6_forge_9 (by decide) ?_
  refine lv_icmp_lt (tgt := 20) hx hb dX6_forge_10 (by decide) (fun c10 => ?_) (fun c10 => ?_)
  · refine lv_iconst (v := -1) hx hb dX6_forge_20 (by decide) ?_
    exact z_iret F (rfl) hw hS (by unfold sp_forge0; rw [if_pos c10]; exact ⟨rfl, rfl, ⟨_, _, _, _, ⟨h100, h101, h102, h103, h104, h105, h106, h107, h108, h109, h110, h111⟩, hQ, hM⟩, hF⟩) dX6_forge_21
  · refine lv_iload hx hb dX6_forge_13 (lv_at hl 3 rfl) ?_
    refine lv_bipush (v := 8) hx hb dX6_forge_15 (by decide) ?_
    refine lv_icmp_le (tgt := 22) hx hb dX6_forge_17 (by decide) (fun c17 => ?_) (fun c17 => ?_)
    · refine lv_aload_n hx hb dX6_forge_22 rfl (lv_at hl 0 rfl) ?_
      refine z_get F hw h100 fd_X6_60_X6 rfl dX6_forge_23 ?_
      refine lv_if_ne (tgt := 40) hx hb dX6_forge_26 (by decide) (fun c26 => ?_) (fun c26 => ?_)
      · refine lv_bipush (v := -2) hx hb dX6_forge_40 (by decide) ?_
        exact z_iret F (rfl) hw hS (by unfold sp_forge0; rw [if_neg c10, if_pos c17, if_neg c26]; exact ⟨rfl, rfl, ⟨_, _, _, _, ⟨h100, h101, h102, h103, h104, h105, h106, h107, h108, h109, h110, h111⟩, hQ, hM⟩, hF⟩) dX6_forge_42
      · refine lv_aload_n hx hb dX6_forge_29 rfl (lv_at hl 0 rfl) ?_
        refine z_get F hw h100 fd_X6_13_X6 rfl dX6_forge_30 ?_
        refine lv_iload_n hx hb dX6_forge_33 rfl (lv_at hl 1 rfl) ?_
        refine z_ld F hw h101 (0) (rfl) (by decide) (by decide) dX6_forge_34 ?_
        refine z_top (nI (Q 0).length) ((hQ 0 (by decide)).2.1) ?_
        refine lv_bipush (v := 8) hx hb dX6_forge_35 (by decide) ?_
        refine lv_icmp_ne (tgt := 43) hx hb dX6_forge_37 (by decide) (fun c37 => ?_) (fun c37 => ?_)
        · obtain ⟨hnv, hn2, hn8⟩ := rf_28 c10 c17
          refine lv_aload_n hx hb dX6_forge_43 rfl (lv_at hl 0 rfl) ?_
          refine lv_iload_n hx hb dX6_forge_44 rfl (lv_at hl 1 rfl) ?_
          refine lv_lload_n hx hb dX6_forge_45 rfl (lv_at hl 2 rfl) ?_
          refine lv_bipush (v := 8) hx hb dX6_forge_46 (by decide) ?_
          refine lv_iload hx hb dX6_forge_48 (lv_at hl 3 rfl) ?_
          refine lv_iconst (v := 1) hx hb dX6_forge_50 (by decide) ?_
          refine lv_isub hx hb dX6_forge_51 ?_
          refine z_top (nI (nv.toNatClampNeg - 1)) ((congrArg (fun z => z - 1) hnv).trans (pk_sub (b := 1) (by omega))) ?_
          refine lv_imul hx hb dX6_forge_52 ?_
          refine z_top (nI (8 * (nv.toNatClampNeg - 1))) (pk_mul 8 _) ?_
          refine lv_lshr hx hb dX6_forge_53 rfl ?_
          refine lv_ldc2 (v := 255) hx hb hown (hts _ wd_872) dX6_forge_54 ?_
          refine lv_land hx hb dX6_forge_57 ?_
          refine lv_l2i hx hb dX6_forge_58 rfl ?_
          refine z_top (nI (rf_lb v (nv.toNatClampNeg - 1))) (rf_lb_k v (by omega)) ?_
          refine lv_lload_n hx hb dX6_forge_59 rfl (lv_at hl 2 rfl) ?_
          refine lv_bipush (v := 8) hx hb dX6_forge_60 (by decide) ?_
          refine lv_iload hx hb dX6_forge_62 (lv_at hl 3 rfl) ?_
          refine lv_iconst (v := 2) hx hb dX6_forge_64 (by decide) ?_
          refine lv_isub hx hb dX6_forge_65 ?_
          refine z_top (nI (nv.toNatClampNeg - 2)) ((congrArg (fun z => z - 2) hnv).trans (pk_sub (b := 2) (by omega))) ?_
          refine lv_imul hx hb dX6_forge_66 ?_
          refine z_top (nI (8 * (nv.toNatClampNeg - 2))) (pk_mul 8 _) ?_
          refine lv_lshr hx hb dX6_forge_67 rfl ?_
          refine lv_ldc2 (v := 255) hx hb hown (hts _ wd_872) dX6_forge_68 ?_
          refine lv_land hx hb dX6_forge_71 ?_
          refine lv_l2i hx hb dX6_forge_72 rfl ?_
          refine z_top (nI (rf_lb v (nv.toNatClampNeg - 2))) (rf_lb_k v (by omega)) ?_
          have hV : rfV G ad ce T Q M := ⟨_, _, _, _, ⟨h100, h101, h102, h103, h104, h105, h106, h107, h108, h109, h110, h111⟩, hQ, hM⟩
          refine z_invV F (rest := []) (r_put0 l T Q M hV (rf_lb v (nv.toNatClampNeg - 1)) (rf_lb v (nv.toNatClampNeg - 2)) (rf_lb_lt _ _) (rf_lb_lt _ _)) yv_X6_64 ⟨Nat.le_of_ble_eq_true rfl, Nat.le_of_ble_eq_true rfl⟩ hw hA hS hl h100 rfl rfl rfl (Nat.le_of_ble_eq_true rfl) dX6_forge_73 ⟨Nat.le_of_ble_eq_true rfl, Nat.le_of_ble_eq_true rfl⟩ (fun r ad1 ce2 H locs hp hw hS => ?_)
          obtain ⟨rfl, rfl, hV, hF2⟩ := hp
          have hF : ∀ j, j < 100 → ce2 j = ce j := fun j hj => (hF2 j hj).trans (hF j hj)
          rw [← rf_fb_2 v hn2] at hV
          obtain ⟨cn, zs, bs, hh, ⟨h100, h101, h102, h103, h104, h105, h106, h107, h108, h109, h110, h111⟩, hQ, hM⟩ := hV
          refine W.eq (g2 := F0 m 76 ls [.int (rf_hd T Q 0)]) rfl ?_
          refine lv_istore (lv' := [(5, .int (rf_hd T Q 0)), (0, .ref (ad 100)), (1, .int 0), (2, .long v), (4, .int nv)]) hx hb dX6_forge_76 hl (by decide) rfl (fun ls hl => ?_)
          refine lv_iload hx hb dX6_forge_78 (lv_at hl 4 rfl) ?_
          refine lv_iconst (v := 3) hx hb dX6_forge_80 (by decide) ?_
          refine lv_isub hx hb dX6_forge_81 ?_
          refine z_top (nI (nv.toNatClampNeg - 2) - 1) ((congrArg (fun z => z - 3) hnv).trans (rf_n3 _ hn8 hn2)) ?_
          refine lv_istore (lv' := [(6, .int (nI (nv.toNatClampNeg - 2) - 1)), (5, .int (rf_hd T Q 0)), (0, .ref (ad 100)), (1, .int 0), (2, .long v), (4, .int nv)]) hx hb dX6_forge_82 hl (by decide) rfl (fun ls hl => ?_)
          refine z_loop (α := Nat) (fun a => a) (fun a ce9 ls9 => lv_has ls9 7 [(0, .ref (ad 100)), (1, .int 0), (2, .long v), (4, .int nv), (5, .int (rf_hd T Q 0)), (6, .int (nI a - 1))] ∧ rfV G ad ce9 T (rf_put T Q 0 (rf_fb v (nv.toNatClampNeg) a)) M ∧ (∀ j, j < 100 → ce9 j = ce j) ∧ a ≤ nv.toNatClampNeg - 2) (nv.toNatClampNeg - 2) ⟨lv_sub hl [2, 3, 4, 5, 1, 0] rfl, ⟨_, _, _, _, ⟨h100, h101, h102, h103, h104, h105, h106, h107, h108, h109, h110, h111⟩, hQ, hM⟩, hF, Nat.le_refl _⟩ hw hS (fun a ih84 ce9 H locs ls hI hw hS => ?_)
          obtain ⟨hl, hV, hF, hcn9⟩ := hI
          rcases a with _ | c9
          · have hl : lv_has ls 7 [(0, .ref (ad 100)), (1, .int 0), (2, .long v), (4, .int nv), (5, .int (rf_hd T Q 0)), (6, .int (nI 0 - 1))] := hl
            obtain ⟨cn, zs, bs, hh, ⟨h100, h101, h102, h103, h104, h105, h106, h107, h108, h109, h110, h111⟩, hQ, hM⟩ := hV
            refine lv_iload hx hb dX6_forge_84 (lv_at hl 5 rfl) ?_
            refine lv_if_lt (tgt := 113) hx hb dX6_forge_86 (by decide) (fun c86 => ?_) (fun c86 => absurd (show (nI 0 - 1 : Int32) < 0 by decide) c86)
            refine lv_aload_n hx hb dX6_forge_113 rfl (lv_at hl 0 rfl) ?_
            refine z_get F hw h100 fd_X6_13_X6 rfl dX6_forge_114 ?_
            refine lv_iload_n hx hb dX6_forge_117 rfl (lv_at hl 1 rfl) ?_
            refine z_ld F hw h101 (0) (rfl) (by decide) (by decide) dX6_forge_118 ?_
            refine z_top (nI (rf_put T Q 0 (rf_fb v (nv.toNatClampNeg) 0) 0).length) ((hQ 0 (by decide)).2.1) ?_
            exact z_iret F (rfl) hw hS (by unfold sp_forge0; rw [if_neg c10, if_pos c17, if_pos c26, if_neg c37]; exact ⟨rfl, rfl, ⟨_, _, _, _, ⟨h100, h101, h102, h103, h104, h105, h106, h107, h108, h109, h110, h111⟩, hQ, hM⟩, hF⟩) dX6_forge_119
          · have hl : lv_has ls 7 [(0, .ref (ad 100)), (1, .int 0), (2, .long v), (4, .int nv), (5, .int (rf_hd T Q 0)), (6, .int (nI c9))] := by rw [← nI_pred c9]; exact hl
            obtain ⟨cn, zs, bs, hh, ⟨h100, h101, h102, h103, h104, h105, h106, h107, h108, h109, h110, h111⟩, hQ, hM⟩ := hV
            refine lv_iload hx hb dX6_forge_84 (lv_at hl 5 rfl) ?_
            refine lv_if_lt (tgt := 113) hx hb dX6_forge_86 (by decide) (fun c86 => absurd c86 (nI_pos (by omega))) (fun c86 => ?_)
            refine lv_aload_n hx hb dX6_forge_89 rfl (lv_at hl 0 rfl) ?_
            refine lv_iload hx hb dX6_forge_90 (lv_at hl 4 rfl) ?_
            refine lv_lload_n hx hb dX6_forge_92 rfl (lv_at hl 2 rfl) ?_
            refine lv_bipush (v := 8) hx hb dX6_forge_93 (by decide) ?_
            refine lv_iload hx hb dX6_forge_95 (lv_at hl 5 rfl) ?_
            refine lv_imul hx hb dX6_forge_97 ?_
            refine z_top (nI (8 * c9)) (pk_mul 8 _) ?_
            refine lv_lshr hx hb dX6_forge_98 rfl ?_
            refine lv_ldc2 (v := 255) hx hb hown (hts _ wd_872) dX6_forge_99 ?_
            refine lv_land hx hb dX6_forge_102 ?_
            refine lv_l2i hx hb dX6_forge_103 rfl ?_
            refine z_top (nI (rf_lb v c9)) (rf_lb_k v (by omega)) ?_
            have hV : rfV G ad ce9 T (rf_put T Q 0 (rf_fb v (nv.toNatClampNeg) (c9 + 1))) M := ⟨_, _, _, _, ⟨h100, h101, h102, h103, h104, h105, h106, h107, h108, h109, h110, h111⟩, hQ, hM⟩
            refine z_invV F (rest := []) (r_more l T Q M 0 (rf_fb v (nv.toNatClampNeg) (c9 + 1)) hV (by decide) (by rw [rf_fb_l]; omega) (nI (rf_lb v c9))) yv_X6_68 ⟨Nat.le_of_ble_eq_true rfl, Nat.le_of_ble_eq_true rfl⟩ hw hA hS hl h100 rfl rfl rfl (Nat.le_of_ble_eq_true rfl) dX6_forge_104 ⟨Nat.le_of_ble_eq_true rfl, Nat.le_of_ble_eq_true rfl⟩ (fun r ad1 ce3 H locs hp hw hS => ?_)
            obtain ⟨rfl, rfl, hV, hF2⟩ := hp
            have hF : ∀ j, j < 100 → ce3 j = ce j := fun j hj => (hF2 j hj).trans (hF j hj)
            rw [rf_zb_nI (rf_lb_lt _ _), rf_fb_s v (by omega)] at hV
            obtain ⟨cn, zs, bs, hh, ⟨h100, h101, h102, h103, h104, h105, h106, h107, h108, h109, h110, h111⟩, hQ, hM⟩ := hV
            refine W.eq (g2 := F0 m 107 ls []) rfl ?_
            refine lv_iinc (v := nI c9 - 1) (lv' := [(6, .int (nI c9 - 1)), (0, .ref (ad 100)), (1, .int 0), (2, .long v), (4, .int nv), (5, .int (rf_hd T Q 0))]) hx hb dX6_forge_107 hl (k := 5) rfl (by rw [Int32.sub_eq_add_neg]; rfl) (by decide) rfl (fun ls hl => ?_)
            refine lv_goto (tgt := 84) hx hb dX6_forge_110 (by decide) ?_
            exact ih84 c9 _ _ _ _ (by omega) ⟨lv_sub hl [1, 2, 3, 4, 5, 0] rfl, ⟨_, _, _, _, ⟨h100, h101, h102, h103, h104, h105, h106, h107, h108, h109, h110, h111⟩, hQ, hM⟩, hF, by omega⟩ hw hS
        · refine lv_bipush (v := -2) hx hb dX6_forge_40 (by decide) ?_
          exact z_iret F (rfl) hw hS (by unfold sp_forge0; rw [if_neg c10, if_pos c17, if_pos c26, if_pos c37]; exact ⟨rfl, rfl, ⟨_, _, _, _, ⟨h100, h101, h102, h103, h104, h105, h106, h107, h108, h109, h110, h111⟩, hQ, hM⟩, hF⟩) dX6_forge_42
    · refine lv_iconst (v := -1) hx hb dX6_forge_20 (by decide) ?_
      exact z_iret F (rfl) hw hS (by unfold sp_forge0; rw [if_neg c10, if_neg c17]; exact ⟨rfl, rfl, ⟨_, _, _, _, ⟨h100, h101, h102, h103, h104, h105, h106, h107, h108, h109, h110, h111⟩, hQ, hM⟩, hF⟩) dX6_forge_21
def sp_forge1 (T : rf_T) (Q : rf_Q) (M : List Nat) (v : Int64) (nv : Int32) : rf_R := (if (nv : Int32) < 2 then ((-1), T, Q) else (if (nv : Int32) ≤ 8 then (if ((T 0 4) : Int32) = 0 then (if ((nI (Q 1).length) : Int32) = 8 then ((-2), T, Q) else ((nI (rf_put T Q 1 (rf_fb v (nv.toNatClampNeg) 0) 1).length), T, rf_put T Q 1 (rf_fb v (nv.toNatClampNeg) 0))) else ((-2), T, Q)) else ((-1), T, Q)))
set_option maxHeartbeats 4000000 in
set_option maxRecDepth 100000 in
theorem r_forge1 (l : Launch) {G : zz_G} {ad : Nat → Nat} {ce : zz_C} {sz : Nat} (T : rf_T) (Q : rf_Q) (M : List Nat) (hV : rfV G ad ce T Q M) (v : Int64) (nv : Int32) : zz_M l yX6_forge cX6_forge 7 (some .int) 1 24 0 0 G [.ref (ad 100), .int 1, .long v, .int nv] ad ce sz (fun r ad1 ce1 => r = some (.int (sp_forge1 T Q M v nv).1) ∧ ad = ad1 ∧ rfV G ad ce1 (sp_forge1 T Q M v nv).2.1 (sp_forge1 T Q M v nv).2.2 M ∧ (∀ j, j < 100 → ce1 j = ce j)) := by
  refine zz_enter (by decide) (Nat.le_of_ble_eq_true rfl) ?_
  intro p e s m below meth c ls F hl hw hS hA
  obtain ⟨hx, hb, hr, hml, hown, hts, hlocks, hK, hnm⟩ := id F
  have hl : lv_has ls 7 [(0, .ref (ad 100)), (1, .int 1), (2, .long v), (4, .int nv)] := hl
  obtain ⟨cn, zs, bs, hh, ⟨h100, h101, h102, h103, h104, h105, h106, h107, h108, h109, h110, h111⟩, hQ, hM⟩ := hV
  have hF : ∀ j, j < 100 → ce j = ce j := fun _ _ => rfl
  refine lv_iload_n hx hb dX6_forge_0 rfl (lv_at hl 1 rfl) ?_
  refine z_invS F (rest := []) (r_isWay l 1) ys_X6_145 ⟨Nat.le_of_ble_eq_true rfl, Nat.le_of_ble_eq_true rfl⟩ hw hA hS hl rfl rfl (Nat.le_of_ble_eq_true rfl) dX6_forge_1 ⟨Nat.le_of_ble_eq_true rfl, Nat.le_of_ble_eq_true rfl⟩ (fun r ad1 ce1 H locs hp hw hS => ?_)
  obtain ⟨hp, rfl, rfl⟩ := hp
  rcases hp with ⟨-, rfl⟩ | ⟨hn9, rfl⟩
  rotate_left
  · exact absurd (Or.inr rfl) hn9
  refine W.eq (g2 := F0 m 4 ls [.int 1]) rfl ?_
  refine lv_if_eq (tgt := 20) hx hb dX6_forge_4 (by decide) (fun c4 => absurd c4 (by decide)) (fun c4 => ?_)
  refine lv_iload hx hb dX6_forge_7 (lv_at hl 3 rfl) ?_
  refine lv_iconst (v := 2) hx hb dX6_forge_9 (by decide) ?_
  refine lv_icmp_lt (tgt := 20) hx hb dX6_forge_10 (by decide) (fun c10 => ?_) (fun c10 => ?_)
  · refine lv_iconst (v := -1) hx hb dX6_forge_20 (by decide) ?_
    exact z_iret F (rfl) hw hS (by unfold sp_forge1; rw [if_pos c10]; exact ⟨rfl, rfl, ⟨_, _, _, _, ⟨h100, h101, h102, h103, h104, h105, h106, h107, h108, h109, h110, h111⟩, hQ, hM⟩, hF⟩) dX6_forge_21
  · refine lv_iload hx hb dX6_forge_13 (lv_at hl 3 rfl) ?_
    refine lv_bipush (v := 8) hx hb dX6_forge_15 (by decide) ?_
    refine lv_icmp_le (tgt := 22) hx hb dX6_forge_17 (by decide) (fun c17 => ?_) (fun c17 => ?_)
    · refine lv_aload_n hx hb dX6_forge_22 rfl (lv_at hl 0 rfl) ?_
      refine z_get F hw h100 fd_X6_60_X6 rfl dX6_forge_23 ?_
      refine lv_if_ne (tgt := 40) hx hb dX6_forge_26 (by decide) (fun c26 => ?_) (fun c26 => ?_)
      · refine lv_bipush (v := -2) hx hb dX6_forge_40 (by decide) ?_
        exact z_iret F (rfl) hw hS (by unfold sp_forge1; rw [if_neg c10, if_pos c17, if_neg c26]; exact ⟨rfl, rfl, ⟨_, _, _, _, ⟨h100, h101, h102, h103, h104, h105, h106, h107, h108, h109, h110, h111⟩, hQ, hM⟩, hF⟩) dX6_forge_42
      · refine lv_aload_n hx hb dX6_forge_29 rfl (lv_at hl 0 rfl) ?_
        refine z_get F hw h100 fd_X6_13_X6 rfl dX6_forge_30 ?_
        refine lv_iload_n hx hb dX6_forge_33 rfl (lv_at hl 1 rfl) ?_
        refine z_ld F hw h101 (1) (rfl) (by decide) (by decide) dX6_forge_34 ?_
        refine z_top (nI (Q 1).length) ((hQ 1 (by decide)).2.1) ?_
        refine lv_bipush (v := 8) hx hb dX6_forge_35 (by decide) ?_
        refine lv_icmp_ne (tgt := 43) hx hb dX6_forge_37 (by decide) (fun c37 => ?_) (fun c37 => ?_)
        · obtain ⟨hnv, hn2, hn8⟩ := rf_28 c10 c17
          refine lv_aload_n hx hb dX6_forge_43 rfl (lv_at hl 0 rfl) ?_
          refine lv_iload_n hx hb dX6_forge_44 rfl (lv_at hl 1 rfl) ?_
          refine lv_lload_n hx hb dX6_forge_45 rfl (lv_at hl 2 rfl) ?_
          refine lv_bipush (v := 8) hx hb dX6_forge_46 (by decide) ?_
          refine lv_iload hx hb dX6_forge_48 (lv_at hl 3 rfl) ?_
          refine lv_iconst (v := 1) hx hb dX6_forge_50 (by decide) ?_
          refine lv_isub hx hb dX6_forge_51 ?_
          refine z_top (nI (nv.toNatClampNeg - 1)) ((congrArg (fun z => z - 1) hnv).trans (pk_sub (b := 1) (by omega))) ?_
          refine lv_imul hx hb dX6_forge_52 ?_
          refine z_top (nI (8 * (nv.toNatClampNeg - 1))) (pk_mul 8 _) ?_
          refine lv_lshr hx hb dX6_forge_53 rfl ?_
          refine lv_ldc2 (v := 255) hx hb hown (hts _ wd_872) dX6_forge_54 ?_
          refine lv_land hx hb dX6_forge_57 ?_
          refine lv_l2i hx hb dX6_forge_58 rfl ?_
          refine z_top (nI (rf_lb v (nv.toNatClampNeg - 1))) (rf_lb_k v (by omega)) ?_
          refine lv_lload_n hx hb dX6_forge_59 rfl (lv_at hl 2 rfl) ?_
          refine lv_bipush (v := 8) hx hb dX6_forge_60 (by decide) ?_
          refine lv_iload hx hb dX6_forge_62 (lv_at hl 3 rfl) ?_
          refine lv_iconst (v := 2) hx hb dX6_forge_64 (by decide) ?_
          refine lv_isub hx hb dX6_forge_65 ?_
          refine z_top (nI (nv.toNatClampNeg - 2)) ((congrArg (fun z => z - 2) hnv).trans (pk_sub (b := 2) (by omega))) ?_
          refine lv_imul hx hb dX6_forge_66 ?_
          refine z_top (nI (8 * (nv.toNatClampNeg - 2))) (pk_mul 8 _) ?_
          refine lv_lshr hx hb dX6_forge_67 rfl ?_
          refine lv_ldc2 (v := 255) hx hb hown (hts _ wd_872) dX6_forge_68 ?_
          refine lv_land hx hb dX6_forge_71 ?_
          refine lv_l2i hx hb dX6_forge_72 rfl ?_
          refine z_top (nI (rf_lb v (nv.toNatClampNeg - 2))) (rf_lb_k v (by omega)) ?_
          have hV : rfV G ad ce T Q M := ⟨_, _, _, _, ⟨h100, h101, h102, h103, h104, h105, h106, h107, h108, h109, h110, h111⟩, hQ, hM⟩
          refine z_invV F (rest := []) (r_put1 l T Q M hV (rf_lb v (nv.toNatClampNeg - 1)) (rf_lb v (nv.toNatClampNeg - 2)) (rf_lb_lt _ _) (rf_lb_lt _ _)) yv_X6_64 ⟨Nat.le_of_ble_eq_true rfl, Nat.le_of_ble_eq_true rfl⟩ hw hA hS hl h100 rfl rfl rfl (Nat.le_of_ble_eq_true rfl) dX6_forge_73 ⟨Nat.le_of_ble_eq_true rfl, Nat.le_of_ble_eq_true rfl⟩ (fun r ad1 ce2 H locs hp hw hS => ?_)
          obtain ⟨rfl, rfl, hV, hF2⟩ := hp
          have hF : ∀ j, j < 100 → ce2 j = ce j := fun j hj => (hF2 j hj).trans (hF j hj)
          rw [← rf_fb_2 v hn2] at hV
          obtain ⟨cn, zs, bs, hh, ⟨h100, h101, h102, h103, h104, h105, h106, h107, h108, h109, h110, h111⟩, hQ, hM⟩ := hV
          refine W.eq (g2 := F0 m 76 ls [.int (rf_hd T Q 1)]) rfl ?_
          refine lv_istore (lv' := [(5, .int (rf_hd T Q 1)), (0, .ref (ad 100)), (1, .int 1), (2, .long v), (4, .int nv)]) hx hb dX6_forge_76 hl (by decide) rfl (fun ls hl => ?_)
          refine lv_iload hx hb dX6_forge_78 (lv_at hl 4 rfl) ?_
          refine lv_iconst (v := 3) hx hb dX6_forge_80 (by decide) ?_
          refine lv_isub hx hb dX6_forge_81 ?_
          refine z_top (nI (nv.toNatClampNeg - 2) - 1) ((congrArg (fun z => z - 3) hnv).trans (rf_n3 _ hn8 hn2)) ?_
          refine lv_istore (lv' := [(6, .int (nI (nv.toNatClampNeg - 2) - 1)), (5, .int (rf_hd T Q 1)), (0, .ref (ad 100)), (1, .int 1), (2, .long v), (4, .int nv)]) hx hb dX6_forge_82 hl (by decide) rfl (fun ls hl => ?_)
          refine z_loop (α := Nat) (fun a => a) (fun a ce9 ls9 => lv_has ls9 7 [(0, .ref (ad 100)), (1, .int 1), (2, .long v), (4, .int nv), (5, .int (rf_hd T Q 1)), (6, .int (nI a - 1))] ∧ rfV G ad ce9 T (rf_put T Q 1 (rf_fb v (nv.toNatClampNeg) a)) M ∧ (∀ j, j < 100 → ce9 j = ce j) ∧ a ≤ nv.toNatClampNeg - 2) (nv.toNatClampNeg - 2) ⟨lv_sub hl [2, 3, 4, 5, 1, 0] rfl, ⟨_, _, _, _, ⟨h100, h101, h102, h103, h104, h105, h106, h107, h108, h109, h110, h111⟩, hQ, hM⟩, hF, Nat.le_refl _⟩ hw hS (fun a ih84 ce9 H locs ls hI hw hS => ?_)
          obtain ⟨hl, hV, hF, hcn9⟩ := hI
          rcases a with _ | c9
          · have hl : lv_has ls 7 [(0, .ref (ad 100)), (1, .int 1), (2, .long v), (4, .int nv), (5, .int (rf_hd T Q 1)), (6, .int (nI 0 - 1))] := hl
            obtain ⟨cn, zs, bs, hh, ⟨h100, h101, h102, h103, h104, h105, h106, h107, h108, h109, h110, h111⟩, hQ, hM⟩ := hV
            refine lv_iload hx hb dX6_forge_84 (lv_at hl 5 rfl) ?_
            refine lv_if_lt (tgt := 113) hx hb dX6_forge_86 (by decide) (fun c86 => ?_) (fun c86 => absurd (show (nI 0 - 1 : Int32) < 0 by decide) c86)
            refine lv_aload_n hx hb dX6_forge_113 rfl (lv_at hl 0 rfl) ?_
            refine z_get F hw h100 fd_X6_13_X6 rfl dX6_forge_114 ?_
            refine lv_iload_n hx hb dX6_forge_117 rfl (lv_at hl 1 rfl) ?_
            refine z_ld F hw h101 (1) (rfl) (by decide) (by decide) dX6_forge_118 ?_
            refine z_top (nI (rf_put T Q 1 (rf_fb v (nv.toNatClampNeg) 0) 1).length) ((hQ 1 (by decide)).2.1) ?_
            exact z_iret F (rfl) hw hS (by unfold sp_forge1; rw [if_neg c10, if_pos c17, if_pos c26, if_neg c37]; exact ⟨rfl, rfl, ⟨_, _, _, _, ⟨h100, h101, h102, h103, h104, h105, h106, h107, h108, h109, h110, h111⟩, hQ, hM⟩, hF⟩) dX6_forge_119
          · have hl : lv_has ls 7 [(0, .ref (ad 100)), (1, .int 1), (2, .long v), (4, .int nv), (5, .int (rf_hd T Q 1)), (6, .int (nI c9))] := by rw [← nI_pred c9]; exact hl
            obtain ⟨cn, zs, bs, hh, ⟨h100, h101, h102, h103, h104, h105, h106, h107, h108, h109, h110, h111⟩, hQ, hM⟩ := hV
            refine lv_iload hx hb dX6_forge_84 (lv_at hl 5 rfl) ?_
            refine lv_if_lt (tgt := 113) hx hb dX6_forge_86 (by decide) (fun c86 => absurd c86 (nI_pos (by omega))) (fun c86 => ?_)
            refine lv_aload_n hx hb dX6_forge_89 rfl (lv_at hl 0 rfl) ?_
            refine lv_iload hx hb dX6_forge_90 (lv_at hl 4 rfl) ?_
            refine lv_lload_n hx hb dX6_forge_92 rfl (lv_at hl 2 rfl) ?_
            refine lv_bipush (v := 8) hx hb dX6_forge_93 (by decide) ?_
            refine lv_iload hx hb dX6_forge_95 (lv_at hl 5 rfl) ?_
            refine lv_imul hx hb dX6_forge_97 ?_
            refine z_top (nI (8 * c9)) (pk_mul 8 _) ?_
            refine lv_lshr hx hb dX6_forge_98 rfl ?_
            refine lv_ldc2 (v := 255) hx hb hown (hts _ wd_872) dX6_forge_99 ?_
            refine lv_land hx hb dX6_forge_102 ?_
            refine lv_l2i hx hb dX6_forge_103 rfl ?_
            refine z_top (nI (rf_lb v c9)) (rf_lb_k v (by omega)) ?_
            have hV : rfV G ad ce9 T (rf_put T Q 1 (rf_fb v (nv.toNatClampNeg) (c9 + 1))) M := ⟨_, _, _, _, ⟨h100, h101, h102, h103, h104, h105, h106, h107, h108, h109, h110, h111⟩, hQ, hM⟩
            refine z_invV F (rest := []) (r_more l T Q M 1 (rf_fb v (nv.toNatClampNeg) (c9 + 1)) hV (by decide) (by rw [rf_fb_l]; omega) (nI (rf_lb v c9))) yv_X6_68 ⟨Nat.le_of_ble_eq_true rfl, Nat.le_of_ble_eq_true rfl⟩ hw hA hS hl h100 rfl rfl rfl (Nat.le_of_ble_eq_true rfl) dX6_forge_104 ⟨Nat.le_of_ble_eq_true rfl, Nat.le_of_ble_eq_true rfl⟩ (fun r ad1 ce3 H locs hp hw hS => ?_)
            obtain ⟨rfl, rfl, hV, hF2⟩ := hp
            have hF : ∀ j, j < 100 → ce3 j = ce j := fun j hj => (hF2 j hj).trans (hF j hj)
            rw [rf_zb_nI (rf_lb_lt _ _), rf_fb_s v (by omega)] at hV
            obtain ⟨cn, zs, bs, hh, ⟨h100, h101, h102, h103, h104, h105, h106, h107, h108, h109, h110, h111⟩, hQ, hM⟩ := hV
            refine W.eq (g2 := F0 m 107 ls []) rfl ?_
            refine lv_iinc (v := nI c9 - 1) (lv' := [(6, .int (nI c9 - 1)), (0, .ref (ad 100)), (1, .int 1), (2, .long v), (4, .int nv), (5, .int (rf_hd T Q 1))]) hx hb dX6_forge_107 hl (k := 5) rfl (by rw [Int32.sub_eq_add_neg]; rfl) (by decide) rfl (fun ls hl => ?_)
            refine lv_goto (tgt := 84) hx hb dX6_forge_110 (by decide) ?_
            exact ih84 c9 _ _ _ _ (by omega) ⟨lv_sub hl [1, 2, 3, 4, 5, 0] rfl, ⟨_, _, _, _, ⟨h100, h101, h102, h103, h104, h105, h106, h107, h108, h109, h110, h111⟩, hQ, hM⟩, hF, by omega⟩ hw hS
        · refine lv_bipush (v := -2) hx hb dX6_forge_40 (by decide) ?_
          exact z_iret F (rfl) hw hS (by unfold sp_forge1; rw [if_neg c10, if_pos c17, if_pos c26, if_pos c37]; exact ⟨rfl, rfl, ⟨_, _, _, _, ⟨h100, h101, h102, h103, h104, h105, h106, h107, h108, h109, h110, h111⟩, hQ, hM⟩, hF⟩) dX6_forge_42
    · refine lv_iconst (v := -1) hx hb dX6_forge_20 (by decide) ?_
      exact z_iret F (rfl) hw hS (by unfold sp_forge1; rw [if_neg c10, if_neg c17]; exact ⟨rfl, rfl, ⟨_, _, _, _, ⟨h100, h101, h102, h103, h104, h105, h106, h107, h108, h109, h110, h111⟩, hQ, hM⟩, hF⟩) dX6_forge_21
def sp_forgex (T : rf_T) (Q : rf_Q) (M : List Nat) (a : Int32) (v : Int64) (nv : Int32) : rf_R := ((-1), T, Q)
set_option maxHeartbeats 4000000 in
set_option maxRecDepth 100000 in
theorem r_forgex (l : Launch) {G : zz_G} {ad : Nat → Nat} {ce : zz_C} {sz : Nat} (T : rf_T) (Q : rf_Q) (M : List Nat) (hV : rfV G ad ce T Q M) (a : Int32) (v : Int64) (nv : Int32) (hnw : ¬ (a = 0 ∨ a = 1)) : zz_M l yX6_forge cX6_forge 7 (some .int) 1 24 0 0 G [.ref (ad 100), .int a, .long v, .int nv] ad ce sz (fun r ad1 ce1 => r = some (.int (sp_forgex T Q M a v nv).1) ∧ ad = ad1 ∧ rfV G ad ce1 (sp_forgex T Q M a v nv).2.1 (sp_forgex T Q M a v nv).2.2 M ∧ (∀ j, j < 100 → ce1 j = ce j)) := by
  refine zz_enter (by decide) (Nat.le_of_ble_eq_true rfl) ?_
  intro p e s m below meth c ls F hl hw hS hA
  obtain ⟨hx, hb, hr, hml, hown, hts, hlocks, hK, hnm⟩ := id F
  have hl : lv_has ls 7 [(0, .ref (ad 100)), (1, .int a), (2, .long v), (4, .int nv)] := hl
  obtain ⟨cn, zs, bs, hh, ⟨h100, h101, h102, h103, h104, h105, h106, h107, h108, h109, h110, h111⟩, hQ, hM⟩ := hV
  have hF : ∀ j, j < 100 → ce j = ce j := fun _ _ => rfl
  refine lv_iload_n hx hb dX6_forge_0 rfl (lv_at hl 1 rfl) ?_
  refine z_invS F (rest := []) (r_isWay l a) ys_X6_145 ⟨Nat.le_of_ble_eq_true rfl, Nat.le_of_ble_eq_true rfl⟩ hw hA hS hl rfl rfl (Nat.le_of_ble_eq_true rfl) dX6_forge_1 ⟨Nat.le_of_ble_eq_true rfl, Nat.le_of_ble_eq_true rfl⟩ (fun r ad1 ce1 H locs hp hw hS => ?_)
  obtain ⟨hp, rfl, rfl⟩ := hp
  rcases hp with ⟨hn9, rfl⟩ | ⟨-, rfl⟩
  · exact absurd hn9 hnw
  refine W.eq (g2 := F0 m 4 ls [.int 0]) rfl ?_
  refine lv_if_eq (tgt := 20) hx hb dX6_forge_4 (by decide) (fun c4 => ?_) (fun c4 => absurd c4 (by decide))
  refine lv_iconst (v := -1) hx hb dX6_forge_20 (by decide) ?_
  exact z_iret F (rfl) hw hS (by unfold sp_forgex; exact ⟨rfl, rfl, ⟨_, _, _, _, ⟨h100, h101, h102, h103, h104, h105, h106, h107, h108, h109, h110, h111⟩, hQ, hM⟩, hF⟩) dX6_forge_21
