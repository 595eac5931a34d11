set_option maxHeartbeats 4000000 in
set_option maxRecDepth 100000 in
theorem r_take0 (l : Launch) {G : zz_G} {ad : Nat → Nat} {ce : zz_C} {sz : Nat} (T : rf_T) (Q : rf_Q) (M : List Nat) (hV : rfV G ad ce T Q M) (x : List Nat) (r : List (List Nat)) (hq : Q 0 = x :: r) : zz_M l yX6_take cX6_take 5 none 0 0 0 0 G [.ref (ad 100), .int 0] ad ce sz (fun r0 ad1 ce1 => r0 = none ∧ ad = ad1 ∧ rfV G ad ce1 T (va_up Q 0 r) x ∧ (∀ j, j < 100 → ce1 j = ce j)) := by
  refine zz_enter (by decide) (Nat.le_of_ble_eq_true rfl) ?_
  intro p e s m below meth c ls F hl hw hS hA
  obtain ⟨hx, hb, hr, hml, hown, hts, hlocks, hK, hnm⟩ := id F
  have hl : lv_has ls 5 [(0, .ref (ad 100)), (1, .int 0)] := hl
  obtain ⟨cn, zs, bs, hh, ⟨h100, h101, h102, h103, h104, h105, h106, h107, h108, h109, h110, h111⟩, hQ, hM⟩ := hV
  have hF : ∀ j, j < 100 → ce j = ce j := fun _ _ => rfl
  obtain ⟨hq1, hq2, hq3⟩ := hQ 0 (by decide)
  rw [hq] at hq1 hq2
  have hr8 : r.length < 8 := by simp at hq1; omega
  have hcl : cn 0 = nI (r.length + 1) := by rw [hq2]; rfl
  obtain ⟨hx2, hx24, hxz, hxm⟩ := (show rfm zs bs (8 * 0 + 0) x from by have h9 := hq3 0 (by rw [hq]; simp); rw [hq] at h9; simpa using h9)
  refine lv_bipush (v := 8) hx hb dX6_take_0 (by decide) ?_
  refine lv_iload_n hx hb dX6_take_2 rfl (lv_at hl 1 rfl) ?_
  refine lv_imul hx hb dX6_take_3 ?_
  refine z_top 0 (by decide) ?_
  refine lv_istore_n (lv' := [(2, .int 0), (0, .ref (ad 100)), (1, .int 0)]) hx hb dX6_take_4 rfl hl (by decide) rfl (fun ls hl => ?_)
  refine lv_aload_n hx hb dX6_take_5 rfl (lv_at hl 1 rfl) ?_
  refine lv_aload_n hx hb dX6_take_6 rfl (lv_at hl 1 rfl) ?_
  refine z_get F hw h100 fd_X6_17_X6 rfl dX6_take_7 ?_
  refine lv_iload_n hx hb dX6_take_10 rfl (lv_at hl 0 rfl) ?_
  refine z_ld F hw h102 (8 * 0 + 0) (rfl) (by decide) (by decide) dX6_take_11 ?_
  refine z_top (nI x.length) (hxz) ?_
  refine z_put F hw hS (fs' := [.int (T 0 0), .int (T 0 1), .int (T 0 2), .int (T 0 3), .int (T 0 4), .ref (ad 101), .ref (ad 102), .ref (ad 103), .int (T 0 5), .ref (ad 104), .ref (ad 105), .ref (ad 106), .ref (ad 107), .ref (ad 108), .int (T 0 6), .int (T 0 7), .int (T 0 8), .ref (ad 109), .int (T 0 9), .ref (ad 110), .int (T 0 10), .int (nI x.length), .ref (ad 111)]) h100 fd_X6_72_X6 ptX6 rfl (rfl) (rfl) (Nat.le_of_ble_eq_true rfl) rfl dX6_take_12 (fun ce1 H locs h100 fr2 hw hS => ?_)
  have h101 := (fr2 101 (by decide)).trans h101
  have h102 := (fr2 102 (by decide)).trans h102
  have h103 := (fr2 103 (by decide)).trans h103
  have h104 := (fr2 104 (by decide)).trans h104
  have h105 := (fr2 105 (by decide)).trans h105
  have h106 := (fr2 106 (by decide)).trans h106
  have h107 := (fr2 107 (by decide)).trans h107
  have h108 := (fr2 108 (by decide)).trans h108
  have h109 := (fr2 109 (by decide)).trans h109
  have h110 := (fr2 110 (by decide)).trans h110
  have h111 := (fr2 111 (by decide)).trans h111
  have hF : ∀ j, j < 100 → _ = ce j := fun j hj => (fr2 j (by omega)).trans (hF j hj)
  refine lv_iconst (v := 0) hx hb dX6_take_15 (by decide) ?_
  refine lv_istore_n (lv' := [(3, .int 0), (2, .int 0), (0, .ref (ad 100)), (1, .int 0)]) hx hb dX6_take_16 rfl hl (by decide) rfl (fun ls hl => ?_)
  refine z_loop (α := Nat) (fun i => x.length - i) (fun i ce9 ls9 => lv_has ls9 5 [(0, .ref (ad 100)), (1, .int 0), (2, .int 0), (3, .int (nI i))] ∧ ∃ f, ce9 111 = some (.inl (zz_cI G, 24, .inl f)) ∧ (∀ j, j < i → f j = nI (x.getD j 0)) ∧ (∀ j, j ≠ 111 → ce9 j = ce1 j) ∧ i ≤ x.length) 0 ⟨lv_sub hl [2, 3, 1, 0] rfl, ⟨_, h111, fun j hj => absurd hj (Nat.not_lt_zero _), fun _ _ => rfl, Nat.zero_le _⟩⟩ hw hS (fun i ih17 ce9 H locs ls hI hw hS => ?_)
  obtain ⟨hl, f, h111, hf, frA, hix⟩ := hI
  have h100 := (frA 100 (by decide)).trans h100
  have h101 := (frA 101 (by decide)).trans h101
  have h102 := (frA 102 (by decide)).trans h102
  have h103 := (frA 103 (by decide)).trans h103
  have h104 := (frA 104 (by decide)).trans h104
  have h105 := (frA 105 (by decide)).trans h105
  have h106 := (frA 106 (by decide)).trans h106
  have h107 := (frA 107 (by decide)).trans h107
  have h108 := (frA 108 (by decide)).trans h108
  have h109 := (frA 109 (by decide)).trans h109
  have h110 := (frA 110 (by decide)).trans h110
  have hF : ∀ j, j < 100 → ce9 j = ce j := fun j hj => (frA j (by omega)).trans (hF j hj)
  refine lv_iload_n hx hb dX6_take_17 rfl (lv_at hl 3 rfl) ?_
  refine lv_aload_n hx hb dX6_take_18 rfl (lv_at hl 0 rfl) ?_
  refine z_get F hw h100 fd_X6_72_X6 rfl dX6_take_19 ?_
  refine lv_icmp_ge (tgt := 48) hx hb dX6_take_22 (by decide) (fun c22 => ?_) (fun c22 => ?_)
  · have hie : x.length ≤ i := Nat.le_of_not_lt (fun q => absurd c22 (nI_ge q (by omega)))
    refine lv_aload_n hx hb dX6_take_48 rfl (lv_at hl 0 rfl) ?_
    refine z_get F hw h100 fd_X6_13_X6 rfl dX6_take_49 ?_
    refine lv_iload_n hx hb dX6_take_52 rfl (lv_at hl 1 rfl) ?_
    refine lv_dup2_11 hx hb dX6_take_53 rfl rfl ?_
    refine z_ld F hw h101 (0) (rfl) (by decide) (by decide) dX6_take_54 ?_
    refine z_top (nI (r.length + 1)) (hcl) ?_
    refine lv_iconst (v := 1) hx hb dX6_take_55 (by decide) ?_
    refine lv_isub hx hb dX6_take_56 ?_
    refine z_top (nI r.length) (nI_pred _) ?_
    refine z_st F hw hS h101 (0) (rfl) (by decide) (by decide) dX6_take_57 (fun ce3 H locs h101 fr4 hw hS => ?_)
    have h100 := (fr4 100 (by decide)).trans h100
    have h102 := (fr4 102 (by decide)).trans h102
    have h103 := (fr4 103 (by decide)).trans h103
    have h104 := (fr4 104 (by decide)).trans h104
    have h105 := (fr4 105 (by decide)).trans h105
    have h106 := (fr4 106 (by decide)).trans h106
    have h107 := (fr4 107 (by decide)).trans h107
    have h108 := (fr4 108 (by decide)).trans h108
    have h109 := (fr4 109 (by decide)).trans h109
    have h110 := (fr4 110 (by decide)).trans h110
    have h111 := (fr4 111 (by decide)).trans h111
    have hF : ∀ j, j < 100 → _ = ce j := fun j hj => (fr4 j (by omega)).trans (hF j hj)
    refine lv_iconst (v := 0) hx hb dX6_take_58 (by decide) ?_
    refine lv_istore_n (lv' := [(3, .int 0), (0, .ref (ad 100)), (1, .int 0), (2, .int 0)]) hx hb dX6_take_59 rfl hl (by decide) rfl (fun ls hl => ?_)
    refine z_loop (α := Nat) (fun t => r.length - t) (fun t ce9 ls9 => lv_has ls9 5 [(0, .ref (ad 100)), (1, .int 0), (2, .int 0), (3, .int (nI t))] ∧ ∃ zs2 bs2, ce9 102 = some (.inl (zz_cI G, 16, .inl zs2)) ∧ ce9 103 = some (.inl (zz_cI G, 384, .inl bs2)) ∧ rfS zs bs zs2 bs2 0 t x r ∧ (∀ j, j ≠ 102 → j ≠ 103 → ce9 j = ce3 j) ∧ t ≤ r.length) 0 ⟨lv_sub hl [1, 2, 3, 0] rfl, ⟨_, _, h102, h103, rfS_0 hQ (by decide) hq, fun _ _ _ => rfl, Nat.zero_le _⟩⟩ hw hS (fun t ih60 ce9 H locs ls hI hw hS => ?_)
    obtain ⟨hl, zs2, bs2, h102, h103, hs, frA, htr⟩ := hI
    have h100 := (frA 100 (by decide) (by decide)).trans h100
    have h101 := (frA 101 (by decide) (by decide)).trans h101
    have h104 := (frA 104 (by decide) (by decide)).trans h104
    have h105 := (frA 105 (by decide) (by decide)).trans h105
    have h106 := (frA 106 (by decide) (by decide)).trans h106
    have h107 := (frA 107 (by decide) (by decide)).trans h107
    have h108 := (frA 108 (by decide) (by decide)).trans h108
    have h109 := (frA 109 (by decide) (by decide)).trans h109
    have h110 := (frA 110 (by decide) (by decide)).trans h110
    have h111 := (frA 111 (by decide) (by decide)).trans h111
    have hF : ∀ j, j < 100 → ce9 j = ce j := fun j hj => (frA j (by omega) (by omega)).trans (hF j hj)
    refine lv_iload_n hx hb dX6_take_60 rfl (lv_at hl 3 rfl) ?_
    refine lv_aload_n hx hb dX6_take_61 rfl (lv_at hl 0 rfl) ?_
    refine z_get F hw h100 fd_X6_13_X6 rfl dX6_take_62 ?_
    refine lv_iload_n hx hb dX6_take_65 rfl (lv_at hl 1 rfl) ?_
    refine z_ld F hw h101 (0) (rfl) (by decide) (by decide) dX6_take_66 ?_
    refine z_top (nI r.length) (rf_up_s _ _ _) ?_
    refine lv_icmp_ge (tgt := 140) hx hb dX6_take_67 (by decide) (fun c67 => ?_) (fun c67 => ?_)
    · have hEnd : rfQ (upd cn 0 (nI r.length)) zs2 bs2 (va_up Q 0 r) := rfS_e hQ (by decide) hq (by rw [show r.length = t from Nat.le_antisymm (Nat.le_of_not_lt (fun q => absurd c67 (nI_ge q (by omega)))) htr]; exact hs)
      exact z_vret F hw hS (⟨rfl, rfl, ⟨_, _, _, _, ⟨h100, h101, h102, h103, h104, h105, h106, h107, h108, h109, h110, h111⟩, hEnd, ⟨hx24, fun i9 hi9 => ⟨hf i9 (by omega), (hxm i9 hi9).2⟩⟩⟩, hF⟩) dX6_take_140
    · have htl : t < r.length := Nat.lt_of_not_le (fun q => c67 (nI_le q (by omega)))
      have frC := frA
      refine lv_aload_n hx hb dX6_take_70 rfl (lv_at hl 0 rfl) ?_
      refine z_get F hw h100 fd_X6_17_X6 rfl dX6_take_71 ?_
      refine lv_iload_n hx hb dX6_take_74 rfl (lv_at hl 2 rfl) ?_
      refine lv_iload_n hx hb dX6_take_75 rfl (lv_at hl 3 rfl) ?_
      refine lv_iadd hx hb dX6_take_76 ?_
      refine z_top (nI (8 * 0 + t)) (by rw [show (0 : Int32) = nI (8 * 0) from rfl, nI_add]) ?_
      refine lv_aload_n hx hb dX6_take_77 rfl (lv_at hl 0 rfl) ?_
      refine z_get F hw h100 fd_X6_17_X6 rfl dX6_take_78 ?_
      refine lv_iload_n hx hb dX6_take_81 rfl (lv_at hl 2 rfl) ?_
      refine lv_iload_n hx hb dX6_take_82 rfl (lv_at hl 3 rfl) ?_
      refine lv_iadd hx hb dX6_take_83 ?_
      refine z_top (nI (8 * 0 + t)) (by rw [show (0 : Int32) = nI (8 * 0) from rfl, nI_add]) ?_
      refine lv_iconst (v := 1) hx hb dX6_take_84 (by decide) ?_
      refine lv_iadd hx hb dX6_take_85 ?_
      refine z_top (nI (8 * 0 + t + 1)) (nI_1 _) ?_
      refine z_ld F hw h102 (8 * 0 + t + 1) (rfl) (by omega) (by decide) dX6_take_86 ?_
      refine z_st F hw hS h102 (8 * 0 + t) (rfl) (by omega) (by decide) dX6_take_87 (fun ce5 H locs h102 fr6 hw hS => ?_)
      have h100 := (fr6 100 (by decide)).trans h100
      have h101 := (fr6 101 (by decide)).trans h101
      have h103 := (fr6 103 (by decide)).trans h103
      have h104 := (fr6 104 (by decide)).trans h104
      have h105 := (fr6 105 (by decide)).trans h105
      have h106 := (fr6 106 (by decide)).trans h106
      have h107 := (fr6 107 (by decide)).trans h107
      have h108 := (fr6 108 (by decide)).trans h108
      have h109 := (fr6 109 (by decide)).trans h109
      have h110 := (fr6 110 (by decide)).trans h110
      have h111 := (fr6 111 (by decide)).trans h111
      have hF : ∀ j, j < 100 → _ = ce j := fun j hj => (fr6 j (by omega)).trans (hF j hj)
      have frz := fr6
      refine lv_iconst (v := 0) hx hb dX6_take_88 (by decide) ?_
      refine lv_istore (lv' := [(4, .int 0), (0, .ref (ad 100)), (1, .int 0), (2, .int 0), (3, .int (nI t))]) hx hb dX6_take_89 hl (by decide) rfl (fun ls hl => ?_)
      refine z_loop (α := Nat) (fun u => 24 - u) (fun u ce9 ls9 => lv_has ls9 5 [(0, .ref (ad 100)), (1, .int 0), (2, .int 0), (3, .int (nI t)), (4, .int (nI u))] ∧ ∃ bs3, ce9 103 = some (.inl (zz_cI G, 384, .inl bs3)) ∧ (∀ q, q < u → bs3 (24 * (8 * 0 + t) + q) = bs2 (24 * (8 * 0 + t + 1) + q)) ∧ (∀ q, q < 24 * (8 * 0 + t) ∨ 24 * (8 * 0 + t) + u ≤ q → bs3 q = bs2 q) ∧ (∀ j, j ≠ 103 → ce9 j = ce5 j) ∧ u ≤ 24) 0 ⟨lv_sub hl [1, 2, 3, 4, 0] rfl, ⟨_, h103, fun q hq9 => absurd hq9 (Nat.not_lt_zero _), fun _ _ => rfl, fun _ _ => rfl, Nat.zero_le _⟩⟩ hw hS (fun u ih91 ce9 H locs ls hI hw hS => ?_)
      obtain ⟨hl, bs3, h103, g1, g2, frB, hu⟩ := hI
      have h100 := (frB 100 (by decide)).trans h100
      have h101 := (frB 101 (by decide)).trans h101
      have h102 := (frB 102 (by decide)).trans h102
      have h104 := (frB 104 (by decide)).trans h104
      have h105 := (frB 105 (by decide)).trans h105
      have h106 := (frB 106 (by decide)).trans h106
      have h107 := (frB 107 (by decide)).trans h107
      have h108 := (frB 108 (by decide)).trans h108
      have h109 := (frB 109 (by decide)).trans h109
      have h110 := (frB 110 (by decide)).trans h110
      have h111 := (frB 111 (by decide)).trans h111
      have hF : ∀ j, j < 100 → ce9 j = ce j := fun j hj => (frB j (by omega)).trans (hF j hj)
      refine lv_iload hx hb dX6_take_91 (lv_at hl 4 rfl) ?_
      refine lv_bipush (v := 24) hx hb dX6_take_93 (by decide) ?_
      refine lv_icmp_ge (tgt := 134) hx hb dX6_take_95 (by decide) (fun c95 => ?_) (fun c95 => ?_)
      · have hue : 24 ≤ u := Nat.le_of_not_lt (fun q => absurd c95 (nI_ge (b := 24) q (by omega)))
        refine lv_iinc (v := nI (t + 1)) (lv' := [(3, .int (nI (t + 1))), (0, .ref (ad 100)), (1, .int 0), (2, .int 0), (4, .int (nI u))]) hx hb dX6_take_134 hl (k := 3) rfl (nI_1 t) (by decide) rfl (fun ls hl => ?_)
        refine lv_goto (tgt := 60) hx hb dX6_take_137 (by decide) ?_
        exact ih60 (t + 1) _ _ _ _ (by omega) ⟨lv_sub hl [1, 2, 3, 0] rfl, ⟨_, _, h102, h103, rfS_s hs htl hr8 (fun q hq9 => g1 q (by omega)) (fun q hq9 => g2 q (by omega)), fun j h1 h2 => (frB j h2).trans ((frz j h1).trans (frC j h1 h2)), by omega⟩⟩ hw hS
      · have hul : u < 24 := Nat.lt_of_not_le (fun q => c95 (nI_le q (by omega)))
        refine lv_aload_n hx hb dX6_take_98 rfl (lv_at hl 0 rfl) ?_
        refine z_get F hw h100 fd_X6_20_X6 rfl dX6_take_99 ?_
        refine lv_bipush (v := 24) hx hb dX6_take_102 (by decide) ?_
        refine lv_iload_n hx hb dX6_take_104 rfl (lv_at hl 2 rfl) ?_
        refine lv_iload_n hx hb dX6_take_105 rfl (lv_at hl 3 rfl) ?_
        refine lv_iadd hx hb dX6_take_106 ?_
        refine z_top (nI (8 * 0 + t)) (by rw [show (0 : Int32) = nI (8 * 0) from rfl, nI_add]) ?_
        refine lv_imul hx hb dX6_take_107 ?_
        refine z_top (nI (24 * (8 * 0 + t))) (by rw [show (24 : Int32) = nI 24 from rfl, pk_mul]) ?_
        refine lv_iload hx hb dX6_take_108 (lv_at hl 4 rfl) ?_
        refine lv_iadd hx hb dX6_take_110 ?_
        refine z_top (nI (24 * (8 * 0 + t) + u)) (nI_add _ _) ?_
        refine lv_aload_n hx hb dX6_take_111 rfl (lv_at hl 0 rfl) ?_
        refine z_get F hw h100 fd_X6_20_X6 rfl dX6_take_112 ?_
        refine lv_bipush (v := 24) hx hb dX6_take_115 (by decide) ?_
        refine lv_iload_n hx hb dX6_take_117 rfl (lv_at hl 2 rfl) ?_
        refine lv_iload_n hx hb dX6_take_118 rfl (lv_at hl 3 rfl) ?_
        refine lv_iadd hx hb dX6_take_119 ?_
        refine z_top (nI (8 * 0 + t)) (by rw [show (0 : Int32) = nI (8 * 0) from rfl, nI_add]) ?_
        refine lv_iconst (v := 1) hx hb dX6_take_120 (by decide) ?_
        refine lv_iadd hx hb dX6_take_121 ?_
        refine z_top (nI (8 * 0 + t + 1)) (nI_1 _) ?_
        refine lv_imul hx hb dX6_take_122 ?_
        refine z_top (nI (24 * (8 * 0 + t + 1))) (by rw [show (24 : Int32) = nI 24 from rfl, pk_mul]) ?_
        refine lv_iload hx hb dX6_take_123 (lv_at hl 4 rfl) ?_
        refine lv_iadd hx hb dX6_take_125 ?_
        refine z_top (nI (24 * (8 * 0 + t + 1) + u)) (nI_add _ _) ?_
        refine z_ld F hw h103 (24 * (8 * 0 + t + 1) + u) (rfl) (by omega) (by decide) dX6_take_126 ?_
        refine z_st F hw hS h103 (24 * (8 * 0 + t) + u) (rfl) (by omega) (by decide) dX6_take_127 (fun ce7 H locs h103 fr8 hw hS => ?_)
        have h100 := (fr8 100 (by decide)).trans h100
        have h101 := (fr8 101 (by decide)).trans h101
        have h102 := (fr8 102 (by decide)).trans h102
        have h104 := (fr8 104 (by decide)).trans h104
        have h105 := (fr8 105 (by decide)).trans h105
        have h106 := (fr8 106 (by decide)).trans h106
        have h107 := (fr8 107 (by decide)).trans h107
        have h108 := (fr8 108 (by decide)).trans h108
        have h109 := (fr8 109 (by decide)).trans h109
        have h110 := (fr8 110 (by decide)).trans h110
        have h111 := (fr8 111 (by decide)).trans h111
        have hF : ∀ j, j < 100 → _ = ce j := fun j hj => (fr8 j (by omega)).trans (hF j hj)
        refine lv_iinc (v := nI (u + 1)) (lv' := [(4, .int (nI (u + 1))), (0, .ref (ad 100)), (1, .int 0), (2, .int 0), (3, .int (nI t))]) hx hb dX6_take_128 hl (k := 4) rfl (nI_1 u) (by decide) rfl (fun ls hl => ?_)
        refine lv_goto (tgt := 91) hx hb dX6_take_131 (by decide) ?_
        exact ih91 (u + 1) _ _ _ _ (by omega) ⟨lv_sub hl [1, 2, 3, 4, 0] rfl, ⟨_, h103, fun q hq9 => (if e9 : q = u then (by rw [e9, rf_up_s, g2 _ (by omega)]) else (by rw [rf_up_n _ _ (by omega)]; exact g1 q (by omega))), fun q hq9 => (by rw [rf_up_n _ _ (by omega)]; exact g2 q (by omega)), fun j hj => (fr8 j hj).trans (frB j hj), by omega⟩⟩ hw hS
  · have hil : i < x.length := Nat.lt_of_not_le (fun q => c22 (nI_le q (by omega)))
    refine lv_aload_n hx hb dX6_take_25 rfl (lv_at hl 0 rfl) ?_
    refine z_get F hw h100 fd_X6_48_X6 rfl dX6_take_26 ?_
    refine lv_iload_n hx hb dX6_take_29 rfl (lv_at hl 3 rfl) ?_
    refine lv_aload_n hx hb dX6_take_30 rfl (lv_at hl 0 rfl) ?_
    refine z_get F hw h100 fd_X6_20_X6 rfl dX6_take_31 ?_
    refine lv_bipush (v := 24) hx hb dX6_take_34 (by decide) ?_
    refine lv_iload_n hx hb dX6_take_36 rfl (lv_at hl 2 rfl) ?_
    refine lv_imul hx hb dX6_take_37 ?_
    refine z_top 0 (by decide) ?_
    refine lv_iload_n hx hb dX6_take_38 rfl (lv_at hl 3 rfl) ?_
    refine lv_iadd hx hb dX6_take_39 ?_
    refine z_top (nI (24 * (8 * 0 + 0) + i)) (by rw [show (0 : Int32) = nI (24 * (8 * 0 + 0)) from rfl, nI_add]) ?_
    refine z_ld F hw h103 (24 * (8 * 0 + 0) + i) (rfl) (by omega) (by decide) dX6_take_40 ?_
    refine z_top (nI (x.getD i 0)) ((hxm i hil).1) ?_
    refine z_st F hw hS h111 (i) (rfl) (by omega) (by decide) dX6_take_41 (fun ce9 H locs h111 fr10 hw hS => ?_)
    have h100 := (fr10 100 (by decide)).trans h100
    have h101 := (fr10 101 (by decide)).trans h101
    have h102 := (fr10 102 (by decide)).trans h102
    have h103 := (fr10 103 (by decide)).trans h103
    have h104 := (fr10 104 (by decide)).trans h104
    have h105 := (fr10 105 (by decide)).trans h105
    have h106 := (fr10 106 (by decide)).trans h106
    have h107 := (fr10 107 (by decide)).trans h107
    have h108 := (fr10 108 (by decide)).trans h108
    have h109 := (fr10 109 (by decide)).trans h109
    have h110 := (fr10 110 (by decide)).trans h110
    have hF : ∀ j, j < 100 → _ = ce j := fun j hj => (fr10 j (by omega)).trans (hF j hj)
    refine lv_iinc (v := nI (i + 1)) (lv' := [(3, .int (nI (i + 1))), (0, .ref (ad 100)), (1, .int 0), (2, .int 0)]) hx hb dX6_take_42 hl (k := 3) rfl (nI_1 i) (by decide) rfl (fun ls hl => ?_)
    refine lv_goto (tgt := 17) hx hb dX6_take_45 (by decide) ?_
    exact ih17 (i + 1) _ _ _ _ (by omega) ⟨lv_sub hl [1, 2, 3, 0] rfl, ⟨_, h111, fun j hj => (if q : j = i then (by rw [q, rf_up_s]) else (by rw [rf_up_n _ _ q]; exact hf j (by omega))), fun j hj => (fr10 j hj).trans (frA j hj), by omega⟩⟩ hw hS
set_option maxHeartbeats 4000000 in
set_option maxRecDepth 100000 in
theorem r_take1 (l : Launch) {G : zz_G} {ad : Nat → Nat} {ce : zz_C} {sz : Nat} (T : rf_T) (Q : rf_Q) (M : List Nat) (hV : rfV G ad ce T Q M) (x : List Nat) (r : List (List Nat)) (hq : Q 1 = x :: r) : zz_M l yX6_take cX6_take 5 none 0 0 0 0 G [.ref (ad 100), .int 1] ad ce sz (fun r0 ad1 ce1 => r0 = none ∧ ad = ad1 ∧ rfV G ad ce1 T (va_up Q 1 r) x ∧ (∀ j, j < 100 → ce1 j = ce j)) := by
  refine zz_enter (by decide) (Nat.le_of_ble_eq_true rfl) ?_
  intro p e s m below meth c ls F hl hw hS hA
  obtain ⟨hx, hb, hr, hml, hown, hts, hlocks, hK, hnm⟩ := id F
  have hl : lv_has ls 5 [(0, .ref (ad 100)), (1, .int 1)] := hl
  obtain ⟨cn, zs, bs, hh, ⟨h100, h101, h102, h103, h104, h105, h106, h107, h108, h109, h110, h111⟩, hQ, hM⟩ := hV
  have hF : ∀ j, j < 100 → ce j = ce j := fun _ _ => rfl
  obtain ⟨hq1, hq2, hq3⟩ := hQ 1 (by decide)
  rw [hq] at hq1 hq2
  have hr8 : r.length < 8 := by simp at hq1; omega
  have hcl : cn 1 = nI (r.length + 1) := by rw [hq2]; rfl
  obtain ⟨hx2, hx24, hxz, hxm⟩ := (show rfm zs bs (8 * 1 + 0) x from by have h9 := hq3 0 (by rw [hq]; simp); rw [hq] at h9; simpa using h9)
  refine lv_bipush (v := 8) hx hb dX6_take_0 (by decide) ?_
  refine lv_iload_n hx hb dX6_take_2 rfl (lv_at hl 1 rfl) ?_
  refine lv_imul hx hb dX6_take_3 ?_
  refine z_top 8 (by decide) ?_
  refine lv_istore_n (lv' := [(2, .int 8), (0, .ref (ad 100)), (1, .int 1)]) hx hb dX6_take_4 rfl hl (by decide) rfl (fun ls hl => ?_)
  refine lv_aload_n hx hb dX6_take_5 rfl (lv_at hl 1 rfl) ?_
  refine lv_aload_n hx hb dX6_take_6 rfl (lv_at hl 1 rfl) ?_
  refine z_get F hw h100 fd_X6_17_X6 rfl dX6_take_7 ?_
  refine lv_iload_n hx hb dX6_take_10 rfl (lv_at hl 0 rfl) ?_
  refine z_ld F hw h102 (8 * 1 + 0) (rfl) (by decide) (by decide) dX6_take_11 ?_
  refine z_top (nI x.length) (hxz) ?_
  refine z_put F hw hS (fs' := [.int (T 0 0), .int (T 0 1), .int (T 0 2), .int (T 0 3), .int (T 0 4), .ref (ad 101), .ref (ad 102), .ref (ad 103), .int (T 0 5), .ref (ad 104), .ref (ad 105), .ref (ad 106), .ref (ad 107), .ref (ad 108), .int (T 0 6), .int (T 0 7), .int (T 0 8), .ref (ad 109), .int (T 0 9), .ref (ad 110), .int (T 0 10), .int (nI x.length), .ref (ad 111)]) h100 fd_X6_72_X6 ptX6 rfl (rfl) (rfl) (Nat.le_of_ble_eq_true rfl) rfl dX6_take_12 (fun ce1 H locs h100 fr2 hw hS => ?_)
  have h101 := (fr2 101 (by decide)).trans h101
  have h102 := (fr2 102 (by decide)).trans h102
  have h103 := (fr2 103 (by decide)).trans h103
  have h104 := (fr2 104 (by decide)).trans h104
  have h105 := (fr2 105 (by decide)).trans h105
  have h106 := (fr2 106 (by decide)).trans h106
  have h107 := (fr2 107 (by decide)).trans h107
  have h108 := (fr2 108 (by decide)).trans h108
  have h109 := (fr2 109 (by decide)).trans h109
  have h110 := (fr2 110 (by decide)).trans h110
  have h111 := (fr2 111 (by decide)).trans h111
  have hF : ∀ j, j < 100 → _ = ce j := fun j hj => (fr2 j (by omega)).trans (hF j hj)
  refine lv_iconst (v := 0) hx hb dX6_take_15 (by decide) ?_
  refine lv_istore_n (lv' := [(3, .int 0), (2, .int 8), (0, .ref (ad 100)), (1, .int 1)]) hx hb dX6_take_16 rfl hl (by decide) rfl (fun ls hl => ?_)
  refine z_loop (α := Nat) (fun i => x.length - i) (fun i ce9 ls9 => lv_has ls9 5 [(0, .ref (ad 100)), (1, .int 1), (2, .int 8), (3, .int (nI i))] ∧ ∃ f, ce9 111 = some (.inl (zz_cI G, 24, .inl f)) ∧ (∀ j, j < i → f j = nI (x.getD j 0)) ∧ (∀ j, j ≠ 111 → ce9 j = ce1 j) ∧ i ≤ x.length) 0 ⟨lv_sub hl [2, 3, 1, 0] rfl, ⟨_, h111, fun j hj => absurd hj (Nat.not_lt_zero _), fun _ _ => rfl, Nat.zero_le _⟩⟩ hw hS (fun i ih17 ce9 H locs ls hI hw hS => ?_)
  obtain ⟨hl, f, h111, hf, frA, hix⟩ := hI
  have h100 := (frA 100 (by decide)).trans h100
  have h101 := (frA 101 (by decide)).trans h101
  have h102 := (frA 102 (by decide)).trans h102
  have h103 := (frA 103 (by decide)).trans h103
  have h104 := (frA 104 (by decide)).trans h104
  have h105 := (frA 105 (by decide)).trans h105
  have h106 := (frA 106 (by decide)).trans h106
  have h107 := (frA 107 (by decide)).trans h107
  have h108 := (frA 108 (by decide)).trans h108
  have h109 := (frA 109 (by decide)).trans h109
  have h110 := (frA 110 (by decide)).trans h110
  have hF : ∀ j, j < 100 → ce9 j = ce j := fun j hj => (frA j (by omega)).trans (hF j hj)
  refine lv_iload_n hx hb dX6_take_17 rfl (lv_at hl 3 rfl) ?_
  refine lv_aload_n hx hb dX6_take_18 rfl (lv_at hl 0 rfl) ?_
  refine z_get F hw h100 fd_X6_72_X6 rfl dX6_take_19 ?_
  refine lv_icmp_ge (tgt := 48) hx hb dX6_take_22 (by decide) (fun c22 => ?_) (fun c22 => ?_)
  · have hie : x.length ≤ i := Nat.le_of_not_lt (fun q => absurd c22 (nI_ge q (by omega)))
    refine lv_aload_n hx hb dX6_take_48 rfl (lv_at hl 0 rfl) ?_
    refine z_get F hw h100 fd_X6_13_X6 rfl dX6_take_49 ?_
    refine lv_iload_n hx hb dX6_take_52 rfl (lv_at hl 1 rfl) ?_
    refine lv_dup2_11 hx hb dX6_take_53 rfl rfl ?_
    refine z_ld F hw h101 (1) (rfl) (by decide) (by decide) dX6_take_54 ?_
    refine z_top (nI (r.length + 1)) (hcl) ?_
    refine lv_iconst (v := 1) hx hb dX6_take_55 (by decide) ?_
    refine lv_isub hx hb dX6_take_56 ?_
    refine z_top (nI r.length) (nI_pred _) ?_
    refine z_st F hw hS h101 (1) (rfl) (by decide) (by decide) dX6_take_57 (fun ce3 H locs h101 fr4 hw hS => ?_)
    have h100 := (fr4 100 (by decide)).trans h100
    have h102 := (fr4 102 (by decide)).trans h102
    have h103 := (fr4 103 (by decide)).trans h103
    have h104 := (fr4 104 (by decide)).trans h104
    have h105 := (fr4 105 (by decide)).trans h105
    have h106 := (fr4 106 (by decide)).trans h106
    have h107 := (fr4 107 (by decide)).trans h107
    have h108 := (fr4 108 (by decide)).trans h108
    have h109 := (fr4 109 (by decide)).trans h109
    have h110 := (fr4 110 (by decide)).trans h110
    have h111 := (fr4 111 (by decide)).trans h111
    have hF : ∀ j, j < 100 → _ = ce j := fun j hj => (fr4 j (by omega)).trans (hF j hj)
    refine lv_iconst (v := 0) hx hb dX6_take_58 (by decide) ?_
    refine lv_istore_n (lv' := [(3, .int 0), (0, .ref (ad 100)), (1, .int 1), (2, .int 8)]) hx hb dX6_take_59 rfl hl (by decide) rfl (fun ls hl => ?_)
    refine z_loop (α := Nat) (fun t => r.length - t) (fun t ce9 ls9 => lv_has ls9 5 [(0, .ref (ad 100)), (1, .int 1), (2, .int 8), (3, .int (nI t))] ∧ ∃ zs2 bs2, ce9 102 = some (.inl (zz_cI G, 16, .inl zs2)) ∧ ce9 103 = some (.inl (zz_cI G, 384, .inl bs2)) ∧ rfS zs bs zs2 bs2 1 t x r ∧ (∀ j, j ≠ 102 → j ≠ 103 → ce9 j = ce3 j) ∧ t ≤ r.length) 0 ⟨lv_sub hl [1, 2, 3, 0] rfl, ⟨_, _, h102, h103, rfS_0 hQ (by decide) hq, fun _ _ _ => rfl, Nat.zero_le _⟩⟩ hw hS (fun t ih60 ce9 H locs ls hI hw hS => ?_)
    obtain ⟨hl, zs2, bs2, h102, h103, hs, frA, htr⟩ := hI
    have h100 := (frA 100 (by decide) (by decide)).trans h100
    have h101 := (frA 101 (by decide) (by decide)).trans h101
    have h104 := (frA 104 (by decide) (by decide)).trans h104
    have h105 := (frA 105 (by decide) (by decide)).trans h105
    have h106 := (frA 106 (by decide) (by decide)).trans h106
    have h107 := (frA 107 (by decide) (by decide)).trans h107
    have h108 := (frA 108 (by decide) (by decide)).trans h108
    have h109 := (frA 109 (by decide) (by decide)).trans h109
    have h110 := (frA 110 (by decide) (by decide)).trans h110
    have h111 := (frA 111 (by decide) (by decide)).trans h111
    have hF : ∀ j, j < 100 → ce9 j = ce j := fun j hj => (frA j (by omega) (by omega)).trans (hF j hj)
    refine lv_iload_n hx hb dX6_take_60 rfl (lv_at hl 3 rfl) ?_
    refine lv_aload_n hx hb dX6_take_61 rfl (lv_at hl 0 rfl) ?_
    refine z_get F hw h100 fd_X6_13_X6 rfl dX6_take_62 ?_
    refine lv_iload_n hx hb dX6_take_65 rfl (lv_at hl 1 rfl) ?_
    refine z_ld F hw h101 (1) (rfl) (by decide) (by decide) dX6_take_66 ?_
    refine z_top (nI r.length) (rf_up_s _ _ _) ?_
    refine lv_icmp_ge (tgt := 140) hx hb dX6_take_67 (by decide) (fun c67 => ?_) (fun c67 => ?_)
    · have hEnd : rfQ (upd cn 1 (nI r.length)) zs2 bs2 (va_up Q 1 r) := rfS_e hQ (by decide) hq (by rw [show r.length = t from Nat.le_antisymm (Nat.le_of_not_lt (fun q => absurd c67 (nI_ge q (by omega)))) htr]; exact hs)
      exact z_vret F hw hS (⟨rfl, rfl, ⟨_, _, _, _, ⟨h100, h101, h102, h103, h104, h105, h106, h107, h108, h109, h110, h111⟩, hEnd, ⟨hx24, fun i9 hi9 => ⟨hf i9 (by omega), (hxm i9 hi9).2⟩⟩⟩, hF⟩) dX6_take_140
    · have htl : t < r.length := Nat.lt_of_not_le (fun q => c67 (nI_le q (by omega)))
      have frC := frA
      refine lv_aload_n hx hb dX6_take_70 rfl (lv_at hl 0 rfl) ?_
      refine z_get F hw h100 fd_X6_17_X6 rfl dX6_take_71 ?_
      refine lv_iload_n hx hb dX6_take_74 rfl (lv_at hl 2 rfl) ?_
      refine lv_iload_n hx hb dX6_take_75 rfl (lv_at hl 3 rfl) ?_
      refine lv_iadd hx hb dX6_take_76 ?_
      refine z_top (nI (8 * 1 + t)) (by rw [show (8 : Int32) = nI (8 * 1) from rfl, nI_add]) ?_
      refine lv_aload_n hx hb dX6_take_77 rfl (lv_at hl 0 rfl) ?_
      refine z_get F hw h100 fd_X6_17_X6 rfl dX6_take_78 ?_
      refine lv_iload_n hx hb dX6_take_81 rfl (lv_at hl 2 rfl) ?_
      refine lv_iload_n hx hb dX6_take_82 rfl (lv_at hl 3 rfl) ?_
      refine lv_iadd hx hb dX6_take_83 ?_
      refine z_top (nI (8 * 1 + t)) (by rw [show (8 : Int32) = nI (8 * 1) from rfl, nI_add]) ?_
      refine lv_iconst (v := 1) hx hb dX6_take_84 (by decide) ?_
      refine lv_iadd hx hb dX6_take_85 ?_
      refine z_top (nI (8 * 1 + t + 1)) (nI_1 _) ?_
      refine z_ld F hw h102 (8 * 1 + t + 1) (rfl) (by omega) (by decide) dX6_take_86 ?_
      refine z_st F hw hS h102 (8 * 1 + t) (rfl) (by omega) (by decide) dX6_take_87 (fun ce5 H locs h102 fr6 hw hS => ?_)
      have h100 := (fr6 100 (by decide)).trans h100
      have h101 := (fr6 101 (by decide)).trans h101
      have h103 := (fr6 103 (by decide)).trans h103
      have h104 := (fr6 104 (by decide)).trans h104
      have h105 := (fr6 105 (by decide)).trans h105
      have h106 := (fr6 106 (by decide)).trans h106
      have h107 := (fr6 107 (by decide)).trans h107
      have h108 := (fr6 108 (by decide)).trans h108
      have h109 := (fr6 109 (by decide)).trans h109
      have h110 := (fr6 110 (by decide)).trans h110
      have h111 := (fr6 111 (by decide)).trans h111
      have hF : ∀ j, j < 100 → _ = ce j := fun j hj => (fr6 j (by omega)).trans (hF j hj)
      have frz := fr6
      refine lv_iconst (v := 0) hx hb dX6_take_88 (by decide) ?_
      refine lv_istore (lv' := [(4, .int 0), (0, .ref (ad 100)), (1, .int 1), (2, .int 8), (3, .int (nI t))]) hx hb dX6_take_89 hl (by decide) rfl (fun ls hl => ?_)
      refine z_loop (α := Nat) (fun u => 24 - u) (fun u ce9 ls9 => lv_has ls9 5 [(0, .ref (ad 100)), (1, .int 1), (2, .int 8), (3, .int (nI t)), (4, .int (nI u))] ∧ ∃ bs3, ce9 103 = some (.inl (zz_cI G, 384, .inl bs3)) ∧ (∀ q, q < u → bs3 (24 * (8 * 1 + t) + q) = bs2 (24 * (8 * 1 + t + 1) + q)) ∧ (∀ q, q < 24 * (8 * 1 + t) ∨ 24 * (8 * 1 + t) + u ≤ q → bs3 q = bs2 q) ∧ (∀ j, j ≠ 103 → ce9 j = ce5 j) ∧ u ≤ 24) 0 ⟨lv_sub hl [1, 2, 3, 4, 0] rfl, ⟨_, h103, fun q hq9 => absurd hq9 (Nat.not_lt_zero _), fun _ _ => rfl, fun _ _ => rfl, Nat.zero_le _⟩⟩ hw hS (fun u ih91 ce9 H locs ls hI hw hS => ?_)
      obtain ⟨hl, bs3, h103, g1, g2, frB, hu⟩ := hI
      have h100 := (frB 100 (by decide)).trans h100
      have h101 := (frB 101 (by decide)).trans h101
      have h102 := (frB 102 (by decide)).trans h102
      have h104 := (frB 104 (by decide)).trans h104
      have h105 := (frB 105 (by decide)).trans h105
      have h106 := (frB 106 (by decide)).trans h106
      have h107 := (frB 107 (by decide)).trans h107
      have h108 := (frB 108 (by decide)).trans h108
      have h109 := (frB 109 (by decide)).trans h109
      have h110 := (frB 110 (by decide)).trans h110
      have h111 := (frB 111 (by decide)).trans h111
      have hF : ∀ j, j < 100 → ce9 j = ce j := fun j hj => (frB j (by omega)).trans (hF j hj)
      refine lv_iload hx hb dX6_take_91 (lv_at hl 4 rfl) ?_
      refine lv_bipush (v := 24) hx hb dX6_take_93 (by decide) ?_
      refine lv_icmp_ge (tgt := 134) hx hb dX6_take_95 (by decide) (fun c95 => ?_) (fun c95 => ?_)
      · have hue : 24 ≤ u := Nat.le_of_not_lt (fun q => absurd c95 (nI_ge (b := 24) q (by omega)))
        refine lv_iinc (v := nI (t + 1)) (lv' := [(3, .int (nI (t + 1))), (0, .ref (ad 100)), (1, .int 1), (2, .int 8), (4, .int (nI u))]) hx hb dX6_take_134 hl (k := 3) rfl (nI_1 t) (by decide) rfl (fun ls hl => ?_)
        refine lv_goto (tgt := 60) hx hb dX6_take_137 (by decide) ?_
        exact ih60 (t + 1) _ _ _ _ (by omega) ⟨lv_sub hl [1, 2, 3, 0] rfl, ⟨_, _, h102, h103, rfS_s hs htl hr8 (fun q hq9 => g1 q (by omega)) (fun q hq9 => g2 q (by omega)), fun j h1 h2 => (frB j h2).trans ((frz j h1).trans (frC j h1 h2)), by omega⟩⟩ hw hS
      · have hul : u < 24 := Nat.lt_of_not_le (fun q => c95 (nI_le q (by omega)))
        refine lv_aload_n hx hb dX6_take_98 rfl (lv_at hl 0 rfl) ?_
        refine z_get F hw h100 fd_X6_20_X6 rfl dX6_take_99 ?_
        refine lv_bipush (v := 24) hx hb dX6_take_102 (by decide) ?_
        refine lv_iload_n hx hb dX6_take_104 rfl (lv_at hl 2 rfl) ?_
        refine lv_iload_n hx hb dX6_take_105 rfl (lv_at hl 3 rfl) ?_
        refine lv_iadd hx hb dX6_take_106 ?_
        refine z_top (nI (8 * 1 + t)) (by rw [show (8 : Int32) = nI (8 * 1) from rfl, nI_add]) ?_
        refine lv_imul hx hb dX6_take_107 ?_
        refine z_top (nI (24 * (8 * 1 + t))) (by rw [show (24 : Int32) = nI 24 from rfl, pk_mul]) ?_
        refine lv_iload hx hb dX6_take_108 (lv_at hl 4 rfl) ?_
        refine lv_iadd hx hb dX6_take_110 ?_
        refine z_top (nI (24 * (8 * 1 + t) + u)) (nI_add _ _) ?_
        refine lv_aload_n hx hb dX6_take_111 rfl (lv_at hl 0 rfl) ?_
        refine z_get F hw h100 fd_X6_20_X6 rfl dX6_take_112 ?_
        refine lv_bipush (v := 24) hx hb dX6_take_115 (by decide) ?_
        refine lv_iload_n hx hb dX6_take_117 rfl (lv_at hl 2 rfl) ?_
        refine lv_iload_n hx hb dX6_take_118 rfl (lv_at hl 3 rfl) ?_
        refine lv_iadd hx hb dX6_take_119 ?_
        refine z_top (nI (8 * 1 + t)) (by rw [show (8 : Int32) = nI (8 * 1) from rfl, nI_add]) ?_
        refine lv_iconst (v := 1) hx hb dX6_take_120 (by decide) ?_
        refine lv_iadd hx hb dX6_take_121 ?_
        refine z_top (nI (8 * 1 + t + 1)) (nI_1 _) ?_
        refine lv_imul hx hb dX6_take_122 ?_
        refine z_top (nI (24 * (8 * 1 + t + 1))) (by rw [show (24 : Int32) = nI 24 from rfl, pk_mul]) ?_
        refine lv_iload hx hb dX6_take_123 (lv_at hl 4 rfl) ?_
        refine lv_iadd hx hb dX6_take_125 ?_
        refine z_top (nI (24 * (8 * 1 + t + 1) + u)) (nI_add _ _) ?_
        refine z_ld F hw h103 (24 * (8 * 1 + t + 1) + u) (rfl) (by omega) (by decide) dX6_take_126 ?_
        refine z_st F hw hS h103 (24 * (8 * 1 + t) + u) (rfl) (by omega) (by decide) dX6_take_127 (fun ce7 H locs h103 fr8 hw hS => ?_)
        have h100 := (fr8 100 (by decide)).trans h100
        have h101 := (fr8 101 (by decide)).trans h101
        have h102 := (fr8 102 (by decide)).trans h102
        have h104 := (fr8 104 (by decide)).trans h104
        have h105 := (fr8 105 (by decide)).trans h105
        have h106 := (fr8 106 (by decide)).trans h106
        have h107 := (fr8 107 (by decide)).trans h107
        have h108 := (fr8 108 (by decide)).trans h108
        have h109 := (fr8 109 (by decide)).trans h109
        have h110 := (fr8 110 (by decide)).trans h110
        have h111 := (fr8 111 (by decide)).trans h111
        have hF : ∀ j, j < 100 → _ = ce j := fun j hj => (fr8 j (by omega)).trans (hF j hj)
        refine lv_iinc (v := nI (u + 1)) (lv' := [(4, .int (nI (u + 1))), (0, .ref (ad 100)), (1, .int 1), (2, .int 8), (3, .int (nI t))]) hx hb dX6_take_128 hl (k := 4) rfl (nI_1 u) (by decide) rfl (fun ls hl => ?_)
        refine lv_goto (tgt := 91) hx hb dX6_take_131 (by decide) ?_
        exact ih91 (u + 1) _ _ _ _ (by omega) ⟨lv_sub hl [1, 2, 3, 4, 0] rfl, ⟨_, h103, fun q hq9 => (if e9 : q = u then (by rw [e9, rf_up_s, g2 _ (by omega)]) else (by rw [rf_up_n _ _ (by omega)]; exact g1 q (by omega))), fun q hq9 => (by rw [rf_up_n _ _ (by omega)]; exact g2 q (by omega)), fun j hj => (fr8 j hj).trans (frB j hj), by omega⟩⟩ hw hS
  · have hil : i < x.length := Nat.lt_of_not_le (fun q => c22 (nI_le q (by omega)))
    refine lv_aload_n hx hb dX6_take_25 rfl (lv_at hl 0 rfl) ?_
    refine z_get F hw h100 fd_X6_48_X6 rfl dX6_take_26 ?_
    refine lv_iload_n hx hb dX6_take_29 rfl (lv_at hl 3 rfl) ?_
    refine lv_aload_n hx hb dX6_take_30 rfl (lv_at hl 0 rfl) ?_
    refine z_get F hw h100 fd_X6_20_X6 rfl dX6_take_31 ?_
    refine lv_bipush (v := 24) hx hb dX6_take_34 (by decide) ?_
    refine lv_iload_n hx hb dX6_take_36 rfl (lv_at hl 2 rfl) ?_
    refine lv_imul hx hb dX6_take_37 ?_
    refine z_top 192 (by decide) ?_
    refine lv_iload_n hx hb dX6_take_38 rfl (lv_at hl 3 rfl) ?_
    refine lv_iadd hx hb dX6_take_39 ?_
    refine z_top (nI (24 * (8 * 1 + 0) + i)) (by rw [show (192 : Int32) = nI (24 * (8 * 1 + 0)) from rfl, nI_add]) ?_
    refine z_ld F hw h103 (24 * (8 * 1 + 0) + i) (rfl) (by omega) (by decide) dX6_take_40 ?_
    refine z_top (nI (x.getD i 0)) ((hxm i hil).1) ?_
    refine z_st F hw hS h111 (i) (rfl) (by omega) (by decide) dX6_take_41 (fun ce9 H locs h111 fr10 hw hS => ?_)
    have h100 := (fr10 100 (by decide)).trans h100
    have h101 := (fr10 101 (by decide)).trans h101
    have h102 := (fr10 102 (by decide)).trans h102
    have h103 := (fr10 103 (by decide)).trans h103
    have h104 := (fr10 104 (by decide)).trans h104
    have h105 := (fr10 105 (by decide)).trans h105
    have h106 := (fr10 106 (by decide)).trans h106
    have h107 := (fr10 107 (by decide)).trans h107
    have h108 := (fr10 108 (by decide)).trans h108
    have h109 := (fr10 109 (by decide)).trans h109
    have h110 := (fr10 110 (by decide)).trans h110
    have hF : ∀ j, j < 100 → _ = ce j := fun j hj => (fr10 j (by omega)).trans (hF j hj)
    refine lv_iinc (v := nI (i + 1)) (lv' := [(3, .int (nI (i + 1))), (0, .ref (ad 100)), (1, .int 1), (2, .int 8)]) hx hb dX6_take_42 hl (k := 3) rfl (nI_1 i) (by decide) rfl (fun ls hl => ?_)
    refine lv_goto (tgt := 17) hx hb dX6_take_45 (by decide) ?_
    exact ih17 (i + 1) _ _ _ _ (by omega) ⟨lv_sub hl [1, 2, 3, 0] rfl, ⟨_, h111, fun j hj => (if q : j = i then (by rw [q, rf_up_s]) else (by rw [rf_up_n _ _ q]; exact hf j (by omega))), fun j hj => (fr10 j hj).trans (frA j hj), by omega⟩⟩ hw hS
