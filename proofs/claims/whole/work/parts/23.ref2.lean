set_option maxHeartbeats 4000000 in
set_option maxRecDepth 100000 in
theorem r_isGood (l : Launch) {G : zz_G} {ad : Nat → Nat} {ce : zz_C} {sz : Nat} (T : rf_T) (Q : rf_Q) (M : List Nat) (hV : rfV G ad ce T Q M) (hM2 : 2 ≤ M.length) : zz_M l yX6_isGood cX6_isGood 2 (some .boolean) 0 0 0 0 G [.ref (ad 100)] ad ce sz (fun r ad1 ce1 => ((rf_good M ∧ r = some (.int 1)) ∨ (¬ rf_good M ∧ r = some (.int 0))) ∧ ad = ad1 ∧ ce = ce1) := by
  refine zz_enter (by decide) (Nat.le_of_ble_eq_true rfl) ?_
  intro p e s m below meth c ls F hl hw hS hA
  obtain ⟨hx, hb, hr, hml, hown, hts, hlocks, hK, hnm⟩ := id F
  have hl : lv_has ls 2 [(0, .ref (ad 100))] := hl
  obtain ⟨cn, zs, bs, hh, ⟨h100, h101, h102, h103, h104, h105, h106, h107, h108, h109, h110, h111⟩, hQ, hM⟩ := hV
  have hF : ∀ j, j < 100 → ce j = ce j := fun _ _ => rfl
  have hM24 := hM.1
  refine lv_iconst (v := 2) hx hb dX6_isGood_0 (by decide) ?_
  refine lv_istore_n (lv' := [(1, .int 2), (0, .ref (ad 100))]) hx hb dX6_isGood_1 rfl hl (by decide) rfl (fun ls hl => ?_)
  refine z_loop (α := Nat) (fun i => M.length - i) (fun i ce9 ls9 => lv_has ls9 2 [(0, .ref (ad 100)), (1, .int (nI i))] ∧ ce = ce9 ∧ 2 ≤ i ∧ i ≤ 300 ∧ rf_end M 24 i = rf_end M 24 2) 2 ⟨lv_sub hl [1, 0] rfl, rfl, by decide, by decide, rfl⟩ hw hS (fun i ih2 ce9 H locs ls hI hw hS => ?_)
  obtain ⟨hl, hce, hi2, hi3, hie⟩ := hI
  subst hce
  refine lv_iload_n hx hb dX6_isGood_2 rfl (lv_at hl 1 rfl) ?_
  refine lv_iconst (v := 1) hx hb dX6_isGood_3 (by decide) ?_
  refine lv_iadd hx hb dX6_isGood_4 ?_
  refine z_top (nI (i + 1)) (nI_1 i) ?_
  refine lv_aload_n hx hb dX6_isGood_5 rfl (lv_at hl 0 rfl) ?_
  refine z_get F hw h100 fd_X6_72_X6 rfl dX6_isGood_6 ?_
  refine lv_icmp_ge (tgt := 28) hx hb dX6_isGood_9 (by decide) (fun c9 => ?_) (fun c9 => ?_)
  · have hge : ¬ i + 1 < M.length := fun q => absurd c9 (nI_ge q (by omega))
    have hee : rf_end M 24 2 = i := by rw [← hie]; exact rf_end_end M i hge
    refine lv_iload_n hx hb dX6_isGood_28 rfl (lv_at hl 1 rfl) ?_
    refine lv_aload_n hx hb dX6_isGood_29 rfl (lv_at hl 0 rfl) ?_
    refine z_get F hw h100 fd_X6_72_X6 rfl dX6_isGood_30 ?_
    refine lv_icmp_ne (tgt := 40) hx hb dX6_isGood_33 (by decide) (fun c33 => ?_) (fun c33 => ?_)
    · refine lv_iconst (v := 0) hx hb dX6_isGood_40 (by decide) ?_
      exact z_iret F (rfl) hw hS (⟨Or.inr ⟨fun q => c33 (by unfold rf_good at q; rw [← q, hee]), rfl⟩, rfl, rfl⟩) dX6_isGood_41
    · refine lv_iconst (v := 1) hx hb dX6_isGood_36 (by decide) ?_
      refine lv_goto (tgt := 41) hx hb dX6_isGood_37 (by decide) ?_
      exact z_iret F (rfl) hw hS (⟨Or.inl ⟨by unfold rf_good; rw [hee]; exact (nI_eq (by omega) (by have := hM.1; omega)).mp c33, rfl⟩, rfl, rfl⟩) dX6_isGood_41
  · have hlt : i + 1 < M.length := Nat.lt_of_not_le (fun q => c9 (nI_le q (by omega)))
    have hb8 := (hM.2 (i + 1) hlt).2
    refine lv_iload_n hx hb dX6_isGood_12 rfl (lv_at hl 1 rfl) ?_
    refine lv_iconst (v := 2) hx hb dX6_isGood_13 (by decide) ?_
    refine lv_iadd hx hb dX6_isGood_14 ?_
    refine z_top (nI (i + 2)) (by rw [show (2 : Int32) = nI 2 from rfl, nI_add]) ?_
    refine lv_aload_n hx hb dX6_isGood_15 rfl (lv_at hl 0 rfl) ?_
    refine z_get F hw h100 fd_X6_48_X6 rfl dX6_isGood_16 ?_
    refine lv_iload_n hx hb dX6_isGood_19 rfl (lv_at hl 1 rfl) ?_
    refine lv_iconst (v := 1) hx hb dX6_isGood_20 (by decide) ?_
    refine lv_iadd hx hb dX6_isGood_21 ?_
    refine z_top (nI (i + 1)) (nI_1 i) ?_
    refine z_ld F hw h111 (i + 1) (rfl) (by have := hM.1; omega) (by decide) dX6_isGood_22 ?_
    refine z_top (nI (M.getD (i + 1) 0)) ((hM.2 (i + 1) hlt).1) ?_
    refine lv_iadd hx hb dX6_isGood_23 ?_
    refine z_top (nI (i + 2 + M.getD (i + 1) 0)) (nI_add _ _) ?_
    refine lv_istore_n (lv' := [(1, .int (nI (i + 2 + M.getD (i + 1) 0))), (0, .ref (ad 100))]) hx hb dX6_isGood_24 rfl hl (by decide) rfl (fun ls hl => ?_)
    refine lv_goto (tgt := 2) hx hb dX6_isGood_25 (by decide) ?_
    exact ih2 (i + 2 + M.getD (i + 1) 0) _ _ _ _ (by omega) ⟨lv_sub hl [1, 0] rfl, rfl, by omega, by omega, by rw [← rf_end_step M i hM.1 hi2 hlt]; exact hie⟩ hw hS
def rf_at (M : List Nat) (tg : Nat) : Int32 := match rf_fd M tg with | some i => nI (i + 2) | none => -3
set_option maxHeartbeats 4000000 in
set_option maxRecDepth 100000 in
theorem r_find (l : Launch) {G : zz_G} {ad : Nat → Nat} {ce : zz_C} {sz : Nat} (T : rf_T) (Q : rf_Q) (M : List Nat) (hV : rfV G ad ce T Q M) (hg : rf_good M) (tg : Nat) (htg : tg < 256) : zz_M l yX6_find cX6_find 3 (some .int) 0 0 0 0 G [.ref (ad 100), .int (nI tg)] ad ce sz (fun r ad1 ce1 => r = some (.int (rf_at M tg)) ∧ ad = ad1 ∧ ce = ce1) := by
  refine zz_enter (by decide) (Nat.le_of_ble_eq_true rfl) ?_
  intro p e s m below meth c ls F hl hw hS hA
  obtain ⟨hx, hb, hr, hml, hown, hts, hlocks, hK, hnm⟩ := id F
  have hl : lv_has ls 3 [(0, .ref (ad 100)), (1, .int (nI tg))] := hl
  obtain ⟨cn, zs, bs, hh, ⟨h100, h101, h102, h103, h104, h105, h106, h107, h108, h109, h110, h111⟩, hQ, hM⟩ := hV
  have hF : ∀ j, j < 100 → ce j = ce j := fun _ _ => rfl
  have hM24 := hM.1
  refine lv_iconst (v := 2) hx hb dX6_find_0 (by decide) ?_
  refine lv_istore_n (lv' := [(2, .int 2), (0, .ref (ad 100)), (1, .int (nI tg))]) hx hb dX6_find_1 rfl hl (by decide) rfl (fun ls hl => ?_)
  refine z_loop (α := Nat) (fun i => M.length - i) (fun i ce9 ls9 => lv_has ls9 3 [(0, .ref (ad 100)), (1, .int (nI tg)), (2, .int (nI i))] ∧ ce = ce9 ∧ 2 ≤ i ∧ i ≤ 300 ∧ rf_end M 24 i = M.length ∧ rf_find M tg 24 i = rf_fd M tg) 2 ⟨lv_sub hl [1, 2, 0] rfl, rfl, by decide, by decide, hg, rfl⟩ hw hS (fun i ih2 ce9 H locs ls hI hw hS => ?_)
  obtain ⟨hl, hce, hi2, hi3, hie, hif⟩ := hI
  subst hce
  refine lv_iload_n hx hb dX6_find_2 rfl (lv_at hl 2 rfl) ?_
  refine lv_aload_n hx hb dX6_find_3 rfl (lv_at hl 0 rfl) ?_
  refine z_get F hw h100 fd_X6_72_X6 rfl dX6_find_4 ?_
  refine lv_icmp_ge (tgt := 36) hx hb dX6_find_7 (by decide) (fun c7 => ?_) (fun c7 => ?_)
  · refine lv_iload_n hx hb dX6_find_36 rfl (lv_at hl 2 rfl) ?_
    refine lv_aload_n hx hb dX6_find_37 rfl (lv_at hl 0 rfl) ?_
    refine z_get F hw h100 fd_X6_72_X6 rfl dX6_find_38 ?_
    refine lv_icmp_ge (tgt := 50) hx hb dX6_find_41 (by decide) (fun c41 => ?_) (fun c41 => absurd c7 c41)
    refine lv_bipush (v := -3) hx hb dX6_find_50 (by decide) ?_
    exact z_iret F (rfl) hw hS (⟨by rw [rf_at, ← hif, rf_find_end M tg i (fun q => absurd c7 (nI_ge (by omega) (by omega)))], rfl, rfl⟩) dX6_find_52
  · have hlt0 : i < M.length := Nat.lt_of_not_le (fun q => c7 (nI_le q (by omega)))
    have hlt : i + 1 < M.length := Nat.lt_of_not_le (fun q => by have h9 := rf_end_end M i (by omega); omega)
    have hb8 := (hM.2 (i + 1) hlt).2
    have hb7 := (hM.2 i hlt0).2
    refine lv_aload_n hx hb dX6_find_10 rfl (lv_at hl 0 rfl) ?_
    refine z_get F hw h100 fd_X6_48_X6 rfl dX6_find_11 ?_
    refine lv_iload_n hx hb dX6_find_14 rfl (lv_at hl 2 rfl) ?_
    refine z_ld F hw h111 (i) (rfl) (by omega) (by decide) dX6_find_15 ?_
    refine z_top (nI (M.getD i 0)) ((hM.2 i hlt0).1) ?_
    refine lv_iload_n hx hb dX6_find_16 rfl (lv_at hl 1 rfl) ?_
    refine lv_icmp_eq (tgt := 36) hx hb dX6_find_17 (by decide) (fun c17 => ?_) (fun c17 => ?_)
    · refine lv_iload_n hx hb dX6_find_36 rfl (lv_at hl 2 rfl) ?_
      refine lv_aload_n hx hb dX6_find_37 rfl (lv_at hl 0 rfl) ?_
      refine z_get F hw h100 fd_X6_72_X6 rfl dX6_find_38 ?_
      refine lv_icmp_ge (tgt := 50) hx hb dX6_find_41 (by decide) (fun c41 => absurd c41 (nI_ge hlt0 (by omega))) (fun c41 => ?_)
      refine lv_iload_n hx hb dX6_find_44 rfl (lv_at hl 2 rfl) ?_
      refine lv_iconst (v := 2) hx hb dX6_find_45 (by decide) ?_
      refine lv_iadd hx hb dX6_find_46 ?_
      refine z_top (nI (i + 2)) (by rw [show (2 : Int32) = nI 2 from rfl, nI_add]) ?_
      refine lv_goto (tgt := 52) hx hb dX6_find_47 (by decide) ?_
      exact z_iret F (rfl) hw hS (⟨by rw [rf_at, ← hif, rf_find_hit M tg i hlt ((nI_eq (by omega) (by omega)).mp c17)], rfl, rfl⟩) dX6_find_52
    · refine lv_iload_n hx hb dX6_find_20 rfl (lv_at hl 2 rfl) ?_
      refine lv_iconst (v := 2) hx hb dX6_find_21 (by decide) ?_
      refine lv_iadd hx hb dX6_find_22 ?_
      refine z_top (nI (i + 2)) (by rw [show (2 : Int32) = nI 2 from rfl, nI_add]) ?_
      refine lv_aload_n hx hb dX6_find_23 rfl (lv_at hl 0 rfl) ?_
      refine z_get F hw h100 fd_X6_48_X6 rfl dX6_find_24 ?_
      refine lv_iload_n hx hb dX6_find_27 rfl (lv_at hl 2 rfl) ?_
      refine lv_iconst (v := 1) hx hb dX6_find_28 (by decide) ?_
      refine lv_iadd hx hb dX6_find_29 ?_
      refine z_top (nI (i + 1)) (nI_1 i) ?_
      refine z_ld F hw h111 (i + 1) (rfl) (by omega) (by decide) dX6_find_30 ?_
      refine z_top (nI (M.getD (i + 1) 0)) ((hM.2 (i + 1) hlt).1) ?_
      refine lv_iadd hx hb dX6_find_31 ?_
      refine z_top (nI (i + 2 + M.getD (i + 1) 0)) (nI_add _ _) ?_
      refine lv_istore_n (lv' := [(2, .int (nI (i + 2 + M.getD (i + 1) 0))), (0, .ref (ad 100)), (1, .int (nI tg))]) hx hb dX6_find_32 rfl hl (by decide) rfl (fun ls hl => ?_)
      refine lv_goto (tgt := 2) hx hb dX6_find_33 (by decide) ?_
      exact ih2 (i + 2 + M.getD (i + 1) 0) _ _ _ _ (by omega) ⟨lv_sub hl [1, 2, 0] rfl, rfl, by omega, by omega, by rw [← rf_end_step M i hM.1 hi2 hlt]; exact hie, by rw [← rf_find_step M tg i hM.1 hi2 hlt (fun q => c17 (by rw [q]))]; exact hif⟩ hw hS
def rf_sz (M : List Nat) (tg : Nat) : Option Nat := (rf_fd M tg).map (fun i => M.getD (i + 1) 0)
def rf_val (M : List Nat) (tg : Nat) : Int32 := match rf_fd M tg with | some i => rf_num M i (M.getD (i + 1) 0) | none => 0
set_option maxHeartbeats 4000000 in
set_option maxRecDepth 100000 in
theorem r_has (l : Launch) {G : zz_G} {ad : Nat → Nat} {ce : zz_C} {sz : Nat} (T : rf_T) (Q : rf_Q) (M : List Nat) (hV : rfV G ad ce T Q M) (hg : rf_good M) (tg n : Nat) (htg : tg < 256) (hn : n < 256) : zz_M l yX6_has cX6_has 4 (some .boolean) 1 22 0 0 G [.ref (ad 100), .int (nI tg), .int (nI n)] ad ce sz (fun r ad1 ce1 => ((rf_sz M tg = some n ∧ r = some (.int 1)) ∨ (¬ rf_sz M tg = some n ∧ r = some (.int 0))) ∧ ad = ad1 ∧ ce = ce1) := by
  refine zz_enter (by decide) (Nat.le_of_ble_eq_true rfl) ?_
  intro p e s m below meth c ls F hl hw hS hA
  obtain ⟨hx, hb, hr, hml, hown, hts, hlocks, hK, hnm⟩ := id F
  have hl : lv_has ls 4 [(0, .ref (ad 100)), (1, .int (nI tg)), (2, .int (nI n))] := hl
  obtain ⟨cn, zs, bs, hh, ⟨h100, h101, h102, h103, h104, h105, h106, h107, h108, h109, h110, h111⟩, hQ, hM⟩ := hV
  have hF : ∀ j, j < 100 → ce j = ce j := fun _ _ => rfl
  have hM24 := hM.1
  refine lv_aload_n hx hb dX6_has_0 rfl (lv_at hl 0 rfl) ?_
  refine lv_iload_n hx hb dX6_has_1 rfl (lv_at hl 1 rfl) ?_
  have hV : rfV G ad ce T Q M := ⟨_, _, _, _, ⟨h100, h101, h102, h103, h104, h105, h106, h107, h108, h109, h110, h111⟩, hQ, hM⟩
  refine z_invV F (rest := []) (r_find l T Q M hV hg tg htg) yv_X6_75 ⟨Nat.le_of_ble_eq_true rfl, Nat.le_of_ble_eq_true rfl⟩ hw hA hS hl h100 rfl rfl rfl (Nat.le_of_ble_eq_true rfl) dX6_has_2 ⟨Nat.le_of_ble_eq_true rfl, Nat.le_of_ble_eq_true rfl⟩ (fun r ad1 ce1 H locs hp hw hS => ?_)
  obtain ⟨rfl, rfl, rfl⟩ := hp
  refine W.eq (g2 := F0 m 5 ls [.int (rf_at M tg)]) rfl ?_
  refine lv_istore_n (lv' := [(3, .int (rf_at M tg)), (0, .ref (ad 100)), (1, .int (nI tg)), (2, .int (nI n))]) hx hb dX6_has_5 rfl hl (by decide) rfl (fun ls hl => ?_)
  rcases hfd : rf_fd M tg with _ | i
  · have hl : lv_has ls 4 [(3, .int (-3)), (0, .ref (ad 100)), (1, .int (nI tg)), (2, .int (nI n))] := by rw [show ((-3) : Int32) = rf_at M tg from by rw [rf_at, hfd]]; exact hl
    refine lv_iload_n hx hb dX6_has_6 rfl (lv_at hl 0 rfl) ?_
    refine lv_bipush (v := -3) hx hb dX6_has_7 (by decide) ?_
    refine lv_icmp_eq (tgt := 28) hx hb dX6_has_9 (by decide) (fun c9 => ?_) (fun c9 => absurd rfl c9)
    refine lv_iconst (v := 0) hx hb dX6_has_28 (by decide) ?_
    exact z_iret F (rfl) hw hS (⟨Or.inr ⟨fun q => (by rw [rf_sz, hfd] at q; cases q), rfl⟩, rfl, rfl⟩) dX6_has_29
  · have hl : lv_has ls 4 [(3, .int (nI (i + 2))), (0, .ref (ad 100)), (1, .int (nI tg)), (2, .int (nI n))] := by rw [show nI (i + 2) = rf_at M tg from by rw [rf_at, hfd]]; exact hl
    obtain ⟨hi2, hlt⟩ := rf_find_in M tg 24 2 i hfd
    have hb8 := (hM.2 (i + 1) hlt).2
    refine lv_iload_n hx hb dX6_has_6 rfl (lv_at hl 0 rfl) ?_
    refine lv_bipush (v := -3) hx hb dX6_has_7 (by decide) ?_
    refine lv_icmp_eq (tgt := 28) hx hb dX6_has_9 (by decide) (fun c9 => absurd c9 (fun q => nI_pos (n := i + 2) (by omega) (by rw [q]; decide))) (fun c9 => ?_)
    refine lv_aload_n hx hb dX6_has_12 rfl (lv_at hl 1 rfl) ?_
    refine z_get F hw h100 fd_X6_48_X6 rfl dX6_has_13 ?_
    refine lv_iload_n hx hb dX6_has_16 rfl (lv_at hl 0 rfl) ?_
    refine lv_iconst (v := 1) hx hb dX6_has_17 (by decide) ?_
    refine lv_isub hx hb dX6_has_18 ?_
    refine z_top (nI (i + 1)) (nI_pred (i + 1)) ?_
    refine z_ld F hw h111 (i + 1) (rfl) (by omega) (by decide) dX6_has_19 ?_
    refine z_top (nI (M.getD (i + 1) 0)) ((hM.2 (i + 1) hlt).1) ?_
    refine lv_iload_n hx hb dX6_has_20 rfl (lv_at hl 3 rfl) ?_
    refine lv_icmp_ne (tgt := 28) hx hb dX6_has_21 (by decide) (fun c21 => ?_) (fun c21 => ?_)
    · refine lv_iconst (v := 0) hx hb dX6_has_28 (by decide) ?_
      exact z_iret F (rfl) hw hS (⟨Or.inr ⟨fun q => (by rw [rf_sz, hfd] at q; exact c21 (congrArg nI (Option.some.inj q))), rfl⟩, rfl, rfl⟩) dX6_has_29
    · refine lv_iconst (v := 1) hx hb dX6_has_24 (by decide) ?_
      refine lv_goto (tgt := 29) hx hb dX6_has_25 (by decide) ?_
      exact z_iret F (rfl) hw hS (⟨Or.inl ⟨by rw [rf_sz, hfd]; exact congrArg some (show M.getD (i + 1) 0 = n from (nI_eq (by omega) (by omega)).mp c21), rfl⟩, rfl, rfl⟩) dX6_has_29
set_option maxHeartbeats 4000000 in
set_option maxRecDepth 100000 in
theorem r_number (l : Launch) {G : zz_G} {ad : Nat → Nat} {ce : zz_C} {sz : Nat} (T : rf_T) (Q : rf_Q) (M : List Nat) (hV : rfV G ad ce T Q M) (hg : rf_good M) (tg n : Nat) (htg : tg < 256) (hsz : rf_sz M tg = some n) : zz_M l yX6_number cX6_number 5 (some .int) 1 22 0 0 G [.ref (ad 100), .int (nI tg)] ad ce sz (fun r ad1 ce1 => r = some (.int (rf_val M tg)) ∧ ad = ad1 ∧ ce = ce1) := by
  refine zz_enter (by decide) (Nat.le_of_ble_eq_true rfl) ?_
  intro p e s m below meth c ls F hl hw hS hA
  obtain ⟨hx, hb, hr, hml, hown, hts, hlocks, hK, hnm⟩ := id F
  have hl : lv_has ls 5 [(0, .ref (ad 100)), (1, .int (nI tg))] := hl
  obtain ⟨cn, zs, bs, hh, ⟨h100, h101, h102, h103, h104, h105, h106, h107, h108, h109, h110, h111⟩, hQ, hM⟩ := hV
  have hF : ∀ j, j < 100 → ce j = ce j := fun _ _ => rfl
  have hM24 := hM.1
  obtain ⟨i, hfd, hn⟩ : ∃ i, rf_fd M tg = some i ∧ M.getD (i + 1) 0 = n := by
    unfold rf_sz at hsz
    exact Option.map_eq_some_iff.mp hsz
  have hval : rf_val M tg = rf_num M i n := by rw [rf_val, hfd, ← hn]
  obtain ⟨hi2, hlt⟩ := rf_find_in M tg 24 2 i hfd
  have hin := rf_find_good M tg 24 2 i hfd hg
  rw [hn] at hin
  have hb8 := (hM.2 (i + 1) hlt).2
  rw [hn] at hb8
  refine lv_aload_n hx hb dX6_number_0 rfl (lv_at hl 0 rfl) ?_
  refine lv_iload_n hx hb dX6_number_1 rfl (lv_at hl 1 rfl) ?_
  have hV : rfV G ad ce T Q M := ⟨_, _, _, _, ⟨h100, h101, h102, h103, h104, h105, h106, h107, h108, h109, h110, h111⟩, hQ, hM⟩
  refine z_invV F (rest := []) (r_find l T Q M hV hg tg htg) yv_X6_75 ⟨Nat.le_of_ble_eq_true rfl, Nat.le_of_ble_eq_true rfl⟩ hw hA hS hl h100 rfl rfl rfl (Nat.le_of_ble_eq_true rfl) dX6_number_2 ⟨Nat.le_of_ble_eq_true rfl, Nat.le_of_ble_eq_true rfl⟩ (fun r ad1 ce1 H locs hp hw hS => ?_)
  obtain ⟨rfl, rfl, rfl⟩ := hp
  refine W.eq (g2 := F0 m 5 ls [.int (rf_at M tg)]) rfl ?_
  refine lv_istore_n (lv' := [(2, .int (rf_at M tg)), (0, .ref (ad 100)), (1, .int (nI tg))]) hx hb dX6_number_5 rfl hl (by decide) rfl (fun ls hl => ?_)
  have hl : lv_has ls 5 [(2, .int (nI (i + 2))), (0, .ref (ad 100)), (1, .int (nI tg))] := by rw [show nI (i + 2) = rf_at M tg from by rw [rf_at, hfd]]; exact hl
  refine lv_iconst (v := 0) hx hb dX6_number_6 (by decide) ?_
  refine lv_istore_n (lv' := [(3, .int 0), (2, .int (nI (i + 2))), (0, .ref (ad 100)), (1, .int (nI tg))]) hx hb dX6_number_7 rfl hl (by decide) rfl (fun ls hl => ?_)
  refine lv_iconst (v := 0) hx hb dX6_number_8 (by decide) ?_
  refine lv_istore (lv' := [(4, .int 0), (3, .int 0), (2, .int (nI (i + 2))), (0, .ref (ad 100)), (1, .int (nI tg))]) hx hb dX6_number_9 hl (by decide) rfl (fun ls hl => ?_)
  refine z_loop (α := Nat) (fun k => n - k) (fun k ce9 ls9 => lv_has ls9 5 [(0, .ref (ad 100)), (1, .int (nI tg)), (2, .int (nI (i + 2))), (3, .int (rf_num M i k)), (4, .int (nI k))] ∧ ce = ce9 ∧ k ≤ n) 0 ⟨lv_sub hl [3, 4, 2, 1, 0] rfl, rfl, Nat.zero_le _⟩ hw hS (fun k ih11 ce9 H locs ls hI hw hS => ?_)
  obtain ⟨hl, hce, hkn⟩ := hI
  subst hce
  refine lv_iload hx hb dX6_number_11 (lv_at hl 4 rfl) ?_
  refine lv_aload_n hx hb dX6_number_13 rfl (lv_at hl 0 rfl) ?_
  refine z_get F hw h100 fd_X6_48_X6 rfl dX6_number_14 ?_
  refine lv_iload_n hx hb dX6_number_17 rfl (lv_at hl 2 rfl) ?_
  refine lv_iconst (v := 1) hx hb dX6_number_18 (by decide) ?_
  refine lv_isub hx hb dX6_number_19 ?_
  refine z_top (nI (i + 1)) (nI_pred (i + 1)) ?_
  refine z_ld F hw h111 (i + 1) (rfl) (by omega) (by decide) dX6_number_20 ?_
  refine z_top (nI n) (by rw [(hM.2 (i + 1) hlt).1, hn]) ?_
  refine lv_icmp_ge (tgt := 45) hx hb dX6_number_21 (by decide) (fun c21 => ?_) (fun c21 => ?_)
  · refine lv_iload_n hx hb dX6_number_45 rfl (lv_at hl 3 rfl) ?_
    exact z_iret F (rfl) hw hS (⟨by rw [hval, show k = n from Nat.le_antisymm hkn (Nat.le_of_not_lt (fun q => absurd c21 (nI_ge q (by omega))))], rfl, rfl⟩) dX6_number_46
  · have hklt : k < n := Nat.lt_of_not_le (fun q => c21 (nI_le q (by omega)))
    refine lv_iload_n hx hb dX6_number_24 rfl (lv_at hl 3 rfl) ?_
    refine lv_bipush (v := 8) hx hb dX6_number_25 (by decide) ?_
    refine lv_ishl hx hb dX6_number_27 ?_
    refine lv_aload_n hx hb dX6_number_28 rfl (lv_at hl 0 rfl) ?_
    refine z_get F hw h100 fd_X6_48_X6 rfl dX6_number_29 ?_
    refine lv_iload_n hx hb dX6_number_32 rfl (lv_at hl 2 rfl) ?_
    refine lv_iload hx hb dX6_number_33 (lv_at hl 4 rfl) ?_
    refine lv_iadd hx hb dX6_number_35 ?_
    refine z_top (nI (i + 2 + k)) (nI_add _ _) ?_
    refine z_ld F hw h111 (i + 2 + k) (rfl) (by omega) (by decide) dX6_number_36 ?_
    refine z_top (nI (M.getD (i + 2 + k) 0)) ((hM.2 (i + 2 + k) (by omega)).1) ?_
    refine lv_ior hx hb dX6_number_37 ?_
    refine z_top (rf_num M i (k + 1)) (rfl) ?_
    refine lv_istore_n (lv' := [(3, .int (rf_num M i (k + 1))), (0, .ref (ad 100)), (1, .int (nI tg)), (2, .int (nI (i + 2))), (4, .int (nI k))]) hx hb dX6_number_38 rfl hl (by decide) rfl (fun ls hl => ?_)
    refine lv_iinc (v := nI (k + 1)) (lv' := [(4, .int (nI (k + 1))), (3, .int (rf_num M i (k + 1))), (0, .ref (ad 100)), (1, .int (nI tg)), (2, .int (nI (i + 2)))]) hx hb dX6_number_39 hl (k := 4) rfl (nI_1 k) (by decide) rfl (fun ls hl => ?_)
    refine lv_goto (tgt := 11) hx hb dX6_number_42 (by decide) ?_
    exact ih11 (k + 1) _ _ _ _ (by omega) ⟨lv_sub hl [2, 3, 4, 1, 0] rfl, rfl, by omega⟩ hw hS
