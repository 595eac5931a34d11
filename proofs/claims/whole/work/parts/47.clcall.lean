abbrev cl_by (v : Int32) : Prop := ¬ v < 0 ∧ ¬ (255 : Int32) < v
def cl_dn (b : Int32) : Int32 := if b = 0 then -2 else 1
theorem cl_hd (q : List (List Nat)) : q.getD (0 : Int32).toNatClampNeg [] = q.headD [] := by cases q <;> rfl
theorem cl_set0 {q : List (List Nat)} (x : List Nat) (h : cl_has q 0) : q.set (0 : Int32).toNatClampNeg x = x :: q.tail := by
  cases q with
  | nil => exact absurd (by decide) h.2
  | cons a t => rfl
theorem cl_by_lt {v : Int32} (h : cl_by v) : v.toNatClampNeg < 256 := by
  have e := cl_ixv h.1
  exact Nat.lt_of_not_le (fun q => h.2 (by rw [e]; exact nI_lt (a := 255) (by omega) (rf_clt v)))
theorem cl_chg_len (x : List Nat) (i mv : Int32) : (cl_chg x i mv).length = x.length := by
  unfold cl_chg
  split
  · exact List.length_set
  · rfl
theorem cl_lb0 (v : Int64) (s : UInt64) (j : Nat) (hs : s.toBitVec.toNat % 64 = 8 * j) (hj : j ≤ 7) : (v.toUInt64 >>> s).toInt64.toInt32 &&& 255 = nI (rf_lb v j) := by
  have e : (v.toUInt64 >>> s).toInt64.toBitVec = v.toBitVec >>> (8 * j) := by
    show v.toBitVec >>> (s.toBitVec % 64) = _
    have h2 : (s.toBitVec % 64).toNat = 8 * j := by
      rw [BitVec.toNat_umod]
      exact hs
    rw [BitVec.ushiftRight_eq', h2]
  rw [rf_and]
  unfold rf_zb rf_lb
  have e2 : (v.toUInt64 >>> s).toInt64.toInt32.toBitVec = ((v.toUInt64 >>> s).toInt64.toBitVec).signExtend 32 := rfl
  rw [e2, e, BitVec.signExtend_eq_setWidth_of_le _ (show (32 : Nat) ≤ 64 by decide), BitVec.toNat_setWidth, BitVec.toNat_ushiftRight, Nat.shiftRight_eq_div_pow]
  rw [Nat.mod_mod_of_dvd _ (by decide)]
theorem cl_lb (v : Int64) {j : Nat} (hj : j ≤ 7) : (v.toUInt64 >>> ((nI (8 * j)).toInt64.toUInt64 &&& Int64.toUInt64 63)).toInt64.toInt32 &&& 255 = nI (rf_lb v j) := by
  refine cl_lb0 v _ j ?_ hj
  have : ∀ j, j ≤ 7 → ((nI (8 * j)).toInt64.toUInt64 &&& Int64.toUInt64 63).toBitVec.toNat % 64 = 8 * j := by decide +kernel
  exact this j hj
set_option maxHeartbeats 4000000 in
set_option maxRecDepth 100000 in
theorem c_isWay (l : Launch) {G : zz_G} {ad : Nat → Nat} {ce : zz_C} {sz : Nat} (a : Int32) : zz_M l yX5_isWay cX5_isWay 1 (some .boolean) 0 0 0 0 G [.int a] ad ce sz (fun r ad1 ce1 => (((a = 0 ∨ a = 1) ∧ r = some (.int 1)) ∨ (¬ (a = 0 ∨ a = 1) ∧ r = some (.int 0))) ∧ ad = ad1 ∧ ce = ce1) := by
  refine zz_enter (by decide) (Nat.le_of_ble_eq_true rfl) ?_
  intro p e s m below meth c ls F hl hw hS hA
  obtain ⟨hx, hb, hr, hml, hown, hts, hlocks, hK, hnm⟩ := id F
  have hl : lv_has ls 1 [(0, .int a)] := hl
  refine lv_iload_n hx hb dX5_isWay_0 rfl (lv_at hl 0 rfl) ?_
  refine lv_if_eq (tgt := 9) hx hb dX5_isWay_1 (by decide) (fun c1 => ?_) (fun c1 => ?_)
  · refine lv_iconst (v := 1) hx hb dX5_isWay_9 (by decide) ?_
    refine lv_goto (tgt := 14) hx hb dX5_isWay_10 (by decide) ?_
    exact z_iret F (rfl) hw hS (⟨Or.inl ⟨Or.inl c1, rfl⟩, rfl, rfl⟩) dX5_isWay_14
  · refine lv_iload_n hx hb dX5_isWay_4 rfl (lv_at hl 0 rfl) ?_
    refine lv_iconst (v := 1) hx hb dX5_isWay_5 (by decide) ?_
    refine lv_icmp_ne (tgt := 13) hx hb dX5_isWay_6 (by decide) (fun c6 => ?_) (fun c6 => ?_)
    · refine lv_iconst (v := 0) hx hb dX5_isWay_13 (by decide) ?_
      exact z_iret F (rfl) hw hS (⟨Or.inr ⟨fun q => q.elim c1 c6, rfl⟩, rfl, rfl⟩) dX5_isWay_14
    · refine lv_iconst (v := 1) hx hb dX5_isWay_9 (by decide) ?_
      refine lv_goto (tgt := 14) hx hb dX5_isWay_10 (by decide) ?_
      exact z_iret F (rfl) hw hS (⟨Or.inl ⟨Or.inr c6, rfl⟩, rfl, rfl⟩) dX5_isWay_14
set_option maxHeartbeats 4000000 in
set_option maxRecDepth 100000 in
theorem c_isByte (l : Launch) {G : zz_G} {ad : Nat → Nat} {ce : zz_C} {sz : Nat} (a : Int32) : zz_M l yX5_isByte cX5_isByte 1 (some .boolean) 0 0 0 0 G [.int a] ad ce sz (fun r ad1 ce1 => ((cl_by a ∧ r = some (.int 1)) ∨ (¬ cl_by a ∧ r = some (.int 0))) ∧ ad = ad1 ∧ ce = ce1) := by
  refine zz_enter (by decide) (Nat.le_of_ble_eq_true rfl) ?_
  intro p e s m below meth c ls F hl hw hS hA
  obtain ⟨hx, hb, hr, hml, hown, hts, hlocks, hK, hnm⟩ := id F
  have hl : lv_has ls 1 [(0, .int a)] := hl
  refine lv_iload_n hx hb dX5_isByte_0 rfl (lv_at hl 0 rfl) ?_
  refine lv_if_lt (tgt := 15) hx hb dX5_isByte_1 (by decide) (fun c1 => ?_) (fun c1 => ?_)
  · refine lv_iconst (v := 0) hx hb dX5_isByte_15 (by decide) ?_
    exact z_iret F (rfl) hw hS (⟨Or.inr ⟨fun q => q.1 c1, rfl⟩, rfl, rfl⟩) dX5_isByte_16
  · refine lv_iload_n hx hb dX5_isByte_4 rfl (lv_at hl 0 rfl) ?_
    refine lv_sipush (v := 255) hx hb dX5_isByte_5 (by decide) ?_
    refine lv_icmp_gt (tgt := 15) hx hb dX5_isByte_8 (by decide) (fun c8 => ?_) (fun c8 => ?_)
    · refine lv_iconst (v := 0) hx hb dX5_isByte_15 (by decide) ?_
      exact z_iret F (rfl) hw hS (⟨Or.inr ⟨fun q => q.2 c8, rfl⟩, rfl, rfl⟩) dX5_isByte_16
    · refine lv_iconst (v := 1) hx hb dX5_isByte_11 (by decide) ?_
      refine lv_goto (tgt := 16) hx hb dX5_isByte_12 (by decide) ?_
      exact z_iret F (rfl) hw hS (⟨Or.inl ⟨⟨c1, c8⟩, rfl⟩, rfl, rfl⟩) dX5_isByte_16
set_option maxHeartbeats 4000000 in
set_option maxRecDepth 100000 in
theorem c_byteOfLong (l : Launch) {G : zz_G} {ad : Nat → Nat} {ce : zz_C} {sz : Nat} (v : Int64) (j : Nat) (hj : j ≤ 7) : zz_M l yX5_byteOfLong cX5_byteOfLong 3 (some .int) 0 0 0 0 G [.long v, .int (nI j)] ad ce sz (fun r ad1 ce1 => r = some (.int (nI (rf_lb v j))) ∧ ad = ad1 ∧ ce = ce1) := by
  refine zz_enter (by decide) (Nat.le_of_ble_eq_true rfl) ?_
  intro p e s m below meth c ls F hl hw hS hA
  obtain ⟨hx, hb, hr, hml, hown, hts, hlocks, hK, hnm⟩ := id F
  have hl : lv_has ls 3 [(0, .long v), (2, .int (nI j))] := hl
  refine lv_lload_n hx hb dX5_byteOfLong_0 rfl (lv_at hl 0 rfl) ?_
  refine lv_bipush (v := 8) hx hb dX5_byteOfLong_1 (by decide) ?_
  refine lv_iload_n hx hb dX5_byteOfLong_3 rfl (lv_at hl 1 rfl) ?_
  refine lv_imul hx hb dX5_byteOfLong_4 ?_
  refine z_top (nI (8 * j)) (pk_mul 8 _) ?_
  refine lv_lushr hx hb dX5_byteOfLong_5 rfl ?_
  refine lv_l2i hx hb dX5_byteOfLong_6 rfl ?_
  refine lv_sipush (v := 255) hx hb dX5_byteOfLong_7 (by decide) ?_
  refine lv_iand hx hb dX5_byteOfLong_10 ?_
  refine z_top (nI (rf_lb v j)) (cl_lb v hj) ?_
  exact z_iret F (rfl) hw hS (⟨rfl, rfl, rfl⟩) dX5_byteOfLong_11
set_option maxHeartbeats 4000000 in
set_option maxRecDepth 100000 in
theorem c_done (l : Launch) {G : zz_G} {ad : Nat → Nat} {ce : zz_C} {sz : Nat} (a : Int32) : zz_M l yX5_done cX5_done 1 (some .int) 0 0 0 0 G [.int a] ad ce sz (fun r ad1 ce1 => r = some (.int (cl_dn a)) ∧ ad = ad1 ∧ ce = ce1) := by
  refine zz_enter (by decide) (Nat.le_of_ble_eq_true rfl) ?_
  intro p e s m below meth c ls F hl hw hS hA
  obtain ⟨hx, hb, hr, hml, hown, hts, hlocks, hK, hnm⟩ := id F
  have hl : lv_has ls 1 [(0, .int a)] := hl
  refine lv_iload_n hx hb dX5_done_0 rfl (lv_at hl 0 rfl) ?_
  refine lv_if_eq (tgt := 8) hx hb dX5_done_1 (by decide) (fun c1 => ?_) (fun c1 => ?_)
  · refine lv_bipush (v := -2) hx hb dX5_done_8 (by decide) ?_
    exact z_iret F (rfl) hw hS (⟨by unfold cl_dn; rw [if_pos c1], rfl, rfl⟩) dX5_done_10
  · refine lv_iconst (v := 1) hx hb dX5_done_4 (by decide) ?_
    refine lv_goto (tgt := 10) hx hb dX5_done_5 (by decide) ?_
    exact z_iret F (rfl) hw hS (⟨by unfold cl_dn; rw [if_neg c1], rfl, rfl⟩) dX5_done_10
set_option maxHeartbeats 4000000 in
set_option maxRecDepth 100000 in
theorem c_row0 (l : Launch) {G : zz_G} {ad : Nat → Nat} {ce : zz_C} {sz : Nat} (T : rf_T) (Q : rf_Q) (hV : clV G ad ce T Q) : zz_M l yX5_row cX5_row 2 (some (.object "MobileCall$Row")) 0 0 0 0 G [.ref (ad 0), .int 0] ad ce sz (fun r ad1 ce1 => r = some (.ref (ad 10)) ∧ ad = ad1 ∧ ce = ce1) := by
  refine zz_enter (by decide) (Nat.le_of_ble_eq_true rfl) ?_
  intro p e s m below meth c ls F hl hw hS hA
  obtain ⟨hx, hb, hr, hml, hown, hts, hlocks, hK, hnm⟩ := id F
  have hl : lv_has ls 2 [(0, .ref (ad 0)), (1, .int 0)] := hl
  obtain ⟨r0, r1, ⟨h0, h1, h2, h3, h4⟩, ht0, ht1, hR0, hR1⟩ := hV
  have hF : ∀ j, 50 ≤ j → ce j = ce j := fun _ _ => rfl
  refine lv_iload_n hx hb dX5_row_0 rfl (lv_at hl 1 rfl) ?_
  refine lv_if_ne (tgt := 11) hx hb dX5_row_1 (by decide) (fun c1 => absurd c1 (by decide)) (fun c1 => ?_)
  refine lv_aload_n hx hb dX5_row_4 rfl (lv_at hl 0 rfl) ?_
  refine z_get F hw h0 fd_X5_31_X5 rfl dX5_row_5 ?_
  refine lv_goto (tgt := 15) hx hb dX5_row_8 (by decide) ?_
  exact z_aret F (Or.inr ⟨_, rfl⟩) hw hS (⟨rfl, rfl, rfl⟩) dX5_row_15
set_option maxHeartbeats 4000000 in
set_option maxRecDepth 100000 in
theorem c_row1 (l : Launch) {G : zz_G} {ad : Nat → Nat} {ce : zz_C} {sz : Nat} (T : rf_T) (Q : rf_Q) (hV : clV G ad ce T Q) : zz_M l yX5_row cX5_row 2 (some (.object "MobileCall$Row")) 0 0 0 0 G [.ref (ad 0), .int 1] ad ce sz (fun r ad1 ce1 => r = some (.ref (ad 30)) ∧ ad = ad1 ∧ ce = ce1) := by
  refine zz_enter (by decide) (Nat.le_of_ble_eq_true rfl) ?_
  intro p e s m below meth c ls F hl hw hS hA
  obtain ⟨hx, hb, hr, hml, hown, hts, hlocks, hK, hnm⟩ := id F
  have hl : lv_has ls 2 [(0, .ref (ad 0)), (1, .int 1)] := hl
  obtain ⟨r0, r1, ⟨h0, h1, h2, h3, h4⟩, ht0, ht1, hR0, hR1⟩ := hV
  have hF : ∀ j, 50 ≤ j → ce j = ce j := fun _ _ => rfl
  refine lv_iload_n hx hb dX5_row_0 rfl (lv_at hl 1 rfl) ?_
  refine lv_if_ne (tgt := 11) hx hb dX5_row_1 (by decide) (fun c1 => ?_) (fun c1 => absurd c1 (by decide))
  refine lv_aload_n hx hb dX5_row_11 rfl (lv_at hl 0 rfl) ?_
  refine z_get F hw h0 fd_X5_35_X5 rfl dX5_row_12 ?_
  exact z_aret F (Or.inr ⟨_, rfl⟩) hw hS (⟨rfl, rfl, rfl⟩) dX5_row_15
def cp_power0 (T : rf_T) (Q : rf_Q) : rf_R := (if T 1 0 = 0 then ((-2), T, Q) else (1, ((cp_switchOff T Q).2.1), (cp_switchOff T Q).2.2))
set_option maxHeartbeats 4000000 in
set_option maxRecDepth 100000 in
theorem c_power0 (l : Launch) {G : zz_G} {ad : Nat → Nat} {ce : zz_C} {sz : Nat} (T : rf_T) (Q : rf_Q) (hV : clV G ad ce T Q) : zz_M l yX5_power cX5_power 2 (some .int) 3 65 0 0 G [.ref (ad 0), .int 0] ad ce sz (fun r ad1 ce1 => r = some (.int (cp_power0 T Q).1) ∧ ad = ad1 ∧ clV G ad ce1 (cp_power0 T Q).2.1 (cp_power0 T Q).2.2 ∧ (∀ j, 50 ≤ j → ce1 j = ce j)) := by
  refine zz_enter (by decide) (Nat.le_of_ble_eq_true rfl) ?_
  intro p e s m below meth c ls F hl hw hS hA
  obtain ⟨hx, hb, hr, hml, hown, hts, hlocks, hK, hnm⟩ := id F
  have hl : lv_has ls 2 [(0, .ref (ad 0)), (1, .int 0)] := hl
  obtain ⟨r0, r1, ⟨h0, h1, h2, h3, h4⟩, ht0, ht1, hR0, hR1⟩ := hV
  have hF : ∀ j, 50 ≤ j → ce j = ce j := fun _ _ => rfl
  refine lv_iload_n hx hb dX5_power_0 rfl (lv_at hl 1 rfl) ?_
  refine lv_aload_n hx hb dX5_power_1 rfl (lv_at hl 0 rfl) ?_
  refine z_get F hw h0 fd_X5_12_X5 rfl dX5_power_2 ?_
  have hV : clV G ad ce T Q := ⟨_, _, ⟨h0, h1, h2, h3, h4⟩, ht0, ht1, hR0, hR1⟩
  refine z_invV F (rest := [.int 0]) (c_isOn l T Q hV) yv_X5_42 ⟨Nat.le_of_ble_eq_true rfl, Nat.le_of_ble_eq_true rfl⟩ hw hA hS hl h1 rfl rfl rfl (Nat.le_of_ble_eq_true rfl) dX5_power_5 ⟨Nat.le_of_ble_eq_true rfl, Nat.le_of_ble_eq_true rfl⟩ (fun r ad1 ce1 H locs hp hw hS => ?_)
  obtain ⟨hp, rfl, rfl⟩ := hp
  rcases hp with ⟨ho, rfl⟩ | ⟨ho, rfl⟩
  · refine W.eq (g2 := F0 m 8 ls [.int 1, .int 0]) rfl ?_
    refine lv_icmp_ne (tgt := 14) hx hb dX5_power_8 (by decide) (fun c8 => ?_) (fun c8 => absurd c8 (by decide))
    refine lv_iload_n hx hb dX5_power_14 rfl (lv_at hl 1 rfl) ?_
    refine lv_if_eq (tgt := 28) hx hb dX5_power_15 (by decide) (fun c15 => ?_) (fun c15 => absurd c15 (by decide))
    refine lv_aload_n hx hb dX5_power_28 rfl (lv_at hl 0 rfl) ?_
    refine z_get F hw h0 fd_X5_12_X5 rfl dX5_power_29 ?_
    have hV : clV G ad ce T Q := ⟨_, _, ⟨h0, h1, h2, h3, h4⟩, ht0, ht1, hR0, hR1⟩
    refine z_invV F (rest := []) (c_switchOff l T Q hV) yv_X5_49 ⟨Nat.le_of_ble_eq_true rfl, Nat.le_of_ble_eq_true rfl⟩ hw hA hS hl h1 rfl rfl rfl (Nat.le_of_ble_eq_true rfl) dX5_power_32 ⟨Nat.le_of_ble_eq_true rfl, Nat.le_of_ble_eq_true rfl⟩ (fun r ad1 ce2 H locs hp hw hS => ?_)
    obtain ⟨rfl, rfl, hV, hF2⟩ := hp
    have hF : ∀ j, 50 ≤ j → ce2 j = ce j := fun j hj => (hF2 j (by omega)).trans (hF j hj)
    obtain ⟨r0, r1, ⟨h0, h1, h2, h3, h4⟩, ht0, ht1, hR0, hR1⟩ := hV
    refine W.eq (g2 := F0 m 35 ls []) rfl ?_
    refine lv_iconst (v := 1) hx hb dX5_power_35 (by decide) ?_
    exact z_iret F (rfl) hw hS (by unfold cp_power0; rw [if_neg ho]; exact ⟨rfl, rfl, ⟨_, _, ⟨h0, h1, h2, h3, h4⟩, ht0, ht1, hR0, hR1⟩, hF⟩) dX5_power_36
  · refine W.eq (g2 := F0 m 8 ls [.int 0, .int 0]) rfl ?_
    refine lv_icmp_ne (tgt := 14) hx hb dX5_power_8 (by decide) (fun c8 => absurd c8 (by decide)) (fun c8 => ?_)
    refine lv_bipush (v := -2) hx hb dX5_power_11 (by decide) ?_
    exact z_iret F (rfl) hw hS (by unfold cp_power0; rw [if_pos ho]; exact ⟨rfl, rfl, ⟨_, _, ⟨h0, h1, h2, h3, h4⟩, ht0, ht1, hR0, hR1⟩, hF⟩) dX5_power_13
def cp_power1 (T : rf_T) (Q : rf_Q) : rf_R := (if T 1 0 = 0 then (1, ((cp_switchOn T Q).2.1), (cp_switchOn T Q).2.2) else ((-2), T, Q))
set_option maxHeartbeats 4000000 in
set_option maxRecDepth 100000 in
theorem c_power1 (l : Launch) {G : zz_G} {ad : Nat → Nat} {ce : zz_C} {sz : Nat} (T : rf_T) (Q : rf_Q) (hV : clV G ad ce T Q) : zz_M l yX5_power cX5_power 2 (some .int) 3 65 0 0 G [.ref (ad 0), .int 1] ad ce sz (fun r ad1 ce1 => r = some (.int (cp_power1 T Q).1) ∧ ad = ad1 ∧ clV G ad ce1 (cp_power1 T Q).2.1 (cp_power1 T Q).2.2 ∧ (∀ j, 50 ≤ j → ce1 j = ce j)) := by
  refine zz_enter (by decide) (Nat.le_of_ble_eq_true rfl) ?_
  intro p e s m below meth c ls F hl hw hS hA
  obtain ⟨hx, hb, hr, hml, hown, hts, hlocks, hK, hnm⟩ := id F
  have hl : lv_has ls 2 [(0, .ref (ad 0)), (1, .int 1)] := hl
  obtain ⟨r0, r1, ⟨h0, h1, h2, h3, h4⟩, ht0, ht1, hR0, hR1⟩ := hV
  have hF : ∀ j, 50 ≤ j → ce j = ce j := fun _ _ => rfl
  refine lv_iload_n hx hb dX5_power_0 rfl (lv_at hl 1 rfl) ?_
  refine lv_aload_n hx hb dX5_power_1 rfl (lv_at hl 0 rfl) ?_
  refine z_get F hw h0 fd_X5_12_X5 rfl dX5_power_2 ?_
  have hV : clV G ad ce T Q := ⟨_, _, ⟨h0, h1, h2, h3, h4⟩, ht0, ht1, hR0, hR1⟩
  refine z_invV F (rest := [.int 1]) (c_isOn l T Q hV) yv_X5_42 ⟨Nat.le_of_ble_eq_true rfl, Nat.le_of_ble_eq_true rfl⟩ hw hA hS hl h1 rfl rfl rfl (Nat.le_of_ble_eq_true rfl) dX5_power_5 ⟨Nat.le_of_ble_eq_true rfl, Nat.le_of_ble_eq_true rfl⟩ (fun r ad1 ce1 H locs hp hw hS => ?_)
  obtain ⟨hp, rfl, rfl⟩ := hp
  rcases hp with ⟨ho, rfl⟩ | ⟨ho, rfl⟩
  · refine W.eq (g2 := F0 m 8 ls [.int 1, .int 1]) rfl ?_
    refine lv_icmp_ne (tgt := 14) hx hb dX5_power_8 (by decide) (fun c8 => absurd c8 (by decide)) (fun c8 => ?_)
    refine lv_bipush (v := -2) hx hb dX5_power_11 (by decide) ?_
    exact z_iret F (rfl) hw hS (by unfold cp_power1; rw [if_neg ho]; exact ⟨rfl, rfl, ⟨_, _, ⟨h0, h1, h2, h3, h4⟩, ht0, ht1, hR0, hR1⟩, hF⟩) dX5_power_13
  · refine W.eq (g2 := F0 m 8 ls [.int 0, .int 1]) rfl ?_
    refine lv_icmp_ne (tgt := 14) hx hb dX5_power_8 (by decide) (fun c8 => ?_) (fun c8 => absurd c8 (by decide))
    refine lv_iload_n hx hb dX5_power_14 rfl (lv_at hl 1 rfl) ?_
    refine lv_if_eq (tgt := 28) hx hb dX5_power_15 (by decide) (fun c15 => absurd c15 (by decide)) (fun c15 => ?_)
    refine lv_aload_n hx hb dX5_power_18 rfl (lv_at hl 0 rfl) ?_
    refine z_get F hw h0 fd_X5_12_X5 rfl dX5_power_19 ?_
    have hV : clV G ad ce T Q := ⟨_, _, ⟨h0, h1, h2, h3, h4⟩, ht0, ht1, hR0, hR1⟩
    refine z_invV F (rest := []) (c_switchOn l T Q hV) yv_X5_46 ⟨Nat.le_of_ble_eq_true rfl, Nat.le_of_ble_eq_true rfl⟩ hw hA hS hl h1 rfl rfl rfl (Nat.le_of_ble_eq_true rfl) dX5_power_22 ⟨Nat.le_of_ble_eq_true rfl, Nat.le_of_ble_eq_true rfl⟩ (fun r ad1 ce2 H locs hp hw hS => ?_)
    obtain ⟨rfl, rfl, hV, hF2⟩ := hp
    have hF : ∀ j, 50 ≤ j → ce2 j = ce j := fun j hj => (hF2 j (by omega)).trans (hF j hj)
    obtain ⟨r0, r1, ⟨h0, h1, h2, h3, h4⟩, ht0, ht1, hR0, hR1⟩ := hV
    refine W.eq (g2 := F0 m 25 ls []) rfl ?_
    refine lv_goto (tgt := 35) hx hb dX5_power_25 (by decide) ?_
    refine lv_iconst (v := 1) hx hb dX5_power_35 (by decide) ?_
    exact z_iret F (rfl) hw hS (by unfold cp_power1; rw [if_pos ho]; exact ⟨rfl, rfl, ⟨_, _, ⟨h0, h1, h2, h3, h4⟩, ht0, ht1, hR0, hR1⟩, hF⟩) dX5_power_36
def cp_update (T : rf_T) (Q : rf_Q) (v : Int32) : rf_R := (if (v : Int32) < 0 then ((-1), T, Q) else (if (v : Int32) ≤ 65535 then ((cl_dn ((cp_startUpdating T Q v).1)), ((cp_startUpdating T Q v).2.1), (cp_startUpdating T Q v).2.2) else ((-1), T, Q)))
set_option maxHeartbeats 4000000 in
set_option maxRecDepth 100000 in
theorem c_update (l : Launch) {G : zz_G} {ad : Nat → Nat} {ce : zz_C} {sz : Nat} (T : rf_T) (Q : rf_Q) (hV : clV G ad ce T Q) (v : Int32) : zz_M l yX5_update cX5_update 2 (some .int) 3 66 0 0 G [.ref (ad 0), .int v] ad ce sz (fun r ad1 ce1 => r = some (.int (cp_update T Q v).1) ∧ ad = ad1 ∧ clV G ad ce1 (cp_update T Q v).2.1 (cp_update T Q v).2.2 ∧ (∀ j, 50 ≤ j → ce1 j = ce j)) := by
  refine zz_enter (by decide) (Nat.le_of_ble_eq_true rfl) ?_
  intro p e s m below meth c ls F hl hw hS hA
  obtain ⟨hx, hb, hr, hml, hown, hts, hlocks, hK, hnm⟩ := id F
  have hl : lv_has ls 2 [(0, .ref (ad 0)), (1, .int v)] := hl
  obtain ⟨r0, r1, ⟨h0, h1, h2, h3, h4⟩, ht0, ht1, hR0, hR1⟩ := hV
  have hF : ∀ j, 50 ≤ j → ce j = ce j := fun _ _ => rfl
  refine lv_iload_n hx hb dX5_update_0 rfl (lv_at hl 1 rfl) ?_
  refine lv_if_lt (tgt := 10) hx hb dX5_update_1 (by decide) (fun c1 => ?_) (fun c1 => ?_)
  · refine lv_iconst (v := -1) hx hb dX5_update_10 (by decide) ?_
    exact z_iret F (rfl) hw hS (by unfold cp_update; rw [if_pos c1]; exact ⟨rfl, rfl, ⟨_, _, ⟨h0, h1, h2, h3, h4⟩, ht0, ht1, hR0, hR1⟩, hF⟩) dX5_update_11
  · refine lv_iload_n hx hb dX5_update_4 rfl (lv_at hl 1 rfl) ?_
    refine lv_ldc (v := 65535) hx hb hown (hts _ wd_217) dX5_update_5 ?_
    refine lv_icmp_le (tgt := 12) hx hb dX5_update_7 (by decide) (fun c7 => ?_) (fun c7 => ?_)
    · refine lv_aload_n hx hb dX5_update_12 rfl (lv_at hl 0 rfl) ?_
      refine z_get F hw h0 fd_X5_12_X5 rfl dX5_update_13 ?_
      refine lv_iload_n hx hb dX5_update_16 rfl (lv_at hl 1 rfl) ?_
      have hV : clV G ad ce T Q := ⟨_, _, ⟨h0, h1, h2, h3, h4⟩, ht0, ht1, hR0, hR1⟩
      refine z_invV F (rest := []) (c_startUpdating l T Q hV v) yv_X5_53 ⟨Nat.le_of_ble_eq_true rfl, Nat.le_of_ble_eq_true rfl⟩ hw hA hS hl h1 rfl rfl rfl (Nat.le_of_ble_eq_true rfl) dX5_update_17 ⟨Nat.le_of_ble_eq_true rfl, Nat.le_of_ble_eq_true rfl⟩ (fun r ad1 ce1 H locs hp hw hS => ?_)
      obtain ⟨rfl, rfl, hV, hF2⟩ := hp
      have hF : ∀ j, 50 ≤ j → ce1 j = ce j := fun j hj => (hF2 j (by omega)).trans (hF j hj)
      obtain ⟨r0, r1, ⟨h0, h1, h2, h3, h4⟩, ht0, ht1, hR0, hR1⟩ := hV
      refine W.eq (g2 := F0 m 20 ls [.int (cp_startUpdating T Q v).1]) rfl ?_
      refine z_invS F (rest := []) (c_done l ((cp_startUpdating T Q v).1)) ys_X5_57 ⟨Nat.le_of_ble_eq_true rfl, Nat.le_of_ble_eq_true rfl⟩ hw hA hS hl rfl rfl (Nat.le_of_ble_eq_true rfl) dX5_update_20 ⟨Nat.le_of_ble_eq_true rfl, Nat.le_of_ble_eq_true rfl⟩ (fun r ad1 ce2 H locs hp hw hS => ?_)
      obtain ⟨rfl, rfl, rfl⟩ := hp
      refine W.eq (g2 := F0 m 23 ls [.int (cl_dn ((cp_startUpdating T Q v).1))]) rfl ?_
      exact z_iret F (rfl) hw hS (by unfold cp_update; rw [if_neg c1, if_pos c7]; exact ⟨rfl, rfl, ⟨_, _, ⟨h0, h1, h2, h3, h4⟩, ht0, ht1, hR0, hR1⟩, hF⟩) dX5_update_23
    · refine lv_iconst (v := -1) hx hb dX5_update_10 (by decide) ?_
      exact z_iret F (rfl) hw hS (by unfold cp_update; rw [if_neg c1, if_neg c7]; exact ⟨rfl, rfl, ⟨_, _, ⟨h0, h1, h2, h3, h4⟩, ht0, ht1, hR0, hR1⟩, hF⟩) dX5_update_11
def cp_dial (T : rf_T) (Q : rf_Q) (nv mv : Int32) : rf_R := (if (mv : Int32) < 1 then ((-1), T, Q) else (if (8 : Int32) < mv then ((-1), T, Q) else (if (0 : Int32) ≤ nv then ((cl_dn ((cp_startAsking T Q nv mv.toNatClampNeg).1)), ((cp_startAsking T Q nv mv.toNatClampNeg).2.1), (cp_startAsking T Q nv mv.toNatClampNeg).2.2) else ((-1), T, Q))))
set_option maxHeartbeats 4000000 in
set_option maxRecDepth 100000 in
theorem c_dial (l : Launch) {G : zz_G} {ad : Nat → Nat} {ce : zz_C} {sz : Nat} (T : rf_T) (Q : rf_Q) (hV : clV G ad ce T Q) (nv mv : Int32) : zz_M l yX5_dial cX5_dial 3 (some .int) 3 67 0 0 G [.ref (ad 0), .int nv, .int mv] ad ce sz (fun r ad1 ce1 => r = some (.int (cp_dial T Q nv mv).1) ∧ ad = ad1 ∧ clV G ad ce1 (cp_dial T Q nv mv).2.1 (cp_dial T Q nv mv).2.2 ∧ (∀ j, 50 ≤ j → ce1 j = ce j)) := by
  refine zz_enter (by decide) (Nat.le_of_ble_eq_true rfl) ?_
  intro p e s m below meth c ls F hl hw hS hA
  obtain ⟨hx, hb, hr, hml, hown, hts, hlocks, hK, hnm⟩ := id F
  have hl : lv_has ls 3 [(0, .ref (ad 0)), (1, .int nv), (2, .int mv)] := hl
  obtain ⟨r0, r1, ⟨h0, h1, h2, h3, h4⟩, ht0, ht1, hR0, hR1⟩ := hV
  have hF : ∀ j, 50 ≤ j → ce j = ce j := fun _ _ => rfl
  refine lv_iload_n hx hb dX5_dial_0 rfl (lv_at hl 2 rfl) ?_
  refine lv_iconst (v := 1) hx hb dX5_dial_1 (by decide) ?_
  refine lv_icmp_lt (tgt := 15) hx hb dX5_dial_2 (by decide) (fun c2 => ?_) (fun c2 => ?_)
  · refine lv_iconst (v := -1) hx hb dX5_dial_15 (by decide) ?_
    exact z_iret F (rfl) hw hS (by unfold cp_dial; rw [if_pos c2]; exact ⟨rfl, rfl, ⟨_, _, ⟨h0, h1, h2, h3, h4⟩, ht0, ht1, hR0, hR1⟩, hF⟩) dX5_dial_16
  · refine lv_iload_n hx hb dX5_dial_5 rfl (lv_at hl 2 rfl) ?_
    refine lv_bipush (v := 8) hx hb dX5_dial_6 (by decide) ?_
    refine lv_icmp_gt (tgt := 15) hx hb dX5_dial_8 (by decide) (fun c8 => ?_) (fun c8 => ?_)
    · refine lv_iconst (v := -1) hx hb dX5_dial_15 (by decide) ?_
      exact z_iret F (rfl) hw hS (by unfold cp_dial; rw [if_neg c2, if_pos c8]; exact ⟨rfl, rfl, ⟨_, _, ⟨h0, h1, h2, h3, h4⟩, ht0, ht1, hR0, hR1⟩, hF⟩) dX5_dial_16
    · refine lv_iload_n hx hb dX5_dial_11 rfl (lv_at hl 1 rfl) ?_
      refine lv_if_ge (tgt := 17) hx hb dX5_dial_12 (by decide) (fun c12 => ?_) (fun c12 => ?_)
      · have hm0 : ¬ mv < 0 := fun q => c2 (by rw [Int32.lt_iff_toInt_lt] at q ⊢; rw [Int32.toInt_zero] at q; rw [show (1 : Int32).toInt = 1 from rfl]; omega)
        have hmv : mv = nI mv.toNatClampNeg := cl_ixv hm0
        have hd8 : mv.toNatClampNeg ≤ 8 := Nat.le_of_not_lt (fun q => c8 (by rw [hmv]; exact nI_lt (a := 8) q (rf_clt mv)))
        refine lv_aload_n hx hb dX5_dial_17 rfl (lv_at hl 0 rfl) ?_
        refine z_get F hw h0 fd_X5_12_X5 rfl dX5_dial_18 ?_
        refine lv_iload_n hx hb dX5_dial_21 rfl (lv_at hl 1 rfl) ?_
        refine lv_iload_n hx hb dX5_dial_22 rfl (lv_at hl 2 rfl) ?_
        refine z_top (nI mv.toNatClampNeg) (hmv) ?_
        have hV : clV G ad ce T Q := ⟨_, _, ⟨h0, h1, h2, h3, h4⟩, ht0, ht1, hR0, hR1⟩
        refine z_invV F (rest := []) (c_startAsking l T Q hV nv mv.toNatClampNeg hd8) yv_X5_61 ⟨Nat.le_of_ble_eq_true rfl, Nat.le_of_ble_eq_true rfl⟩ hw hA hS hl h1 rfl rfl rfl (Nat.le_of_ble_eq_true rfl) dX5_dial_23 ⟨Nat.le_of_ble_eq_true rfl, Nat.le_of_ble_eq_true rfl⟩ (fun r ad1 ce1 H locs hp hw hS => ?_)
        obtain ⟨rfl, rfl, hV, hF2⟩ := hp
        have hF : ∀ j, 50 ≤ j → ce1 j = ce j := fun j hj => (hF2 j (by omega)).trans (hF j hj)
        obtain ⟨r0, r1, ⟨h0, h1, h2, h3, h4⟩, ht0, ht1, hR0, hR1⟩ := hV
        refine W.eq (g2 := F0 m 26 ls [.int (cp_startAsking T Q nv mv.toNatClampNeg).1]) rfl ?_
        refine z_invS F (rest := []) (c_done l ((cp_startAsking T Q nv mv.toNatClampNeg).1)) ys_X5_57 ⟨Nat.le_of_ble_eq_true rfl, Nat.le_of_ble_eq_true rfl⟩ hw hA hS hl rfl rfl (Nat.le_of_ble_eq_true rfl) dX5_dial_26 ⟨Nat.le_of_ble_eq_true rfl, Nat.le_of_ble_eq_true rfl⟩ (fun r ad1 ce2 H locs hp hw hS => ?_)
        obtain ⟨rfl, rfl, rfl⟩ := hp
        refine W.eq (g2 := F0 m 29 ls [.int (cl_dn ((cp_startAsking T Q nv mv.toNatClampNeg).1))]) rfl ?_
        exact z_iret F (rfl) hw hS (by unfold cp_dial; rw [if_neg c2, if_neg c8, if_pos c12]; exact ⟨rfl, rfl, ⟨_, _, ⟨h0, h1, h2, h3, h4⟩, ht0, ht1, hR0, hR1⟩, hF⟩) dX5_dial_29
      · refine lv_iconst (v := -1) hx hb dX5_dial_15 (by decide) ?_
        exact z_iret F (rfl) hw hS (by unfold cp_dial; rw [if_neg c2, if_neg c8, if_neg c12]; exact ⟨rfl, rfl, ⟨_, _, ⟨h0, h1, h2, h3, h4⟩, ht0, ht1, hR0, hR1⟩, hF⟩) dX5_dial_16
def cp_hang (T : rf_T) (Q : rf_Q) : rf_R := ((cl_dn ((cp_startEnding0 T Q 16).1)), ((cp_startEnding0 T Q 16).2.1), (cp_startEnding0 T Q 16).2.2)
set_option maxHeartbeats 4000000 in
set_option maxRecDepth 100000 in
theorem c_hang (l : Launch) {G : zz_G} {ad : Nat → Nat} {ce : zz_C} {sz : Nat} (T : rf_T) (Q : rf_Q) (hV : clV G ad ce T Q) : zz_M l yX5_hang cX5_hang 1 (some .int) 3 66 0 0 G [.ref (ad 0)] ad ce sz (fun r ad1 ce1 => r = some (.int (cp_hang T Q).1) ∧ ad = ad1 ∧ clV G ad ce1 (cp_hang T Q).2.1 (cp_hang T Q).2.2 ∧ (∀ j, 50 ≤ j → ce1 j = ce j)) := by
  refine zz_enter (by decide) (Nat.le_of_ble_eq_true rfl) ?_
  intro p e s m below meth c ls F hl hw hS hA
  obtain ⟨hx, hb, hr, hml, hown, hts, hlocks, hK, hnm⟩ := id F
  have hl : lv_has ls 1 [(0, .ref (ad 0))] := hl
  obtain ⟨r0, r1, ⟨h0, h1, h2, h3, h4⟩, ht0, ht1, hR0, hR1⟩ := hV
  have hF : ∀ j, 50 ≤ j → ce j = ce j := fun _ _ => rfl
  refine lv_aload_n hx hb dX5_hang_0 rfl (lv_at hl 0 rfl) ?_
  refine z_get F hw h0 fd_X5_12_X5 rfl dX5_hang_1 ?_
  refine lv_bipush (v := 16) hx hb dX5_hang_4 (by decide) ?_
  have hV : clV G ad ce T Q := ⟨_, _, ⟨h0, h1, h2, h3, h4⟩, ht0, ht1, hR0, hR1⟩
  refine z_invU F (rest := []) (c_startEnding0 l T Q hV 16) yu_X5_65_X1 ⟨Nat.le_of_ble_eq_true rfl, Nat.le_of_ble_eq_true rfl⟩ hw hA hS hl h1 rfl rfl rfl (Nat.le_of_ble_eq_true rfl) dX5_hang_6 ⟨Nat.le_of_ble_eq_true rfl, Nat.le_of_ble_eq_true rfl⟩ (fun r ad1 ce1 H locs hp hw hS => ?_)
  obtain ⟨rfl, rfl, hV, hF2⟩ := hp
  have hF : ∀ j, 50 ≤ j → ce1 j = ce j := fun j hj => (hF2 j (by omega)).trans (hF j hj)
  obtain ⟨r0, r1, ⟨h0, h1, h2, h3, h4⟩, ht0, ht1, hR0, hR1⟩ := hV
  refine W.eq (g2 := F0 m 9 ls [.int (cp_startEnding0 T Q 16).1]) rfl ?_
  refine z_invS F (rest := []) (c_done l ((cp_startEnding0 T Q 16).1)) ys_X5_57 ⟨Nat.le_of_ble_eq_true rfl, Nat.le_of_ble_eq_true rfl⟩ hw hA hS hl rfl rfl (Nat.le_of_ble_eq_true rfl) dX5_hang_9 ⟨Nat.le_of_ble_eq_true rfl, Nat.le_of_ble_eq_true rfl⟩ (fun r ad1 ce2 H locs hp hw hS => ?_)
  obtain ⟨rfl, rfl, rfl⟩ := hp
  refine W.eq (g2 := F0 m 12 ls [.int (cl_dn ((cp_startEnding0 T Q 16).1))]) rfl ?_
  exact z_iret F (rfl) hw hS (by unfold cp_hang; exact ⟨rfl, rfl, ⟨_, _, ⟨h0, h1, h2, h3, h4⟩, ht0, ht1, hR0, hR1⟩, hF⟩) dX5_hang_12
def cp_alert (T : rf_T) (Q : rf_Q) : rf_R := ((cl_dn ((cp_startRinging T Q).1)), ((cp_startRinging T Q).2.1), (cp_startRinging T Q).2.2)
set_option maxHeartbeats 4000000 in
set_option maxRecDepth 100000 in
theorem c_alert (l : Launch) {G : zz_G} {ad : Nat → Nat} {ce : zz_C} {sz : Nat} (T : rf_T) (Q : rf_Q) (hV : clV G ad ce T Q) : zz_M l yX5_alert cX5_alert 1 (some .int) 3 65 0 0 G [.ref (ad 0)] ad ce sz (fun r ad1 ce1 => r = some (.int (cp_alert T Q).1) ∧ ad = ad1 ∧ clV G ad ce1 (cp_alert T Q).2.1 (cp_alert T Q).2.2 ∧ (∀ j, 50 ≤ j → ce1 j = ce j)) := by
  refine zz_enter (by decide) (Nat.le_of_ble_eq_true rfl) ?_
  intro p e s m below meth c ls F hl hw hS hA
  obtain ⟨hx, hb, hr, hml, hown, hts, hlocks, hK, hnm⟩ := id F
  have hl : lv_has ls 1 [(0, .ref (ad 0))] := hl
  obtain ⟨r0, r1, ⟨h0, h1, h2, h3, h4⟩, ht0, ht1, hR0, hR1⟩ := hV
  have hF : ∀ j, 50 ≤ j → ce j = ce j := fun _ _ => rfl
  refine lv_aload_n hx hb dX5_alert_0 rfl (lv_at hl 0 rfl) ?_
  refine z_get F hw h0 fd_X5_23_X5 rfl dX5_alert_1 ?_
  have hV : clV G ad ce T Q := ⟨_, _, ⟨h0, h1, h2, h3, h4⟩, ht0, ht1, hR0, hR1⟩
  refine z_invV F (rest := []) (c_startRinging l T Q hV) yv_X5_68 ⟨Nat.le_of_ble_eq_true rfl, Nat.le_of_ble_eq_true rfl⟩ hw hA hS hl h2 rfl rfl rfl (Nat.le_of_ble_eq_true rfl) dX5_alert_4 ⟨Nat.le_of_ble_eq_true rfl, Nat.le_of_ble_eq_true rfl⟩ (fun r ad1 ce1 H locs hp hw hS => ?_)
  obtain ⟨rfl, rfl, hV, hF2⟩ := hp
  have hF : ∀ j, 50 ≤ j → ce1 j = ce j := fun j hj => (hF2 j (by omega)).trans (hF j hj)
  obtain ⟨r0, r1, ⟨h0, h1, h2, h3, h4⟩, ht0, ht1, hR0, hR1⟩ := hV
  refine W.eq (g2 := F0 m 7 ls [.int (cp_startRinging T Q).1]) rfl ?_
  refine z_invS F (rest := []) (c_done l ((cp_startRinging T Q).1)) ys_X5_57 ⟨Nat.le_of_ble_eq_true rfl, Nat.le_of_ble_eq_true rfl⟩ hw hA hS hl rfl rfl (Nat.le_of_ble_eq_true rfl) dX5_alert_7 ⟨Nat.le_of_ble_eq_true rfl, Nat.le_of_ble_eq_true rfl⟩ (fun r ad1 ce2 H locs hp hw hS => ?_)
  obtain ⟨rfl, rfl, rfl⟩ := hp
  refine W.eq (g2 := F0 m 10 ls [.int (cl_dn ((cp_startRinging T Q).1))]) rfl ?_
  exact z_iret F (rfl) hw hS (by unfold cp_alert; exact ⟨rfl, rfl, ⟨_, _, ⟨h0, h1, h2, h3, h4⟩, ht0, ht1, hR0, hR1⟩, hF⟩) dX5_alert_10
def cp_answer (T : rf_T) (Q : rf_Q) : rf_R := ((cl_dn ((cp_startAnswered T Q).1)), ((cp_startAnswered T Q).2.1), (cp_startAnswered T Q).2.2)
set_option maxHeartbeats 4000000 in
set_option maxRecDepth 100000 in
theorem c_answer (l : Launch) {G : zz_G} {ad : Nat → Nat} {ce : zz_C} {sz : Nat} (T : rf_T) (Q : rf_Q) (hV : clV G ad ce T Q) : zz_M l yX5_answer cX5_answer 1 (some .int) 3 65 0 0 G [.ref (ad 0)] ad ce sz (fun r ad1 ce1 => r = some (.int (cp_answer T Q).1) ∧ ad = ad1 ∧ clV G ad ce1 (cp_answer T Q).2.1 (cp_answer T Q).2.2 ∧ (∀ j, 50 ≤ j → ce1 j = ce j)) := by
  refine zz_enter (by decide) (Nat.le_of_ble_eq_true rfl) ?_
  intro p e s m below meth c ls F hl hw hS hA
  obtain ⟨hx, hb, hr, hml, hown, hts, hlocks, hK, hnm⟩ := id F
  have hl : lv_has ls 1 [(0, .ref (ad 0))] := hl
  obtain ⟨r0, r1, ⟨h0, h1, h2, h3, h4⟩, ht0, ht1, hR0, hR1⟩ := hV
  have hF : ∀ j, 50 ≤ j → ce j = ce j := fun _ _ => rfl
  refine lv_aload_n hx hb dX5_answer_0 rfl (lv_at hl 0 rfl) ?_
  refine z_get F hw h0 fd_X5_23_X5 rfl dX5_answer_1 ?_
  have hV : clV G ad ce T Q := ⟨_, _, ⟨h0, h1, h2, h3, h4⟩, ht0, ht1, hR0, hR1⟩
  refine z_invV F (rest := []) (c_startAnswered l T Q hV) yv_X5_71 ⟨Nat.le_of_ble_eq_true rfl, Nat.le_of_ble_eq_true rfl⟩ hw hA hS hl h2 rfl rfl rfl (Nat.le_of_ble_eq_true rfl) dX5_answer_4 ⟨Nat.le_of_ble_eq_true rfl, Nat.le_of_ble_eq_true rfl⟩ (fun r ad1 ce1 H locs hp hw hS => ?_)
  obtain ⟨rfl, rfl, hV, hF2⟩ := hp
  have hF : ∀ j, 50 ≤ j → ce1 j = ce j := fun j hj => (hF2 j (by omega)).trans (hF j hj)
  obtain ⟨r0, r1, ⟨h0, h1, h2, h3, h4⟩, ht0, ht1, hR0, hR1⟩ := hV
  refine W.eq (g2 := F0 m 7 ls [.int (cp_startAnswered T Q).1]) rfl ?_
  refine z_invS F (rest := []) (c_done l ((cp_startAnswered T Q).1)) ys_X5_57 ⟨Nat.le_of_ble_eq_true rfl, Nat.le_of_ble_eq_true rfl⟩ hw hA hS hl rfl rfl (Nat.le_of_ble_eq_true rfl) dX5_answer_7 ⟨Nat.le_of_ble_eq_true rfl, Nat.le_of_ble_eq_true rfl⟩ (fun r ad1 ce2 H locs hp hw hS => ?_)
  obtain ⟨rfl, rfl, rfl⟩ := hp
  refine W.eq (g2 := F0 m 10 ls [.int (cl_dn ((cp_startAnswered T Q).1))]) rfl ?_
  exact z_iret F (rfl) hw hS (by unfold cp_answer; exact ⟨rfl, rfl, ⟨_, _, ⟨h0, h1, h2, h3, h4⟩, ht0, ht1, hR0, hR1⟩, hF⟩) dX5_answer_10
def cp_clear (T : rf_T) (Q : rf_Q) (v : Int32) : rf_R := (if cl_by v then ((cl_dn ((cp_startEnding1 T Q v).1)), ((cp_startEnding1 T Q v).2.1), (cp_startEnding1 T Q v).2.2) else ((-1), T, Q))
set_option maxHeartbeats 4000000 in
set_option maxRecDepth 100000 in
theorem c_clear (l : Launch) {G : zz_G} {ad : Nat → Nat} {ce : zz_C} {sz : Nat} (T : rf_T) (Q : rf_Q) (hV : clV G ad ce T Q) (v : Int32) : zz_M l yX5_clear cX5_clear 2 (some .int) 3 66 0 0 G [.ref (ad 0), .int v] ad ce sz (fun r ad1 ce1 => r = some (.int (cp_clear T Q v).1) ∧ ad = ad1 ∧ clV G ad ce1 (cp_clear T Q v).2.1 (cp_clear T Q v).2.2 ∧ (∀ j, 50 ≤ j → ce1 j = ce j)) := by
  refine zz_enter (by decide) (Nat.le_of_ble_eq_true rfl) ?_
  intro p e s m below meth c ls F hl hw hS hA
  obtain ⟨hx, hb, hr, hml, hown, hts, hlocks, hK, hnm⟩ := id F
  have hl : lv_has ls 2 [(0, .ref (ad 0)), (1, .int v)] := hl
  obtain ⟨r0, r1, ⟨h0, h1, h2, h3, h4⟩, ht0, ht1, hR0, hR1⟩ := hV
  have hF : ∀ j, 50 ≤ j → ce j = ce j := fun _ _ => rfl
  refine lv_iload_n hx hb dX5_clear_0 rfl (lv_at hl 1 rfl) ?_
  refine z_invS F (rest := []) (c_isByte l v) ys_X5_74 ⟨Nat.le_of_ble_eq_true rfl, Nat.le_of_ble_eq_true rfl⟩ hw hA hS hl rfl rfl (Nat.le_of_ble_eq_true rfl) dX5_clear_1 ⟨Nat.le_of_ble_eq_true rfl, Nat.le_of_ble_eq_true rfl⟩ (fun r ad1 ce1 H locs hp hw hS => ?_)
  obtain ⟨hp, rfl, rfl⟩ := hp
  rcases hp with ⟨hby, rfl⟩ | ⟨hby, rfl⟩
  · refine W.eq (g2 := F0 m 4 ls [.int 1]) rfl ?_
    refine lv_if_ne (tgt := 9) hx hb dX5_clear_4 (by decide) (fun c4 => ?_) (fun c4 => absurd c4 (by decide))
    refine lv_aload_n hx hb dX5_clear_9 rfl (lv_at hl 0 rfl) ?_
    refine z_get F hw h0 fd_X5_23_X5 rfl dX5_clear_10 ?_
    refine lv_iload_n hx hb dX5_clear_13 rfl (lv_at hl 1 rfl) ?_
    have hV : clV G ad ce T Q := ⟨_, _, ⟨h0, h1, h2, h3, h4⟩, ht0, ht1, hR0, hR1⟩
    refine z_invU F (rest := []) (c_startEnding1 l T Q hV v) yu_X5_77_X2 ⟨Nat.le_of_ble_eq_true rfl, Nat.le_of_ble_eq_true rfl⟩ hw hA hS hl h2 rfl rfl rfl (Nat.le_of_ble_eq_true rfl) dX5_clear_14 ⟨Nat.le_of_ble_eq_true rfl, Nat.le_of_ble_eq_true rfl⟩ (fun r ad1 ce2 H locs hp hw hS => ?_)
    obtain ⟨rfl, rfl, hV, hF2⟩ := hp
    have hF : ∀ j, 50 ≤ j → ce2 j = ce j := fun j hj => (hF2 j (by omega)).trans (hF j hj)
    obtain ⟨r0, r1, ⟨h0, h1, h2, h3, h4⟩, ht0, ht1, hR0, hR1⟩ := hV
    refine W.eq (g2 := F0 m 17 ls [.int (cp_startEnding1 T Q v).1]) rfl ?_
    refine z_invS F (rest := []) (c_done l ((cp_startEnding1 T Q v).1)) ys_X5_57 ⟨Nat.le_of_ble_eq_true rfl, Nat.le_of_ble_eq_true rfl⟩ hw hA hS hl rfl rfl (Nat.le_of_ble_eq_true rfl) dX5_clear_17 ⟨Nat.le_of_ble_eq_true rfl, Nat.le_of_ble_eq_true rfl⟩ (fun r ad1 ce3 H locs hp hw hS => ?_)
    obtain ⟨rfl, rfl, rfl⟩ := hp
    refine W.eq (g2 := F0 m 20 ls [.int (cl_dn ((cp_startEnding1 T Q v).1))]) rfl ?_
    exact z_iret F (rfl) hw hS (by unfold cp_clear; rw [if_pos hby]; exact ⟨rfl, rfl, ⟨_, _, ⟨h0, h1, h2, h3, h4⟩, ht0, ht1, hR0, hR1⟩, hF⟩) dX5_clear_20
  · refine W.eq (g2 := F0 m 4 ls [.int 0]) rfl ?_
    refine lv_if_ne (tgt := 9) hx hb dX5_clear_4 (by decide) (fun c4 => absurd c4 (by decide)) (fun c4 => ?_)
    refine lv_iconst (v := -1) hx hb dX5_clear_7 (by decide) ?_
    exact z_iret F (rfl) hw hS (by unfold cp_clear; rw [if_neg hby]; exact ⟨rfl, rfl, ⟨_, _, ⟨h0, h1, h2, h3, h4⟩, ht0, ht1, hR0, hR1⟩, hF⟩) dX5_clear_8
set_option maxHeartbeats 4000000 in
set_option maxRecDepth 100000 in
theorem c_accept (l : Launch) {G : zz_G} {ad : Nat → Nat} {ce : zz_C} {sz : Nat} (T : rf_T) (Q : rf_Q) (hV : clV G ad ce T Q) (v : Int32) : zz_M l yX5_accept cX5_accept 2 (some .int) 1 22 0 0 G [.ref (ad 0), .int v] ad ce sz (fun r ad1 ce1 => r = some (.int 1) ∧ ad = ad1 ∧ clV G ad ce1 (va_up T 0 (va_up (T 0) 3 v)) (Q) ∧ (∀ j, 50 ≤ j → ce1 j = ce j)) := by
  refine zz_enter (by decide) (Nat.le_of_ble_eq_true rfl) ?_
  intro p e s m below meth c ls F hl hw hS hA
  obtain ⟨hx, hb, hr, hml, hown, hts, hlocks, hK, hnm⟩ := id F
  have hl : lv_has ls 2 [(0, .ref (ad 0)), (1, .int v)] := hl
  obtain ⟨r0, r1, ⟨h0, h1, h2, h3, h4⟩, ht0, ht1, hR0, hR1⟩ := hV
  have hF : ∀ j, 50 ≤ j → ce j = ce j := fun _ _ => rfl
  refine lv_aload_n hx hb dX5_accept_0 rfl (lv_at hl 0 rfl) ?_
  refine z_get F hw h0 fd_X5_23_X5 rfl dX5_accept_1 ?_
  refine lv_iload_n hx hb dX5_accept_4 rfl (lv_at hl 1 rfl) ?_
  refine lv_iconst (v := 1) hx hb dX5_accept_5 (by decide) ?_
  refine lv_iand hx hb dX5_accept_6 ?_
  refine lv_if_eq (tgt := 14) hx hb dX5_accept_7 (by decide) (fun c7 => ?_) (fun c7 => ?_)
  · refine lv_iconst (v := 0) hx hb dX5_accept_14 (by decide) ?_
    refine lv_iload_n hx hb dX5_accept_15 rfl (lv_at hl 1 rfl) ?_
    refine lv_iconst (v := 2) hx hb dX5_accept_16 (by decide) ?_
    refine lv_iand hx hb dX5_accept_17 ?_
    refine lv_if_eq (tgt := 25) hx hb dX5_accept_18 (by decide) (fun c18 => ?_) (fun c18 => ?_)
    · refine lv_iconst (v := 0) hx hb dX5_accept_25 (by decide) ?_
      have hV : clV G ad ce T Q := ⟨_, _, ⟨h0, h1, h2, h3, h4⟩, ht0, ht1, hR0, hR1⟩
      refine z_invV F (rest := []) (c_setAccepted l T Q hV v 0 0 (by unfold cl_b0; rw [if_pos c7]) (by unfold cl_b1; rw [if_pos c18])) yv_X5_78 ⟨Nat.le_of_ble_eq_true rfl, Nat.le_of_ble_eq_true rfl⟩ hw hA hS hl h2 rfl rfl rfl (Nat.le_of_ble_eq_true rfl) dX5_accept_26 ⟨Nat.le_of_ble_eq_true rfl, Nat.le_of_ble_eq_true rfl⟩ (fun r ad1 ce1 H locs hp hw hS => ?_)
      obtain ⟨rfl, rfl, hV, hF2⟩ := hp
      have hF : ∀ j, 50 ≤ j → ce1 j = ce j := fun j hj => (hF2 j (by omega)).trans (hF j hj)
      obtain ⟨r0, r1, ⟨h0, h1, h2, h3, h4⟩, ht0, ht1, hR0, hR1⟩ := hV
      refine W.eq (g2 := F0 m 29 ls []) rfl ?_
      refine lv_iconst (v := 1) hx hb dX5_accept_29 (by decide) ?_
      exact z_iret F (rfl) hw hS (⟨rfl, rfl, ⟨_, _, ⟨h0, h1, h2, h3, h4⟩, ht0, ht1, hR0, hR1⟩, hF⟩) dX5_accept_30
    · refine lv_iconst (v := 1) hx hb dX5_accept_21 (by decide) ?_
      refine lv_goto (tgt := 26) hx hb dX5_accept_22 (by decide) ?_
      have hV : clV G ad ce T Q := ⟨_, _, ⟨h0, h1, h2, h3, h4⟩, ht0, ht1, hR0, hR1⟩
      refine z_invV F (rest := []) (c_setAccepted l T Q hV v 0 1 (by unfold cl_b0; rw [if_pos c7]) (by unfold cl_b1; rw [if_neg c18])) yv_X5_78 ⟨Nat.le_of_ble_eq_true rfl, Nat.le_of_ble_eq_true rfl⟩ hw hA hS hl h2 rfl rfl rfl (Nat.le_of_ble_eq_true rfl) dX5_accept_26 ⟨Nat.le_of_ble_eq_true rfl, Nat.le_of_ble_eq_true rfl⟩ (fun r ad1 ce2 H locs hp hw hS => ?_)
      obtain ⟨rfl, rfl, hV, hF2⟩ := hp
      have hF : ∀ j, 50 ≤ j → ce2 j = ce j := fun j hj => (hF2 j (by omega)).trans (hF j hj)
      obtain ⟨r0, r1, ⟨h0, h1, h2, h3, h4⟩, ht0, ht1, hR0, hR1⟩ := hV
      refine W.eq (g2 := F0 m 29 ls []) rfl ?_
      refine lv_iconst (v := 1) hx hb dX5_accept_29 (by decide) ?_
      exact z_iret F (rfl) hw hS (⟨rfl, rfl, ⟨_, _, ⟨h0, h1, h2, h3, h4⟩, ht0, ht1, hR0, hR1⟩, hF⟩) dX5_accept_30
  · refine lv_iconst (v := 1) hx hb dX5_accept_10 (by decide) ?_
    refine lv_goto (tgt := 15) hx hb dX5_accept_11 (by decide) ?_
    refine lv_iload_n hx hb dX5_accept_15 rfl (lv_at hl 1 rfl) ?_
    refine lv_iconst (v := 2) hx hb dX5_accept_16 (by decide) ?_
    refine lv_iand hx hb dX5_accept_17 ?_
    refine lv_if_eq (tgt := 25) hx hb dX5_accept_18 (by decide) (fun c18 => ?_) (fun c18 => ?_)
    · refine lv_iconst (v := 0) hx hb dX5_accept_25 (by decide) ?_
      have hV : clV G ad ce T Q := ⟨_, _, ⟨h0, h1, h2, h3, h4⟩, ht0, ht1, hR0, hR1⟩
      refine z_invV F (rest := []) (c_setAccepted l T Q hV v 1 0 (by unfold cl_b0; rw [if_neg c7]) (by unfold cl_b1; rw [if_pos c18])) yv_X5_78 ⟨Nat.le_of_ble_eq_true rfl, Nat.le_of_ble_eq_true rfl⟩ hw hA hS hl h2 rfl rfl rfl (Nat.le_of_ble_eq_true rfl) dX5_accept_26 ⟨Nat.le_of_ble_eq_true rfl, Nat.le_of_ble_eq_true rfl⟩ (fun r ad1 ce3 H locs hp hw hS => ?_)
      obtain ⟨rfl, rfl, hV, hF2⟩ := hp
      have hF : ∀ j, 50 ≤ j → ce3 j = ce j := fun j hj => (hF2 j (by omega)).trans (hF j hj)
      obtain ⟨r0, r1, ⟨h0, h1, h2, h3, h4⟩, ht0, ht1, hR0, hR1⟩ := hV
      refine W.eq (g2 := F0 m 29 ls []) rfl ?_
      refine lv_iconst (v := 1) hx hb dX5_accept_29 (by decide) ?_
      exact z_iret F (rfl) hw hS (⟨rfl, rfl, ⟨_, _, ⟨h0, h1, h2, h3, h4⟩, ht0, ht1, hR0, hR1⟩, hF⟩) dX5_accept_30
    · refine lv_iconst (v := 1) hx hb dX5_accept_21 (by decide) ?_
      refine lv_goto (tgt := 26) hx hb dX5_accept_22 (by decide) ?_
      have hV : clV G ad ce T Q := ⟨_, _, ⟨h0, h1, h2, h3, h4⟩, ht0, ht1, hR0, hR1⟩
      refine z_invV F (rest := []) (c_setAccepted l T Q hV v 1 1 (by unfold cl_b0; rw [if_neg c7]) (by unfold cl_b1; rw [if_neg c18])) yv_X5_78 ⟨Nat.le_of_ble_eq_true rfl, Nat.le_of_ble_eq_true rfl⟩ hw hA hS hl h2 rfl rfl rfl (Nat.le_of_ble_eq_true rfl) dX5_accept_26 ⟨Nat.le_of_ble_eq_true rfl, Nat.le_of_ble_eq_true rfl⟩ (fun r ad1 ce4 H locs hp hw hS => ?_)
      obtain ⟨rfl, rfl, hV, hF2⟩ := hp
      have hF : ∀ j, 50 ≤ j → ce4 j = ce j := fun j hj => (hF2 j (by omega)).trans (hF j hj)
      obtain ⟨r0, r1, ⟨h0, h1, h2, h3, h4⟩, ht0, ht1, hR0, hR1⟩ := hV
      refine W.eq (g2 := F0 m 29 ls []) rfl ?_
      refine lv_iconst (v := 1) hx hb dX5_accept_29 (by decide) ?_
      exact z_iret F (rfl) hw hS (⟨rfl, rfl, ⟨_, _, ⟨h0, h1, h2, h3, h4⟩, ht0, ht1, hR0, hR1⟩, hF⟩) dX5_accept_30
def cp_radio0 (T : rf_T) (Q : rf_Q) : rf_R := (if T 0 4 = 0 then (1, (rf_become ((cp_dropRadio (va_up T 0 (va_up (T 0) 4 1)) (fun _ => [])).2.1) 1 0 0 0), (cp_dropRadio (va_up T 0 (va_up (T 0) 4 1)) (fun _ => [])).2.2) else ((-2), T, Q))
set_option maxHeartbeats 4000000 in
set_option maxRecDepth 100000 in
theorem c_radio0 (l : Launch) {G : zz_G} {ad : Nat → Nat} {ce : zz_C} {sz : Nat} (T : rf_T) (Q : rf_Q) (hV : clV G ad ce T Q) : zz_M l yX5_radio cX5_radio 2 (some .int) 3 62 0 0 G [.ref (ad 0), .int 0] ad ce sz (fun r ad1 ce1 => r = some (.int (cp_radio0 T Q).1) ∧ ad = ad1 ∧ clV G ad ce1 (cp_radio0 T Q).2.1 (cp_radio0 T Q).2.2 ∧ (∀ j, 50 ≤ j → ce1 j = ce j)) := by
  refine zz_enter (by decide) (Nat.le_of_ble_eq_true rfl) ?_
  intro p e s m below meth c ls F hl hw hS hA
  obtain ⟨hx, hb, hr, hml, hown, hts, hlocks, hK, hnm⟩ := id F
  have hl : lv_has ls 2 [(0, .ref (ad 0)), (1, .int 0)] := hl
  obtain ⟨r0, r1, ⟨h0, h1, h2, h3, h4⟩, ht0, ht1, hR0, hR1⟩ := hV
  have hF : ∀ j, 50 ≤ j → ce j = ce j := fun _ _ => rfl
  refine lv_iload_n hx hb dX5_radio_0 rfl (lv_at hl 1 rfl) ?_
  refine lv_aload_n hx hb dX5_radio_1 rfl (lv_at hl 0 rfl) ?_
  refine z_get F hw h0 fd_X5_31_X5 rfl dX5_radio_2 ?_
  obtain ⟨vs9, ho9⟩ := hR0.obj
  refine z_invV F (rest := [.int 0]) (c_isOpen l 10 _ _ hR0 (cl_opb _)) yv_X5_82 ⟨Nat.le_of_ble_eq_true rfl, Nat.le_of_ble_eq_true rfl⟩ hw hA hS hl ho9 rfl rfl rfl (Nat.le_of_ble_eq_true rfl) dX5_radio_5 ⟨Nat.le_of_ble_eq_true rfl, Nat.le_of_ble_eq_true rfl⟩ (fun r ad1 ce1 H locs hp hw hS => ?_)
  obtain ⟨rfl, rfl, rfl⟩ := hp
  by_cases hsl : T 0 4 = 0
  · refine W.eq (g2 := F0 m 8 ls [.int 1, .int 0]) (by rw [show cl_op T = 1 from by unfold cl_op; rw [if_pos hsl]]; rfl) ?_
    refine lv_icmp_ne (tgt := 14) hx hb dX5_radio_8 (by decide) (fun c8 => ?_) (fun c8 => absurd c8 (by decide))
    refine lv_iload_n hx hb dX5_radio_14 rfl (lv_at hl 1 rfl) ?_
    refine lv_if_eq (tgt := 35) hx hb dX5_radio_15 (by decide) (fun c15 => ?_) (fun c15 => absurd c15 (by decide))
    refine lv_aload_n hx hb dX5_radio_35 rfl (lv_at hl 0 rfl) ?_
    refine z_get F hw h0 fd_X5_31_X5 rfl dX5_radio_36 ?_
    obtain ⟨vs9, ho9⟩ := hR0.obj
    refine z_invV F (rest := []) (c_close l 10 _ _ hR0) yv_X5_90 ⟨Nat.le_of_ble_eq_true rfl, Nat.le_of_ble_eq_true rfl⟩ hw hA hS hl ho9 rfl rfl rfl (Nat.le_of_ble_eq_true rfl) dX5_radio_39 ⟨Nat.le_of_ble_eq_true rfl, Nat.le_of_ble_eq_true rfl⟩ (fun r ad1 ce2 H locs hp hw hS => ?_)
    obtain ⟨rfl, rfl, hR0, hF2⟩ := hp
    have h0 := (hF2 0 (by decide)).trans h0
    have h1 := (hF2 1 (by decide)).trans h1
    have h2 := (hF2 2 (by decide)).trans h2
    have h3 := (hF2 3 (by decide)).trans h3
    have h4 := (hF2 4 (by decide)).trans h4
    have hR1 := hR1.kept (fun j h1 h2 => hF2 j (by omega))
    have hF : ∀ j, 50 ≤ j → ce2 j = ce j := fun j hj => (hF2 j (by omega)).trans (hF j hj)
    refine W.eq (g2 := F0 m 42 ls []) rfl ?_
    refine lv_aload_n hx hb dX5_radio_42 rfl (lv_at hl 0 rfl) ?_
    refine z_get F hw h0 fd_X5_35_X5 rfl dX5_radio_43 ?_
    obtain ⟨vs9, ho9⟩ := hR1.obj
    refine z_invV F (rest := []) (c_close l 30 _ _ hR1) yv_X5_90 ⟨Nat.le_of_ble_eq_true rfl, Nat.le_of_ble_eq_true rfl⟩ hw hA hS hl ho9 rfl rfl rfl (Nat.le_of_ble_eq_true rfl) dX5_radio_46 ⟨Nat.le_of_ble_eq_true rfl, Nat.le_of_ble_eq_true rfl⟩ (fun r ad1 ce3 H locs hp hw hS => ?_)
    obtain ⟨rfl, rfl, hR1, hF2⟩ := hp
    have h0 := (hF2 0 (by decide)).trans h0
    have h1 := (hF2 1 (by decide)).trans h1
    have h2 := (hF2 2 (by decide)).trans h2
    have h3 := (hF2 3 (by decide)).trans h3
    have h4 := (hF2 4 (by decide)).trans h4
    have hR0 := hR0.kept (fun j h1 h2 => hF2 j (by omega))
    have hF : ∀ j, 50 ≤ j → ce3 j = ce j := fun j hj => (hF2 j (by omega)).trans (hF j hj)
    have hV : clV G ad ce3 (va_up T 0 (va_up (T 0) 4 1)) (fun _ => []) := ⟨r0, r1, ⟨h0, h1, h2, h3, h4⟩, ht0, ht1, hR0, hR1⟩
    obtain ⟨r0, r1, ⟨h0, h1, h2, h3, h4⟩, ht0, ht1, hR0, hR1⟩ := hV
    refine W.eq (g2 := F0 m 49 ls []) rfl ?_
    refine lv_aload_n hx hb dX5_radio_49 rfl (lv_at hl 0 rfl) ?_
    refine z_get F hw h0 fd_X5_12_X5 rfl dX5_radio_50 ?_
    have hV : clV G ad ce3 (va_up T 0 (va_up (T 0) 4 1)) (fun _ => []) := ⟨_, _, ⟨h0, h1, h2, h3, h4⟩, ht0, ht1, hR0, hR1⟩
    refine z_invV F (rest := []) (c_dropRadio l (va_up T 0 (va_up (T 0) 4 1)) (fun _ => []) hV) yv_X5_93 ⟨Nat.le_of_ble_eq_true rfl, Nat.le_of_ble_eq_true rfl⟩ hw hA hS hl h1 rfl rfl rfl (Nat.le_of_ble_eq_true rfl) dX5_radio_53 ⟨Nat.le_of_ble_eq_true rfl, Nat.le_of_ble_eq_true rfl⟩ (fun r ad1 ce4 H locs hp hw hS => ?_)
    obtain ⟨rfl, rfl, hV, hF2⟩ := hp
    have hF : ∀ j, 50 ≤ j → ce4 j = ce j := fun j hj => (hF2 j (by omega)).trans (hF j hj)
    obtain ⟨r0, r1, ⟨h0, h1, h2, h3, h4⟩, ht0, ht1, hR0, hR1⟩ := hV
    refine W.eq (g2 := F0 m 56 ls []) rfl ?_
    refine lv_aload_n hx hb dX5_radio_56 rfl (lv_at hl 0 rfl) ?_
    refine z_get F hw h0 fd_X5_23_X5 rfl dX5_radio_57 ?_
    have hV : clV G ad ce4 ((cp_dropRadio (va_up T 0 (va_up (T 0) 4 1)) (fun _ => [])).2.1) ((cp_dropRadio (va_up T 0 (va_up (T 0) 4 1)) (fun _ => [])).2.2) := ⟨_, _, ⟨h0, h1, h2, h3, h4⟩, ht0, ht1, hR0, hR1⟩
    refine z_invU F (rest := []) (c_rest1 l ((cp_dropRadio (va_up T 0 (va_up (T 0) 4 1)) (fun _ => [])).2.1) ((cp_dropRadio (va_up T 0 (va_up (T 0) 4 1)) (fun _ => [])).2.2) hV) yu_X5_96_X2 ⟨Nat.le_of_ble_eq_true rfl, Nat.le_of_ble_eq_true rfl⟩ hw hA hS hl h2 rfl rfl rfl (Nat.le_of_ble_eq_true rfl) dX5_radio_60 ⟨Nat.le_of_ble_eq_true rfl, Nat.le_of_ble_eq_true rfl⟩ (fun r ad1 ce5 H locs hp hw hS => ?_)
    obtain ⟨rfl, rfl, hV, hF2⟩ := hp
    have hF : ∀ j, 50 ≤ j → ce5 j = ce j := fun j hj => (hF2 j (by omega)).trans (hF j hj)
    obtain ⟨r0, r1, ⟨h0, h1, h2, h3, h4⟩, ht0, ht1, hR0, hR1⟩ := hV
    refine W.eq (g2 := F0 m 63 ls []) rfl ?_
    refine lv_iconst (v := 1) hx hb dX5_radio_63 (by decide) ?_
    exact z_iret F (rfl) hw hS (by unfold cp_radio0; rw [if_pos hsl]; exact ⟨rfl, rfl, ⟨_, _, ⟨h0, h1, h2, h3, h4⟩, ht0, ht1, hR0, hR1⟩, hF⟩) dX5_radio_64
  · refine W.eq (g2 := F0 m 8 ls [.int 0, .int 0]) (by rw [show cl_op T = 0 from by unfold cl_op; rw [if_neg hsl]]; rfl) ?_
    refine lv_icmp_ne (tgt := 14) hx hb dX5_radio_8 (by decide) (fun c8 => absurd c8 (by decide)) (fun c8 => ?_)
    refine lv_bipush (v := -2) hx hb dX5_radio_11 (by decide) ?_
    exact z_iret F (rfl) hw hS (by unfold cp_radio0; rw [if_neg hsl]; exact ⟨rfl, rfl, ⟨_, _, ⟨h0, h1, h2, h3, h4⟩, ht0, ht1, hR0, hR1⟩, hF⟩) dX5_radio_13
def cp_radio1 (T : rf_T) (Q : rf_Q) : rf_R := (if T 0 4 = 0 then ((-2), T, Q) else (1, (va_up T 0 (va_up (T 0) 4 0)), Q))
set_option maxHeartbeats 4000000 in
set_option maxRecDepth 100000 in
theorem c_radio1 (l : Launch) {G : zz_G} {ad : Nat → Nat} {ce : zz_C} {sz : Nat} (T : rf_T) (Q : rf_Q) (hV : clV G ad ce T Q) : zz_M l yX5_radio cX5_radio 2 (some .int) 3 62 0 0 G [.ref (ad 0), .int 1] ad ce sz (fun r ad1 ce1 => r = some (.int (cp_radio1 T Q).1) ∧ ad = ad1 ∧ clV G ad ce1 (cp_radio1 T Q).2.1 (cp_radio1 T Q).2.2 ∧ (∀ j, 50 ≤ j → ce1 j = ce j)) := by
  refine zz_enter (by decide) (Nat.le_of_ble_eq_true rfl) ?_
  intro p e s m below meth c ls F hl hw hS hA
  obtain ⟨hx, hb, hr, hml, hown, hts, hlocks, hK, hnm⟩ := id F
  have hl : lv_has ls 2 [(0, .ref (ad 0)), (1, .int 1)] := hl
  obtain ⟨r0, r1, ⟨h0, h1, h2, h3, h4⟩, ht0, ht1, hR0, hR1⟩ := hV
  have hF : ∀ j, 50 ≤ j → ce j = ce j := fun _ _ => rfl
  refine lv_iload_n hx hb dX5_radio_0 rfl (lv_at hl 1 rfl) ?_
  refine lv_aload_n hx hb dX5_radio_1 rfl (lv_at hl 0 rfl) ?_
  refine z_get F hw h0 fd_X5_31_X5 rfl dX5_radio_2 ?_
  obtain ⟨vs9, ho9⟩ := hR0.obj
  refine z_invV F (rest := [.int 1]) (c_isOpen l 10 _ _ hR0 (cl_opb _)) yv_X5_82 ⟨Nat.le_of_ble_eq_true rfl, Nat.le_of_ble_eq_true rfl⟩ hw hA hS hl ho9 rfl rfl rfl (Nat.le_of_ble_eq_true rfl) dX5_radio_5 ⟨Nat.le_of_ble_eq_true rfl, Nat.le_of_ble_eq_true rfl⟩ (fun r ad1 ce1 H locs hp hw hS => ?_)
  obtain ⟨rfl, rfl, rfl⟩ := hp
  by_cases hsl : T 0 4 = 0
  · refine W.eq (g2 := F0 m 8 ls [.int 1, .int 1]) (by rw [show cl_op T = 1 from by unfold cl_op; rw [if_pos hsl]]; rfl) ?_
    refine lv_icmp_ne (tgt := 14) hx hb dX5_radio_8 (by decide) (fun c8 => absurd c8 (by decide)) (fun c8 => ?_)
    refine lv_bipush (v := -2) hx hb dX5_radio_11 (by decide) ?_
    exact z_iret F (rfl) hw hS (by unfold cp_radio1; rw [if_pos hsl]; exact ⟨rfl, rfl, ⟨_, _, ⟨h0, h1, h2, h3, h4⟩, ht0, ht1, hR0, hR1⟩, hF⟩) dX5_radio_13
  · refine W.eq (g2 := F0 m 8 ls [.int 0, .int 1]) (by rw [show cl_op T = 0 from by unfold cl_op; rw [if_neg hsl]]; rfl) ?_
    refine lv_icmp_ne (tgt := 14) hx hb dX5_radio_8 (by decide) (fun c8 => ?_) (fun c8 => absurd c8 (by decide))
    refine lv_iload_n hx hb dX5_radio_14 rfl (lv_at hl 1 rfl) ?_
    refine lv_if_eq (tgt := 35) hx hb dX5_radio_15 (by decide) (fun c15 => absurd c15 (by decide)) (fun c15 => ?_)
    refine lv_aload_n hx hb dX5_radio_18 rfl (lv_at hl 0 rfl) ?_
    refine z_get F hw h0 fd_X5_31_X5 rfl dX5_radio_19 ?_
    obtain ⟨vs9, ho9⟩ := hR0.obj
    refine z_invV F (rest := []) (c_open l 10 _ _ hR0) yv_X5_87 ⟨Nat.le_of_ble_eq_true rfl, Nat.le_of_ble_eq_true rfl⟩ hw hA hS hl ho9 rfl rfl rfl (Nat.le_of_ble_eq_true rfl) dX5_radio_22 ⟨Nat.le_of_ble_eq_true rfl, Nat.le_of_ble_eq_true rfl⟩ (fun r ad1 ce2 H locs hp hw hS => ?_)
    obtain ⟨rfl, rfl, hR0, hF2⟩ := hp
    have h0 := (hF2 0 (by decide)).trans h0
    have h1 := (hF2 1 (by decide)).trans h1
    have h2 := (hF2 2 (by decide)).trans h2
    have h3 := (hF2 3 (by decide)).trans h3
    have h4 := (hF2 4 (by decide)).trans h4
    have hR1 := hR1.kept (fun j h1 h2 => hF2 j (by omega))
    have hF : ∀ j, 50 ≤ j → ce2 j = ce j := fun j hj => (hF2 j (by omega)).trans (hF j hj)
    refine W.eq (g2 := F0 m 25 ls []) rfl ?_
    refine lv_aload_n hx hb dX5_radio_25 rfl (lv_at hl 0 rfl) ?_
    refine z_get F hw h0 fd_X5_35_X5 rfl dX5_radio_26 ?_
    obtain ⟨vs9, ho9⟩ := hR1.obj
    refine z_invV F (rest := []) (c_open l 30 _ _ hR1) yv_X5_87 ⟨Nat.le_of_ble_eq_true rfl, Nat.le_of_ble_eq_true rfl⟩ hw hA hS hl ho9 rfl rfl rfl (Nat.le_of_ble_eq_true rfl) dX5_radio_29 ⟨Nat.le_of_ble_eq_true rfl, Nat.le_of_ble_eq_true rfl⟩ (fun r ad1 ce3 H locs hp hw hS => ?_)
    obtain ⟨rfl, rfl, hR1, hF2⟩ := hp
    have h0 := (hF2 0 (by decide)).trans h0
    have h1 := (hF2 1 (by decide)).trans h1
    have h2 := (hF2 2 (by decide)).trans h2
    have h3 := (hF2 3 (by decide)).trans h3
    have h4 := (hF2 4 (by decide)).trans h4
    have hR0 := hR0.kept (fun j h1 h2 => hF2 j (by omega))
    have hF : ∀ j, 50 ≤ j → ce3 j = ce j := fun j hj => (hF2 j (by omega)).trans (hF j hj)
    have hV : clV G ad ce3 (va_up T 0 (va_up (T 0) 4 0)) Q := ⟨r0, r1, ⟨h0, h1, h2, h3, h4⟩, ht0, ht1, hR0, hR1⟩
    obtain ⟨r0, r1, ⟨h0, h1, h2, h3, h4⟩, ht0, ht1, hR0, hR1⟩ := hV
    refine W.eq (g2 := F0 m 32 ls []) rfl ?_
    refine lv_goto (tgt := 63) hx hb dX5_radio_32 (by decide) ?_
    refine lv_iconst (v := 1) hx hb dX5_radio_63 (by decide) ?_
    exact z_iret F (rfl) hw hS (by unfold cp_radio1; rw [if_neg hsl]; exact ⟨rfl, rfl, ⟨_, _, ⟨h0, h1, h2, h3, h4⟩, ht0, ht1, hR0, hR1⟩, hF⟩) dX5_radio_64
def cp_carry0 (T : rf_T) (Q : rf_Q) : rf_R := (if cl_has (Q 0) 0 then (if ((cp_takes1 T Q ((Q 0).headD [])).1 : Int32) = 0 then (((nI (((Q 0).headD []).getD 1 0)) + 1000), va_up ((cp_takes1 T Q ((Q 0).headD [])).2.1) 0 (va_up (((cp_takes1 T Q ((Q 0).headD [])).2.1) 0) 5 ((((cp_takes1 T Q ((Q 0).headD [])).2.1) 0 5) + 1)), va_up ((cp_takes1 T Q ((Q 0).headD [])).2.2) 0 (((cp_takes1 T Q ((Q 0).headD [])).2.2) 0).tail) else ((nI (((Q 0).headD []).getD 1 0)), ((cp_takes1 T Q ((Q 0).headD [])).2.1), va_up ((cp_takes1 T Q ((Q 0).headD [])).2.2) 0 (((cp_takes1 T Q ((Q 0).headD [])).2.2) 0).tail)) else ((-3), T, Q))
set_option maxHeartbeats 4000000 in
set_option maxRecDepth 100000 in
theorem c_carry0 (l : Launch) {G : zz_G} {ad : Nat → Nat} {ce : zz_C} {sz : Nat} (T : rf_T) (Q : rf_Q) (hV : clV G ad ce T Q) : zz_M l yX5_carry cX5_carry 5 (some .int) 6 132 0 0 G [.ref (ad 0), .int 0] ad ce sz (fun r ad1 ce1 => r = some (.int (cp_carry0 T Q).1) ∧ ad = ad1 ∧ clV G ad ce1 (cp_carry0 T Q).2.1 (cp_carry0 T Q).2.2 ∧ (∀ j, 50 ≤ j → ce1 j = ce j)) := by
  refine zz_enter (by decide) (Nat.le_of_ble_eq_true rfl) ?_
  intro p e s m below meth c ls F hl hw hS hA
  obtain ⟨hx, hb, hr, hml, hown, hts, hlocks, hK, hnm⟩ := id F
  have hl : lv_has ls 5 [(0, .ref (ad 0)), (1, .int 0)] := hl
  obtain ⟨r0, r1, ⟨h0, h1, h2, h3, h4⟩, ht0, ht1, hR0, hR1⟩ := hV
  have hF : ∀ j, 50 ≤ j → ce j = ce j := fun _ _ => rfl
  refine lv_iload_n hx hb dX5_carry_0 rfl (lv_at hl 1 rfl) ?_
  refine z_invS F (rest := []) (c_isWay l 0) ys_X5_99 ⟨Nat.le_of_ble_eq_true rfl, Nat.le_of_ble_eq_true rfl⟩ hw hA hS hl rfl rfl (Nat.le_of_ble_eq_true rfl) dX5_carry_1 ⟨Nat.le_of_ble_eq_true rfl, Nat.le_of_ble_eq_true rfl⟩ (fun r ad1 ce1 H locs hp hw hS => ?_)
  obtain ⟨hp, rfl, rfl⟩ := hp
  rcases hp with ⟨-, rfl⟩ | ⟨hn9, rfl⟩
  rotate_left
  · exact absurd (Or.inl rfl) hn9
  refine W.eq (g2 := F0 m 4 ls [.int 1]) rfl ?_
  refine lv_if_ne (tgt := 9) hx hb dX5_carry_4 (by decide) (fun c4 => ?_) (fun c4 => absurd c4 (by decide))
  refine lv_aload_n hx hb dX5_carry_9 rfl (lv_at hl 0 rfl) ?_
  refine lv_iload_n hx hb dX5_carry_10 rfl (lv_at hl 1 rfl) ?_
  have hV : clV G ad ce T Q := ⟨_, _, ⟨h0, h1, h2, h3, h4⟩, ht0, ht1, hR0, hR1⟩
  refine z_invV F (rest := []) (c_row0 l T Q hV) yv_X5_102 ⟨Nat.le_of_ble_eq_true rfl, Nat.le_of_ble_eq_true rfl⟩ hw hA hS hl h0 rfl rfl rfl (Nat.le_of_ble_eq_true rfl) dX5_carry_11 ⟨Nat.le_of_ble_eq_true rfl, Nat.le_of_ble_eq_true rfl⟩ (fun r ad1 ce2 H locs hp hw hS => ?_)
  obtain ⟨rfl, rfl, rfl⟩ := hp
  refine W.eq (g2 := F0 m 14 ls [.ref (ad 10)]) rfl ?_
  refine lv_iconst (v := 0) hx hb dX5_carry_14 (by decide) ?_
  obtain ⟨vs9, ho9⟩ := hR0.obj
  refine z_invV F (rest := []) (c_at l 10 _ _ hR0 0) yv_X5_106 ⟨Nat.le_of_ble_eq_true rfl, Nat.le_of_ble_eq_true rfl⟩ hw hA hS hl ho9 rfl rfl rfl (Nat.le_of_ble_eq_true rfl) dX5_carry_15 ⟨Nat.le_of_ble_eq_true rfl, Nat.le_of_ble_eq_true rfl⟩ (fun r ad1 ce3 H locs hp hw hS => ?_)
  obtain ⟨hp, rfl, rfl⟩ := hp
  rcases hp with ⟨hh9, h9, rfl, hh8⟩ | ⟨hh9, rfl⟩
  · refine W.eq (g2 := F0 m 18 ls [.ref (ad h9)]) rfl ?_
    have hat8 := hh8.at
    obtain ⟨hm8, hm82⟩ := hh8.m
    rw [cl_hd] at hm8 hm82
    refine lv_astore_n (lv' := [(2, .ref (ad h9)), (0, .ref (ad 0)), (1, .int 0)]) hx hb dX5_carry_18 rfl hl (by decide) rfl (fun ls hl => ?_)
    refine lv_aload_n hx hb dX5_carry_19 rfl (lv_at hl 0 rfl) ?_
    refine lv_ifnonnull (tgt := 26) hx hb dX5_carry_20 (by decide) ?_
    refine lv_aload_n hx hb dX5_carry_26 rfl (lv_at hl 0 rfl) ?_
    refine z_invV F (rest := []) (c_type l h9 _ hm8 hm82) yv_X5_110 ⟨Nat.le_of_ble_eq_true rfl, Nat.le_of_ble_eq_true rfl⟩ hw hA hS hl hm8.obj rfl rfl rfl (Nat.le_of_ble_eq_true rfl) dX5_carry_27 ⟨Nat.le_of_ble_eq_true rfl, Nat.le_of_ble_eq_true rfl⟩ (fun r ad1 ce4 H locs hp hw hS => ?_)
    obtain ⟨rfl, rfl, rfl⟩ := hp
    refine W.eq (g2 := F0 m 30 ls [.int (nI (((Q 0).headD []).getD 1 0))]) rfl ?_
    refine lv_istore_n (lv' := [(3, .int (nI (((Q 0).headD []).getD 1 0))), (2, .ref (ad h9)), (0, .ref (ad 0)), (1, .int 0)]) hx hb dX5_carry_30 rfl hl (by decide) rfl (fun ls hl => ?_)
    refine lv_iload_n hx hb dX5_carry_31 rfl (lv_at hl 3 rfl) ?_
    refine lv_if_ne (tgt := 46) hx hb dX5_carry_32 (by decide) (fun c32 => absurd c32 (by decide)) (fun c32 => ?_)
    refine lv_aload_n hx hb dX5_carry_35 rfl (lv_at hl 2 rfl) ?_
    refine z_get F hw h0 fd_X5_23_X5 rfl dX5_carry_36 ?_
    refine lv_aload_n hx hb dX5_carry_39 rfl (lv_at hl 1 rfl) ?_
    have hV : clV G ad ce T Q := ⟨_, _, ⟨h0, h1, h2, h3, h4⟩, ht0, ht1, hR0, hR1⟩
    refine z_invU F (rest := []) (c_takes1 l T Q hV h9 ((Q 0).headD []) hm8 hm82 (by omega)) yu_X5_116_X2 ⟨Nat.le_of_ble_eq_true rfl, Nat.le_of_ble_eq_true rfl⟩ hw hA hS hl h2 rfl rfl rfl (Nat.le_of_ble_eq_true rfl) dX5_carry_40 ⟨Nat.le_of_ble_eq_true rfl, Nat.le_of_ble_eq_true rfl⟩ (fun r ad1 ce5 H locs hp hw hS => ?_)
    obtain ⟨rfl, rfl, hV, hF2⟩ := hp
    have hF : ∀ j, 50 ≤ j → ce5 j = ce j := fun j hj => (hF2 j (by omega)).trans (hF j hj)
    obtain ⟨r0, r1, ⟨h0, h1, h2, h3, h4⟩, ht0, ht1, hR0, hR1⟩ := hV
    refine W.eq (g2 := F0 m 43 ls [.int (cp_takes1 T Q ((Q 0).headD [])).1]) rfl ?_
    refine lv_goto (tgt := 54) hx hb dX5_carry_43 (by decide) ?_
    refine lv_istore (lv' := [(4, .int (cp_takes1 T Q ((Q 0).headD [])).1), (3, .int (nI (((Q 0).headD []).getD 1 0))), (2, .ref (ad h9)), (0, .ref (ad 0)), (1, .int 0)]) hx hb dX5_carry_54 hl (by decide) rfl (fun ls hl => ?_)
    refine lv_aload_n hx hb dX5_carry_56 rfl (lv_at hl 3 rfl) ?_
    refine lv_iload_n hx hb dX5_carry_57 rfl (lv_at hl 4 rfl) ?_
    have hV : clV G ad ce5 ((cp_takes1 T Q ((Q 0).headD [])).2.1) ((cp_takes1 T Q ((Q 0).headD [])).2.2) := ⟨_, _, ⟨h0, h1, h2, h3, h4⟩, ht0, ht1, hR0, hR1⟩
    refine z_invV F (rest := []) (c_row0 l ((cp_takes1 T Q ((Q 0).headD [])).2.1) ((cp_takes1 T Q ((Q 0).headD [])).2.2) hV) yv_X5_102 ⟨Nat.le_of_ble_eq_true rfl, Nat.le_of_ble_eq_true rfl⟩ hw hA hS hl h0 rfl rfl rfl (Nat.le_of_ble_eq_true rfl) dX5_carry_58 ⟨Nat.le_of_ble_eq_true rfl, Nat.le_of_ble_eq_true rfl⟩ (fun r ad1 ce6 H locs hp hw hS => ?_)
    obtain ⟨rfl, rfl, rfl⟩ := hp
    refine W.eq (g2 := F0 m 61 ls [.ref (ad 10)]) rfl ?_
    obtain ⟨vs9, ho9⟩ := hR0.obj
    refine z_invV F (rest := []) (c_dropFirst l 10 _ _ hR0) yv_X5_121 ⟨Nat.le_of_ble_eq_true rfl, Nat.le_of_ble_eq_true rfl⟩ hw hA hS hl ho9 rfl rfl rfl (Nat.le_of_ble_eq_true rfl) dX5_carry_61 ⟨Nat.le_of_ble_eq_true rfl, Nat.le_of_ble_eq_true rfl⟩ (fun r ad1 ce7 H locs hp hw hS => ?_)
    obtain ⟨rfl, rfl, hR0, hF2⟩ := hp
    have h0 := (hF2 0 (by decide)).trans h0
    have h1 := (hF2 1 (by decide)).trans h1
    have h2 := (hF2 2 (by decide)).trans h2
    have h3 := (hF2 3 (by decide)).trans h3
    have h4 := (hF2 4 (by decide)).trans h4
    have hR1 := hR1.kept (fun j h1 h2 => hF2 j (by omega))
    have hF : ∀ j, 50 ≤ j → ce7 j = ce j := fun j hj => (hF2 j (by omega)).trans (hF j hj)
    have hR0 : cl_r G ad ce7 10 ((va_up ((cp_takes1 T Q ((Q 0).headD [])).2.2) 0 (((cp_takes1 T Q ((Q 0).headD [])).2.2) 0).tail) 0) (cl_op ((cp_takes1 T Q ((Q 0).headD [])).2.1)) := by rw [rf_vu_s]; exact hR0
    have hR1 : cl_r G ad ce7 30 ((va_up ((cp_takes1 T Q ((Q 0).headD [])).2.2) 0 (((cp_takes1 T Q ((Q 0).headD [])).2.2) 0).tail) 1) (cl_op ((cp_takes1 T Q ((Q 0).headD [])).2.1)) := by rw [rf_vu_n _ _ (by decide)]; exact hR1
    refine W.eq (g2 := F0 m 64 ls []) rfl ?_
    refine lv_iload hx hb dX5_carry_64 (lv_at hl 0 rfl) ?_
    refine lv_if_eq (tgt := 71) hx hb dX5_carry_66 (by decide) (fun c66 => ?_) (fun c66 => ?_)
    · refine lv_aload_n hx hb dX5_carry_71 rfl (lv_at hl 3 rfl) ?_
      refine lv_dup hx hb dX5_carry_72 rfl ?_
      refine z_get F hw h0 fd_X5_38_X5 rfl dX5_carry_73 ?_
      refine lv_iconst (v := 1) hx hb dX5_carry_76 (by decide) ?_
      refine lv_iadd hx hb dX5_carry_77 ?_
      refine z_put F hw hS (fs' := [.ref (ad 10), .ref (ad 30), .ref (ad 1), .ref (ad 2), .int ((((cp_takes1 T Q ((Q 0).headD [])).2.1) 0 5) + 1)]) h0 fd_X5_38_X5 ptX5 rfl (rfl) (rfl) (Nat.le_of_ble_eq_true rfl) rfl dX5_carry_78 (fun ce8 H locs h0 fr9 hw hS => ?_)
      have h1 := (fr9 1 (by decide)).trans h1
      have h2 := (fr9 2 (by decide)).trans h2
      have h3 := (fr9 3 (by decide)).trans h3
      have h4 := (fr9 4 (by decide)).trans h4
      have hR0 := hR0.kept (fun j h1 h2 => fr9 j (by omega))
      have hR1 := hR1.kept (fun j h1 h2 => fr9 j (by omega))
      have hF : ∀ j, 50 ≤ j → _ = ce j := fun j hj => (fr9 j (by omega)).trans (hF j hj)
      refine lv_iload_n hx hb dX5_carry_81 rfl (lv_at hl 1 rfl) ?_
      refine lv_sipush (v := 1000) hx hb dX5_carry_82 (by decide) ?_
      refine lv_iadd hx hb dX5_carry_85 ?_
      exact z_iret F (rfl) hw hS (by unfold cp_carry0; rw [if_pos hh9, if_pos c66]; exact ⟨rfl, rfl, ⟨_, _, ⟨h0, h1, h2, h3, h4⟩, ht0, ht1, hR0, hR1⟩, hF⟩) dX5_carry_86
    · refine lv_iload_n hx hb dX5_carry_69 rfl (lv_at hl 1 rfl) ?_
      exact z_iret F (rfl) hw hS (by unfold cp_carry0; rw [if_pos hh9, if_neg c66]; exact ⟨rfl, rfl, ⟨_, _, ⟨h0, h1, h2, h3, h4⟩, ht0, ht1, hR0, hR1⟩, hF⟩) dX5_carry_70
  · refine W.eq (g2 := F0 m 18 ls [.null]) rfl ?_
    refine lv_astore_nN (lv' := [(2, .null), (0, .ref (ad 0)), (1, .int 0)]) hx hb dX5_carry_18 rfl hl (by decide) rfl (fun ls hl => ?_)
    refine lv_aload_nN hx hb dX5_carry_19 rfl (lv_at hl 0 rfl) ?_
    refine lv_ifnonnullN hx hb dX5_carry_20 ?_
    refine lv_bipush (v := -3) hx hb dX5_carry_23 (by decide) ?_
    exact z_iret F (rfl) hw hS (by unfold cp_carry0; rw [if_neg hh9]; exact ⟨rfl, rfl, ⟨_, _, ⟨h0, h1, h2, h3, h4⟩, ht0, ht1, hR0, hR1⟩, hF⟩) dX5_carry_25
def cp_lose0 (T : rf_T) (Q : rf_Q) : rf_R := (if cl_has (Q 0) 0 then ((nI (((Q 0).headD []).getD 1 0)), T, va_up Q 0 (Q 0).tail) else ((-3), T, Q))
set_option maxHeartbeats 4000000 in
set_option maxRecDepth 100000 in
theorem c_lose0 (l : Launch) {G : zz_G} {ad : Nat → Nat} {ce : zz_C} {sz : Nat} (T : rf_T) (Q : rf_Q) (hV : clV G ad ce T Q) : zz_M l yX5_lose cX5_lose 3 (some .int) 1 21 0 0 G [.ref (ad 0), .int 0] ad ce sz (fun r ad1 ce1 => r = some (.int (cp_lose0 T Q).1) ∧ ad = ad1 ∧ clV G ad ce1 (cp_lose0 T Q).2.1 (cp_lose0 T Q).2.2 ∧ (∀ j, 50 ≤ j → ce1 j = ce j)) := by
  refine zz_enter (by decide) (Nat.le_of_ble_eq_true rfl) ?_
  intro p e s m below meth c ls F hl hw hS hA
  obtain ⟨hx, hb, hr, hml, hown, hts, hlocks, hK, hnm⟩ := id F
  have hl : lv_has ls 3 [(0, .ref (ad 0)), (1, .int 0)] := hl
  obtain ⟨r0, r1, ⟨h0, h1, h2, h3, h4⟩, ht0, ht1, hR0, hR1⟩ := hV
  have hF : ∀ j, 50 ≤ j → ce j = ce j := fun _ _ => rfl
  refine lv_iload_n hx hb dX5_lose_0 rfl (lv_at hl 1 rfl) ?_
  refine z_invS F (rest := []) (c_isWay l 0) ys_X5_99 ⟨Nat.le_of_ble_eq_true rfl, Nat.le_of_ble_eq_true rfl⟩ hw hA hS hl rfl rfl (Nat.le_of_ble_eq_true rfl) dX5_lose_1 ⟨Nat.le_of_ble_eq_true rfl, Nat.le_of_ble_eq_true rfl⟩ (fun r ad1 ce1 H locs hp hw hS => ?_)
  obtain ⟨hp, rfl, rfl⟩ := hp
  rcases hp with ⟨-, rfl⟩ | ⟨hn9, rfl⟩
  rotate_left
  · exact absurd (Or.inl rfl) hn9
  refine W.eq (g2 := F0 m 4 ls [.int 1]) rfl ?_
  refine lv_if_ne (tgt := 9) hx hb dX5_lose_4 (by decide) (fun c4 => ?_) (fun c4 => absurd c4 (by decide))
  refine lv_aload_n hx hb dX5_lose_9 rfl (lv_at hl 0 rfl) ?_
  refine lv_iload_n hx hb dX5_lose_10 rfl (lv_at hl 1 rfl) ?_
  have hV : clV G ad ce T Q := ⟨_, _, ⟨h0, h1, h2, h3, h4⟩, ht0, ht1, hR0, hR1⟩
  refine z_invV F (rest := []) (c_row0 l T Q hV) yv_X5_102 ⟨Nat.le_of_ble_eq_true rfl, Nat.le_of_ble_eq_true rfl⟩ hw hA hS hl h0 rfl rfl rfl (Nat.le_of_ble_eq_true rfl) dX5_lose_11 ⟨Nat.le_of_ble_eq_true rfl, Nat.le_of_ble_eq_true rfl⟩ (fun r ad1 ce2 H locs hp hw hS => ?_)
  obtain ⟨rfl, rfl, rfl⟩ := hp
  refine W.eq (g2 := F0 m 14 ls [.ref (ad 10)]) rfl ?_
  refine lv_iconst (v := 0) hx hb dX5_lose_14 (by decide) ?_
  obtain ⟨vs9, ho9⟩ := hR0.obj
  refine z_invV F (rest := []) (c_at l 10 _ _ hR0 0) yv_X5_106 ⟨Nat.le_of_ble_eq_true rfl, Nat.le_of_ble_eq_true rfl⟩ hw hA hS hl ho9 rfl rfl rfl (Nat.le_of_ble_eq_true rfl) dX5_lose_15 ⟨Nat.le_of_ble_eq_true rfl, Nat.le_of_ble_eq_true rfl⟩ (fun r ad1 ce3 H locs hp hw hS => ?_)
  obtain ⟨hp, rfl, rfl⟩ := hp
  rcases hp with ⟨hh9, h9, rfl, hh8⟩ | ⟨hh9, rfl⟩
  · refine W.eq (g2 := F0 m 18 ls [.ref (ad h9)]) rfl ?_
    have hat8 := hh8.at
    obtain ⟨hm8, hm82⟩ := hh8.m
    rw [cl_hd] at hm8 hm82
    refine lv_astore_n (lv' := [(2, .ref (ad h9)), (0, .ref (ad 0)), (1, .int 0)]) hx hb dX5_lose_18 rfl hl (by decide) rfl (fun ls hl => ?_)
    refine lv_aload_n hx hb dX5_lose_19 rfl (lv_at hl 0 rfl) ?_
    refine lv_ifnonnull (tgt := 26) hx hb dX5_lose_20 (by decide) ?_
    refine lv_aload_n hx hb dX5_lose_26 rfl (lv_at hl 1 rfl) ?_
    refine lv_iload_n hx hb dX5_lose_27 rfl (lv_at hl 2 rfl) ?_
    have hV : clV G ad ce T Q := ⟨_, _, ⟨h0, h1, h2, h3, h4⟩, ht0, ht1, hR0, hR1⟩
    refine z_invV F (rest := []) (c_row0 l T Q hV) yv_X5_102 ⟨Nat.le_of_ble_eq_true rfl, Nat.le_of_ble_eq_true rfl⟩ hw hA hS hl h0 rfl rfl rfl (Nat.le_of_ble_eq_true rfl) dX5_lose_28 ⟨Nat.le_of_ble_eq_true rfl, Nat.le_of_ble_eq_true rfl⟩ (fun r ad1 ce4 H locs hp hw hS => ?_)
    obtain ⟨rfl, rfl, rfl⟩ := hp
    refine W.eq (g2 := F0 m 31 ls [.ref (ad 10)]) rfl ?_
    obtain ⟨vs9, ho9⟩ := hR0.obj
    refine z_invV F (rest := []) (c_dropFirst l 10 _ _ hR0) yv_X5_121 ⟨Nat.le_of_ble_eq_true rfl, Nat.le_of_ble_eq_true rfl⟩ hw hA hS hl ho9 rfl rfl rfl (Nat.le_of_ble_eq_true rfl) dX5_lose_31 ⟨Nat.le_of_ble_eq_true rfl, Nat.le_of_ble_eq_true rfl⟩ (fun r ad1 ce5 H locs hp hw hS => ?_)
    obtain ⟨rfl, rfl, hR0, hF2⟩ := hp
    have h0 := (hF2 0 (by decide)).trans h0
    have h1 := (hF2 1 (by decide)).trans h1
    have h2 := (hF2 2 (by decide)).trans h2
    have h3 := (hF2 3 (by decide)).trans h3
    have h4 := (hF2 4 (by decide)).trans h4
    have hR1 := hR1.kept (fun j h1 h2 => hF2 j (by omega))
    have hF : ∀ j, 50 ≤ j → ce5 j = ce j := fun j hj => (hF2 j (by omega)).trans (hF j hj)
    have hm8 := hm8.kept (hF2 h9 (by omega)) (hF2 (h9 + 1) (by omega))
    have hR0 : cl_r G ad ce5 10 ((va_up Q 0 (Q 0).tail) 0) (cl_op T) := by rw [rf_vu_s]; exact hR0
    have hR1 : cl_r G ad ce5 30 ((va_up Q 0 (Q 0).tail) 1) (cl_op T) := by rw [rf_vu_n _ _ (by decide)]; exact hR1
    refine W.eq (g2 := F0 m 34 ls []) rfl ?_
    refine lv_aload_n hx hb dX5_lose_34 rfl (lv_at hl 0 rfl) ?_
    refine z_invV F (rest := []) (c_type l h9 _ hm8 hm82) yv_X5_110 ⟨Nat.le_of_ble_eq_true rfl, Nat.le_of_ble_eq_true rfl⟩ hw hA hS hl hm8.obj rfl rfl rfl (Nat.le_of_ble_eq_true rfl) dX5_lose_35 ⟨Nat.le_of_ble_eq_true rfl, Nat.le_of_ble_eq_true rfl⟩ (fun r ad1 ce6 H locs hp hw hS => ?_)
    obtain ⟨rfl, rfl, rfl⟩ := hp
    refine W.eq (g2 := F0 m 38 ls [.int (nI (((Q 0).headD []).getD 1 0))]) rfl ?_
    exact z_iret F (rfl) hw hS (by unfold cp_lose0; rw [if_pos hh9]; exact ⟨rfl, rfl, ⟨_, _, ⟨h0, h1, h2, h3, h4⟩, ht0, ht1, hR0, hR1⟩, hF⟩) dX5_lose_38
  · refine W.eq (g2 := F0 m 18 ls [.null]) rfl ?_
    refine lv_astore_nN (lv' := [(2, .null), (0, .ref (ad 0)), (1, .int 0)]) hx hb dX5_lose_18 rfl hl (by decide) rfl (fun ls hl => ?_)
    refine lv_aload_nN hx hb dX5_lose_19 rfl (lv_at hl 0 rfl) ?_
    refine lv_ifnonnullN hx hb dX5_lose_20 ?_
    refine lv_bipush (v := -3) hx hb dX5_lose_23 (by decide) ?_
    exact z_iret F (rfl) hw hS (by unfold cp_lose0; rw [if_neg hh9]; exact ⟨rfl, rfl, ⟨_, _, ⟨h0, h1, h2, h3, h4⟩, ht0, ht1, hR0, hR1⟩, hF⟩) dX5_lose_25
def cp_carry1 (T : rf_T) (Q : rf_Q) (d : Nat) : rf_R := (if cl_has (Q 1) 0 then (if ((cp_takes0 T Q ((Q 1).headD []) d).1 : Int32) = 0 then (((nI (((Q 1).headD []).getD 1 0)) + 1000), va_up ((cp_takes0 T Q ((Q 1).headD []) d).2.1) 0 (va_up (((cp_takes0 T Q ((Q 1).headD []) d).2.1) 0) 5 ((((cp_takes0 T Q ((Q 1).headD []) d).2.1) 0 5) + 1)), va_up ((cp_takes0 T Q ((Q 1).headD []) d).2.2) 1 (((cp_takes0 T Q ((Q 1).headD []) d).2.2) 1).tail) else ((nI (((Q 1).headD []).getD 1 0)), ((cp_takes0 T Q ((Q 1).headD []) d).2.1), va_up ((cp_takes0 T Q ((Q 1).headD []) d).2.2) 1 (((cp_takes0 T Q ((Q 1).headD []) d).2.2) 1).tail)) else ((-3), T, Q))
set_option maxHeartbeats 4000000 in
set_option maxRecDepth 100000 in
theorem c_carry1 (l : Launch) {G : zz_G} {ad : Nat → Nat} {ce : zz_C} {sz : Nat} (T : rf_T) (Q : rf_Q) (hV : clV G ad ce T Q) (d : Nat) (hd : d ≤ 8) (hdc : T 0 9 = nI d) : zz_M l yX5_carry cX5_carry 5 (some .int) 6 132 0 0 G [.ref (ad 0), .int 1] ad ce sz (fun r ad1 ce1 => r = some (.int (cp_carry1 T Q d).1) ∧ ad = ad1 ∧ clV G ad ce1 (cp_carry1 T Q d).2.1 (cp_carry1 T Q d).2.2 ∧ (∀ j, 50 ≤ j → ce1 j = ce j)) := by
  refine zz_enter (by decide) (Nat.le_of_ble_eq_true rfl) ?_
  intro p e s m below meth c ls F hl hw hS hA
  obtain ⟨hx, hb, hr, hml, hown, hts, hlocks, hK, hnm⟩ := id F
  have hl : lv_has ls 5 [(0, .ref (ad 0)), (1, .int 1)] := hl
  obtain ⟨r0, r1, ⟨h0, h1, h2, h3, h4⟩, ht0, ht1, hR0, hR1⟩ := hV
  have hF : ∀ j, 50 ≤ j → ce j = ce j := fun _ _ => rfl
  refine lv_iload_n hx hb dX5_carry_0 rfl (lv_at hl 1 rfl) ?_
  refine z_invS F (rest := []) (c_isWay l 1) ys_X5_99 ⟨Nat.le_of_ble_eq_true rfl, Nat.le_of_ble_eq_true rfl⟩ hw hA hS hl rfl rfl (Nat.le_of_ble_eq_true rfl) dX5_carry_1 ⟨Nat.le_of_ble_eq_true rfl, Nat.le_of_ble_eq_true rfl⟩ (fun r ad1 ce1 H locs hp hw hS => ?_)
  obtain ⟨hp, rfl, rfl⟩ := hp
  rcases hp with ⟨-, rfl⟩ | ⟨hn9, rfl⟩
  rotate_left
  · exact absurd (Or.inr rfl) hn9
  refine W.eq (g2 := F0 m 4 ls [.int 1]) rfl ?_
  refine lv_if_ne (tgt := 9) hx hb dX5_carry_4 (by decide) (fun c4 => ?_) (fun c4 => absurd c4 (by decide))
  refine lv_aload_n hx hb dX5_carry_9 rfl (lv_at hl 0 rfl) ?_
  refine lv_iload_n hx hb dX5_carry_10 rfl (lv_at hl 1 rfl) ?_
  have hV : clV G ad ce T Q := ⟨_, _, ⟨h0, h1, h2, h3, h4⟩, ht0, ht1, hR0, hR1⟩
  refine z_invV F (rest := []) (c_row1 l T Q hV) yv_X5_102 ⟨Nat.le_of_ble_eq_true rfl, Nat.le_of_ble_eq_true rfl⟩ hw hA hS hl h0 rfl rfl rfl (Nat.le_of_ble_eq_true rfl) dX5_carry_11 ⟨Nat.le_of_ble_eq_true rfl, Nat.le_of_ble_eq_true rfl⟩ (fun r ad1 ce2 H locs hp hw hS => ?_)
  obtain ⟨rfl, rfl, rfl⟩ := hp
  refine W.eq (g2 := F0 m 14 ls [.ref (ad 30)]) rfl ?_
  refine lv_iconst (v := 0) hx hb dX5_carry_14 (by decide) ?_
  obtain ⟨vs9, ho9⟩ := hR1.obj
  refine z_invV F (rest := []) (c_at l 30 _ _ hR1 0) yv_X5_106 ⟨Nat.le_of_ble_eq_true rfl, Nat.le_of_ble_eq_true rfl⟩ hw hA hS hl ho9 rfl rfl rfl (Nat.le_of_ble_eq_true rfl) dX5_carry_15 ⟨Nat.le_of_ble_eq_true rfl, Nat.le_of_ble_eq_true rfl⟩ (fun r ad1 ce3 H locs hp hw hS => ?_)
  obtain ⟨hp, rfl, rfl⟩ := hp
  rcases hp with ⟨hh9, h9, rfl, hh8⟩ | ⟨hh9, rfl⟩
  · refine W.eq (g2 := F0 m 18 ls [.ref (ad h9)]) rfl ?_
    have hat8 := hh8.at
    obtain ⟨hm8, hm82⟩ := hh8.m
    rw [cl_hd] at hm8 hm82
    refine lv_astore_n (lv' := [(2, .ref (ad h9)), (0, .ref (ad 0)), (1, .int 1)]) hx hb dX5_carry_18 rfl hl (by decide) rfl (fun ls hl => ?_)
    refine lv_aload_n hx hb dX5_carry_19 rfl (lv_at hl 0 rfl) ?_
    refine lv_ifnonnull (tgt := 26) hx hb dX5_carry_20 (by decide) ?_
    refine lv_aload_n hx hb dX5_carry_26 rfl (lv_at hl 0 rfl) ?_
    refine z_invV F (rest := []) (c_type l h9 _ hm8 hm82) yv_X5_110 ⟨Nat.le_of_ble_eq_true rfl, Nat.le_of_ble_eq_true rfl⟩ hw hA hS hl hm8.obj rfl rfl rfl (Nat.le_of_ble_eq_true rfl) dX5_carry_27 ⟨Nat.le_of_ble_eq_true rfl, Nat.le_of_ble_eq_true rfl⟩ (fun r ad1 ce4 H locs hp hw hS => ?_)
    obtain ⟨rfl, rfl, rfl⟩ := hp
    refine W.eq (g2 := F0 m 30 ls [.int (nI (((Q 1).headD []).getD 1 0))]) rfl ?_
    refine lv_istore_n (lv' := [(3, .int (nI (((Q 1).headD []).getD 1 0))), (2, .ref (ad h9)), (0, .ref (ad 0)), (1, .int 1)]) hx hb dX5_carry_30 rfl hl (by decide) rfl (fun ls hl => ?_)
    refine lv_iload_n hx hb dX5_carry_31 rfl (lv_at hl 3 rfl) ?_
    refine lv_if_ne (tgt := 46) hx hb dX5_carry_32 (by decide) (fun c32 => ?_) (fun c32 => absurd c32 (by decide))
    refine lv_aload_n hx hb dX5_carry_46 rfl (lv_at hl 2 rfl) ?_
    refine z_get F hw h0 fd_X5_12_X5 rfl dX5_carry_47 ?_
    refine lv_aload_n hx hb dX5_carry_50 rfl (lv_at hl 1 rfl) ?_
    have hV : clV G ad ce T Q := ⟨_, _, ⟨h0, h1, h2, h3, h4⟩, ht0, ht1, hR0, hR1⟩
    refine z_invU F (rest := []) (c_takes0 l T Q hV h9 ((Q 1).headD []) hm8 hm82 (by omega) d hd hdc) yu_X5_120_X1 ⟨Nat.le_of_ble_eq_true rfl, Nat.le_of_ble_eq_true rfl⟩ hw hA hS hl h1 rfl rfl rfl (Nat.le_of_ble_eq_true rfl) dX5_carry_51 ⟨Nat.le_of_ble_eq_true rfl, Nat.le_of_ble_eq_true rfl⟩ (fun r ad1 ce5 H locs hp hw hS => ?_)
    obtain ⟨rfl, rfl, hV, hF2⟩ := hp
    have hF : ∀ j, 50 ≤ j → ce5 j = ce j := fun j hj => (hF2 j (by omega)).trans (hF j hj)
    obtain ⟨r0, r1, ⟨h0, h1, h2, h3, h4⟩, ht0, ht1, hR0, hR1⟩ := hV
    refine W.eq (g2 := F0 m 54 ls [.int (cp_takes0 T Q ((Q 1).headD []) d).1]) rfl ?_
    refine lv_istore (lv' := [(4, .int (cp_takes0 T Q ((Q 1).headD []) d).1), (3, .int (nI (((Q 1).headD []).getD 1 0))), (2, .ref (ad h9)), (0, .ref (ad 0)), (1, .int 1)]) hx hb dX5_carry_54 hl (by decide) rfl (fun ls hl => ?_)
    refine lv_aload_n hx hb dX5_carry_56 rfl (lv_at hl 3 rfl) ?_
    refine lv_iload_n hx hb dX5_carry_57 rfl (lv_at hl 4 rfl) ?_
    have hV : clV G ad ce5 ((cp_takes0 T Q ((Q 1).headD []) d).2.1) ((cp_takes0 T Q ((Q 1).headD []) d).2.2) := ⟨_, _, ⟨h0, h1, h2, h3, h4⟩, ht0, ht1, hR0, hR1⟩
    refine z_invV F (rest := []) (c_row1 l ((cp_takes0 T Q ((Q 1).headD []) d).2.1) ((cp_takes0 T Q ((Q 1).headD []) d).2.2) hV) yv_X5_102 ⟨Nat.le_of_ble_eq_true rfl, Nat.le_of_ble_eq_true rfl⟩ hw hA hS hl h0 rfl rfl rfl (Nat.le_of_ble_eq_true rfl) dX5_carry_58 ⟨Nat.le_of_ble_eq_true rfl, Nat.le_of_ble_eq_true rfl⟩ (fun r ad1 ce6 H locs hp hw hS => ?_)
    obtain ⟨rfl, rfl, rfl⟩ := hp
    refine W.eq (g2 := F0 m 61 ls [.ref (ad 30)]) rfl ?_
    obtain ⟨vs9, ho9⟩ := hR1.obj
    refine z_invV F (rest := []) (c_dropFirst l 30 _ _ hR1) yv_X5_121 ⟨Nat.le_of_ble_eq_true rfl, Nat.le_of_ble_eq_true rfl⟩ hw hA hS hl ho9 rfl rfl rfl (Nat.le_of_ble_eq_true rfl) dX5_carry_61 ⟨Nat.le_of_ble_eq_true rfl, Nat.le_of_ble_eq_true rfl⟩ (fun r ad1 ce7 H locs hp hw hS => ?_)
    obtain ⟨rfl, rfl, hR1, hF2⟩ := hp
    have h0 := (hF2 0 (by decide)).trans h0
    have h1 := (hF2 1 (by decide)).trans h1
    have h2 := (hF2 2 (by decide)).trans h2
    have h3 := (hF2 3 (by decide)).trans h3
    have h4 := (hF2 4 (by decide)).trans h4
    have hR0 := hR0.kept (fun j h1 h2 => hF2 j (by omega))
    have hF : ∀ j, 50 ≤ j → ce7 j = ce j := fun j hj => (hF2 j (by omega)).trans (hF j hj)
    have hR1 : cl_r G ad ce7 30 ((va_up ((cp_takes0 T Q ((Q 1).headD []) d).2.2) 1 (((cp_takes0 T Q ((Q 1).headD []) d).2.2) 1).tail) 1) (cl_op ((cp_takes0 T Q ((Q 1).headD []) d).2.1)) := by rw [rf_vu_s]; exact hR1
    have hR0 : cl_r G ad ce7 10 ((va_up ((cp_takes0 T Q ((Q 1).headD []) d).2.2) 1 (((cp_takes0 T Q ((Q 1).headD []) d).2.2) 1).tail) 0) (cl_op ((cp_takes0 T Q ((Q 1).headD []) d).2.1)) := by rw [rf_vu_n _ _ (by decide)]; exact hR0
    refine W.eq (g2 := F0 m 64 ls []) rfl ?_
    refine lv_iload hx hb dX5_carry_64 (lv_at hl 0 rfl) ?_
    refine lv_if_eq (tgt := 71) hx hb dX5_carry_66 (by decide) (fun c66 => ?_) (fun c66 => ?_)
    · refine lv_aload_n hx hb dX5_carry_71 rfl (lv_at hl 3 rfl) ?_
      refine lv_dup hx hb dX5_carry_72 rfl ?_
      refine z_get F hw h0 fd_X5_38_X5 rfl dX5_carry_73 ?_
      refine lv_iconst (v := 1) hx hb dX5_carry_76 (by decide) ?_
      refine lv_iadd hx hb dX5_carry_77 ?_
      refine z_put F hw hS (fs' := [.ref (ad 10), .ref (ad 30), .ref (ad 1), .ref (ad 2), .int ((((cp_takes0 T Q ((Q 1).headD []) d).2.1) 0 5) + 1)]) h0 fd_X5_38_X5 ptX5 rfl (rfl) (rfl) (Nat.le_of_ble_eq_true rfl) rfl dX5_carry_78 (fun ce8 H locs h0 fr9 hw hS => ?_)
      have h1 := (fr9 1 (by decide)).trans h1
      have h2 := (fr9 2 (by decide)).trans h2
      have h3 := (fr9 3 (by decide)).trans h3
      have h4 := (fr9 4 (by decide)).trans h4
      have hR0 := hR0.kept (fun j h1 h2 => fr9 j (by omega))
      have hR1 := hR1.kept (fun j h1 h2 => fr9 j (by omega))
      have hF : ∀ j, 50 ≤ j → _ = ce j := fun j hj => (fr9 j (by omega)).trans (hF j hj)
      refine lv_iload_n hx hb dX5_carry_81 rfl (lv_at hl 1 rfl) ?_
      refine lv_sipush (v := 1000) hx hb dX5_carry_82 (by decide) ?_
      refine lv_iadd hx hb dX5_carry_85 ?_
      exact z_iret F (rfl) hw hS (by unfold cp_carry1; rw [if_pos hh9, if_pos c66]; exact ⟨rfl, rfl, ⟨_, _, ⟨h0, h1, h2, h3, h4⟩, ht0, ht1, hR0, hR1⟩, hF⟩) dX5_carry_86
    · refine lv_iload_n hx hb dX5_carry_69 rfl (lv_at hl 1 rfl) ?_
      exact z_iret F (rfl) hw hS (by unfold cp_carry1; rw [if_pos hh9, if_neg c66]; exact ⟨rfl, rfl, ⟨_, _, ⟨h0, h1, h2, h3, h4⟩, ht0, ht1, hR0, hR1⟩, hF⟩) dX5_carry_70
  · refine W.eq (g2 := F0 m 18 ls [.null]) rfl ?_
    refine lv_astore_nN (lv' := [(2, .null), (0, .ref (ad 0)), (1, .int 1)]) hx hb dX5_carry_18 rfl hl (by decide) rfl (fun ls hl => ?_)
    refine lv_aload_nN hx hb dX5_carry_19 rfl (lv_at hl 0 rfl) ?_
    refine lv_ifnonnullN hx hb dX5_carry_20 ?_
    refine lv_bipush (v := -3) hx hb dX5_carry_23 (by decide) ?_
    exact z_iret F (rfl) hw hS (by unfold cp_carry1; rw [if_neg hh9]; exact ⟨rfl, rfl, ⟨_, _, ⟨h0, h1, h2, h3, h4⟩, ht0, ht1, hR0, hR1⟩, hF⟩) dX5_carry_25
def cp_lose1 (T : rf_T) (Q : rf_Q) : rf_R := (if cl_has (Q 1) 0 then ((nI (((Q 1).headD []).getD 1 0)), T, va_up Q 1 (Q 1).tail) else ((-3), T, Q))
set_option maxHeartbeats 4000000 in
set_option maxRecDepth 100000 in
theorem c_lose1 (l : Launch) {G : zz_G} {ad : Nat → Nat} {ce : zz_C} {sz : Nat} (T : rf_T) (Q : rf_Q) (hV : clV G ad ce T Q) : zz_M l yX5_lose cX5_lose 3 (some .int) 1 21 0 0 G [.ref (ad 0), .int 1] ad ce sz (fun r ad1 ce1 => r = some (.int (cp_lose1 T Q).1) ∧ ad = ad1 ∧ clV G ad ce1 (cp_lose1 T Q).2.1 (cp_lose1 T Q).2.2 ∧ (∀ j, 50 ≤ j → ce1 j = ce j)) := by
  refine zz_enter (by decide) (Nat.le_of_ble_eq_true rfl) ?_
  intro p e s m below meth c ls F hl hw hS hA
  obtain ⟨hx, hb, hr, hml, hown, hts, hlocks, hK, hnm⟩ := id F
  have hl : lv_has ls 3 [(0, .ref (ad 0)), (1, .int 1)] := hl
  obtain ⟨r0, r1, ⟨h0, h1, h2, h3, h4⟩, ht0, ht1, hR0, hR1⟩ := hV
  have hF : ∀ j, 50 ≤ j → ce j = ce j := fun _ _ => rfl
  refine lv_iload_n hx hb dX5_lose_0 rfl (lv_at hl 1 rfl) ?_
  refine z_invS F (rest := []) (c_isWay l 1) ys_X5_99 ⟨Nat.le_of_ble_eq_true rfl, Nat.le_of_ble_eq_true rfl⟩ hw hA hS hl rfl rfl (Nat.le_of_ble_eq_true rfl) dX5_lose_1 ⟨Nat.le_of_ble_eq_true rfl, Nat.le_of_ble_eq_true rfl⟩ (fun r ad1 ce1 H locs hp hw hS => ?_)
  obtain ⟨hp, rfl, rfl⟩ := hp
  rcases hp with ⟨-, rfl⟩ | ⟨hn9, rfl⟩
  rotate_left
  · exact absurd (Or.inr rfl) hn9
  refine W.eq (g2 := F0 m 4 ls [.int 1]) rfl ?_
  refine lv_if_ne (tgt := 9) hx hb dX5_lose_4 (by decide) (fun c4 => ?_) (fun c4 => absurd c4 (by decide))
  refine lv_aload_n hx hb dX5_lose_9 rfl (lv_at hl 0 rfl) ?_
  refine lv_iload_n hx hb dX5_lose_10 rfl (lv_at hl 1 rfl) ?_
  have hV : clV G ad ce T Q := ⟨_, _, ⟨h0, h1, h2, h3, h4⟩, ht0, ht1, hR0, hR1⟩
  refine z_invV F (rest := []) (c_row1 l T Q hV) yv_X5_102 ⟨Nat.le_of_ble_eq_true rfl, Nat.le_of_ble_eq_true rfl⟩ hw hA hS hl h0 rfl rfl rfl (Nat.le_of_ble_eq_true rfl) dX5_lose_11 ⟨Nat.le_of_ble_eq_true rfl, Nat.le_of_ble_eq_true rfl⟩ (fun r ad1 ce2 H locs hp hw hS => ?_)
  obtain ⟨rfl, rfl, rfl⟩ := hp
  refine W.eq (g2 := F0 m 14 ls [.ref (ad 30)]) rfl ?_
  refine lv_iconst (v := 0) hx hb dX5_lose_14 (by decide) ?_
  obtain ⟨vs9, ho9⟩ := hR1.obj
  refine z_invV F (rest := []) (c_at l 30 _ _ hR1 0) yv_X5_106 ⟨Nat.le_of_ble_eq_true rfl, Nat.le_of_ble_eq_true rfl⟩ hw hA hS hl ho9 rfl rfl rfl (Nat.le_of_ble_eq_true rfl) dX5_lose_15 ⟨Nat.le_of_ble_eq_true rfl, Nat.le_of_ble_eq_true rfl⟩ (fun r ad1 ce3 H locs hp hw hS => ?_)
  obtain ⟨hp, rfl, rfl⟩ := hp
  rcases hp with ⟨hh9, h9, rfl, hh8⟩ | ⟨hh9, rfl⟩
  · refine W.eq (g2 := F0 m 18 ls [.ref (ad h9)]) rfl ?_
    have hat8 := hh8.at
    obtain ⟨hm8, hm82⟩ := hh8.m
    rw [cl_hd] at hm8 hm82
    refine lv_astore_n (lv' := [(2, .ref (ad h9)), (0, .ref (ad 0)), (1, .int 1)]) hx hb dX5_lose_18 rfl hl (by decide) rfl (fun ls hl => ?_)
    refine lv_aload_n hx hb dX5_lose_19 rfl (lv_at hl 0 rfl) ?_
    refine lv_ifnonnull (tgt := 26) hx hb dX5_lose_20 (by decide) ?_
    refine lv_aload_n hx hb dX5_lose_26 rfl (lv_at hl 1 rfl) ?_
    refine lv_iload_n hx hb dX5_lose_27 rfl (lv_at hl 2 rfl) ?_
    have hV : clV G ad ce T Q := ⟨_, _, ⟨h0, h1, h2, h3, h4⟩, ht0, ht1, hR0, hR1⟩
    refine z_invV F (rest := []) (c_row1 l T Q hV) yv_X5_102 ⟨Nat.le_of_ble_eq_true rfl, Nat.le_of_ble_eq_true rfl⟩ hw hA hS hl h0 rfl rfl rfl (Nat.le_of_ble_eq_true rfl) dX5_lose_28 ⟨Nat.le_of_ble_eq_true rfl, Nat.le_of_ble_eq_true rfl⟩ (fun r ad1 ce4 H locs hp hw hS => ?_)
    obtain ⟨rfl, rfl, rfl⟩ := hp
    refine W.eq (g2 := F0 m 31 ls [.ref (ad 30)]) rfl ?_
    obtain ⟨vs9, ho9⟩ := hR1.obj
    refine z_invV F (rest := []) (c_dropFirst l 30 _ _ hR1) yv_X5_121 ⟨Nat.le_of_ble_eq_true rfl, Nat.le_of_ble_eq_true rfl⟩ hw hA hS hl ho9 rfl rfl rfl (Nat.le_of_ble_eq_true rfl) dX5_lose_31 ⟨Nat.le_of_ble_eq_true rfl, Nat.le_of_ble_eq_true rfl⟩ (fun r ad1 ce5 H locs hp hw hS => ?_)
    obtain ⟨rfl, rfl, hR1, hF2⟩ := hp
    have h0 := (hF2 0 (by decide)).trans h0
    have h1 := (hF2 1 (by decide)).trans h1
    have h2 := (hF2 2 (by decide)).trans h2
    have h3 := (hF2 3 (by decide)).trans h3
    have h4 := (hF2 4 (by decide)).trans h4
    have hR0 := hR0.kept (fun j h1 h2 => hF2 j (by omega))
    have hF : ∀ j, 50 ≤ j → ce5 j = ce j := fun j hj => (hF2 j (by omega)).trans (hF j hj)
    have hm8 := hm8.kept (hF2 h9 (by omega)) (hF2 (h9 + 1) (by omega))
    have hR1 : cl_r G ad ce5 30 ((va_up Q 1 (Q 1).tail) 1) (cl_op T) := by rw [rf_vu_s]; exact hR1
    have hR0 : cl_r G ad ce5 10 ((va_up Q 1 (Q 1).tail) 0) (cl_op T) := by rw [rf_vu_n _ _ (by decide)]; exact hR0
    refine W.eq (g2 := F0 m 34 ls []) rfl ?_
    refine lv_aload_n hx hb dX5_lose_34 rfl (lv_at hl 0 rfl) ?_
    refine z_invV F (rest := []) (c_type l h9 _ hm8 hm82) yv_X5_110 ⟨Nat.le_of_ble_eq_true rfl, Nat.le_of_ble_eq_true rfl⟩ hw hA hS hl hm8.obj rfl rfl rfl (Nat.le_of_ble_eq_true rfl) dX5_lose_35 ⟨Nat.le_of_ble_eq_true rfl, Nat.le_of_ble_eq_true rfl⟩ (fun r ad1 ce6 H locs hp hw hS => ?_)
    obtain ⟨rfl, rfl, rfl⟩ := hp
    refine W.eq (g2 := F0 m 38 ls [.int (nI (((Q 1).headD []).getD 1 0))]) rfl ?_
    exact z_iret F (rfl) hw hS (by unfold cp_lose1; rw [if_pos hh9]; exact ⟨rfl, rfl, ⟨_, _, ⟨h0, h1, h2, h3, h4⟩, ht0, ht1, hR0, hR1⟩, hF⟩) dX5_lose_38
  · refine W.eq (g2 := F0 m 18 ls [.null]) rfl ?_
    refine lv_astore_nN (lv' := [(2, .null), (0, .ref (ad 0)), (1, .int 1)]) hx hb dX5_lose_18 rfl hl (by decide) rfl (fun ls hl => ?_)
    refine lv_aload_nN hx hb dX5_lose_19 rfl (lv_at hl 0 rfl) ?_
    refine lv_ifnonnullN hx hb dX5_lose_20 ?_
    refine lv_bipush (v := -3) hx hb dX5_lose_23 (by decide) ?_
    exact z_iret F (rfl) hw hS (by unfold cp_lose1; rw [if_neg hh9]; exact ⟨rfl, rfl, ⟨_, _, ⟨h0, h1, h2, h3, h4⟩, ht0, ht1, hR0, hR1⟩, hF⟩) dX5_lose_25
def cp_carryx (T : rf_T) (Q : rf_Q) (a : Int32) : rf_R := ((-1), T, Q)
set_option maxHeartbeats 4000000 in
set_option maxRecDepth 100000 in
theorem c_carryx (l : Launch) {G : zz_G} {ad : Nat → Nat} {ce : zz_C} {sz : Nat} (T : rf_T) (Q : rf_Q) (hV : clV G ad ce T Q) (a : Int32) (hnw : ¬ (a = 0 ∨ a = 1)) : zz_M l yX5_carry cX5_carry 5 (some .int) 6 132 0 0 G [.ref (ad 0), .int a] ad ce sz (fun r ad1 ce1 => r = some (.int (cp_carryx T Q a).1) ∧ ad = ad1 ∧ clV G ad ce1 (cp_carryx T Q a).2.1 (cp_carryx T Q a).2.2 ∧ (∀ j, 50 ≤ j → ce1 j = ce j)) := by
  refine zz_enter (by decide) (Nat.le_of_ble_eq_true rfl) ?_
  intro p e s m below meth c ls F hl hw hS hA
  obtain ⟨hx, hb, hr, hml, hown, hts, hlocks, hK, hnm⟩ := id F
  have hl : lv_has ls 5 [(0, .ref (ad 0)), (1, .int a)] := hl
  obtain ⟨r0, r1, ⟨h0, h1, h2, h3, h4⟩, ht0, ht1, hR0, hR1⟩ := hV
  have hF : ∀ j, 50 ≤ j → ce j = ce j := fun _ _ => rfl
  refine lv_iload_n hx hb dX5_carry_0 rfl (lv_at hl 1 rfl) ?_
  refine z_invS F (rest := []) (c_isWay l a) ys_X5_99 ⟨Nat.le_of_ble_eq_true rfl, Nat.le_of_ble_eq_true rfl⟩ hw hA hS hl rfl rfl (Nat.le_of_ble_eq_true rfl) dX5_carry_1 ⟨Nat.le_of_ble_eq_true rfl, Nat.le_of_ble_eq_true rfl⟩ (fun r ad1 ce1 H locs hp hw hS => ?_)
  obtain ⟨hp, rfl, rfl⟩ := hp
  rcases hp with ⟨hn9, rfl⟩ | ⟨-, rfl⟩
  · exact absurd hn9 hnw
  refine W.eq (g2 := F0 m 4 ls [.int 0]) rfl ?_
  refine lv_if_ne (tgt := 9) hx hb dX5_carry_4 (by decide) (fun c4 => absurd c4 (by decide)) (fun c4 => ?_)
  refine lv_iconst (v := -1) hx hb dX5_carry_7 (by decide) ?_
  exact z_iret F (rfl) hw hS (by unfold cp_carryx; exact ⟨rfl, rfl, ⟨_, _, ⟨h0, h1, h2, h3, h4⟩, ht0, ht1, hR0, hR1⟩, hF⟩) dX5_carry_8
def cp_losex (T : rf_T) (Q : rf_Q) (a : Int32) : rf_R := ((-1), T, Q)
set_option maxHeartbeats 4000000 in
set_option maxRecDepth 100000 in
theorem c_losex (l : Launch) {G : zz_G} {ad : Nat → Nat} {ce : zz_C} {sz : Nat} (T : rf_T) (Q : rf_Q) (hV : clV G ad ce T Q) (a : Int32) (hnw : ¬ (a = 0 ∨ a = 1)) : zz_M l yX5_lose cX5_lose 3 (some .int) 1 21 0 0 G [.ref (ad 0), .int a] ad ce sz (fun r ad1 ce1 => r = some (.int (cp_losex T Q a).1) ∧ ad = ad1 ∧ clV G ad ce1 (cp_losex T Q a).2.1 (cp_losex T Q a).2.2 ∧ (∀ j, 50 ≤ j → ce1 j = ce j)) := by
  refine zz_enter (by decide) (Nat.le_of_ble_eq_true rfl) ?_
  intro p e s m below meth c ls F hl hw hS hA
  obtain ⟨hx, hb, hr, hml, hown, hts, hlocks, hK, hnm⟩ := id F
  have hl : lv_has ls 3 [(0, .ref (ad 0)), (1, .int a)] := hl
  obtain ⟨r0, r1, ⟨h0, h1, h2, h3, h4⟩, ht0, ht1, hR0, hR1⟩ := hV
  have hF : ∀ j, 50 ≤ j → ce j = ce j := fun _ _ => rfl
  refine lv_iload_n hx hb dX5_lose_0 rfl (lv_at hl 1 rfl) ?_
  refine z_invS F (rest := []) (c_isWay l a) ys_X5_99 ⟨Nat.le_of_ble_eq_true rfl, Nat.le_of_ble_eq_true rfl⟩ hw hA hS hl rfl rfl (Nat.le_of_ble_eq_true rfl) dX5_lose_1 ⟨Nat.le_of_ble_eq_true rfl, Nat.le_of_ble_eq_true rfl⟩ (fun r ad1 ce1 H locs hp hw hS => ?_)
  obtain ⟨hp, rfl, rfl⟩ := hp
  rcases hp with ⟨hn9, rfl⟩ | ⟨-, rfl⟩
  · exact absurd hn9 hnw
  refine W.eq (g2 := F0 m 4 ls [.int 0]) rfl ?_
  refine lv_if_ne (tgt := 9) hx hb dX5_lose_4 (by decide) (fun c4 => absurd c4 (by decide)) (fun c4 => ?_)
  refine lv_iconst (v := -1) hx hb dX5_lose_7 (by decide) ?_
  exact z_iret F (rfl) hw hS (by unfold cp_losex; exact ⟨rfl, rfl, ⟨_, _, ⟨h0, h1, h2, h3, h4⟩, ht0, ht1, hR0, hR1⟩, hF⟩) dX5_lose_8
def cp_spoil0 (T : rf_T) (Q : rf_Q) (iv0 mv : Int32) : rf_R := (if cl_by mv then (if cl_has (Q 0) 0 then ((cl_byte (cl_chg ((Q 0).headD []) iv0 mv) iv0), T, va_up Q 0 ((cl_chg ((Q 0).headD []) iv0 mv) :: (Q 0).tail)) else ((-3), T, Q)) else ((-1), T, Q))
set_option maxHeartbeats 4000000 in
set_option maxRecDepth 100000 in
theorem c_spoil0 (l : Launch) {G : zz_G} {ad : Nat → Nat} {ce : zz_C} {sz : Nat} (T : rf_T) (Q : rf_Q) (hV : clV G ad ce T Q) (iv0 mv : Int32) : zz_M l yX5_spoil cX5_spoil 5 (some .int) 2 43 0 0 G [.ref (ad 0), .int 0, .int iv0, .int mv] ad ce sz (fun r ad1 ce1 => r = some (.int (cp_spoil0 T Q iv0 mv).1) ∧ ad = ad1 ∧ clV G ad ce1 (cp_spoil0 T Q iv0 mv).2.1 (cp_spoil0 T Q iv0 mv).2.2 ∧ (∀ j, 50 ≤ j → ce1 j = ce j)) := by
  refine zz_enter (by decide) (Nat.le_of_ble_eq_true rfl) ?_
  intro p e s m below meth c ls F hl hw hS hA
  obtain ⟨hx, hb, hr, hml, hown, hts, hlocks, hK, hnm⟩ := id F
  have hl : lv_has ls 5 [(0, .ref (ad 0)), (1, .int 0), (2, .int iv0), (3, .int mv)] := hl
  obtain ⟨r0, r1, ⟨h0, h1, h2, h3, h4⟩, ht0, ht1, hR0, hR1⟩ := hV
  have hF : ∀ j, 50 ≤ j → ce j = ce j := fun _ _ => rfl
  refine lv_iload_n hx hb dX5_spoil_0 rfl (lv_at hl 1 rfl) ?_
  refine z_invS F (rest := []) (c_isWay l 0) ys_X5_99 ⟨Nat.le_of_ble_eq_true rfl, Nat.le_of_ble_eq_true rfl⟩ hw hA hS hl rfl rfl (Nat.le_of_ble_eq_true rfl) dX5_spoil_1 ⟨Nat.le_of_ble_eq_true rfl, Nat.le_of_ble_eq_true rfl⟩ (fun r ad1 ce1 H locs hp hw hS => ?_)
  obtain ⟨hp, rfl, rfl⟩ := hp
  rcases hp with ⟨-, rfl⟩ | ⟨hn9, rfl⟩
  rotate_left
  · exact absurd (Or.inl rfl) hn9
  refine W.eq (g2 := F0 m 4 ls [.int 1]) rfl ?_
  refine lv_if_eq (tgt := 14) hx hb dX5_spoil_4 (by decide) (fun c4 => absurd c4 (by decide)) (fun c4 => ?_)
  refine lv_iload_n hx hb dX5_spoil_7 rfl (lv_at hl 3 rfl) ?_
  refine z_invS F (rest := []) (c_isByte l mv) ys_X5_74 ⟨Nat.le_of_ble_eq_true rfl, Nat.le_of_ble_eq_true rfl⟩ hw hA hS hl rfl rfl (Nat.le_of_ble_eq_true rfl) dX5_spoil_8 ⟨Nat.le_of_ble_eq_true rfl, Nat.le_of_ble_eq_true rfl⟩ (fun r ad1 ce2 H locs hp hw hS => ?_)
  obtain ⟨hp, rfl, rfl⟩ := hp
  rcases hp with ⟨hby, rfl⟩ | ⟨hby, rfl⟩
  · refine W.eq (g2 := F0 m 11 ls [.int 1]) rfl ?_
    refine lv_if_ne (tgt := 16) hx hb dX5_spoil_11 (by decide) (fun c11 => ?_) (fun c11 => absurd c11 (by decide))
    refine lv_aload_n hx hb dX5_spoil_16 rfl (lv_at hl 0 rfl) ?_
    refine lv_iload_n hx hb dX5_spoil_17 rfl (lv_at hl 1 rfl) ?_
    have hV : clV G ad ce T Q := ⟨_, _, ⟨h0, h1, h2, h3, h4⟩, ht0, ht1, hR0, hR1⟩
    refine z_invV F (rest := []) (c_row0 l T Q hV) yv_X5_102 ⟨Nat.le_of_ble_eq_true rfl, Nat.le_of_ble_eq_true rfl⟩ hw hA hS hl h0 rfl rfl rfl (Nat.le_of_ble_eq_true rfl) dX5_spoil_18 ⟨Nat.le_of_ble_eq_true rfl, Nat.le_of_ble_eq_true rfl⟩ (fun r ad1 ce3 H locs hp hw hS => ?_)
    obtain ⟨rfl, rfl, rfl⟩ := hp
    refine W.eq (g2 := F0 m 21 ls [.ref (ad 10)]) rfl ?_
    refine lv_iconst (v := 0) hx hb dX5_spoil_21 (by decide) ?_
    obtain ⟨vs9, ho9⟩ := hR0.obj
    refine z_invV F (rest := []) (c_at l 10 _ _ hR0 0) yv_X5_106 ⟨Nat.le_of_ble_eq_true rfl, Nat.le_of_ble_eq_true rfl⟩ hw hA hS hl ho9 rfl rfl rfl (Nat.le_of_ble_eq_true rfl) dX5_spoil_22 ⟨Nat.le_of_ble_eq_true rfl, Nat.le_of_ble_eq_true rfl⟩ (fun r ad1 ce4 H locs hp hw hS => ?_)
    obtain ⟨hp, rfl, rfl⟩ := hp
    rcases hp with ⟨hh9, h9, rfl, hh8⟩ | ⟨hh9, rfl⟩
    · refine W.eq (g2 := F0 m 25 ls [.ref (ad h9)]) rfl ?_
      have hat8 := hh8.at
      obtain ⟨hm8, hm82⟩ := hh8.m
      rw [cl_hd] at hm8 hm82
      refine lv_astore (lv' := [(4, .ref (ad h9)), (0, .ref (ad 0)), (1, .int 0), (2, .int iv0), (3, .int mv)]) hx hb dX5_spoil_25 hl (by decide) rfl (fun ls hl => ?_)
      refine lv_aload hx hb dX5_spoil_27 (lv_at hl 0 rfl) ?_
      refine lv_ifnonnull (tgt := 35) hx hb dX5_spoil_29 (by decide) ?_
      refine lv_aload hx hb dX5_spoil_35 (lv_at hl 0 rfl) ?_
      refine lv_iload_n hx hb dX5_spoil_37 rfl (lv_at hl 3 rfl) ?_
      refine lv_iload_n hx hb dX5_spoil_38 rfl (lv_at hl 4 rfl) ?_
      refine z_invV F (rest := []) (c_change l h9 _ hm8 iv0 mv hby.1 (cl_by_lt hby)) yv_X5_124 ⟨Nat.le_of_ble_eq_true rfl, Nat.le_of_ble_eq_true rfl⟩ hw hA hS hl hm8.obj rfl rfl rfl (Nat.le_of_ble_eq_true rfl) dX5_spoil_39 ⟨Nat.le_of_ble_eq_true rfl, Nat.le_of_ble_eq_true rfl⟩ (fun r ad1 ce5 H locs hp hw hS => ?_)
      obtain ⟨rfl, rfl, hm8, hF2⟩ := hp
      have hm82 : 2 ≤ (cl_chg ((Q 0).headD []) iv0 mv).length := by rw [cl_chg_len]; exact hm82
      have h0 := (hF2 0 (by omega) (by omega)).trans h0
      have h1 := (hF2 1 (by omega) (by omega)).trans h1
      have h2 := (hF2 2 (by omega) (by omega)).trans h2
      have h3 := (hF2 3 (by omega) (by omega)).trans h3
      have h4 := (hF2 4 (by omega) (by omega)).trans h4
      have hR1 := hR1.kept (fun j h1 h2 => hF2 j (by omega) (by omega))
      have hF : ∀ j, 50 ≤ j → ce5 j = ce j := fun j hj => (hF2 j (by omega) (by omega)).trans (hF j hj)
      have hR0 := hh8.set hF2 hm8 hm82
      rw [cl_set0 _ hh9] at hR0
      have hR0 : cl_r G ad ce5 10 ((va_up Q 0 ((cl_chg ((Q 0).headD []) iv0 mv) :: (Q 0).tail)) 0) (cl_op T) := by rw [rf_vu_s]; exact hR0
      have hR1 : cl_r G ad ce5 30 ((va_up Q 0 ((cl_chg ((Q 0).headD []) iv0 mv) :: (Q 0).tail)) 1) (cl_op T) := by rw [rf_vu_n _ _ (by decide)]; exact hR1
      refine W.eq (g2 := F0 m 42 ls []) rfl ?_
      refine lv_aload hx hb dX5_spoil_42 (lv_at hl 0 rfl) ?_
      refine lv_iload_n hx hb dX5_spoil_44 rfl (lv_at hl 3 rfl) ?_
      refine z_invV F (rest := []) (c_byteAt l h9 _ hm8 iv0) yv_X5_127 ⟨Nat.le_of_ble_eq_true rfl, Nat.le_of_ble_eq_true rfl⟩ hw hA hS hl hm8.obj rfl rfl rfl (Nat.le_of_ble_eq_true rfl) dX5_spoil_45 ⟨Nat.le_of_ble_eq_true rfl, Nat.le_of_ble_eq_true rfl⟩ (fun r ad1 ce6 H locs hp hw hS => ?_)
      obtain ⟨rfl, rfl, rfl⟩ := hp
      refine W.eq (g2 := F0 m 48 ls [.int (cl_byte (cl_chg ((Q 0).headD []) iv0 mv) iv0)]) rfl ?_
      exact z_iret F (rfl) hw hS (by unfold cp_spoil0; rw [if_pos hby, if_pos hh9]; exact ⟨rfl, rfl, ⟨_, _, ⟨h0, h1, h2, h3, h4⟩, ht0, ht1, hR0, hR1⟩, hF⟩) dX5_spoil_48
    · refine W.eq (g2 := F0 m 25 ls [.null]) rfl ?_
      refine lv_astoreN (lv' := [(4, .null), (0, .ref (ad 0)), (1, .int 0), (2, .int iv0), (3, .int mv)]) hx hb dX5_spoil_25 hl (by decide) rfl (fun ls hl => ?_)
      refine lv_aloadN hx hb dX5_spoil_27 (lv_at hl 0 rfl) ?_
      refine lv_ifnonnullN hx hb dX5_spoil_29 ?_
      refine lv_bipush (v := -3) hx hb dX5_spoil_32 (by decide) ?_
      exact z_iret F (rfl) hw hS (by unfold cp_spoil0; rw [if_pos hby, if_neg hh9]; exact ⟨rfl, rfl, ⟨_, _, ⟨h0, h1, h2, h3, h4⟩, ht0, ht1, hR0, hR1⟩, hF⟩) dX5_spoil_34
  · refine W.eq (g2 := F0 m 11 ls [.int 0]) rfl ?_
    refine lv_if_ne (tgt := 16) hx hb dX5_spoil_11 (by decide) (fun c11 => absurd c11 (by decide)) (fun c11 => ?_)
    refine lv_iconst (v := -1) hx hb dX5_spoil_14 (by decide) ?_
    exact z_iret F (rfl) hw hS (by unfold cp_spoil0; rw [if_neg hby]; exact ⟨rfl, rfl, ⟨_, _, ⟨h0, h1, h2, h3, h4⟩, ht0, ht1, hR0, hR1⟩, hF⟩) dX5_spoil_15
def cp_byteOf0 (T : rf_T) (Q : rf_Q) (kv iv0 : Int32) : rf_R := (if cl_has (Q 0) kv then ((cl_byte ((Q 0).getD kv.toNatClampNeg []) iv0), T, Q) else ((-3), T, Q))
set_option maxHeartbeats 4000000 in
set_option maxRecDepth 100000 in
theorem c_byteOf0 (l : Launch) {G : zz_G} {ad : Nat → Nat} {ce : zz_C} {sz : Nat} (T : rf_T) (Q : rf_Q) (hV : clV G ad ce T Q) (kv iv0 : Int32) : zz_M l yX5_byteOf cX5_byteOf 5 (some .int) 2 42 0 0 G [.ref (ad 0), .int 0, .int kv, .int iv0] ad ce sz (fun r ad1 ce1 => r = some (.int (cp_byteOf0 T Q kv iv0).1) ∧ ad = ad1 ∧ clV G ad ce1 (cp_byteOf0 T Q kv iv0).2.1 (cp_byteOf0 T Q kv iv0).2.2 ∧ (∀ j, 50 ≤ j → ce1 j = ce j)) := by
  refine zz_enter (by decide) (Nat.le_of_ble_eq_true rfl) ?_
  intro p e s m below meth c ls F hl hw hS hA
  obtain ⟨hx, hb, hr, hml, hown, hts, hlocks, hK, hnm⟩ := id F
  have hl : lv_has ls 5 [(0, .ref (ad 0)), (1, .int 0), (2, .int kv), (3, .int iv0)] := hl
  obtain ⟨r0, r1, ⟨h0, h1, h2, h3, h4⟩, ht0, ht1, hR0, hR1⟩ := hV
  have hF : ∀ j, 50 ≤ j → ce j = ce j := fun _ _ => rfl
  refine lv_iload_n hx hb dX5_byteOf_0 rfl (lv_at hl 1 rfl) ?_
  refine z_invS F (rest := []) (c_isWay l 0) ys_X5_99 ⟨Nat.le_of_ble_eq_true rfl, Nat.le_of_ble_eq_true rfl⟩ hw hA hS hl rfl rfl (Nat.le_of_ble_eq_true rfl) dX5_byteOf_1 ⟨Nat.le_of_ble_eq_true rfl, Nat.le_of_ble_eq_true rfl⟩ (fun r ad1 ce1 H locs hp hw hS => ?_)
  obtain ⟨hp, rfl, rfl⟩ := hp
  rcases hp with ⟨-, rfl⟩ | ⟨hn9, rfl⟩
  rotate_left
  · exact absurd (Or.inl rfl) hn9
  refine W.eq (g2 := F0 m 4 ls [.int 1]) rfl ?_
  refine lv_if_ne (tgt := 10) hx hb dX5_byteOf_4 (by decide) (fun c4 => ?_) (fun c4 => absurd c4 (by decide))
  refine lv_aload_n hx hb dX5_byteOf_10 rfl (lv_at hl 0 rfl) ?_
  refine lv_iload_n hx hb dX5_byteOf_11 rfl (lv_at hl 1 rfl) ?_
  have hV : clV G ad ce T Q := ⟨_, _, ⟨h0, h1, h2, h3, h4⟩, ht0, ht1, hR0, hR1⟩
  refine z_invV F (rest := []) (c_row0 l T Q hV) yv_X5_102 ⟨Nat.le_of_ble_eq_true rfl, Nat.le_of_ble_eq_true rfl⟩ hw hA hS hl h0 rfl rfl rfl (Nat.le_of_ble_eq_true rfl) dX5_byteOf_12 ⟨Nat.le_of_ble_eq_true rfl, Nat.le_of_ble_eq_true rfl⟩ (fun r ad1 ce2 H locs hp hw hS => ?_)
  obtain ⟨rfl, rfl, rfl⟩ := hp
  refine W.eq (g2 := F0 m 15 ls [.ref (ad 10)]) rfl ?_
  refine lv_iload_n hx hb dX5_byteOf_15 rfl (lv_at hl 2 rfl) ?_
  obtain ⟨vs9, ho9⟩ := hR0.obj
  refine z_invV F (rest := []) (c_at l 10 _ _ hR0 kv) yv_X5_106 ⟨Nat.le_of_ble_eq_true rfl, Nat.le_of_ble_eq_true rfl⟩ hw hA hS hl ho9 rfl rfl rfl (Nat.le_of_ble_eq_true rfl) dX5_byteOf_16 ⟨Nat.le_of_ble_eq_true rfl, Nat.le_of_ble_eq_true rfl⟩ (fun r ad1 ce3 H locs hp hw hS => ?_)
  obtain ⟨hp, rfl, rfl⟩ := hp
  rcases hp with ⟨hh9, h9, rfl, hh8⟩ | ⟨hh9, rfl⟩
  · refine W.eq (g2 := F0 m 19 ls [.ref (ad h9)]) rfl ?_
    have hat8 := hh8.at
    obtain ⟨hm8, hm82⟩ := hh8.m
    refine lv_astore (lv' := [(4, .ref (ad h9)), (0, .ref (ad 0)), (1, .int 0), (2, .int kv), (3, .int iv0)]) hx hb dX5_byteOf_19 hl (by decide) rfl (fun ls hl => ?_)
    refine lv_aload hx hb dX5_byteOf_21 (lv_at hl 0 rfl) ?_
    refine lv_ifnonnull (tgt := 31) hx hb dX5_byteOf_23 (by decide) ?_
    refine lv_aload hx hb dX5_byteOf_31 (lv_at hl 0 rfl) ?_
    refine lv_iload_n hx hb dX5_byteOf_33 rfl (lv_at hl 4 rfl) ?_
    refine z_invV F (rest := []) (c_byteAt l h9 _ hm8 iv0) yv_X5_127 ⟨Nat.le_of_ble_eq_true rfl, Nat.le_of_ble_eq_true rfl⟩ hw hA hS hl hm8.obj rfl rfl rfl (Nat.le_of_ble_eq_true rfl) dX5_byteOf_34 ⟨Nat.le_of_ble_eq_true rfl, Nat.le_of_ble_eq_true rfl⟩ (fun r ad1 ce4 H locs hp hw hS => ?_)
    obtain ⟨rfl, rfl, rfl⟩ := hp
    refine W.eq (g2 := F0 m 37 ls [.int (cl_byte ((Q 0).getD kv.toNatClampNeg []) iv0)]) rfl ?_
    exact z_iret F (rfl) hw hS (by unfold cp_byteOf0; rw [if_pos hh9]; exact ⟨rfl, rfl, ⟨_, _, ⟨h0, h1, h2, h3, h4⟩, ht0, ht1, hR0, hR1⟩, hF⟩) dX5_byteOf_37
  · refine W.eq (g2 := F0 m 19 ls [.null]) rfl ?_
    refine lv_astoreN (lv' := [(4, .null), (0, .ref (ad 0)), (1, .int 0), (2, .int kv), (3, .int iv0)]) hx hb dX5_byteOf_19 hl (by decide) rfl (fun ls hl => ?_)
    refine lv_aloadN hx hb dX5_byteOf_21 (lv_at hl 0 rfl) ?_
    refine lv_ifnonnullN hx hb dX5_byteOf_23 ?_
    refine lv_bipush (v := -3) hx hb dX5_byteOf_26 (by decide) ?_
    refine lv_goto (tgt := 37) hx hb dX5_byteOf_28 (by decide) ?_
    exact z_iret F (rfl) hw hS (by unfold cp_byteOf0; rw [if_neg hh9]; exact ⟨rfl, rfl, ⟨_, _, ⟨h0, h1, h2, h3, h4⟩, ht0, ht1, hR0, hR1⟩, hF⟩) dX5_byteOf_37
def cp_spoil1 (T : rf_T) (Q : rf_Q) (iv0 mv : Int32) : rf_R := (if cl_by mv then (if cl_has (Q 1) 0 then ((cl_byte (cl_chg ((Q 1).headD []) iv0 mv) iv0), T, va_up Q 1 ((cl_chg ((Q 1).headD []) iv0 mv) :: (Q 1).tail)) else ((-3), T, Q)) else ((-1), T, Q))
set_option maxHeartbeats 4000000 in
set_option maxRecDepth 100000 in
theorem c_spoil1 (l : Launch) {G : zz_G} {ad : Nat → Nat} {ce : zz_C} {sz : Nat} (T : rf_T) (Q : rf_Q) (hV : clV G ad ce T Q) (iv0 mv : Int32) : zz_M l yX5_spoil cX5_spoil 5 (some .int) 2 43 0 0 G [.ref (ad 0), .int 1, .int iv0, .int mv] ad ce sz (fun r ad1 ce1 => r = some (.int (cp_spoil1 T Q iv0 mv).1) ∧ ad = ad1 ∧ clV G ad ce1 (cp_spoil1 T Q iv0 mv).2.1 (cp_spoil1 T Q iv0 mv).2.2 ∧ (∀ j, 50 ≤ j → ce1 j = ce j)) := by
  refine zz_enter (by decide) (Nat.le_of_ble_eq_true rfl) ?_
  intro p e s m below meth c ls F hl hw hS hA
  obtain ⟨hx, hb, hr, hml, hown, hts, hlocks, hK, hnm⟩ := id F
  have hl : lv_has ls 5 [(0, .ref (ad 0)), (1, .int 1), (2, .int iv0), (3, .int mv)] := hl
  obtain ⟨r0, r1, ⟨h0, h1, h2, h3, h4⟩, ht0, ht1, hR0, hR1⟩ := hV
  have hF : ∀ j, 50 ≤ j → ce j = ce j := fun _ _ => rfl
  refine lv_iload_n hx hb dX5_spoil_0 rfl (lv_at hl 1 rfl) ?_
  refine z_invS F (rest := []) (c_isWay l 1) ys_X5_99 ⟨Nat.le_of_ble_eq_true rfl, Nat.le_of_ble_eq_true rfl⟩ hw hA hS hl rfl rfl (Nat.le_of_ble_eq_true rfl) dX5_spoil_1 ⟨Nat.le_of_ble_eq_true rfl, Nat.le_of_ble_eq_true rfl⟩ (fun r ad1 ce1 H locs hp hw hS => ?_)
  obtain ⟨hp, rfl, rfl⟩ := hp
  rcases hp with ⟨-, rfl⟩ | ⟨hn9, rfl⟩
  rotate_left
  · exact absurd (Or.inr rfl) hn9
  refine W.eq (g2 := F0 m 4 ls [.int 1]) rfl ?_
  refine lv_if_eq (tgt := 14) hx hb dX5_spoil_4 (by decide) (fun c4 => absurd c4 (by decide)) (fun c4 => ?_)
  refine lv_iload_n hx hb dX5_spoil_7 rfl (lv_at hl 3 rfl) ?_
  refine z_invS F (rest := []) (c_isByte l mv) ys_X5_74 ⟨Nat.le_of_ble_eq_true rfl, Nat.le_of_ble_eq_true rfl⟩ hw hA hS hl rfl rfl (Nat.le_of_ble_eq_true rfl) dX5_spoil_8 ⟨Nat.le_of_ble_eq_true rfl, Nat.le_of_ble_eq_true rfl⟩ (fun r ad1 ce2 H locs hp hw hS => ?_)
  obtain ⟨hp, rfl, rfl⟩ := hp
  rcases hp with ⟨hby, rfl⟩ | ⟨hby, rfl⟩
  · refine W.eq (g2 := F0 m 11 ls [.int 1]) rfl ?_
    refine lv_if_ne (tgt := 16) hx hb dX5_spoil_11 (by decide) (fun c11 => ?_) (fun c11 => absurd c11 (by decide))
    refine lv_aload_n hx hb dX5_spoil_16 rfl (lv_at hl 0 rfl) ?_
    refine lv_iload_n hx hb dX5_spoil_17 rfl (lv_at hl 1 rfl) ?_
    have hV : clV G ad ce T Q := ⟨_, _, ⟨h0, h1, h2, h3, h4⟩, ht0, ht1, hR0, hR1⟩
    refine z_invV F (rest := []) (c_row1 l T Q hV) yv_X5_102 ⟨Nat.le_of_ble_eq_true rfl, Nat.le_of_ble_eq_true rfl⟩ hw hA hS hl h0 rfl rfl rfl (Nat.le_of_ble_eq_true rfl) dX5_spoil_18 ⟨Nat.le_of_ble_eq_true rfl, Nat.le_of_ble_eq_true rfl⟩ (fun r ad1 ce3 H locs hp hw hS => ?_)
    obtain ⟨rfl, rfl, rfl⟩ := hp
    refine W.eq (g2 := F0 m 21 ls [.ref (ad 30)]) rfl ?_
    refine lv_iconst (v := 0) hx hb dX5_spoil_21 (by decide) ?_
    obtain ⟨vs9, ho9⟩ := hR1.obj
    refine z_invV F (rest := []) (c_at l 30 _ _ hR1 0) yv_X5_106 ⟨Nat.le_of_ble_eq_true rfl, Nat.le_of_ble_eq_true rfl⟩ hw hA hS hl ho9 rfl rfl rfl (Nat.le_of_ble_eq_true rfl) dX5_spoil_22 ⟨Nat.le_of_ble_eq_true rfl, Nat.le_of_ble_eq_true rfl⟩ (fun r ad1 ce4 H locs hp hw hS => ?_)
    obtain ⟨hp, rfl, rfl⟩ := hp
    rcases hp with ⟨hh9, h9, rfl, hh8⟩ | ⟨hh9, rfl⟩
    · refine W.eq (g2 := F0 m 25 ls [.ref (ad h9)]) rfl ?_
      have hat8 := hh8.at
      obtain ⟨hm8, hm82⟩ := hh8.m
      rw [cl_hd] at hm8 hm82
      refine lv_astore (lv' := [(4, .ref (ad h9)), (0, .ref (ad 0)), (1, .int 1), (2, .int iv0), (3, .int mv)]) hx hb dX5_spoil_25 hl (by decide) rfl (fun ls hl => ?_)
      refine lv_aload hx hb dX5_spoil_27 (lv_at hl 0 rfl) ?_
      refine lv_ifnonnull (tgt := 35) hx hb dX5_spoil_29 (by decide) ?_
      refine lv_aload hx hb dX5_spoil_35 (lv_at hl 0 rfl) ?_
      refine lv_iload_n hx hb dX5_spoil_37 rfl (lv_at hl 3 rfl) ?_
      refine lv_iload_n hx hb dX5_spoil_38 rfl (lv_at hl 4 rfl) ?_
      refine z_invV F (rest := []) (c_change l h9 _ hm8 iv0 mv hby.1 (cl_by_lt hby)) yv_X5_124 ⟨Nat.le_of_ble_eq_true rfl, Nat.le_of_ble_eq_true rfl⟩ hw hA hS hl hm8.obj rfl rfl rfl (Nat.le_of_ble_eq_true rfl) dX5_spoil_39 ⟨Nat.le_of_ble_eq_true rfl, Nat.le_of_ble_eq_true rfl⟩ (fun r ad1 ce5 H locs hp hw hS => ?_)
      obtain ⟨rfl, rfl, hm8, hF2⟩ := hp
      have hm82 : 2 ≤ (cl_chg ((Q 1).headD []) iv0 mv).length := by rw [cl_chg_len]; exact hm82
      have h0 := (hF2 0 (by omega) (by omega)).trans h0
      have h1 := (hF2 1 (by omega) (by omega)).trans h1
      have h2 := (hF2 2 (by omega) (by omega)).trans h2
      have h3 := (hF2 3 (by omega) (by omega)).trans h3
      have h4 := (hF2 4 (by omega) (by omega)).trans h4
      have hR0 := hR0.kept (fun j h1 h2 => hF2 j (by omega) (by omega))
      have hF : ∀ j, 50 ≤ j → ce5 j = ce j := fun j hj => (hF2 j (by omega) (by omega)).trans (hF j hj)
      have hR1 := hh8.set hF2 hm8 hm82
      rw [cl_set0 _ hh9] at hR1
      have hR1 : cl_r G ad ce5 30 ((va_up Q 1 ((cl_chg ((Q 1).headD []) iv0 mv) :: (Q 1).tail)) 1) (cl_op T) := by rw [rf_vu_s]; exact hR1
      have hR0 : cl_r G ad ce5 10 ((va_up Q 1 ((cl_chg ((Q 1).headD []) iv0 mv) :: (Q 1).tail)) 0) (cl_op T) := by rw [rf_vu_n _ _ (by decide)]; exact hR0
      refine W.eq (g2 := F0 m 42 ls []) rfl ?_
      refine lv_aload hx hb dX5_spoil_42 (lv_at hl 0 rfl) ?_
      refine lv_iload_n hx hb dX5_spoil_44 rfl (lv_at hl 3 rfl) ?_
      refine z_invV F (rest := []) (c_byteAt l h9 _ hm8 iv0) yv_X5_127 ⟨Nat.le_of_ble_eq_true rfl, Nat.le_of_ble_eq_true rfl⟩ hw hA hS hl hm8.obj rfl rfl rfl (Nat.le_of_ble_eq_true rfl) dX5_spoil_45 ⟨Nat.le_of_ble_eq_true rfl, Nat.le_of_ble_eq_true rfl⟩ (fun r ad1 ce6 H locs hp hw hS => ?_)
      obtain ⟨rfl, rfl, rfl⟩ := hp
      refine W.eq (g2 := F0 m 48 ls [.int (cl_byte (cl_chg ((Q 1).headD []) iv0 mv) iv0)]) rfl ?_
      exact z_iret F (rfl) hw hS (by unfold cp_spoil1; rw [if_pos hby, if_pos hh9]; exact ⟨rfl, rfl, ⟨_, _, ⟨h0, h1, h2, h3, h4⟩, ht0, ht1, hR0, hR1⟩, hF⟩) dX5_spoil_48
    · refine W.eq (g2 := F0 m 25 ls [.null]) rfl ?_
      refine lv_astoreN (lv' := [(4, .null), (0, .ref (ad 0)), (1, .int 1), (2, .int iv0), (3, .int mv)]) hx hb dX5_spoil_25 hl (by decide) rfl (fun ls hl => ?_)
      refine lv_aloadN hx hb dX5_spoil_27 (lv_at hl 0 rfl) ?_
      refine lv_ifnonnullN hx hb dX5_spoil_29 ?_
      refine lv_bipush (v := -3) hx hb dX5_spoil_32 (by decide) ?_
      exact z_iret F (rfl) hw hS (by unfold cp_spoil1; rw [if_pos hby, if_neg hh9]; exact ⟨rfl, rfl, ⟨_, _, ⟨h0, h1, h2, h3, h4⟩, ht0, ht1, hR0, hR1⟩, hF⟩) dX5_spoil_34
  · refine W.eq (g2 := F0 m 11 ls [.int 0]) rfl ?_
    refine lv_if_ne (tgt := 16) hx hb dX5_spoil_11 (by decide) (fun c11 => absurd c11 (by decide)) (fun c11 => ?_)
    refine lv_iconst (v := -1) hx hb dX5_spoil_14 (by decide) ?_
    exact z_iret F (rfl) hw hS (by unfold cp_spoil1; rw [if_neg hby]; exact ⟨rfl, rfl, ⟨_, _, ⟨h0, h1, h2, h3, h4⟩, ht0, ht1, hR0, hR1⟩, hF⟩) dX5_spoil_15
def cp_byteOf1 (T : rf_T) (Q : rf_Q) (kv iv0 : Int32) : rf_R := (if cl_has (Q 1) kv then ((cl_byte ((Q 1).getD kv.toNatClampNeg []) iv0), T, Q) else ((-3), T, Q))
set_option maxHeartbeats 4000000 in
set_option maxRecDepth 100000 in
theorem c_byteOf1 (l : Launch) {G : zz_G} {ad : Nat → Nat} {ce : zz_C} {sz : Nat} (T : rf_T) (Q : rf_Q) (hV : clV G ad ce T Q) (kv iv0 : Int32) : zz_M l yX5_byteOf cX5_byteOf 5 (some .int) 2 42 0 0 G [.ref (ad 0), .int 1, .int kv, .int iv0] ad ce sz (fun r ad1 ce1 => r = some (.int (cp_byteOf1 T Q kv iv0).1) ∧ ad = ad1 ∧ clV G ad ce1 (cp_byteOf1 T Q kv iv0).2.1 (cp_byteOf1 T Q kv iv0).2.2 ∧ (∀ j, 50 ≤ j → ce1 j = ce j)) := by
  refine zz_enter (by decide) (Nat.le_of_ble_eq_true rfl) ?_
  intro p e s m below meth c ls F hl hw hS hA
  obtain ⟨hx, hb, hr, hml, hown, hts, hlocks, hK, hnm⟩ := id F
  have hl : lv_has ls 5 [(0, .ref (ad 0)), (1, .int 1), (2, .int kv), (3, .int iv0)] := hl
  obtain ⟨r0, r1, ⟨h0, h1, h2, h3, h4⟩, ht0, ht1, hR0, hR1⟩ := hV
  have hF : ∀ j, 50 ≤ j → ce j = ce j := fun _ _ => rfl
  refine lv_iload_n hx hb dX5_byteOf_0 rfl (lv_at hl 1 rfl) ?_
  refine z_invS F (rest := []) (c_isWay l 1) ys_X5_99 ⟨Nat.le_of_ble_eq_true rfl, Nat.le_of_ble_eq_true rfl⟩ hw hA hS hl rfl rfl (Nat.le_of_ble_eq_true rfl) dX5_byteOf_1 ⟨Nat.le_of_ble_eq_true rfl, Nat.le_of_ble_eq_true rfl⟩ (fun r ad1 ce1 H locs hp hw hS => ?_)
  obtain ⟨hp, rfl, rfl⟩ := hp
  rcases hp with ⟨-, rfl⟩ | ⟨hn9, rfl⟩
  rotate_left
  · exact absurd (Or.inr rfl) hn9
  refine W.eq (g2 := F0 m 4 ls [.int 1]) rfl ?_
  refine lv_if_ne (tgt := 10) hx hb dX5_byteOf_4 (by decide) (fun c4 => ?_) (fun c4 => absurd c4 (by decide))
  refine lv_aload_n hx hb dX5_byteOf_10 rfl (lv_at hl 0 rfl) ?_
  refine lv_iload_n hx hb dX5_byteOf_11 rfl (lv_at hl 1 rfl) ?_
  have hV : clV G ad ce T Q := ⟨_, _, ⟨h0, h1, h2, h3, h4⟩, ht0, ht1, hR0, hR1⟩
  refine z_invV F (rest := []) (c_row1 l T Q hV) yv_X5_102 ⟨Nat.le_of_ble_eq_true rfl, Nat.le_of_ble_eq_true rfl⟩ hw hA hS hl h0 rfl rfl rfl (Nat.le_of_ble_eq_true rfl) dX5_byteOf_12 ⟨Nat.le_of_ble_eq_true rfl, Nat.le_of_ble_eq_true rfl⟩ (fun r ad1 ce2 H locs hp hw hS => ?_)
  obtain ⟨rfl, rfl, rfl⟩ := hp
  refine W.eq (g2 := F0 m 15 ls [.ref (ad 30)]) rfl ?_
  refine lv_iload_n hx hb dX5_byteOf_15 rfl (lv_at hl 2 rfl) ?_
  obtain ⟨vs9, ho9⟩ := hR1.obj
  refine z_invV F (rest := []) (c_at l 30 _ _ hR1 kv) yv_X5_106 ⟨Nat.le_of_ble_eq_true rfl, Nat.le_of_ble_eq_true rfl⟩ hw hA hS hl ho9 rfl rfl rfl (Nat.le_of_ble_eq_true rfl) dX5_byteOf_16 ⟨Nat.le_of_ble_eq_true rfl, Nat.le_of_ble_eq_true rfl⟩ (fun r ad1 ce3 H locs hp hw hS => ?_)
  obtain ⟨hp, rfl, rfl⟩ := hp
  rcases hp with ⟨hh9, h9, rfl, hh8⟩ | ⟨hh9, rfl⟩
  · refine W.eq (g2 := F0 m 19 ls [.ref (ad h9)]) rfl ?_
    have hat8 := hh8.at
    obtain ⟨hm8, hm82⟩ := hh8.m
    refine lv_astore (lv' := [(4, .ref (ad h9)), (0, .ref (ad 0)), (1, .int 1), (2, .int kv), (3, .int iv0)]) hx hb dX5_byteOf_19 hl (by decide) rfl (fun ls hl => ?_)
    refine lv_aload hx hb dX5_byteOf_21 (lv_at hl 0 rfl) ?_
    refine lv_ifnonnull (tgt := 31) hx hb dX5_byteOf_23 (by decide) ?_
    refine lv_aload hx hb dX5_byteOf_31 (lv_at hl 0 rfl) ?_
    refine lv_iload_n hx hb dX5_byteOf_33 rfl (lv_at hl 4 rfl) ?_
    refine z_invV F (rest := []) (c_byteAt l h9 _ hm8 iv0) yv_X5_127 ⟨Nat.le_of_ble_eq_true rfl, Nat.le_of_ble_eq_true rfl⟩ hw hA hS hl hm8.obj rfl rfl rfl (Nat.le_of_ble_eq_true rfl) dX5_byteOf_34 ⟨Nat.le_of_ble_eq_true rfl, Nat.le_of_ble_eq_true rfl⟩ (fun r ad1 ce4 H locs hp hw hS => ?_)
    obtain ⟨rfl, rfl, rfl⟩ := hp
    refine W.eq (g2 := F0 m 37 ls [.int (cl_byte ((Q 1).getD kv.toNatClampNeg []) iv0)]) rfl ?_
    exact z_iret F (rfl) hw hS (by unfold cp_byteOf1; rw [if_pos hh9]; exact ⟨rfl, rfl, ⟨_, _, ⟨h0, h1, h2, h3, h4⟩, ht0, ht1, hR0, hR1⟩, hF⟩) dX5_byteOf_37
  · refine W.eq (g2 := F0 m 19 ls [.null]) rfl ?_
    refine lv_astoreN (lv' := [(4, .null), (0, .ref (ad 0)), (1, .int 1), (2, .int kv), (3, .int iv0)]) hx hb dX5_byteOf_19 hl (by decide) rfl (fun ls hl => ?_)
    refine lv_aloadN hx hb dX5_byteOf_21 (lv_at hl 0 rfl) ?_
    refine lv_ifnonnullN hx hb dX5_byteOf_23 ?_
    refine lv_bipush (v := -3) hx hb dX5_byteOf_26 (by decide) ?_
    refine lv_goto (tgt := 37) hx hb dX5_byteOf_28 (by decide) ?_
    exact z_iret F (rfl) hw hS (by unfold cp_byteOf1; rw [if_neg hh9]; exact ⟨rfl, rfl, ⟨_, _, ⟨h0, h1, h2, h3, h4⟩, ht0, ht1, hR0, hR1⟩, hF⟩) dX5_byteOf_37
def cp_spoilx (T : rf_T) (Q : rf_Q) (a iv0 mv : Int32) : rf_R := ((-1), T, Q)
set_option maxHeartbeats 4000000 in
set_option maxRecDepth 100000 in
theorem c_spoilx (l : Launch) {G : zz_G} {ad : Nat → Nat} {ce : zz_C} {sz : Nat} (T : rf_T) (Q : rf_Q) (hV : clV G ad ce T Q) (a iv0 mv : Int32) (hnw : ¬ (a = 0 ∨ a = 1)) : zz_M l yX5_spoil cX5_spoil 5 (some .int) 2 43 0 0 G [.ref (ad 0), .int a, .int iv0, .int mv] ad ce sz (fun r ad1 ce1 => r = some (.int (cp_spoilx T Q a iv0 mv).1) ∧ ad = ad1 ∧ clV G ad ce1 (cp_spoilx T Q a iv0 mv).2.1 (cp_spoilx T Q a iv0 mv).2.2 ∧ (∀ j, 50 ≤ j → ce1 j = ce j)) := by
  refine zz_enter (by decide) (Nat.le_of_ble_eq_true rfl) ?_
  intro p e s m below meth c ls F hl hw hS hA
  obtain ⟨hx, hb, hr, hml, hown, hts, hlocks, hK, hnm⟩ := id F
  have hl : lv_has ls 5 [(0, .ref (ad 0)), (1, .int a), (2, .int iv0), (3, .int mv)] := hl
  obtain ⟨r0, r1, ⟨h0, h1, h2, h3, h4⟩, ht0, ht1, hR0, hR1⟩ := hV
  have hF : ∀ j, 50 ≤ j → ce j = ce j := fun _ _ => rfl
  refine lv_iload_n hx hb dX5_spoil_0 rfl (lv_at hl 1 rfl) ?_
  refine z_invS F (rest := []) (c_isWay l a) ys_X5_99 ⟨Nat.le_of_ble_eq_true rfl, Nat.le_of_ble_eq_true rfl⟩ hw hA hS hl rfl rfl (Nat.le_of_ble_eq_true rfl) dX5_spoil_1 ⟨Nat.le_of_ble_eq_true rfl, Nat.le_of_ble_eq_true rfl⟩ (fun r ad1 ce1 H locs hp hw hS => ?_)
  obtain ⟨hp, rfl, rfl⟩ := hp
  rcases hp with ⟨hn9, rfl⟩ | ⟨-, rfl⟩
  · exact absurd hn9 hnw
  refine W.eq (g2 := F0 m 4 ls [.int 0]) rfl ?_
  refine lv_if_eq (tgt := 14) hx hb dX5_spoil_4 (by decide) (fun c4 => ?_) (fun c4 => absurd c4 (by decide))
  refine lv_iconst (v := -1) hx hb dX5_spoil_14 (by decide) ?_
  exact z_iret F (rfl) hw hS (by unfold cp_spoilx; exact ⟨rfl, rfl, ⟨_, _, ⟨h0, h1, h2, h3, h4⟩, ht0, ht1, hR0, hR1⟩, hF⟩) dX5_spoil_15
def cp_byteOfx (T : rf_T) (Q : rf_Q) (a kv iv0 : Int32) : rf_R := ((-3), T, Q)
set_option maxHeartbeats 4000000 in
set_option maxRecDepth 100000 in
theorem c_byteOfx (l : Launch) {G : zz_G} {ad : Nat → Nat} {ce : zz_C} {sz : Nat} (T : rf_T) (Q : rf_Q) (hV : clV G ad ce T Q) (a kv iv0 : Int32) (hnw : ¬ (a = 0 ∨ a = 1)) : zz_M l yX5_byteOf cX5_byteOf 5 (some .int) 2 42 0 0 G [.ref (ad 0), .int a, .int kv, .int iv0] ad ce sz (fun r ad1 ce1 => r = some (.int (cp_byteOfx T Q a kv iv0).1) ∧ ad = ad1 ∧ clV G ad ce1 (cp_byteOfx T Q a kv iv0).2.1 (cp_byteOfx T Q a kv iv0).2.2 ∧ (∀ j, 50 ≤ j → ce1 j = ce j)) := by
  refine zz_enter (by decide) (Nat.le_of_ble_eq_true rfl) ?_
  intro p e s m below meth c ls F hl hw hS hA
  obtain ⟨hx, hb, hr, hml, hown, hts, hlocks, hK, hnm⟩ := id F
  have hl : lv_has ls 5 [(0, .ref (ad 0)), (1, .int a), (2, .int kv), (3, .int iv0)] := hl
  obtain ⟨r0, r1, ⟨h0, h1, h2, h3, h4⟩, ht0, ht1, hR0, hR1⟩ := hV
  have hF : ∀ j, 50 ≤ j → ce j = ce j := fun _ _ => rfl
  refine lv_iload_n hx hb dX5_byteOf_0 rfl (lv_at hl 1 rfl) ?_
  refine z_invS F (rest := []) (c_isWay l a) ys_X5_99 ⟨Nat.le_of_ble_eq_true rfl, Nat.le_of_ble_eq_true rfl⟩ hw hA hS hl rfl rfl (Nat.le_of_ble_eq_true rfl) dX5_byteOf_1 ⟨Nat.le_of_ble_eq_true rfl, Nat.le_of_ble_eq_true rfl⟩ (fun r ad1 ce1 H locs hp hw hS => ?_)
  obtain ⟨hp, rfl, rfl⟩ := hp
  rcases hp with ⟨hn9, rfl⟩ | ⟨-, rfl⟩
  · exact absurd hn9 hnw
  refine W.eq (g2 := F0 m 4 ls [.int 0]) rfl ?_
  refine lv_if_ne (tgt := 10) hx hb dX5_byteOf_4 (by decide) (fun c4 => absurd c4 (by decide)) (fun c4 => ?_)
  refine lv_bipush (v := -3) hx hb dX5_byteOf_7 (by decide) ?_
  exact z_iret F (rfl) hw hS (by unfold cp_byteOfx; exact ⟨rfl, rfl, ⟨_, _, ⟨h0, h1, h2, h3, h4⟩, ht0, ht1, hR0, hR1⟩, hF⟩) dX5_byteOf_9
def cp_digit (T : rf_T) (Q : rf_Q) (v : Int32) : rf_R := ((cp_numberByte T Q v).1, ((cp_numberByte T Q v).2.1), (cp_numberByte T Q v).2.2)
set_option maxHeartbeats 4000000 in
set_option maxRecDepth 100000 in
theorem c_digit (l : Launch) {G : zz_G} {ad : Nat → Nat} {ce : zz_C} {sz : Nat} (T : rf_T) (Q : rf_Q) (hV : clV G ad ce T Q) (v : Int32) (cc : Nat) (hcc8 : cc ≤ 8) (hcc : T 0 10 = nI cc) : zz_M l yX5_digit cX5_digit 2 (some .int) 1 21 0 0 G [.ref (ad 0), .int v] ad ce sz (fun r ad1 ce1 => r = some (.int (cp_digit T Q v).1) ∧ ad = ad1 ∧ clV G ad ce1 (cp_digit T Q v).2.1 (cp_digit T Q v).2.2 ∧ (∀ j, 50 ≤ j → ce1 j = ce j)) := by
  refine zz_enter (by decide) (Nat.le_of_ble_eq_true rfl) ?_
  intro p e s m below meth c ls F hl hw hS hA
  obtain ⟨hx, hb, hr, hml, hown, hts, hlocks, hK, hnm⟩ := id F
  have hl : lv_has ls 2 [(0, .ref (ad 0)), (1, .int v)] := hl
  obtain ⟨r0, r1, ⟨h0, h1, h2, h3, h4⟩, ht0, ht1, hR0, hR1⟩ := hV
  have hF : ∀ j, 50 ≤ j → ce j = ce j := fun _ _ => rfl
  refine lv_aload_n hx hb dX5_digit_0 rfl (lv_at hl 0 rfl) ?_
  refine z_get F hw h0 fd_X5_23_X5 rfl dX5_digit_1 ?_
  refine lv_iload_n hx hb dX5_digit_4 rfl (lv_at hl 1 rfl) ?_
  have hV : clV G ad ce T Q := ⟨_, _, ⟨h0, h1, h2, h3, h4⟩, ht0, ht1, hR0, hR1⟩
  refine z_invV F (rest := []) (c_numberByte l T Q hV v cc hcc8 hcc) yv_X5_172 ⟨Nat.le_of_ble_eq_true rfl, Nat.le_of_ble_eq_true rfl⟩ hw hA hS hl h2 rfl rfl rfl (Nat.le_of_ble_eq_true rfl) dX5_digit_5 ⟨Nat.le_of_ble_eq_true rfl, Nat.le_of_ble_eq_true rfl⟩ (fun r ad1 ce1 H locs hp hw hS => ?_)
  obtain ⟨rfl, rfl, hV, hF2⟩ := hp
  have hF : ∀ j, 50 ≤ j → ce1 j = ce j := fun j hj => (hF2 j (by omega)).trans (hF j hj)
  obtain ⟨r0, r1, ⟨h0, h1, h2, h3, h4⟩, ht0, ht1, hR0, hR1⟩ := hV
  refine W.eq (g2 := F0 m 8 ls [.int (cp_numberByte T Q v).1]) rfl ?_
  exact z_iret F (rfl) hw hS (by unfold cp_digit; exact ⟨rfl, rfl, ⟨_, _, ⟨h0, h1, h2, h3, h4⟩, ht0, ht1, hR0, hR1⟩, hF⟩) dX5_digit_8
def cp_told (T : rf_T) (Q : rf_Q) (v : Int32) : rf_R := (if (v : Int32) = 0 then ((T 1 0), T, Q) else (if (v : Int32) = 1 then ((T 2 0), T, Q) else (if (v : Int32) = 2 then ((T 3 0), T, Q) else (if (v : Int32) = 3 then ((T 0 6), T, Q) else (if (v : Int32) = 4 then ((T 1 1), T, Q) else (if (v : Int32) = 5 then ((T 2 1), T, Q) else (if (v : Int32) = 6 then ((T 3 1), T, Q) else (if (v : Int32) = 7 then ((T 0 7), T, Q) else (if (v : Int32) = 8 then ((nI (Q 0).length), T, Q) else (if (v : Int32) = 9 then ((nI (Q 1).length), T, Q) else (if (v : Int32) = 10 then ((T 0 5), T, Q) else (if (v : Int32) = 11 then (if T 0 4 = 0 then (1, T, Q) else (0, T, Q)) else (if (v : Int32) = 12 then ((T 5 0), T, Q) else (if (v : Int32) = 13 then ((T 5 1), T, Q) else ((-1), T, Q)))))))))))))))
set_option maxHeartbeats 4000000 in
set_option maxRecDepth 100000 in
theorem c_told (l : Launch) {G : zz_G} {ad : Nat → Nat} {ce : zz_C} {sz : Nat} (T : rf_T) (Q : rf_Q) (hV : clV G ad ce T Q) (v : Int32) : zz_M l yX5_told cX5_told 2 (some .int) 1 20 0 0 G [.ref (ad 0), .int v] ad ce sz (fun r ad1 ce1 => r = some (.int (cp_told T Q v).1) ∧ ad = ad1 ∧ clV G ad ce1 (cp_told T Q v).2.1 (cp_told T Q v).2.2 ∧ (∀ j, 50 ≤ j → ce1 j = ce j)) := by
  refine zz_enter (by decide) (Nat.le_of_ble_eq_true rfl) ?_
  intro p e s m below meth c ls F hl hw hS hA
  obtain ⟨hx, hb, hr, hml, hown, hts, hlocks, hK, hnm⟩ := id F
  have hl : lv_has ls 2 [(0, .ref (ad 0)), (1, .int v)] := hl
  obtain ⟨r0, r1, ⟨h0, h1, h2, h3, h4⟩, ht0, ht1, hR0, hR1⟩ := hV
  have hF : ∀ j, 50 ≤ j → ce j = ce j := fun _ _ => rfl
  refine lv_iload_n hx hb dX5_told_0 rfl (lv_at hl 1 rfl) ?_
  by_cases h1_0 : (v : Int32) = 0
  · refine lv_tableIn (tgt := 72) (off := 71) hx hb dX5_told_1 (by rw [h1_0]; decide) (by rw [h1_0]; decide) (by rw [h1_0]; rfl) (by decide) ?_
    refine lv_aload_n hx hb dX5_told_72 rfl (lv_at hl 0 rfl) ?_
    refine z_get F hw h0 fd_X5_12_X5 rfl dX5_told_73 ?_
    refine z_get F hw h1 fd_X5_152_X1 rfl dX5_told_76 ?_
    exact z_iret F (rfl) hw hS (by unfold cp_told; rw [if_pos h1_0]; exact ⟨rfl, rfl, ⟨_, _, ⟨h0, h1, h2, h3, h4⟩, ht0, ht1, hR0, hR1⟩, hF⟩) dX5_told_79
  by_cases h1_1 : (v : Int32) = 1
  · refine lv_tableIn (tgt := 80) (off := 79) hx hb dX5_told_1 (by rw [h1_1]; decide) (by rw [h1_1]; decide) (by rw [h1_1]; rfl) (by decide) ?_
    refine lv_aload_n hx hb dX5_told_80 rfl (lv_at hl 0 rfl) ?_
    refine z_get F hw h0 fd_X5_12_X5 rfl dX5_told_81 ?_
    refine z_get F hw h1 fd_X5_155_X1 rfl dX5_told_84 ?_
    exact z_iret F (rfl) hw hS (by unfold cp_told; rw [if_neg h1_0, if_pos h1_1]; exact ⟨rfl, rfl, ⟨_, _, ⟨h0, h1, h2, h3, h4⟩, ht0, ht1, hR0, hR1⟩, hF⟩) dX5_told_87
  by_cases h1_2 : (v : Int32) = 2
  · refine lv_tableIn (tgt := 88) (off := 87) hx hb dX5_told_1 (by rw [h1_2]; decide) (by rw [h1_2]; decide) (by rw [h1_2]; rfl) (by decide) ?_
    refine lv_aload_n hx hb dX5_told_88 rfl (lv_at hl 0 rfl) ?_
    refine z_get F hw h0 fd_X5_12_X5 rfl dX5_told_89 ?_
    refine z_get F hw h1 fd_X5_158_X1 rfl dX5_told_92 ?_
    exact z_iret F (rfl) hw hS (by unfold cp_told; rw [if_neg h1_0, if_neg h1_1, if_pos h1_2]; exact ⟨rfl, rfl, ⟨_, _, ⟨h0, h1, h2, h3, h4⟩, ht0, ht1, hR0, hR1⟩, hF⟩) dX5_told_95
  by_cases h1_3 : (v : Int32) = 3
  · refine lv_tableIn (tgt := 96) (off := 95) hx hb dX5_told_1 (by rw [h1_3]; decide) (by rw [h1_3]; decide) (by rw [h1_3]; rfl) (by decide) ?_
    refine lv_aload_n hx hb dX5_told_96 rfl (lv_at hl 0 rfl) ?_
    refine z_get F hw h0 fd_X5_12_X5 rfl dX5_told_97 ?_
    refine z_get F hw h1 fd_X5_161_X1 rfl dX5_told_100 ?_
    exact z_iret F (rfl) hw hS (by unfold cp_told; rw [if_neg h1_0, if_neg h1_1, if_neg h1_2, if_pos h1_3]; exact ⟨rfl, rfl, ⟨_, _, ⟨h0, h1, h2, h3, h4⟩, ht0, ht1, hR0, hR1⟩, hF⟩) dX5_told_103
  by_cases h1_4 : (v : Int32) = 4
  · refine lv_tableIn (tgt := 104) (off := 103) hx hb dX5_told_1 (by rw [h1_4]; decide) (by rw [h1_4]; decide) (by rw [h1_4]; rfl) (by decide) ?_
    refine lv_aload_n hx hb dX5_told_104 rfl (lv_at hl 0 rfl) ?_
    refine z_get F hw h0 fd_X5_23_X5 rfl dX5_told_105 ?_
    refine z_get F hw h2 fd_X5_164_X2 rfl dX5_told_108 ?_
    exact z_iret F (rfl) hw hS (by unfold cp_told; rw [if_neg h1_0, if_neg h1_1, if_neg h1_2, if_neg h1_3, if_pos h1_4]; exact ⟨rfl, rfl, ⟨_, _, ⟨h0, h1, h2, h3, h4⟩, ht0, ht1, hR0, hR1⟩, hF⟩) dX5_told_111
  by_cases h1_5 : (v : Int32) = 5
  · refine lv_tableIn (tgt := 112) (off := 111) hx hb dX5_told_1 (by rw [h1_5]; decide) (by rw [h1_5]; decide) (by rw [h1_5]; rfl) (by decide) ?_
    refine lv_aload_n hx hb dX5_told_112 rfl (lv_at hl 0 rfl) ?_
    refine z_get F hw h0 fd_X5_23_X5 rfl dX5_told_113 ?_
    refine z_get F hw h2 fd_X5_165_X2 rfl dX5_told_116 ?_
    exact z_iret F (rfl) hw hS (by unfold cp_told; rw [if_neg h1_0, if_neg h1_1, if_neg h1_2, if_neg h1_3, if_neg h1_4, if_pos h1_5]; exact ⟨rfl, rfl, ⟨_, _, ⟨h0, h1, h2, h3, h4⟩, ht0, ht1, hR0, hR1⟩, hF⟩) dX5_told_119
  by_cases h1_6 : (v : Int32) = 6
  · refine lv_tableIn (tgt := 120) (off := 119) hx hb dX5_told_1 (by rw [h1_6]; decide) (by rw [h1_6]; decide) (by rw [h1_6]; rfl) (by decide) ?_
    refine lv_aload_n hx hb dX5_told_120 rfl (lv_at hl 0 rfl) ?_
    refine z_get F hw h0 fd_X5_23_X5 rfl dX5_told_121 ?_
    refine z_get F hw h2 fd_X5_166_X2 rfl dX5_told_124 ?_
    exact z_iret F (rfl) hw hS (by unfold cp_told; rw [if_neg h1_0, if_neg h1_1, if_neg h1_2, if_neg h1_3, if_neg h1_4, if_neg h1_5, if_pos h1_6]; exact ⟨rfl, rfl, ⟨_, _, ⟨h0, h1, h2, h3, h4⟩, ht0, ht1, hR0, hR1⟩, hF⟩) dX5_told_127
  by_cases h1_7 : (v : Int32) = 7
  · refine lv_tableIn (tgt := 128) (off := 127) hx hb dX5_told_1 (by rw [h1_7]; decide) (by rw [h1_7]; decide) (by rw [h1_7]; rfl) (by decide) ?_
    refine lv_aload_n hx hb dX5_told_128 rfl (lv_at hl 0 rfl) ?_
    refine z_get F hw h0 fd_X5_23_X5 rfl dX5_told_129 ?_
    refine z_get F hw h2 fd_X5_167_X2 rfl dX5_told_132 ?_
    exact z_iret F (rfl) hw hS (by unfold cp_told; rw [if_neg h1_0, if_neg h1_1, if_neg h1_2, if_neg h1_3, if_neg h1_4, if_neg h1_5, if_neg h1_6, if_pos h1_7]; exact ⟨rfl, rfl, ⟨_, _, ⟨h0, h1, h2, h3, h4⟩, ht0, ht1, hR0, hR1⟩, hF⟩) dX5_told_135
  by_cases h1_8 : (v : Int32) = 8
  · refine lv_tableIn (tgt := 136) (off := 135) hx hb dX5_told_1 (by rw [h1_8]; decide) (by rw [h1_8]; decide) (by rw [h1_8]; rfl) (by decide) ?_
    refine lv_aload_n hx hb dX5_told_136 rfl (lv_at hl 0 rfl) ?_
    refine z_get F hw h0 fd_X5_31_X5 rfl dX5_told_137 ?_
    obtain ⟨vs9, ho9⟩ := hR0.obj
    refine z_invV F (rest := []) (c_size l 10 _ _ hR0) yv_X5_145 ⟨Nat.le_of_ble_eq_true rfl, Nat.le_of_ble_eq_true rfl⟩ hw hA hS hl ho9 rfl rfl rfl (Nat.le_of_ble_eq_true rfl) dX5_told_140 ⟨Nat.le_of_ble_eq_true rfl, Nat.le_of_ble_eq_true rfl⟩ (fun r ad1 ce1 H locs hp hw hS => ?_)
    obtain ⟨rfl, rfl, rfl⟩ := hp
    refine W.eq (g2 := F0 m 143 ls [.int (nI (Q 0).length)]) rfl ?_
    exact z_iret F (rfl) hw hS (by unfold cp_told; rw [if_neg h1_0, if_neg h1_1, if_neg h1_2, if_neg h1_3, if_neg h1_4, if_neg h1_5, if_neg h1_6, if_neg h1_7, if_pos h1_8]; exact ⟨rfl, rfl, ⟨_, _, ⟨h0, h1, h2, h3, h4⟩, ht0, ht1, hR0, hR1⟩, hF⟩) dX5_told_143
  by_cases h1_9 : (v : Int32) = 9
  · refine lv_tableIn (tgt := 144) (off := 143) hx hb dX5_told_1 (by rw [h1_9]; decide) (by rw [h1_9]; decide) (by rw [h1_9]; rfl) (by decide) ?_
    refine lv_aload_n hx hb dX5_told_144 rfl (lv_at hl 0 rfl) ?_
    refine z_get F hw h0 fd_X5_35_X5 rfl dX5_told_145 ?_
    obtain ⟨vs9, ho9⟩ := hR1.obj
    refine z_invV F (rest := []) (c_size l 30 _ _ hR1) yv_X5_145 ⟨Nat.le_of_ble_eq_true rfl, Nat.le_of_ble_eq_true rfl⟩ hw hA hS hl ho9 rfl rfl rfl (Nat.le_of_ble_eq_true rfl) dX5_told_148 ⟨Nat.le_of_ble_eq_true rfl, Nat.le_of_ble_eq_true rfl⟩ (fun r ad1 ce2 H locs hp hw hS => ?_)
    obtain ⟨rfl, rfl, rfl⟩ := hp
    refine W.eq (g2 := F0 m 151 ls [.int (nI (Q 1).length)]) rfl ?_
    exact z_iret F (rfl) hw hS (by unfold cp_told; rw [if_neg h1_0, if_neg h1_1, if_neg h1_2, if_neg h1_3, if_neg h1_4, if_neg h1_5, if_neg h1_6, if_neg h1_7, if_neg h1_8, if_pos h1_9]; exact ⟨rfl, rfl, ⟨_, _, ⟨h0, h1, h2, h3, h4⟩, ht0, ht1, hR0, hR1⟩, hF⟩) dX5_told_151
  by_cases h1_10 : (v : Int32) = 10
  · refine lv_tableIn (tgt := 152) (off := 151) hx hb dX5_told_1 (by rw [h1_10]; decide) (by rw [h1_10]; decide) (by rw [h1_10]; rfl) (by decide) ?_
    refine lv_aload_n hx hb dX5_told_152 rfl (lv_at hl 0 rfl) ?_
    refine z_get F hw h0 fd_X5_38_X5 rfl dX5_told_153 ?_
    exact z_iret F (rfl) hw hS (by unfold cp_told; rw [if_neg h1_0, if_neg h1_1, if_neg h1_2, if_neg h1_3, if_neg h1_4, if_neg h1_5, if_neg h1_6, if_neg h1_7, if_neg h1_8, if_neg h1_9, if_pos h1_10]; exact ⟨rfl, rfl, ⟨_, _, ⟨h0, h1, h2, h3, h4⟩, ht0, ht1, hR0, hR1⟩, hF⟩) dX5_told_156
  by_cases h1_11 : (v : Int32) = 11
  · refine lv_tableIn (tgt := 157) (off := 156) hx hb dX5_told_1 (by rw [h1_11]; decide) (by rw [h1_11]; decide) (by rw [h1_11]; rfl) (by decide) ?_
    refine lv_aload_n hx hb dX5_told_157 rfl (lv_at hl 0 rfl) ?_
    refine z_get F hw h0 fd_X5_31_X5 rfl dX5_told_158 ?_
    obtain ⟨vs9, ho9⟩ := hR0.obj
    refine z_invV F (rest := []) (c_isOpen l 10 _ _ hR0 (cl_opb _)) yv_X5_82 ⟨Nat.le_of_ble_eq_true rfl, Nat.le_of_ble_eq_true rfl⟩ hw hA hS hl ho9 rfl rfl rfl (Nat.le_of_ble_eq_true rfl) dX5_told_161 ⟨Nat.le_of_ble_eq_true rfl, Nat.le_of_ble_eq_true rfl⟩ (fun r ad1 ce3 H locs hp hw hS => ?_)
    obtain ⟨rfl, rfl, rfl⟩ := hp
    by_cases hsl : T 0 4 = 0
    · refine W.eq (g2 := F0 m 164 ls [.int 1]) (by rw [show cl_op T = 1 from by unfold cl_op; rw [if_pos hsl]]; rfl) ?_
      refine lv_if_eq (tgt := 171) hx hb dX5_told_164 (by decide) (fun c164 => absurd c164 (by decide)) (fun c164 => ?_)
      refine lv_iconst (v := 1) hx hb dX5_told_167 (by decide) ?_
      refine lv_goto (tgt := 172) hx hb dX5_told_168 (by decide) ?_
      exact z_iret F (rfl) hw hS (by unfold cp_told; rw [if_neg h1_0, if_neg h1_1, if_neg h1_2, if_neg h1_3, if_neg h1_4, if_neg h1_5, if_neg h1_6, if_neg h1_7, if_neg h1_8, if_neg h1_9, if_neg h1_10, if_pos h1_11, if_pos hsl]; exact ⟨rfl, rfl, ⟨_, _, ⟨h0, h1, h2, h3, h4⟩, ht0, ht1, hR0, hR1⟩, hF⟩) dX5_told_172
    · refine W.eq (g2 := F0 m 164 ls [.int 0]) (by rw [show cl_op T = 0 from by unfold cl_op; rw [if_neg hsl]]; rfl) ?_
      refine lv_if_eq (tgt := 171) hx hb dX5_told_164 (by decide) (fun c164 => ?_) (fun c164 => absurd c164 (by decide))
      refine lv_iconst (v := 0) hx hb dX5_told_171 (by decide) ?_
      exact z_iret F (rfl) hw hS (by unfold cp_told; rw [if_neg h1_0, if_neg h1_1, if_neg h1_2, if_neg h1_3, if_neg h1_4, if_neg h1_5, if_neg h1_6, if_neg h1_7, if_neg h1_8, if_neg h1_9, if_neg h1_10, if_pos h1_11, if_neg hsl]; exact ⟨rfl, rfl, ⟨_, _, ⟨h0, h1, h2, h3, h4⟩, ht0, ht1, hR0, hR1⟩, hF⟩) dX5_told_172
  by_cases h1_12 : (v : Int32) = 12
  · refine lv_tableIn (tgt := 173) (off := 172) hx hb dX5_told_1 (by rw [h1_12]; decide) (by rw [h1_12]; decide) (by rw [h1_12]; rfl) (by decide) ?_
    refine lv_aload_n hx hb dX5_told_173 rfl (lv_at hl 0 rfl) ?_
    refine z_get F hw h0 fd_X5_12_X5 rfl dX5_told_174 ?_
    refine z_get F hw h1 fd_X5_168_X1 rfl dX5_told_177 ?_
    exact z_iret F (rfl) hw hS (by unfold cp_told; rw [if_neg h1_0, if_neg h1_1, if_neg h1_2, if_neg h1_3, if_neg h1_4, if_neg h1_5, if_neg h1_6, if_neg h1_7, if_neg h1_8, if_neg h1_9, if_neg h1_10, if_neg h1_11, if_pos h1_12]; exact ⟨rfl, rfl, ⟨_, _, ⟨h0, h1, h2, h3, h4⟩, ht0, ht1, hR0, hR1⟩, hF⟩) dX5_told_180
  by_cases h1_13 : (v : Int32) = 13
  · refine lv_tableIn (tgt := 181) (off := 180) hx hb dX5_told_1 (by rw [h1_13]; decide) (by rw [h1_13]; decide) (by rw [h1_13]; rfl) (by decide) ?_
    refine lv_aload_n hx hb dX5_told_181 rfl (lv_at hl 0 rfl) ?_
    refine z_get F hw h0 fd_X5_23_X5 rfl dX5_told_182 ?_
    refine z_get F hw h2 fd_X5_171_X2 rfl dX5_told_185 ?_
    exact z_iret F (rfl) hw hS (by unfold cp_told; rw [if_neg h1_0, if_neg h1_1, if_neg h1_2, if_neg h1_3, if_neg h1_4, if_neg h1_5, if_neg h1_6, if_neg h1_7, if_neg h1_8, if_neg h1_9, if_neg h1_10, if_neg h1_11, if_neg h1_12, if_pos h1_13]; exact ⟨rfl, rfl, ⟨_, _, ⟨h0, h1, h2, h3, h4⟩, ht0, ht1, hR0, hR1⟩, hF⟩) dX5_told_188
  refine lv_tableOut (tgt := 189) hx hb dX5_told_1 (rf_tab (n := 13) (by decide) (fun k9 hk9 => by rcases (show k9 = 0 ∨ k9 = 1 ∨ k9 = 2 ∨ k9 = 3 ∨ k9 = 4 ∨ k9 = 5 ∨ k9 = 6 ∨ k9 = 7 ∨ k9 = 8 ∨ k9 = 9 ∨ k9 = 10 ∨ k9 = 11 ∨ k9 = 12 ∨ k9 = 13 by omega) with rfl | rfl | rfl | rfl | rfl | rfl | rfl | rfl | rfl | rfl | rfl | rfl | rfl | rfl <;> first | exact h1_0 | exact h1_1 | exact h1_2 | exact h1_3 | exact h1_4 | exact h1_5 | exact h1_6 | exact h1_7 | exact h1_8 | exact h1_9 | exact h1_10 | exact h1_11 | exact h1_12 | exact h1_13)) (by decide) ?_
  refine lv_iconst (v := -1) hx hb dX5_told_189 (by decide) ?_
  exact z_iret F (rfl) hw hS (by unfold cp_told; rw [if_neg h1_0, if_neg h1_1, if_neg h1_2, if_neg h1_3, if_neg h1_4, if_neg h1_5, if_neg h1_6, if_neg h1_7, if_neg h1_8, if_neg h1_9, if_neg h1_10, if_neg h1_11, if_neg h1_12, if_neg h1_13]; exact ⟨rfl, rfl, ⟨_, _, ⟨h0, h1, h2, h3, h4⟩, ht0, ht1, hR0, hR1⟩, hF⟩) dX5_told_190
def cp_forge0 (T : rf_T) (Q : rf_Q) (v : Int64) (nv : Int32) : rf_R := (if (nv : Int32) < 2 then ((-1), T, Q) else (if (nv : Int32) ≤ 8 then (if cl_rm (Q 0) (cl_op T) then ((nI ((rf_put T Q 0 (rf_fb v (nv.toNatClampNeg) 0)) 0).length), T, rf_put T Q 0 (rf_fb v (nv.toNatClampNeg) 0)) else ((-2), T, Q)) else ((-1), T, Q)))
set_option maxHeartbeats 4000000 in
set_option maxRecDepth 100000 in
theorem c_forge0 (l : Launch) {G : zz_G} {ad : Nat → Nat} {ce : zz_C} {sz : Nat} (T : rf_T) (Q : rf_Q) (hV : clV G ad ce T Q) (v : Int64) (nv : Int32) : zz_M l yX5_forge cX5_forge 8 (some .int) 2 45 0 0 G [.ref (ad 0), .int 0, .long v, .int nv] ad ce sz (fun r ad1 ce1 => r = some (.int (cp_forge0 T Q v nv).1) ∧ ad = ad1 ∧ clV G ad ce1 (cp_forge0 T Q v nv).2.1 (cp_forge0 T Q v nv).2.2 ∧ (∀ j, 50 ≤ j → ce1 j = ce j)) := by
  refine zz_enter (by decide) (Nat.le_of_ble_eq_true rfl) ?_
  intro p e s m below meth c ls F hl hw hS hA
  obtain ⟨hx, hb, hr, hml, hown, hts, hlocks, hK, hnm⟩ := id F
  have hl : lv_has ls 8 [(0, .ref (ad 0)), (1, .int 0), (2, .long v), (4, .int nv)] := hl
  obtain ⟨r0, r1, ⟨h0, h1, h2, h3, h4⟩, ht0, ht1, hR0, hR1⟩ := hV
  have hF : ∀ j, 50 ≤ j → ce j = ce j := fun _ _ => rfl
  refine lv_iload_n hx hb dX5_forge_0 rfl (lv_at hl 1 rfl) ?_
  refine z_invS F (rest := []) (c_isWay l 0) ys_X5_99 ⟨Nat.le_of_ble_eq_true rfl, Nat.le_of_ble_eq_true rfl⟩ hw hA hS hl rfl rfl (Nat.le_of_ble_eq_true rfl) dX5_forge_1 ⟨Nat.le_of_ble_eq_true rfl, Nat.le_of_ble_eq_true rfl⟩ (fun r ad1 ce1 H locs hp hw hS => ?_)
  obtain ⟨hp, rfl, rfl⟩ := hp
  rcases hp with ⟨-, rfl⟩ | ⟨hn9, rfl⟩
  rotate_left
  · exact absurd (Or.inl rfl) hn9
  refine W.eq (g2 := F0 m 4 ls [.int 1]) rfl ?_
  refine lv_if_eq (tgt := 20) hx hb dX5_forge_4 (by decide) (fun c4 => absurd c4 (by decide)) (fun c4 => ?_)
  refine lv_iload hx hb dX5_forge_7 (lv_at hl 3 rfl) ?_
  refine lv_iconst (v := 2) hx hb dX5_forge_9 (by decide) ?_
  refine lv_icmp_lt (tgt := 20) hx hb dX5_forge_10 (by decide) (fun c10 => ?_) (fun c10 => ?_)
  · refine lv_iconst (v := -1) hx hb dX5_forge_20 (by decide) ?_
    exact z_iret F (rfl) hw hS (by unfold cp_forge0; rw [if_pos c10]; exact ⟨rfl, rfl, ⟨_, _, ⟨h0, h1, h2, h3, h4⟩, ht0, ht1, hR0, hR1⟩, hF⟩) dX5_forge_21
  · refine lv_iload hx hb dX5_forge_13 (lv_at hl 3 rfl) ?_
    refine lv_bipush (v := 8) hx hb dX5_forge_15 (by decide) ?_
    refine lv_icmp_le (tgt := 22) hx hb dX5_forge_17 (by decide) (fun c17 => ?_) (fun c17 => ?_)
    · obtain ⟨hnv, hn2, hn8⟩ := rf_28 c10 c17
      refine lv_aload_n hx hb dX5_forge_22 rfl (lv_at hl 0 rfl) ?_
      refine lv_iload_n hx hb dX5_forge_23 rfl (lv_at hl 1 rfl) ?_
      have hV : clV G ad ce T Q := ⟨_, _, ⟨h0, h1, h2, h3, h4⟩, ht0, ht1, hR0, hR1⟩
      refine z_invV F (rest := []) (c_row0 l T Q hV) yv_X5_102 ⟨Nat.le_of_ble_eq_true rfl, Nat.le_of_ble_eq_true rfl⟩ hw hA hS hl h0 rfl rfl rfl (Nat.le_of_ble_eq_true rfl) dX5_forge_24 ⟨Nat.le_of_ble_eq_true rfl, Nat.le_of_ble_eq_true rfl⟩ (fun r ad1 ce2 H locs hp hw hS => ?_)
      obtain ⟨rfl, rfl, rfl⟩ := hp
      refine W.eq (g2 := F0 m 27 ls [.ref (ad 10)]) rfl ?_
      refine lv_astore (lv' := [(5, .ref (ad 10)), (0, .ref (ad 0)), (1, .int 0), (2, .long v), (4, .int nv)]) hx hb dX5_forge_27 hl (by decide) rfl (fun ls hl => ?_)
      refine lv_aload hx hb dX5_forge_29 (lv_at hl 0 rfl) ?_
      obtain ⟨vs9, ho9⟩ := hR0.obj
      refine z_invV F (rest := []) (c_hasRoom l 10 _ _ hR0) yv_X5_131 ⟨Nat.le_of_ble_eq_true rfl, Nat.le_of_ble_eq_true rfl⟩ hw hA hS hl ho9 rfl rfl rfl (Nat.le_of_ble_eq_true rfl) dX5_forge_31 ⟨Nat.le_of_ble_eq_true rfl, Nat.le_of_ble_eq_true rfl⟩ (fun r ad1 ce3 H locs hp hw hS => ?_)
      obtain ⟨hp, rfl, rfl⟩ := hp
      rcases hp with ⟨hrm, rfl⟩ | ⟨hrm, rfl⟩
      · refine W.eq (g2 := F0 m 34 ls [.int 1]) rfl ?_
        refine lv_if_ne (tgt := 40) hx hb dX5_forge_34 (by decide) (fun c34 => ?_) (fun c34 => absurd c34 (by decide))
        refine lv_aload hx hb dX5_forge_40 (lv_at hl 0 rfl) ?_
        refine lv_lload_n hx hb dX5_forge_42 rfl (lv_at hl 3 rfl) ?_
        refine lv_iload hx hb dX5_forge_43 (lv_at hl 4 rfl) ?_
        refine lv_iconst (v := 1) hx hb dX5_forge_45 (by decide) ?_
        refine lv_isub hx hb dX5_forge_46 ?_
        refine z_top (nI (nv.toNatClampNeg - 1)) ((congrArg (fun z => z - 1) hnv).trans (pk_sub (b := 1) (by omega))) ?_
        refine z_invS F (rest := [.ref (ad 10)]) (c_byteOfLong l v (nv.toNatClampNeg - 1) (by omega)) ys_X5_134 ⟨Nat.le_of_ble_eq_true rfl, Nat.le_of_ble_eq_true rfl⟩ hw hA hS hl rfl rfl (Nat.le_of_ble_eq_true rfl) dX5_forge_47 ⟨Nat.le_of_ble_eq_true rfl, Nat.le_of_ble_eq_true rfl⟩ (fun r ad1 ce4 H locs hp hw hS => ?_)
        obtain ⟨rfl, rfl, rfl⟩ := hp
        refine W.eq (g2 := F0 m 50 ls [.int (nI (rf_lb v (nv.toNatClampNeg - 1))), .ref (ad 10)]) rfl ?_
        refine lv_lload_n hx hb dX5_forge_50 rfl (lv_at hl 3 rfl) ?_
        refine lv_iload hx hb dX5_forge_51 (lv_at hl 4 rfl) ?_
        refine lv_iconst (v := 2) hx hb dX5_forge_53 (by decide) ?_
        refine lv_isub hx hb dX5_forge_54 ?_
        refine z_top (nI (nv.toNatClampNeg - 2)) ((congrArg (fun z => z - 2) hnv).trans (pk_sub (b := 2) (by omega))) ?_
        refine z_invS F (rest := [.int (nI (rf_lb v (nv.toNatClampNeg - 1))), .ref (ad 10)]) (c_byteOfLong l v (nv.toNatClampNeg - 2) (by omega)) ys_X5_134 ⟨Nat.le_of_ble_eq_true rfl, Nat.le_of_ble_eq_true rfl⟩ hw hA hS hl rfl rfl (Nat.le_of_ble_eq_true rfl) dX5_forge_55 ⟨Nat.le_of_ble_eq_true rfl, Nat.le_of_ble_eq_true rfl⟩ (fun r ad1 ce5 H locs hp hw hS => ?_)
        obtain ⟨rfl, rfl, rfl⟩ := hp
        refine W.eq (g2 := F0 m 58 ls [.int (nI (rf_lb v (nv.toNatClampNeg - 2))), .int (nI (rf_lb v (nv.toNatClampNeg - 1))), .ref (ad 10)]) rfl ?_
        have e0 := h0
        have e1 := h1
        have e2 := h2
        have e3 := h3
        have e4 := h4
        obtain ⟨vs9, ho9⟩ := hR0.obj
        refine z_invV F (rest := []) (c_send l 10 _ _ hR0 (rf_lb v (nv.toNatClampNeg - 1)) (rf_lb v (nv.toNatClampNeg - 2)) (rf_lb_lt _ _) (rf_lb_lt _ _)) yv_X5_138 ⟨Nat.le_of_ble_eq_true rfl, Nat.le_of_ble_eq_true rfl⟩ hw hA hS hl ho9 rfl rfl rfl (Nat.le_of_ble_eq_true rfl) dX5_forge_58 ⟨Nat.le_of_ble_eq_true rfl, Nat.le_of_ble_eq_true rfl⟩ (fun r ad1 ce6 H locs hp hw hS => ?_)
        obtain ⟨rfl, ⟨h9, rfl, hp9⟩, frA⟩ := hp
        rw [← rf_fb_2 v hn2] at hp9
        refine W.eq (g2 := F0 m 61 ls [.ref (ad h9)]) rfl ?_
        refine lv_astore (lv' := [(6, .ref (ad h9)), (5, .ref (ad 10)), (0, .ref (ad 0)), (1, .int 0), (2, .long v), (4, .int nv)]) hx hb dX5_forge_61 hl (by decide) rfl (fun ls hl => ?_)
        refine lv_iload hx hb dX5_forge_63 (lv_at hl 5 rfl) ?_
        refine lv_iconst (v := 3) hx hb dX5_forge_65 (by decide) ?_
        refine lv_isub hx hb dX5_forge_66 ?_
        refine z_top (nI (nv.toNatClampNeg - 2) - 1) ((congrArg (fun z => z - 3) hnv).trans (rf_n3 _ hn8 hn2)) ?_
        refine lv_istore (lv' := [(7, .int (nI (nv.toNatClampNeg - 2) - 1)), (6, .ref (ad h9)), (5, .ref (ad 10)), (0, .ref (ad 0)), (1, .int 0), (2, .long v), (4, .int nv)]) hx hb dX5_forge_67 hl (by decide) rfl (fun ls hl => ?_)
        refine z_loop (α := Nat) (fun a => a) (fun a ce9 ls9 => lv_has ls9 8 [(0, .ref (ad 0)), (1, .int 0), (2, .long v), (4, .int nv), (5, .ref (ad 10)), (6, .ref (ad h9)), (7, .int (nI a - 1))] ∧ cl_p G ad ce9 10 (Q 0) (cl_op T) h9 (rf_fb v (nv.toNatClampNeg) a) ∧ (∀ j, j < 10 ∨ 30 ≤ j → ce9 j = ce j) ∧ a ≤ nv.toNatClampNeg - 2) (nv.toNatClampNeg - 2) ⟨lv_sub hl [3, 4, 5, 6, 2, 1, 0] rfl, hp9, frA, Nat.le_refl _⟩ hw hS (fun a ih69 ce9 H locs ls hI hw hS => ?_)
        obtain ⟨hl, hp9, frA, hcn9⟩ := hI
        rcases a with _ | c9
        · have hl : lv_has ls 8 [(0, .ref (ad 0)), (1, .int 0), (2, .long v), (4, .int nv), (5, .ref (ad 10)), (6, .ref (ad h9)), (7, .int (nI 0 - 1))] := hl
          refine lv_iload hx hb dX5_forge_69 (lv_at hl 6 rfl) ?_
          refine lv_if_lt (tgt := 91) hx hb dX5_forge_71 (by decide) (fun c71 => ?_) (fun c71 => absurd (show (nI 0 - 1 : Int32) < 0 by decide) c71)
          refine lv_aload hx hb dX5_forge_91 (lv_at hl 4 rfl) ?_
          have h0 := (frA 0 (by decide)).trans e0
          have h1 := (frA 1 (by decide)).trans e1
          have h2 := (frA 2 (by decide)).trans e2
          have h3 := (frA 3 (by decide)).trans e3
          have h4 := (frA 4 (by decide)).trans e4
          have hR0 : cl_r G ad ce9 10 ((rf_put T Q 0 (rf_fb v (nv.toNatClampNeg) 0)) 0) (cl_op T) := cl_put hp9.end
          have hR1 : cl_r G ad ce9 30 ((rf_put T Q 0 (rf_fb v (nv.toNatClampNeg) 0)) 1) (cl_op T) := by rw [cl_putn _ _ _ (by decide)]; exact hR1.kept (fun j h1 h2 => frA j (by omega))
          have hF : ∀ j, 50 ≤ j → ce9 j = ce j := fun j hj => (frA j (by omega)).trans (hF j hj)
          obtain ⟨vs9, ho9⟩ := hR0.obj
          refine z_invV F (rest := []) (c_size l 10 _ _ hR0) yv_X5_145 ⟨Nat.le_of_ble_eq_true rfl, Nat.le_of_ble_eq_true rfl⟩ hw hA hS hl ho9 rfl rfl rfl (Nat.le_of_ble_eq_true rfl) dX5_forge_93 ⟨Nat.le_of_ble_eq_true rfl, Nat.le_of_ble_eq_true rfl⟩ (fun r ad1 ce7 H locs hp hw hS => ?_)
          obtain ⟨rfl, rfl, rfl⟩ := hp
          refine W.eq (g2 := F0 m 96 ls [.int (nI ((rf_put T Q 0 (rf_fb v (nv.toNatClampNeg) 0)) 0).length)]) rfl ?_
          exact z_iret F (rfl) hw hS (by unfold cp_forge0; rw [if_neg c10, if_pos c17, if_pos hrm]; exact ⟨rfl, rfl, ⟨_, _, ⟨h0, h1, h2, h3, h4⟩, ht0, ht1, hR0, hR1⟩, hF⟩) dX5_forge_96
        · have hl : lv_has ls 8 [(0, .ref (ad 0)), (1, .int 0), (2, .long v), (4, .int nv), (5, .ref (ad 10)), (6, .ref (ad h9)), (7, .int (nI c9))] := by rw [← nI_pred c9]; exact hl
          refine lv_iload hx hb dX5_forge_69 (lv_at hl 6 rfl) ?_
          refine lv_if_lt (tgt := 91) hx hb dX5_forge_71 (by decide) (fun c71 => absurd c71 (nI_pos (by omega))) (fun c71 => ?_)
          refine lv_aload hx hb dX5_forge_74 (lv_at hl 5 rfl) ?_
          refine lv_lload_n hx hb dX5_forge_76 rfl (lv_at hl 2 rfl) ?_
          refine lv_iload hx hb dX5_forge_77 (lv_at hl 6 rfl) ?_
          refine z_invS F (rest := [.ref (ad h9)]) (c_byteOfLong l v c9 (by omega)) ys_X5_134 ⟨Nat.le_of_ble_eq_true rfl, Nat.le_of_ble_eq_true rfl⟩ hw hA hS hl rfl rfl (Nat.le_of_ble_eq_true rfl) dX5_forge_79 ⟨Nat.le_of_ble_eq_true rfl, Nat.le_of_ble_eq_true rfl⟩ (fun r ad1 ce8 H locs hp hw hS => ?_)
          obtain ⟨rfl, rfl, rfl⟩ := hp
          refine W.eq (g2 := F0 m 82 ls [.int (nI (rf_lb v c9)), .ref (ad h9)]) rfl ?_
          have hm9 := hp9.m
          have hat9 := hp9.at
          refine z_invV F (rest := []) (c_add l h9 _ hm9 (by rw [rf_fb_l]; omega) (nI (rf_lb v c9))) yv_X5_142 ⟨Nat.le_of_ble_eq_true rfl, Nat.le_of_ble_eq_true rfl⟩ hw hA hS hl hm9.obj rfl rfl rfl (Nat.le_of_ble_eq_true rfl) dX5_forge_82 ⟨Nat.le_of_ble_eq_true rfl, Nat.le_of_ble_eq_true rfl⟩ (fun r ad1 ce9 H locs hp hw hS => ?_)
          obtain ⟨rfl, rfl, hm9, hF2⟩ := hp
          have frA : ∀ j, j < 10 ∨ 30 ≤ j → ce9 j = ce j := fun j hj => (hF2 j (by omega) (by omega)).trans (frA j hj)
          rw [rf_zb_nI (rf_lb_lt _ _), rf_fb_s v (by omega)] at hm9
          have hp9 := hp9.step hF2 hm9 (by rw [rf_fb_l]; omega)
          refine W.eq (g2 := F0 m 85 ls []) rfl ?_
          refine lv_iinc (v := nI c9 - 1) (lv' := [(7, .int (nI c9 - 1)), (0, .ref (ad 0)), (1, .int 0), (2, .long v), (4, .int nv), (5, .ref (ad 10)), (6, .ref (ad h9))]) hx hb dX5_forge_85 hl (k := 6) rfl (by rw [Int32.sub_eq_add_neg]; rfl) (by decide) rfl (fun ls hl => ?_)
          refine lv_goto (tgt := 69) hx hb dX5_forge_88 (by decide) ?_
          exact ih69 c9 _ _ _ _ (by omega) ⟨lv_sub hl [1, 2, 3, 4, 5, 6, 0] rfl, hp9, frA, by omega⟩ hw hS
      · refine W.eq (g2 := F0 m 34 ls [.int 0]) rfl ?_
        refine lv_if_ne (tgt := 40) hx hb dX5_forge_34 (by decide) (fun c34 => absurd c34 (by decide)) (fun c34 => ?_)
        refine lv_bipush (v := -2) hx hb dX5_forge_37 (by decide) ?_
        exact z_iret F (rfl) hw hS (by unfold cp_forge0; rw [if_neg c10, if_pos c17, if_neg hrm]; exact ⟨rfl, rfl, ⟨_, _, ⟨h0, h1, h2, h3, h4⟩, ht0, ht1, hR0, hR1⟩, hF⟩) dX5_forge_39
    · refine lv_iconst (v := -1) hx hb dX5_forge_20 (by decide) ?_
      exact z_iret F (rfl) hw hS (by unfold cp_forge0; rw [if_neg c10, if_neg c17]; exact ⟨rfl, rfl, ⟨_, _, ⟨h0, h1, h2, h3, h4⟩, ht0, ht1, hR0, hR1⟩, hF⟩) dX5_forge_21
def cp_forge1 (T : rf_T) (Q : rf_Q) (v : Int64) (nv : Int32) : rf_R := (if (nv : Int32) < 2 then ((-1), T, Q) else (if (nv : Int32) ≤ 8 then (if cl_rm (Q 1) (cl_op T) then ((nI ((rf_put T Q 1 (rf_fb v (nv.toNatClampNeg) 0)) 1).length), T, rf_put T Q 1 (rf_fb v (nv.toNatClampNeg) 0)) else ((-2), T, Q)) else ((-1), T, Q)))
set_option maxHeartbeats 4000000 in
set_option maxRecDepth 100000 in
theorem c_forge1 (l : Launch) {G : zz_G} {ad : Nat → Nat} {ce : zz_C} {sz : Nat} (T : rf_T) (Q : rf_Q) (hV : clV G ad ce T Q) (v : Int64) (nv : Int32) : zz_M l yX5_forge cX5_forge 8 (some .int) 2 45 0 0 G [.ref (ad 0), .int 1, .long v, .int nv] ad ce sz (fun r ad1 ce1 => r = some (.int (cp_forge1 T Q v nv).1) ∧ ad = ad1 ∧ clV G ad ce1 (cp_forge1 T Q v nv).2.1 (cp_forge1 T Q v nv).2.2 ∧ (∀ j, 50 ≤ j → ce1 j = ce j)) := by
  refine zz_enter (by decide) (Nat.le_of_ble_eq_true rfl) ?_
  intro p e s m below meth c ls F hl hw hS hA
  obtain ⟨hx, hb, hr, hml, hown, hts, hlocks, hK, hnm⟩ := id F
  have hl : lv_has ls 8 [(0, .ref (ad 0)), (1, .int 1), (2, .long v), (4, .int nv)] := hl
  obtain ⟨r0, r1, ⟨h0, h1, h2, h3, h4⟩, ht0, ht1, hR0, hR1⟩ := hV
  have hF : ∀ j, 50 ≤ j → ce j = ce j := fun _ _ => rfl
  refine lv_iload_n hx hb dX5_forge_0 rfl (lv_at hl 1 rfl) ?_
  refine z_invS F (rest := []) (c_isWay l 1) ys_X5_99 ⟨Nat.le_of_ble_eq_true rfl, Nat.le_of_ble_eq_true rfl⟩ hw hA hS hl rfl rfl (Nat.le_of_ble_eq_true rfl) dX5_forge_1 ⟨Nat.le_of_ble_eq_true rfl, Nat.le_of_ble_eq_true rfl⟩ (fun r ad1 ce1 H locs hp hw hS => ?_)
  obtain ⟨hp, rfl, rfl⟩ := hp
  rcases hp with ⟨-, rfl⟩ | ⟨hn9, rfl⟩
  rotate_left
  · exact absurd (Or.inr rfl) hn9
  refine W.eq (g2 := F0 m 4 ls [.int 1]) rfl ?_
  refine lv_if_eq (tgt := 20) hx hb dX5_forge_4 (by decide) (fun c4 => absurd c4 (by decide)) (fun c4 => ?_)
  refine lv_iload hx hb dX5_forge_7 (lv_at hl 3 rfl) ?_
  refine lv_iconst (v := 2) hx hb dX5_forge_9 (by decide) ?_
  refine lv_icmp_lt (tgt := 20) hx hb dX5_forge_10 (by decide) (fun c10 => ?_) (fun c10 => ?_)
  · refine lv_iconst (v := -1) hx hb dX5_forge_20 (by decide) ?_
    exact z_iret F (rfl) hw hS (by unfold cp_forge1; rw [if_pos c10]; exact ⟨rfl, rfl, ⟨_, _, ⟨h0, h1, h2, h3, h4⟩, ht0, ht1, hR0, hR1⟩, hF⟩) dX5_forge_21
  · refine lv_iload hx hb dX5_forge_13 (lv_at hl 3 rfl) ?_
    refine lv_bipush (v := 8) hx hb dX5_forge_15 (by decide) ?_
    refine lv_icmp_le (tgt := 22) hx hb dX5_forge_17 (by decide) (fun c17 => ?_) (fun c17 => ?_)
    · obtain ⟨hnv, hn2, hn8⟩ := rf_28 c10 c17
      refine lv_aload_n hx hb dX5_forge_22 rfl (lv_at hl 0 rfl) ?_
      refine lv_iload_n hx hb dX5_forge_23 rfl (lv_at hl 1 rfl) ?_
      have hV : clV G ad ce T Q := ⟨_, _, ⟨h0, h1, h2, h3, h4⟩, ht0, ht1, hR0, hR1⟩
      refine z_invV F (rest := []) (c_row1 l T Q hV) yv_X5_102 ⟨Nat.le_of_ble_eq_true rfl, Nat.le_of_ble_eq_true rfl⟩ hw hA hS hl h0 rfl rfl rfl (Nat.le_of_ble_eq_true rfl) dX5_forge_24 ⟨Nat.le_of_ble_eq_true rfl, Nat.le_of_ble_eq_true rfl⟩ (fun r ad1 ce2 H locs hp hw hS => ?_)
      obtain ⟨rfl, rfl, rfl⟩ := hp
      refine W.eq (g2 := F0 m 27 ls [.ref (ad 30)]) rfl ?_
      refine lv_astore (lv' := [(5, .ref (ad 30)), (0, .ref (ad 0)), (1, .int 1), (2, .long v), (4, .int nv)]) hx hb dX5_forge_27 hl (by decide) rfl (fun ls hl => ?_)
      refine lv_aload hx hb dX5_forge_29 (lv_at hl 0 rfl) ?_
      obtain ⟨vs9, ho9⟩ := hR1.obj
      refine z_invV F (rest := []) (c_hasRoom l 30 _ _ hR1) yv_X5_131 ⟨Nat.le_of_ble_eq_true rfl, Nat.le_of_ble_eq_true rfl⟩ hw hA hS hl ho9 rfl rfl rfl (Nat.le_of_ble_eq_true rfl) dX5_forge_31 ⟨Nat.le_of_ble_eq_true rfl, Nat.le_of_ble_eq_true rfl⟩ (fun r ad1 ce3 H locs hp hw hS => ?_)
      obtain ⟨hp, rfl, rfl⟩ := hp
      rcases hp with ⟨hrm, rfl⟩ | ⟨hrm, rfl⟩
      · refine W.eq (g2 := F0 m 34 ls [.int 1]) rfl ?_
        refine lv_if_ne (tgt := 40) hx hb dX5_forge_34 (by decide) (fun c34 => ?_) (fun c34 => absurd c34 (by decide))
        refine lv_aload hx hb dX5_forge_40 (lv_at hl 0 rfl) ?_
        refine lv_lload_n hx hb dX5_forge_42 rfl (lv_at hl 3 rfl) ?_
        refine lv_iload hx hb dX5_forge_43 (lv_at hl 4 rfl) ?_
        refine lv_iconst (v := 1) hx hb dX5_forge_45 (by decide) ?_
        refine lv_isub hx hb dX5_forge_46 ?_
        refine z_top (nI (nv.toNatClampNeg - 1)) ((congrArg (fun z => z - 1) hnv).trans (pk_sub (b := 1) (by omega))) ?_
        refine z_invS F (rest := [.ref (ad 30)]) (c_byteOfLong l v (nv.toNatClampNeg - 1) (by omega)) ys_X5_134 ⟨Nat.le_of_ble_eq_true rfl, Nat.le_of_ble_eq_true rfl⟩ hw hA hS hl rfl rfl (Nat.le_of_ble_eq_true rfl) dX5_forge_47 ⟨Nat.le_of_ble_eq_true rfl, Nat.le_of_ble_eq_true rfl⟩ (fun r ad1 ce4 H locs hp hw hS => ?_)
        obtain ⟨rfl, rfl, rfl⟩ := hp
        refine W.eq (g2 := F0 m 50 ls [.int (nI (rf_lb v (nv.toNatClampNeg - 1))), .ref (ad 30)]) rfl ?_
        refine lv_lload_n hx hb dX5_forge_50 rfl (lv_at hl 3 rfl) ?_
        refine lv_iload hx hb dX5_forge_51 (lv_at hl 4 rfl) ?_
        refine lv_iconst (v := 2) hx hb dX5_forge_53 (by decide) ?_
        refine lv_isub hx hb dX5_forge_54 ?_
        refine z_top (nI (nv.toNatClampNeg - 2)) ((congrArg (fun z => z - 2) hnv).trans (pk_sub (b := 2) (by omega))) ?_
        refine z_invS F (rest := [.int (nI (rf_lb v (nv.toNatClampNeg - 1))), .ref (ad 30)]) (c_byteOfLong l v (nv.toNatClampNeg - 2) (by omega)) ys_X5_134 ⟨Nat.le_of_ble_eq_true rfl, Nat.le_of_ble_eq_true rfl⟩ hw hA hS hl rfl rfl (Nat.le_of_ble_eq_true rfl) dX5_forge_55 ⟨Nat.le_of_ble_eq_true rfl, Nat.le_of_ble_eq_true rfl⟩ (fun r ad1 ce5 H locs hp hw hS => ?_)
        obtain ⟨rfl, rfl, rfl⟩ := hp
        refine W.eq (g2 := F0 m 58 ls [.int (nI (rf_lb v (nv.toNatClampNeg - 2))), .int (nI (rf_lb v (nv.toNatClampNeg - 1))), .ref (ad 30)]) rfl ?_
        have e0 := h0
        have e1 := h1
        have e2 := h2
        have e3 := h3
        have e4 := h4
        obtain ⟨vs9, ho9⟩ := hR1.obj
        refine z_invV F (rest := []) (c_send l 30 _ _ hR1 (rf_lb v (nv.toNatClampNeg - 1)) (rf_lb v (nv.toNatClampNeg - 2)) (rf_lb_lt _ _) (rf_lb_lt _ _)) yv_X5_138 ⟨Nat.le_of_ble_eq_true rfl, Nat.le_of_ble_eq_true rfl⟩ hw hA hS hl ho9 rfl rfl rfl (Nat.le_of_ble_eq_true rfl) dX5_forge_58 ⟨Nat.le_of_ble_eq_true rfl, Nat.le_of_ble_eq_true rfl⟩ (fun r ad1 ce6 H locs hp hw hS => ?_)
        obtain ⟨rfl, ⟨h9, rfl, hp9⟩, frA⟩ := hp
        rw [← rf_fb_2 v hn2] at hp9
        refine W.eq (g2 := F0 m 61 ls [.ref (ad h9)]) rfl ?_
        refine lv_astore (lv' := [(6, .ref (ad h9)), (5, .ref (ad 30)), (0, .ref (ad 0)), (1, .int 1), (2, .long v), (4, .int nv)]) hx hb dX5_forge_61 hl (by decide) rfl (fun ls hl => ?_)
        refine lv_iload hx hb dX5_forge_63 (lv_at hl 5 rfl) ?_
        refine lv_iconst (v := 3) hx hb dX5_forge_65 (by decide) ?_
        refine lv_isub hx hb dX5_forge_66 ?_
        refine z_top (nI (nv.toNatClampNeg - 2) - 1) ((congrArg (fun z => z - 3) hnv).trans (rf_n3 _ hn8 hn2)) ?_
        refine lv_istore (lv' := [(7, .int (nI (nv.toNatClampNeg - 2) - 1)), (6, .ref (ad h9)), (5, .ref (ad 30)), (0, .ref (ad 0)), (1, .int 1), (2, .long v), (4, .int nv)]) hx hb dX5_forge_67 hl (by decide) rfl (fun ls hl => ?_)
        refine z_loop (α := Nat) (fun a => a) (fun a ce9 ls9 => lv_has ls9 8 [(0, .ref (ad 0)), (1, .int 1), (2, .long v), (4, .int nv), (5, .ref (ad 30)), (6, .ref (ad h9)), (7, .int (nI a - 1))] ∧ cl_p G ad ce9 30 (Q 1) (cl_op T) h9 (rf_fb v (nv.toNatClampNeg) a) ∧ (∀ j, j < 30 ∨ 50 ≤ j → ce9 j = ce j) ∧ a ≤ nv.toNatClampNeg - 2) (nv.toNatClampNeg - 2) ⟨lv_sub hl [3, 4, 5, 6, 2, 1, 0] rfl, hp9, frA, Nat.le_refl _⟩ hw hS (fun a ih69 ce9 H locs ls hI hw hS => ?_)
        obtain ⟨hl, hp9, frA, hcn9⟩ := hI
        rcases a with _ | c9
        · have hl : lv_has ls 8 [(0, .ref (ad 0)), (1, .int 1), (2, .long v), (4, .int nv), (5, .ref (ad 30)), (6, .ref (ad h9)), (7, .int (nI 0 - 1))] := hl
          refine lv_iload hx hb dX5_forge_69 (lv_at hl 6 rfl) ?_
          refine lv_if_lt (tgt := 91) hx hb dX5_forge_71 (by decide) (fun c71 => ?_) (fun c71 => absurd (show (nI 0 - 1 : Int32) < 0 by decide) c71)
          refine lv_aload hx hb dX5_forge_91 (lv_at hl 4 rfl) ?_
          have h0 := (frA 0 (by decide)).trans e0
          have h1 := (frA 1 (by decide)).trans e1
          have h2 := (frA 2 (by decide)).trans e2
          have h3 := (frA 3 (by decide)).trans e3
          have h4 := (frA 4 (by decide)).trans e4
          have hR1 : cl_r G ad ce9 30 ((rf_put T Q 1 (rf_fb v (nv.toNatClampNeg) 0)) 1) (cl_op T) := cl_put hp9.end
          have hR0 : cl_r G ad ce9 10 ((rf_put T Q 1 (rf_fb v (nv.toNatClampNeg) 0)) 0) (cl_op T) := by rw [cl_putn _ _ _ (by decide)]; exact hR0.kept (fun j h1 h2 => frA j (by omega))
          have hF : ∀ j, 50 ≤ j → ce9 j = ce j := fun j hj => (frA j (by omega)).trans (hF j hj)
          obtain ⟨vs9, ho9⟩ := hR1.obj
          refine z_invV F (rest := []) (c_size l 30 _ _ hR1) yv_X5_145 ⟨Nat.le_of_ble_eq_true rfl, Nat.le_of_ble_eq_true rfl⟩ hw hA hS hl ho9 rfl rfl rfl (Nat.le_of_ble_eq_true rfl) dX5_forge_93 ⟨Nat.le_of_ble_eq_true rfl, Nat.le_of_ble_eq_true rfl⟩ (fun r ad1 ce7 H locs hp hw hS => ?_)
          obtain ⟨rfl, rfl, rfl⟩ := hp
          refine W.eq (g2 := F0 m 96 ls [.int (nI ((rf_put T Q 1 (rf_fb v (nv.toNatClampNeg) 0)) 1).length)]) rfl ?_
          exact z_iret F (rfl) hw hS (by unfold cp_forge1; rw [if_neg c10, if_pos c17, if_pos hrm]; exact ⟨rfl, rfl, ⟨_, _, ⟨h0, h1, h2, h3, h4⟩, ht0, ht1, hR0, hR1⟩, hF⟩) dX5_forge_96
        · have hl : lv_has ls 8 [(0, .ref (ad 0)), (1, .int 1), (2, .long v), (4, .int nv), (5, .ref (ad 30)), (6, .ref (ad h9)), (7, .int (nI c9))] := by rw [← nI_pred c9]; exact hl
          refine lv_iload hx hb dX5_forge_69 (lv_at hl 6 rfl) ?_
          refine lv_if_lt (tgt := 91) hx hb dX5_forge_71 (by decide) (fun c71 => absurd c71 (nI_pos (by omega))) (fun c71 => ?_)
          refine lv_aload hx hb dX5_forge_74 (lv_at hl 5 rfl) ?_
          refine lv_lload_n hx hb dX5_forge_76 rfl (lv_at hl 2 rfl) ?_
          refine lv_iload hx hb dX5_forge_77 (lv_at hl 6 rfl) ?_
          refine z_invS F (rest := [.ref (ad h9)]) (c_byteOfLong l v c9 (by omega)) ys_X5_134 ⟨Nat.le_of_ble_eq_true rfl, Nat.le_of_ble_eq_true rfl⟩ hw hA hS hl rfl rfl (Nat.le_of_ble_eq_true rfl) dX5_forge_79 ⟨Nat.le_of_ble_eq_true rfl, Nat.le_of_ble_eq_true rfl⟩ (fun r ad1 ce8 H locs hp hw hS => ?_)
          obtain ⟨rfl, rfl, rfl⟩ := hp
          refine W.eq (g2 := F0 m 82 ls [.int (nI (rf_lb v c9)), .ref (ad h9)]) rfl ?_
          have hm9 := hp9.m
          have hat9 := hp9.at
          refine z_invV F (rest := []) (c_add l h9 _ hm9 (by rw [rf_fb_l]; omega) (nI (rf_lb v c9))) yv_X5_142 ⟨Nat.le_of_ble_eq_true rfl, Nat.le_of_ble_eq_true rfl⟩ hw hA hS hl hm9.obj rfl rfl rfl (Nat.le_of_ble_eq_true rfl) dX5_forge_82 ⟨Nat.le_of_ble_eq_true rfl, Nat.le_of_ble_eq_true rfl⟩ (fun r ad1 ce9 H locs hp hw hS => ?_)
          obtain ⟨rfl, rfl, hm9, hF2⟩ := hp
          have frA : ∀ j, j < 30 ∨ 50 ≤ j → ce9 j = ce j := fun j hj => (hF2 j (by omega) (by omega)).trans (frA j hj)
          rw [rf_zb_nI (rf_lb_lt _ _), rf_fb_s v (by omega)] at hm9
          have hp9 := hp9.step hF2 hm9 (by rw [rf_fb_l]; omega)
          refine W.eq (g2 := F0 m 85 ls []) rfl ?_
          refine lv_iinc (v := nI c9 - 1) (lv' := [(7, .int (nI c9 - 1)), (0, .ref (ad 0)), (1, .int 1), (2, .long v), (4, .int nv), (5, .ref (ad 30)), (6, .ref (ad h9))]) hx hb dX5_forge_85 hl (k := 6) rfl (by rw [Int32.sub_eq_add_neg]; rfl) (by decide) rfl (fun ls hl => ?_)
          refine lv_goto (tgt := 69) hx hb dX5_forge_88 (by decide) ?_
          exact ih69 c9 _ _ _ _ (by omega) ⟨lv_sub hl [1, 2, 3, 4, 5, 6, 0] rfl, hp9, frA, by omega⟩ hw hS
      · refine W.eq (g2 := F0 m 34 ls [.int 0]) rfl ?_
        refine lv_if_ne (tgt := 40) hx hb dX5_forge_34 (by decide) (fun c34 => absurd c34 (by decide)) (fun c34 => ?_)
        refine lv_bipush (v := -2) hx hb dX5_forge_37 (by decide) ?_
        exact z_iret F (rfl) hw hS (by unfold cp_forge1; rw [if_neg c10, if_pos c17, if_neg hrm]; exact ⟨rfl, rfl, ⟨_, _, ⟨h0, h1, h2, h3, h4⟩, ht0, ht1, hR0, hR1⟩, hF⟩) dX5_forge_39
    · refine lv_iconst (v := -1) hx hb dX5_forge_20 (by decide) ?_
      exact z_iret F (rfl) hw hS (by unfold cp_forge1; rw [if_neg c10, if_neg c17]; exact ⟨rfl, rfl, ⟨_, _, ⟨h0, h1, h2, h3, h4⟩, ht0, ht1, hR0, hR1⟩, hF⟩) dX5_forge_21
def cp_forgex (T : rf_T) (Q : rf_Q) (a : Int32) (v : Int64) (nv : Int32) : rf_R := ((-1), T, Q)
set_option maxHeartbeats 4000000 in
set_option maxRecDepth 100000 in
theorem c_forgex (l : Launch) {G : zz_G} {ad : Nat → Nat} {ce : zz_C} {sz : Nat} (T : rf_T) (Q : rf_Q) (hV : clV G ad ce T Q) (a : Int32) (v : Int64) (nv : Int32) (hnw : ¬ (a = 0 ∨ a = 1)) : zz_M l yX5_forge cX5_forge 8 (some .int) 2 45 0 0 G [.ref (ad 0), .int a, .long v, .int nv] ad ce sz (fun r ad1 ce1 => r = some (.int (cp_forgex T Q a v nv).1) ∧ ad = ad1 ∧ clV G ad ce1 (cp_forgex T Q a v nv).2.1 (cp_forgex T Q a v nv).2.2 ∧ (∀ j, 50 ≤ j → ce1 j = ce j)) := by
  refine zz_enter (by decide) (Nat.le_of_ble_eq_true rfl) ?_
  intro p e s m below meth c ls F hl hw hS hA
  obtain ⟨hx, hb, hr, hml, hown, hts, hlocks, hK, hnm⟩ := id F
  have hl : lv_has ls 8 [(0, .ref (ad 0)), (1, .int a), (2, .long v), (4, .int nv)] := hl
  obtain ⟨r0, r1, ⟨h0, h1, h2, h3, h4⟩, ht0, ht1, hR0, hR1⟩ := hV
  have hF : ∀ j, 50 ≤ j → ce j = ce j := fun _ _ => rfl
  refine lv_iload_n hx hb dX5_forge_0 rfl (lv_at hl 1 rfl) ?_
  refine z_invS F (rest := []) (c_isWay l a) ys_X5_99 ⟨Nat.le_of_ble_eq_true rfl, Nat.le_of_ble_eq_true rfl⟩ hw hA hS hl rfl rfl (Nat.le_of_ble_eq_true rfl) dX5_forge_1 ⟨Nat.le_of_ble_eq_true rfl, Nat.le_of_ble_eq_true rfl⟩ (fun r ad1 ce1 H locs hp hw hS => ?_)
  obtain ⟨hp, rfl, rfl⟩ := hp
  rcases hp with ⟨hn9, rfl⟩ | ⟨-, rfl⟩
  · exact absurd hn9 hnw
  refine W.eq (g2 := F0 m 4 ls [.int 0]) rfl ?_
  refine lv_if_eq (tgt := 20) hx hb dX5_forge_4 (by decide) (fun c4 => ?_) (fun c4 => absurd c4 (by decide))
  refine lv_iconst (v := -1) hx hb dX5_forge_20 (by decide) ?_
  exact z_iret F (rfl) hw hS (by unfold cp_forgex; exact ⟨rfl, rfl, ⟨_, _, ⟨h0, h1, h2, h3, h4⟩, ht0, ht1, hR0, hR1⟩, hF⟩) dX5_forge_21
def cl_tk1 (n9 : Int32) (T9 : rf_T) (Q9 : rf_Q) : rf_R := (if ((cp_endsTimer0 T9 Q9).1 : Int32) = 0 then (if ((cp_endsTimer1 ((cp_endsTimer0 T9 Q9).2.1) ((cp_endsTimer0 T9 Q9).2.2)).1 : Int32) = 0 then (n9, ((cp_endsTimer1 ((cp_endsTimer0 T9 Q9).2.1) ((cp_endsTimer0 T9 Q9).2.2)).2.1), (cp_endsTimer1 ((cp_endsTimer0 T9 Q9).2.1) ((cp_endsTimer0 T9 Q9).2.2)).2.2) else ((n9 + 1), ((cp_endsTimer1 ((cp_endsTimer0 T9 Q9).2.1) ((cp_endsTimer0 T9 Q9).2.2)).2.1), (cp_endsTimer1 ((cp_endsTimer0 T9 Q9).2.1) ((cp_endsTimer0 T9 Q9).2.2)).2.2)) else (if ((cp_endsTimer1 ((cp_endsTimer0 T9 Q9).2.1) ((cp_endsTimer0 T9 Q9).2.2)).1 : Int32) = 0 then ((n9 + 1), ((cp_endsTimer1 ((cp_endsTimer0 T9 Q9).2.1) ((cp_endsTimer0 T9 Q9).2.2)).2.1), (cp_endsTimer1 ((cp_endsTimer0 T9 Q9).2.1) ((cp_endsTimer0 T9 Q9).2.2)).2.2) else (((n9 + 1) + 1), ((cp_endsTimer1 ((cp_endsTimer0 T9 Q9).2.1) ((cp_endsTimer0 T9 Q9).2.2)).2.1), (cp_endsTimer1 ((cp_endsTimer0 T9 Q9).2.1) ((cp_endsTimer0 T9 Q9).2.2)).2.2)))
def cl_tks : Nat → rf_R → rf_R
  | 0, p => p
  | k + 1, p => (fun q : rf_R => cl_tk1 q.1 q.2.1 q.2.2) (cl_tks k p)
def cp_tick (T : rf_T) (Q : rf_Q) (v : Int32) : rf_R := (if (v : Int32) < 1 then ((-1), T, Q) else (if (v : Int32) ≤ 100 then cl_tks v.toNatClampNeg (0, T, Q) else ((-1), T, Q)))
set_option maxHeartbeats 4000000 in
set_option maxRecDepth 100000 in
theorem c_tick (l : Launch) {G : zz_G} {ad : Nat → Nat} {ce : zz_C} {sz : Nat} (T : rf_T) (Q : rf_Q) (hV : clV G ad ce T Q) (v : Int32) : zz_M l yX5_tick cX5_tick 4 (some .int) 6 125 0 0 G [.ref (ad 0), .int v] ad ce sz (fun r ad1 ce1 => r = some (.int (cp_tick T Q v).1) ∧ ad = ad1 ∧ clV G ad ce1 (cp_tick T Q v).2.1 (cp_tick T Q v).2.2 ∧ (∀ j, 50 ≤ j → ce1 j = ce j)) := by
  refine zz_enter (by decide) (Nat.le_of_ble_eq_true rfl) ?_
  intro p e s m below meth c ls F hl hw hS hA
  obtain ⟨hx, hb, hr, hml, hown, hts, hlocks, hK, hnm⟩ := id F
  have hl : lv_has ls 4 [(0, .ref (ad 0)), (1, .int v)] := hl
  obtain ⟨r0, r1, ⟨h0, h1, h2, h3, h4⟩, ht0, ht1, hR0, hR1⟩ := hV
  have hF : ∀ j, 50 ≤ j → ce j = ce j := fun _ _ => rfl
  refine lv_iload_n hx hb dX5_tick_0 rfl (lv_at hl 1 rfl) ?_
  refine lv_iconst (v := 1) hx hb dX5_tick_1 (by decide) ?_
  refine lv_icmp_lt (tgt := 11) hx hb dX5_tick_2 (by decide) (fun c2 => ?_) (fun c2 => ?_)
  · refine lv_iconst (v := -1) hx hb dX5_tick_11 (by decide) ?_
    exact z_iret F (rfl) hw hS (by unfold cp_tick; rw [if_pos c2]; exact ⟨rfl, rfl, ⟨_, _, ⟨h0, h1, h2, h3, h4⟩, ht0, ht1, hR0, hR1⟩, hF⟩) dX5_tick_12
  · refine lv_iload_n hx hb dX5_tick_5 rfl (lv_at hl 1 rfl) ?_
    refine lv_bipush (v := 100) hx hb dX5_tick_6 (by decide) ?_
    refine lv_icmp_le (tgt := 13) hx hb dX5_tick_8 (by decide) (fun c8 => ?_) (fun c8 => ?_)
    · refine lv_iconst (v := 0) hx hb dX5_tick_13 (by decide) ?_
      refine lv_istore_n (lv' := [(2, .int 0), (0, .ref (ad 0)), (1, .int v)]) hx hb dX5_tick_14 rfl hl (by decide) rfl (fun ls hl => ?_)
      refine lv_iconst (v := 0) hx hb dX5_tick_15 (by decide) ?_
      refine lv_istore_n (lv' := [(3, .int 0), (2, .int 0), (0, .ref (ad 0)), (1, .int v)]) hx hb dX5_tick_16 rfl hl (by decide) rfl (fun ls hl => ?_)
      have hv0 : ¬ v < 0 := fun q => c2 (by rw [Int32.lt_iff_toInt_lt] at q ⊢; rw [Int32.toInt_zero] at q; rw [show (1 : Int32).toInt = 1 from rfl]; omega)
      have hvv := cl_ixv hv0
      have hvl := rf_clt v
      refine z_loop (α := Nat) (fun k => v.toNatClampNeg - k) (fun k ce9 ls9 => lv_has ls9 4 [(0, .ref (ad 0)), (1, .int v), (2, .int (cl_tks k (0, T, Q)).1), (3, .int (nI k))] ∧ clV G ad ce9 (cl_tks k (0, T, Q)).2.1 (cl_tks k (0, T, Q)).2.2 ∧ (∀ j, 50 ≤ j → ce9 j = ce j) ∧ k ≤ v.toNatClampNeg) 0 ⟨lv_sub hl [2, 3, 1, 0] rfl, ⟨_, _, ⟨h0, h1, h2, h3, h4⟩, ht0, ht1, hR0, hR1⟩, hF, Nat.zero_le _⟩ hw hS (fun k ih17 ce9 H locs ls hI hw hS => ?_)
      obtain ⟨hl, hV, hF, hkd⟩ := hI
      generalize hgk : cl_tks k (0, T, Q) = g9 at hV hl
      obtain ⟨n9, T9, Q9⟩ := g9
      have hl : lv_has ls 4 [(0, .ref (ad 0)), (1, .int v), (2, .int n9), (3, .int (nI k))] := hl
      have hV : clV G ad ce9 T9 Q9 := hV
      obtain ⟨r0, r1, ⟨h0, h1, h2, h3, h4⟩, ht0, ht1, hR0, hR1⟩ := hV
      refine lv_iload_n hx hb dX5_tick_17 rfl (lv_at hl 3 rfl) ?_
      refine lv_iload_n hx hb dX5_tick_18 rfl (lv_at hl 1 rfl) ?_
      refine lv_icmp_ge (tgt := 54) hx hb dX5_tick_19 (by decide) (fun c19 => ?_) (fun c19 => ?_)
      · have hke : k = v.toNatClampNeg := Nat.le_antisymm hkd (Nat.le_of_not_lt (fun q => absurd c19 (by rw [hvv]; exact nI_ge q hvl)))
        subst hke
        refine lv_iload_n hx hb dX5_tick_54 rfl (lv_at hl 2 rfl) ?_
        exact z_iret F (rfl) hw hS (by unfold cp_tick; rw [if_neg c2, if_pos c8, hgk]; exact ⟨rfl, rfl, ⟨_, _, ⟨h0, h1, h2, h3, h4⟩, ht0, ht1, hR0, hR1⟩, hF⟩) dX5_tick_55
      · have hklt : k < v.toNatClampNeg := Nat.lt_of_not_le (fun q => c19 (by rw [hvv]; exact nI_le q (by omega)))
        refine lv_aload_n hx hb dX5_tick_22 rfl (lv_at hl 0 rfl) ?_
        refine z_get F hw h0 fd_X5_12_X5 rfl dX5_tick_23 ?_
        have hV : clV G ad ce9 T9 Q9 := ⟨_, _, ⟨h0, h1, h2, h3, h4⟩, ht0, ht1, hR0, hR1⟩
        refine z_invU F (rest := []) (c_endsTimer0 l T9 Q9 hV) yu_X5_148_X1 ⟨Nat.le_of_ble_eq_true rfl, Nat.le_of_ble_eq_true rfl⟩ hw hA hS hl h1 rfl rfl rfl (Nat.le_of_ble_eq_true rfl) dX5_tick_26 ⟨Nat.le_of_ble_eq_true rfl, Nat.le_of_ble_eq_true rfl⟩ (fun r ad1 ce1 H locs hp hw hS => ?_)
        obtain ⟨rfl, rfl, hV, hF2⟩ := hp
        have hF : ∀ j, 50 ≤ j → ce1 j = ce j := fun j hj => (hF2 j (by omega)).trans (hF j hj)
        obtain ⟨r0, r1, ⟨h0, h1, h2, h3, h4⟩, ht0, ht1, hR0, hR1⟩ := hV
        refine W.eq (g2 := F0 m 29 ls [.int (cp_endsTimer0 T9 Q9).1]) rfl ?_
        refine lv_if_eq (tgt := 35) hx hb dX5_tick_29 (by decide) (fun c29 => ?_) (fun c29 => ?_)
        · refine lv_aload_n hx hb dX5_tick_35 rfl (lv_at hl 0 rfl) ?_
          refine z_get F hw h0 fd_X5_23_X5 rfl dX5_tick_36 ?_
          have hV : clV G ad ce1 ((cp_endsTimer0 T9 Q9).2.1) ((cp_endsTimer0 T9 Q9).2.2) := ⟨_, _, ⟨h0, h1, h2, h3, h4⟩, ht0, ht1, hR0, hR1⟩
          refine z_invU F (rest := []) (c_endsTimer1 l ((cp_endsTimer0 T9 Q9).2.1) ((cp_endsTimer0 T9 Q9).2.2) hV) yu_X5_151_X2 ⟨Nat.le_of_ble_eq_true rfl, Nat.le_of_ble_eq_true rfl⟩ hw hA hS hl h2 rfl rfl rfl (Nat.le_of_ble_eq_true rfl) dX5_tick_39 ⟨Nat.le_of_ble_eq_true rfl, Nat.le_of_ble_eq_true rfl⟩ (fun r ad1 ce2 H locs hp hw hS => ?_)
          obtain ⟨rfl, rfl, hV, hF2⟩ := hp
          have hF : ∀ j, 50 ≤ j → ce2 j = ce j := fun j hj => (hF2 j (by omega)).trans (hF j hj)
          obtain ⟨r0, r1, ⟨h0, h1, h2, h3, h4⟩, ht0, ht1, hR0, hR1⟩ := hV
          refine W.eq (g2 := F0 m 42 ls [.int (cp_endsTimer1 ((cp_endsTimer0 T9 Q9).2.1) ((cp_endsTimer0 T9 Q9).2.2)).1]) rfl ?_
          refine lv_if_eq (tgt := 48) hx hb dX5_tick_42 (by decide) (fun c42 => ?_) (fun c42 => ?_)
          · refine lv_iinc (v := nI (k + 1)) (lv' := [(3, .int (nI (k + 1))), (0, .ref (ad 0)), (1, .int v), (2, .int n9)]) hx hb dX5_tick_48 hl (k := 3) rfl (nI_1 k) (by decide) rfl (fun ls hl => ?_)
            refine lv_goto (tgt := 17) hx hb dX5_tick_51 (by decide) ?_
            have hst : cl_tks (k + 1) (0, T, Q) = (n9, ((cp_endsTimer1 ((cp_endsTimer0 T9 Q9).2.1) ((cp_endsTimer0 T9 Q9).2.2)).2.1), (cp_endsTimer1 ((cp_endsTimer0 T9 Q9).2.1) ((cp_endsTimer0 T9 Q9).2.2)).2.2) := by rw [cl_tks, hgk]; show cl_tk1 n9 T9 Q9 = _; unfold cl_tk1; rw [if_pos c29, if_pos c42]
            exact ih17 (k + 1) _ _ _ _ (by omega) ⟨by rw [hst]; exact lv_sub hl [1, 2, 3, 0] rfl, by rw [hst]; exact ⟨_, _, ⟨h0, h1, h2, h3, h4⟩, ht0, ht1, hR0, hR1⟩, hF, by omega⟩ hw hS
          · refine lv_iinc (v := n9 + 1) (lv' := [(2, .int (n9 + 1)), (0, .ref (ad 0)), (1, .int v), (3, .int (nI k))]) hx hb dX5_tick_45 hl (k := 2) rfl (rfl) (by decide) rfl (fun ls hl => ?_)
            refine lv_iinc (v := nI (k + 1)) (lv' := [(3, .int (nI (k + 1))), (2, .int (n9 + 1)), (0, .ref (ad 0)), (1, .int v)]) hx hb dX5_tick_48 hl (k := 3) rfl (nI_1 k) (by decide) rfl (fun ls hl => ?_)
            refine lv_goto (tgt := 17) hx hb dX5_tick_51 (by decide) ?_
            have hst : cl_tks (k + 1) (0, T, Q) = ((n9 + 1), ((cp_endsTimer1 ((cp_endsTimer0 T9 Q9).2.1) ((cp_endsTimer0 T9 Q9).2.2)).2.1), (cp_endsTimer1 ((cp_endsTimer0 T9 Q9).2.1) ((cp_endsTimer0 T9 Q9).2.2)).2.2) := by rw [cl_tks, hgk]; show cl_tk1 n9 T9 Q9 = _; unfold cl_tk1; rw [if_pos c29, if_neg c42]
            exact ih17 (k + 1) _ _ _ _ (by omega) ⟨by rw [hst]; exact lv_sub hl [2, 3, 1, 0] rfl, by rw [hst]; exact ⟨_, _, ⟨h0, h1, h2, h3, h4⟩, ht0, ht1, hR0, hR1⟩, hF, by omega⟩ hw hS
        · refine lv_iinc (v := n9 + 1) (lv' := [(2, .int (n9 + 1)), (0, .ref (ad 0)), (1, .int v), (3, .int (nI k))]) hx hb dX5_tick_32 hl (k := 2) rfl (rfl) (by decide) rfl (fun ls hl => ?_)
          refine lv_aload_n hx hb dX5_tick_35 rfl (lv_at hl 1 rfl) ?_
          refine z_get F hw h0 fd_X5_23_X5 rfl dX5_tick_36 ?_
          have hV : clV G ad ce1 ((cp_endsTimer0 T9 Q9).2.1) ((cp_endsTimer0 T9 Q9).2.2) := ⟨_, _, ⟨h0, h1, h2, h3, h4⟩, ht0, ht1, hR0, hR1⟩
          refine z_invU F (rest := []) (c_endsTimer1 l ((cp_endsTimer0 T9 Q9).2.1) ((cp_endsTimer0 T9 Q9).2.2) hV) yu_X5_151_X2 ⟨Nat.le_of_ble_eq_true rfl, Nat.le_of_ble_eq_true rfl⟩ hw hA hS hl h2 rfl rfl rfl (Nat.le_of_ble_eq_true rfl) dX5_tick_39 ⟨Nat.le_of_ble_eq_true rfl, Nat.le_of_ble_eq_true rfl⟩ (fun r ad1 ce3 H locs hp hw hS => ?_)
          obtain ⟨rfl, rfl, hV, hF2⟩ := hp
          have hF : ∀ j, 50 ≤ j → ce3 j = ce j := fun j hj => (hF2 j (by omega)).trans (hF j hj)
          obtain ⟨r0, r1, ⟨h0, h1, h2, h3, h4⟩, ht0, ht1, hR0, hR1⟩ := hV
          refine W.eq (g2 := F0 m 42 ls [.int (cp_endsTimer1 ((cp_endsTimer0 T9 Q9).2.1) ((cp_endsTimer0 T9 Q9).2.2)).1]) rfl ?_
          refine lv_if_eq (tgt := 48) hx hb dX5_tick_42 (by decide) (fun c42 => ?_) (fun c42 => ?_)
          · refine lv_iinc (v := nI (k + 1)) (lv' := [(3, .int (nI (k + 1))), (2, .int (n9 + 1)), (0, .ref (ad 0)), (1, .int v)]) hx hb dX5_tick_48 hl (k := 3) rfl (nI_1 k) (by decide) rfl (fun ls hl => ?_)
            refine lv_goto (tgt := 17) hx hb dX5_tick_51 (by decide) ?_
            have hst : cl_tks (k + 1) (0, T, Q) = ((n9 + 1), ((cp_endsTimer1 ((cp_endsTimer0 T9 Q9).2.1) ((cp_endsTimer0 T9 Q9).2.2)).2.1), (cp_endsTimer1 ((cp_endsTimer0 T9 Q9).2.1) ((cp_endsTimer0 T9 Q9).2.2)).2.2) := by rw [cl_tks, hgk]; show cl_tk1 n9 T9 Q9 = _; unfold cl_tk1; rw [if_neg c29, if_pos c42]
            exact ih17 (k + 1) _ _ _ _ (by omega) ⟨by rw [hst]; exact lv_sub hl [2, 3, 1, 0] rfl, by rw [hst]; exact ⟨_, _, ⟨h0, h1, h2, h3, h4⟩, ht0, ht1, hR0, hR1⟩, hF, by omega⟩ hw hS
          · refine lv_iinc (v := (n9 + 1) + 1) (lv' := [(2, .int ((n9 + 1) + 1)), (0, .ref (ad 0)), (1, .int v), (3, .int (nI k))]) hx hb dX5_tick_45 hl (k := 0) rfl (rfl) (by decide) rfl (fun ls hl => ?_)
            refine lv_iinc (v := nI (k + 1)) (lv' := [(3, .int (nI (k + 1))), (2, .int ((n9 + 1) + 1)), (0, .ref (ad 0)), (1, .int v)]) hx hb dX5_tick_48 hl (k := 3) rfl (nI_1 k) (by decide) rfl (fun ls hl => ?_)
            refine lv_goto (tgt := 17) hx hb dX5_tick_51 (by decide) ?_
            have hst : cl_tks (k + 1) (0, T, Q) = (((n9 + 1) + 1), ((cp_endsTimer1 ((cp_endsTimer0 T9 Q9).2.1) ((cp_endsTimer0 T9 Q9).2.2)).2.1), (cp_endsTimer1 ((cp_endsTimer0 T9 Q9).2.1) ((cp_endsTimer0 T9 Q9).2.2)).2.2) := by rw [cl_tks, hgk]; show cl_tk1 n9 T9 Q9 = _; unfold cl_tk1; rw [if_neg c29, if_neg c42]
            exact ih17 (k + 1) _ _ _ _ (by omega) ⟨by rw [hst]; exact lv_sub hl [2, 3, 1, 0] rfl, by rw [hst]; exact ⟨_, _, ⟨h0, h1, h2, h3, h4⟩, ht0, ht1, hR0, hR1⟩, hF, by omega⟩ hw hS
    · refine lv_iconst (v := -1) hx hb dX5_tick_11 (by decide) ?_
      exact z_iret F (rfl) hw hS (by unfold cp_tick; rw [if_neg c2, if_neg c8]; exact ⟨rfl, rfl, ⟨_, _, ⟨h0, h1, h2, h3, h4⟩, ht0, ht1, hR0, hR1⟩, hF⟩) dX5_tick_12
