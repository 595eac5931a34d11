theorem lw_le {L k : Nat} (hL : L ≤ 2563) (hk : k ≤ 3000) (h : ¬ (nI L - 5 < nI k)) : k + 5 ≤ L := by
  rw [Int32.lt_iff_toInt_lt, show (5 : Int32) = nI 5 from rfl, pk_sub_toInt (by omega) (by decide), nI_toInt (by omega)] at h
  omega
set_option maxHeartbeats 40000000 in
set_option maxRecDepth 100000 in
theorem whole_start {p : Program} {e : Env} {s : State} {m : MethodId} {below : List Frame} {meth : Method} {c : Code} (l : Launch) {b L : Nat} {xs : Nat → Int32} (hL : L ≤ 2563) (C0 : lw_At p s m meth c b L xs) : W p l e room_1 s m #[Value.ref b] below meth c s.heap [] 0 0 (lw_Z below #[Value.ref b] s) (entryFrame m ([Value.ref b] : List Value).toArray 4) := by
  obtain ⟨hx, hb, hr, hml, hown, hts0, hX, hbl, hlocks, hgv⟩ := id C0
  obtain ⟨G, hK, hts⟩ := lw_G hts0
  have hLs : L ≤ 2563 := hL
  have F : zz_F p s m #[Value.ref b] meth c code ⟨RL, meth.name, ""⟩ ret 4 G := ⟨hx, hb, hr, hml, hown, hts, hlocks, hK, rfl⟩
  have hA : ∀ q : Nat, s.heap.size ≤ q → (fun q : Nat => s.heap.size ≤ q) q := fun _ h => h
  have hbA : ¬ (fun q : Nat => s.heap.size ≤ q) b := Nat.not_le.mpr hbl
  have hS : va_S (fun q : Nat => s.heap.size ≤ q) s.heap s.heap [] := va_S.rf
  obtain ⟨ad, hadE⟩ : ∃ ad : Nat → Nat, ∀ j, ad j = if j = 0 then s.heap.size else if j = 100 then s.heap.size + 1 + 44 else s.heap.size + 1 + cl_off j := ⟨_, fun _ => rfl⟩
  have had0 : ad 0 = s.heap.size := hadE 0
  have had100 : ad 100 = s.heap.size + 1 + 44 := hadE 100
  have hadC : ∀ j, 0 < j → j < 50 → ad j = s.heap.size + 1 + cl_off j := fun j h1 h2 => by rw [hadE, if_neg (by omega), if_neg (by omega)]
  have hw : zz_W G (fun q : Nat => s.heap.size ≤ q) ad (fun _ => none) s.heap.size s.heap := ⟨rfl, fun _ _ h => (by cases h), fun _ _ _ _ h => (by cases h), fun _ _ h => (by cases h)⟩
  have hl := lv_entry ([.ref b]) (n := 4) (Nat.le_of_ble_eq_true rfl)
  rw [lg_entry_eq]
  generalize (lg_sl ([.ref b]) ++ List.replicate (4 - (lg_sl ([.ref b])).length) Slot.unset).toArray = ls at hl ⊢
  have hl : lv_has ls 4 [(0, .ref b)] := hl
  refine z_newF F hw hA hS 0 (rfl) (had0) (fs := [.null, .null, .null, .null, .int 0]) (ci := 4) (ty0 := tyX5) rfl inX5 tyX5_ok wd_8 wd_9 wd_1 (by decide) (Nat.le_of_ble_eq_true rfl) (Nat.le_of_ble_eq_true rfl) dL_law_0 (fun ce1 H hn9 fr2 hw hS => ?_)
  have hn0 : ∀ j, 0 < j → ce1 j = none := fun j hj => (fr2 j (by omega)).trans rfl
  refine lv_dup hx hb dL_law_3 rfl ?_
  refine lv_aload_n hx hb dL_law_4 rfl (lv_at hl 0 rfl) ?_
  refine lv_iconst (v := 0) hx hb dL_law_5 (by decide) ?_
  refine z_cell F hX hbl hbA hS (by omega) 0 (by decide) ys_L_9 ⟨Nat.le_of_ble_eq_true rfl, Nat.le_of_ble_eq_true rfl⟩ hl rfl (Nat.le_of_ble_eq_true rfl) dL_law_6 ⟨Nat.le_of_ble_eq_true rfl, Nat.le_of_ble_eq_true rfl⟩ ?_
  refine lv_aload_n hx hb dL_law_9 rfl (lv_at hl 0 rfl) ?_
  refine lv_iconst (v := 1) hx hb dL_law_10 (by decide) ?_
  refine z_cell F hX hbl hbA hS (by omega) 1 (by decide) ys_L_9 ⟨Nat.le_of_ble_eq_true rfl, Nat.le_of_ble_eq_true rfl⟩ hl rfl (Nat.le_of_ble_eq_true rfl) dL_law_11 ⟨Nat.le_of_ble_eq_true rfl, Nat.le_of_ble_eq_true rfl⟩ ?_
  refine lv_aload_n hx hb dL_law_14 rfl (lv_at hl 0 rfl) ?_
  refine lv_iconst (v := 2) hx hb dL_law_15 (by decide) ?_
  refine z_cell F hX hbl hbA hS (by omega) 2 (by decide) ys_L_9 ⟨Nat.le_of_ble_eq_true rfl, Nat.le_of_ble_eq_true rfl⟩ hl rfl (Nat.le_of_ble_eq_true rfl) dL_law_16 ⟨Nat.le_of_ble_eq_true rfl, Nat.le_of_ble_eq_true rfl⟩ ?_
  refine z_invI F (rest := [.ref (ad 0)]) (c_init l (lw_c L xs 0) (lw_c L xs 1) (lw_c L xs 2) hn9 (fun j h1 h2 => hn0 j h1) hadC) yi_L_15 ⟨Nat.le_of_ble_eq_true rfl, Nat.le_of_ble_eq_true rfl⟩ hw hA hS hl rfl rfl (Nat.le_of_ble_eq_true rfl) dL_law_19 ⟨Nat.le_of_ble_eq_true rfl, Nat.le_of_ble_eq_true rfl⟩ (fun r ad1 ce3 H locs hp hw hS => ?_)
  obtain ⟨rfl, rfl, hV, hF9⟩ := hp
  refine W.eq (g2 := F0 m 22 ls [.ref (ad 0)]) rfl ?_
  refine lv_astore_n (lv' := [(1, .ref (ad 0)), (0, .ref b)]) hx hb dL_law_22 rfl hl (by decide) rfl (fun ls hl => ?_)
  refine z_newF F hw hA hS 100 ((hF9 100 (by decide)).trans (hn0 100 (by decide))) (had100) (fs := [.int 0, .int 0, .int 0, .int 0, .int 0, .null, .null, .null, .int 0, .null, .null, .null, .null, .null, .int 0, .int 0, .int 0, .null, .int 0, .null, .int 0, .int 0, .null]) (ci := 5) (ty0 := tyX6) rfl inX6 tyX6_ok wd_638 wd_639 wd_7 (by decide) (Nat.le_of_ble_eq_true rfl) (Nat.le_of_ble_eq_true rfl) dL_law_23 (fun ce4 H hn9 fr5 hw hS => ?_)
  have hV := clV_k hV (fun j hj => fr5 j (by omega))
  have hN9 : ∀ j, 101 ≤ j → j ≤ 111 → ce4 j = none := fun j h1 h2 => (fr5 j (by omega)).trans ((hF9 j (by omega)).trans (hn0 j (by omega)))
  refine lv_dup hx hb dL_law_26 rfl ?_
  refine lv_aload_n hx hb dL_law_27 rfl (lv_at hl 1 rfl) ?_
  refine lv_iconst (v := 0) hx hb dL_law_28 (by decide) ?_
  refine z_cell F hX hbl hbA hS (by omega) 0 (by decide) ys_L_9 ⟨Nat.le_of_ble_eq_true rfl, Nat.le_of_ble_eq_true rfl⟩ hl rfl (Nat.le_of_ble_eq_true rfl) dL_law_29 ⟨Nat.le_of_ble_eq_true rfl, Nat.le_of_ble_eq_true rfl⟩ ?_
  refine lv_aload_n hx hb dL_law_32 rfl (lv_at hl 1 rfl) ?_
  refine lv_iconst (v := 1) hx hb dL_law_33 (by decide) ?_
  refine z_cell F hX hbl hbA hS (by omega) 1 (by decide) ys_L_9 ⟨Nat.le_of_ble_eq_true rfl, Nat.le_of_ble_eq_true rfl⟩ hl rfl (Nat.le_of_ble_eq_true rfl) dL_law_34 ⟨Nat.le_of_ble_eq_true rfl, Nat.le_of_ble_eq_true rfl⟩ ?_
  refine lv_aload_n hx hb dL_law_37 rfl (lv_at hl 1 rfl) ?_
  refine lv_iconst (v := 2) hx hb dL_law_38 (by decide) ?_
  refine z_cell F hX hbl hbA hS (by omega) 2 (by decide) ys_L_9 ⟨Nat.le_of_ble_eq_true rfl, Nat.le_of_ble_eq_true rfl⟩ hl rfl (Nat.le_of_ble_eq_true rfl) dL_law_39 ⟨Nat.le_of_ble_eq_true rfl, Nat.le_of_ble_eq_true rfl⟩ ?_
  refine z_invI F (rest := [.ref (ad 100)]) (r_init l (lw_c L xs 0) (lw_c L xs 1) (lw_c L xs 2) hn9 hN9) yi_L_20 ⟨Nat.le_of_ble_eq_true rfl, Nat.le_of_ble_eq_true rfl⟩ hw hA hS hl rfl rfl (Nat.le_of_ble_eq_true rfl) dL_law_42 ⟨Nat.le_of_ble_eq_true rfl, Nat.le_of_ble_eq_true rfl⟩ (fun r ad ce6 H locs hp hw hS => ?_)
  obtain ⟨rfl, hR9, hadK, hF2⟩ := hp
  have hV := clV_ad (clV_k hV hF2) (fun j hj => hadK j (by omega))
  have hl : lv_has ls 4 [(1, .ref (ad 0)), (0, .ref b)] := by rw [hadK 0 (by decide)]; exact hl
  refine W.eq (g2 := F0 m 45 ls [.ref (ad 100)]) (by rw [hadK 100 (by decide)]; rfl) ?_
  refine lv_astore_n (lv' := [(2, .ref (ad 100)), (1, .ref (ad 0)), (0, .ref b)]) hx hb dL_law_45 rfl hl (by decide) rfl (fun ls hl => ?_)
  refine lv_iconst (v := 3) hx hb dL_law_46 (by decide) ?_
  refine lv_istore_n (lv' := [(3, .int 3), (2, .ref (ad 100)), (1, .ref (ad 0)), (0, .ref b)]) hx hb dL_law_47 rfl hl (by decide) rfl (fun ls hl => ?_)
  refine z_loop (α := Nat × rf_T × rf_Q × List Nat) (fun a => L + 8 - a.1) (fun a ce9 ls9 => lv_has ls9 4 [(0, .ref b), (1, .ref (ad 0)), (2, .ref (ad 100)), (3, .int (nI a.1))] ∧ rfV G ad ce9 a.2.1 a.2.2.1 a.2.2.2 ∧ clV G ad ce9 a.2.1 a.2.2.1 ∧ Iv a.2.1 ∧ 3 ≤ a.1 ∧ a.1 ≤ L + 5) (3, rf_T0 (lw_c L xs 0) (lw_c L xs 1) (lw_c L xs 2), fun _ => [], []) ⟨lv_sub hl [3, 2, 1, 0] rfl, hR9, hV, Iv_0 _ _ _, by show 3 ≤ 3; decide, by show 3 ≤ L + 5; omega⟩ hw hS (fun a ih48 ce9 H locs ls hI0 hw hS => ?_)
  obtain ⟨k, T, Q, M⟩ := a
  obtain ⟨hl, hR9, hV, hI, hk3, hkL⟩ := hI0
  have hl : lv_has ls 4 [(0, .ref b), (1, .ref (ad 0)), (2, .ref (ad 100)), (3, .int (nI k))] := hl
  have hR9 : rfV G ad ce9 T Q M := hR9
  have hV : clV G ad ce9 T Q := hV
  have hI : Iv T := hI
  have hkL : k ≤ L + 5 := hkL
  have hwf := rfV_wf hR9
  obtain ⟨d9, hd9, hdc9⟩ := hI.2.2.2.2.1
  obtain ⟨cc9, hc9, hcc9⟩ := hI.2.2.2.2.2
  refine lv_iload_n hx hb dL_law_48 rfl (lv_at hl 3 rfl) ?_
  refine lv_aload_n hx hb dL_law_49 rfl (lv_at hl 0 rfl) ?_
  refine va_slen hx hb hX hbl hbA hS dL_law_50 ?_
  refine z_top (nI L) rfl ?_
  refine lv_iconst (v := 5) hx hb dL_law_51 (by decide) ?_
  refine lv_isub hx hb dL_law_52 ?_
  refine lv_icmp_gt (tgt := 643) hx hb dL_law_53 (by decide) (fun c53 => ?_) (fun c53 => ?_)
  · refine lv_iconst (v := 1) hx hb dL_law_643 (by decide) ?_
    refine W.widen (k := 600000) (n := 7302250) (Nat.le_of_ble_eq_true rfl) (Nat.le_of_ble_eq_true rfl) ?_
    refine va_forget (fun q hq => hS.2.2 q hq) ?_
    exact lw_ret hx hb hr hlocks dL_law_644
  · have hk5 : k + 5 ≤ L := lw_le hLs (by omega) c53
    refine lv_aload_n hx hb dL_law_56 rfl (lv_at hl 0 rfl) ?_
    refine lv_iload_n hx hb dL_law_57 rfl (lv_at hl 3 rfl) ?_
    refine va_sld hx hb hX hbl hbA hS (vp_in_nI (show k < L by omega) (by omega)) dL_law_58 ?_
    refine z_top (xs (k)) (by rw [nI_clamp (show k < 2 ^ 31 by omega)]) ?_
    refine lv_bipush (v := 31) hx hb dL_law_59 (by decide) ?_
    refine lv_iand hx hb dL_law_61 ?_
    by_cases h62_0 : (((xs (k)) &&& 31) : Int32) = 0
    · refine lv_tableIn (tgt := 144) (off := 82) hx hb dL_law_62 (by rw [h62_0]; decide) (by rw [h62_0]; decide) (by rw [h62_0]; rfl) (by decide) ?_
      refine lv_aload_n hx hb dL_law_144 rfl (lv_at hl 1 rfl) ?_
      refine lv_aload_n hx hb dL_law_145 rfl (lv_at hl 0 rfl) ?_
      refine lv_iload_n hx hb dL_law_146 rfl (lv_at hl 3 rfl) ?_
      refine lv_iconst (v := 1) hx hb dL_law_147 (by decide) ?_
      refine lv_iadd hx hb dL_law_148 ?_
      refine z_top (nI (k + 1)) (nI_add k 1) ?_
      refine va_sld hx hb hX hbl hbA hS (vp_in_nI (show k + 1 < L by omega) (by omega)) dL_law_149 ?_
      refine z_top (xs (k + 1)) (by rw [nI_clamp (show k + 1 < 2 ^ 31 by omega)]) ?_
      refine lv_if_eq (tgt := 157) hx hb dL_law_150 (by decide) (fun c150 => ?_) (fun c150 => ?_)
      · refine lv_iconst (v := 0) hx hb dL_law_157 (by decide) ?_
        have hq9 : cp_power0 T Q = sp_power0 T Q M ∧ Iv (sp_power0 T Q M).2.1 := q_power0 hI
        obtain ⟨vs9, ho9⟩ := clV_o hV
        refine z_invV F (rest := []) (c_power0 l T Q hV) yv_L_21 ⟨Nat.le_of_ble_eq_true rfl, Nat.le_of_ble_eq_true rfl⟩ hw hA hS hl ho9 rfl rfl rfl (Nat.le_of_ble_eq_true rfl) dL_law_158 ⟨Nat.le_of_ble_eq_true rfl, Nat.le_of_ble_eq_true rfl⟩ (fun r ad1 ce7 H locs hp hw hS => ?_)
        rw [hq9.1] at hp
        obtain ⟨rfl, rfl, hV, hF2⟩ := hp
        have hR9 := rfV_k hR9 hF2
        refine W.eq (g2 := F0 m 161 ls [.int (sp_power0 T Q M).1]) rfl ?_
        refine lv_aload_n hx hb dL_law_161 rfl (lv_at hl 2 rfl) ?_
        refine lv_aload_n hx hb dL_law_162 rfl (lv_at hl 0 rfl) ?_
        refine lv_iload_n hx hb dL_law_163 rfl (lv_at hl 3 rfl) ?_
        refine lv_iconst (v := 1) hx hb dL_law_164 (by decide) ?_
        refine lv_iadd hx hb dL_law_165 ?_
        refine z_top (nI (k + 1)) (nI_add k 1) ?_
        refine va_sld hx hb hX hbl hbA hS (vp_in_nI (show k + 1 < L by omega) (by omega)) dL_law_166 ?_
        refine z_top (xs (k + 1)) (by rw [nI_clamp (show k + 1 < 2 ^ 31 by omega)]) ?_
        refine lv_if_eq (tgt := 174) hx hb dL_law_167 (by decide) (fun c167 => ?_) (fun c167 => absurd c150 c167)
        refine lv_iconst (v := 0) hx hb dL_law_174 (by decide) ?_
        obtain ⟨vs9, ho9⟩ := rfV_o hR9
        refine z_invV F (rest := [.int (sp_power0 T Q M).1]) (r_power0 l T Q M hR9) yv_L_25 ⟨Nat.le_of_ble_eq_true rfl, Nat.le_of_ble_eq_true rfl⟩ hw hA hS hl ho9 rfl rfl rfl (Nat.le_of_ble_eq_true rfl) dL_law_175 ⟨Nat.le_of_ble_eq_true rfl, Nat.le_of_ble_eq_true rfl⟩ (fun r ad1 ce8 H locs hp hw hS => ?_)
        obtain ⟨rfl, rfl, hR9, hF2⟩ := hp
        have hV := clV_k hV hF2
        refine W.eq (g2 := F0 m 178 ls [.int (sp_power0 T Q M).1, .int (sp_power0 T Q M).1]) rfl ?_
        refine lv_icmp_eq (tgt := 637) hx hb dL_law_178 (by decide) (fun c178 => ?_) (fun c178 => absurd rfl c178)
        refine lv_iinc (v := nI (k + 5)) (lv' := [(3, .int (nI (k + 5))), (0, .ref b), (1, .ref (ad 0)), (2, .ref (ad 100))]) hx hb dL_law_637 hl (k := 3) rfl (nI_add k 5) (by decide) rfl (fun ls hl => ?_)
        refine lv_goto (tgt := 48) hx hb dL_law_640 (by decide) ?_
        exact ih48 (k + 5, (sp_power0 T Q M).2.1, (sp_power0 T Q M).2.2, M) _ _ _ _ (by show L + 8 - (k + 5) < L + 8 - k; omega) ⟨lv_sub hl [1, 2, 3, 0] rfl, hR9, hV, hq9.2, by show 3 ≤ k + 5; omega, by show k + 5 ≤ L + 5; omega⟩ hw hS
      · refine lv_iconst (v := 1) hx hb dL_law_153 (by decide) ?_
        refine lv_goto (tgt := 158) hx hb dL_law_154 (by decide) ?_
        have hq9 : cp_power1 T Q = sp_power1 T Q M ∧ Iv (sp_power1 T Q M).2.1 := q_power1 hI
        obtain ⟨vs9, ho9⟩ := clV_o hV
        refine z_invV F (rest := []) (c_power1 l T Q hV) yv_L_21 ⟨Nat.le_of_ble_eq_true rfl, Nat.le_of_ble_eq_true rfl⟩ hw hA hS hl ho9 rfl rfl rfl (Nat.le_of_ble_eq_true rfl) dL_law_158 ⟨Nat.le_of_ble_eq_true rfl, Nat.le_of_ble_eq_true rfl⟩ (fun r ad1 ce9 H locs hp hw hS => ?_)
        rw [hq9.1] at hp
        obtain ⟨rfl, rfl, hV, hF2⟩ := hp
        have hR9 := rfV_k hR9 hF2
        refine W.eq (g2 := F0 m 161 ls [.int (sp_power1 T Q M).1]) rfl ?_
        refine lv_aload_n hx hb dL_law_161 rfl (lv_at hl 2 rfl) ?_
        refine lv_aload_n hx hb dL_law_162 rfl (lv_at hl 0 rfl) ?_
        refine lv_iload_n hx hb dL_law_163 rfl (lv_at hl 3 rfl) ?_
        refine lv_iconst (v := 1) hx hb dL_law_164 (by decide) ?_
        refine lv_iadd hx hb dL_law_165 ?_
        refine z_top (nI (k + 1)) (nI_add k 1) ?_
        refine va_sld hx hb hX hbl hbA hS (vp_in_nI (show k + 1 < L by omega) (by omega)) dL_law_166 ?_
        refine z_top (xs (k + 1)) (by rw [nI_clamp (show k + 1 < 2 ^ 31 by omega)]) ?_
        refine lv_if_eq (tgt := 174) hx hb dL_law_167 (by decide) (fun c167 => absurd c167 c150) (fun c167 => ?_)
        refine lv_iconst (v := 1) hx hb dL_law_170 (by decide) ?_
        refine lv_goto (tgt := 175) hx hb dL_law_171 (by decide) ?_
        obtain ⟨vs9, ho9⟩ := rfV_o hR9
        refine z_invV F (rest := [.int (sp_power1 T Q M).1]) (r_power1 l T Q M hR9) yv_L_25 ⟨Nat.le_of_ble_eq_true rfl, Nat.le_of_ble_eq_true rfl⟩ hw hA hS hl ho9 rfl rfl rfl (Nat.le_of_ble_eq_true rfl) dL_law_175 ⟨Nat.le_of_ble_eq_true rfl, Nat.le_of_ble_eq_true rfl⟩ (fun r ad1 ce10 H locs hp hw hS => ?_)
        obtain ⟨rfl, rfl, hR9, hF2⟩ := hp
        have hV := clV_k hV hF2
        refine W.eq (g2 := F0 m 178 ls [.int (sp_power1 T Q M).1, .int (sp_power1 T Q M).1]) rfl ?_
        refine lv_icmp_eq (tgt := 637) hx hb dL_law_178 (by decide) (fun c178 => ?_) (fun c178 => absurd rfl c178)
        refine lv_iinc (v := nI (k + 5)) (lv' := [(3, .int (nI (k + 5))), (0, .ref b), (1, .ref (ad 0)), (2, .ref (ad 100))]) hx hb dL_law_637 hl (k := 3) rfl (nI_add k 5) (by decide) rfl (fun ls hl => ?_)
        refine lv_goto (tgt := 48) hx hb dL_law_640 (by decide) ?_
        exact ih48 (k + 5, (sp_power1 T Q M).2.1, (sp_power1 T Q M).2.2, M) _ _ _ _ (by show L + 8 - (k + 5) < L + 8 - k; omega) ⟨lv_sub hl [1, 2, 3, 0] rfl, hR9, hV, hq9.2, by show 3 ≤ k + 5; omega, by show k + 5 ≤ L + 5; omega⟩ hw hS
    by_cases h62_1 : (((xs (k)) &&& 31) : Int32) = 1
    · refine lv_tableIn (tgt := 183) (off := 121) hx hb dL_law_62 (by rw [h62_1]; decide) (by rw [h62_1]; decide) (by rw [h62_1]; rfl) (by decide) ?_
      refine lv_aload_n hx hb dL_law_183 rfl (lv_at hl 1 rfl) ?_
      refine lv_aload_n hx hb dL_law_184 rfl (lv_at hl 0 rfl) ?_
      refine lv_iload_n hx hb dL_law_185 rfl (lv_at hl 3 rfl) ?_
      refine lv_iconst (v := 1) hx hb dL_law_186 (by decide) ?_
      refine lv_iadd hx hb dL_law_187 ?_
      refine z_top (nI (k + 1)) (nI_add k 1) ?_
      refine va_sld hx hb hX hbl hbA hS (vp_in_nI (show k + 1 < L by omega) (by omega)) dL_law_188 ?_
      refine z_top (xs (k + 1)) (by rw [nI_clamp (show k + 1 < 2 ^ 31 by omega)]) ?_
      have hq9 : cp_update T Q (xs (k + 1)) = sp_update T Q M (xs (k + 1)) ∧ Iv (sp_update T Q M (xs (k + 1))).2.1 := q_update hI (xs (k + 1))
      obtain ⟨vs9, ho9⟩ := clV_o hV
      refine z_invV F (rest := []) (c_update l T Q hV (xs (k + 1))) yv_L_26 ⟨Nat.le_of_ble_eq_true rfl, Nat.le_of_ble_eq_true rfl⟩ hw hA hS hl ho9 rfl rfl rfl (Nat.le_of_ble_eq_true rfl) dL_law_189 ⟨Nat.le_of_ble_eq_true rfl, Nat.le_of_ble_eq_true rfl⟩ (fun r ad1 ce11 H locs hp hw hS => ?_)
      rw [hq9.1] at hp
      obtain ⟨rfl, rfl, hV, hF2⟩ := hp
      have hR9 := rfV_k hR9 hF2
      refine W.eq (g2 := F0 m 192 ls [.int (sp_update T Q M (xs (k + 1))).1]) rfl ?_
      refine lv_aload_n hx hb dL_law_192 rfl (lv_at hl 2 rfl) ?_
      refine lv_aload_n hx hb dL_law_193 rfl (lv_at hl 0 rfl) ?_
      refine lv_iload_n hx hb dL_law_194 rfl (lv_at hl 3 rfl) ?_
      refine lv_iconst (v := 1) hx hb dL_law_195 (by decide) ?_
      refine lv_iadd hx hb dL_law_196 ?_
      refine z_top (nI (k + 1)) (nI_add k 1) ?_
      refine va_sld hx hb hX hbl hbA hS (vp_in_nI (show k + 1 < L by omega) (by omega)) dL_law_197 ?_
      refine z_top (xs (k + 1)) (by rw [nI_clamp (show k + 1 < 2 ^ 31 by omega)]) ?_
      obtain ⟨vs9, ho9⟩ := rfV_o hR9
      refine z_invV F (rest := [.int (sp_update T Q M (xs (k + 1))).1]) (r_update l T Q M hR9 (xs (k + 1))) yv_L_30 ⟨Nat.le_of_ble_eq_true rfl, Nat.le_of_ble_eq_true rfl⟩ hw hA hS hl ho9 rfl rfl rfl (Nat.le_of_ble_eq_true rfl) dL_law_198 ⟨Nat.le_of_ble_eq_true rfl, Nat.le_of_ble_eq_true rfl⟩ (fun r ad1 ce12 H locs hp hw hS => ?_)
      obtain ⟨rfl, rfl, hR9, hF2⟩ := hp
      have hV := clV_k hV hF2
      refine W.eq (g2 := F0 m 201 ls [.int (sp_update T Q M (xs (k + 1))).1, .int (sp_update T Q M (xs (k + 1))).1]) rfl ?_
      refine lv_icmp_eq (tgt := 637) hx hb dL_law_201 (by decide) (fun c201 => ?_) (fun c201 => absurd rfl c201)
      refine lv_iinc (v := nI (k + 5)) (lv' := [(3, .int (nI (k + 5))), (0, .ref b), (1, .ref (ad 0)), (2, .ref (ad 100))]) hx hb dL_law_637 hl (k := 3) rfl (nI_add k 5) (by decide) rfl (fun ls hl => ?_)
      refine lv_goto (tgt := 48) hx hb dL_law_640 (by decide) ?_
      exact ih48 (k + 5, (sp_update T Q M (xs (k + 1))).2.1, (sp_update T Q M (xs (k + 1))).2.2, M) _ _ _ _ (by show L + 8 - (k + 5) < L + 8 - k; omega) ⟨lv_sub hl [1, 2, 3, 0] rfl, hR9, hV, hq9.2, by show 3 ≤ k + 5; omega, by show k + 5 ≤ L + 5; omega⟩ hw hS
    by_cases h62_2 : (((xs (k)) &&& 31) : Int32) = 2
    · refine lv_tableIn (tgt := 206) (off := 144) hx hb dL_law_62 (by rw [h62_2]; decide) (by rw [h62_2]; decide) (by rw [h62_2]; rfl) (by decide) ?_
      refine lv_aload_n hx hb dL_law_206 rfl (lv_at hl 1 rfl) ?_
      refine lv_aload_n hx hb dL_law_207 rfl (lv_at hl 0 rfl) ?_
      refine lv_iload_n hx hb dL_law_208 rfl (lv_at hl 3 rfl) ?_
      refine lv_iconst (v := 1) hx hb dL_law_209 (by decide) ?_
      refine lv_iadd hx hb dL_law_210 ?_
      refine z_top (nI (k + 1)) (nI_add k 1) ?_
      refine va_sld hx hb hX hbl hbA hS (vp_in_nI (show k + 1 < L by omega) (by omega)) dL_law_211 ?_
      refine z_top (xs (k + 1)) (by rw [nI_clamp (show k + 1 < 2 ^ 31 by omega)]) ?_
      refine lv_aload_n hx hb dL_law_212 rfl (lv_at hl 0 rfl) ?_
      refine lv_iload_n hx hb dL_law_213 rfl (lv_at hl 3 rfl) ?_
      refine lv_iconst (v := 2) hx hb dL_law_214 (by decide) ?_
      refine lv_iadd hx hb dL_law_215 ?_
      refine z_top (nI (k + 2)) (nI_add k 2) ?_
      refine va_sld hx hb hX hbl hbA hS (vp_in_nI (show k + 2 < L by omega) (by omega)) dL_law_216 ?_
      refine z_top (xs (k + 2)) (by rw [nI_clamp (show k + 2 < 2 ^ 31 by omega)]) ?_
      have hq9 : cp_dial T Q (xs (k + 1)) (xs (k + 2)) = sp_dial T Q M (xs (k + 1)) (xs (k + 2)) ∧ Iv (sp_dial T Q M (xs (k + 1)) (xs (k + 2))).2.1 := q_dial hI (xs (k + 1)) (xs (k + 2))
      obtain ⟨vs9, ho9⟩ := clV_o hV
      refine z_invV F (rest := []) (c_dial l T Q hV (xs (k + 1)) (xs (k + 2))) yv_L_31 ⟨Nat.le_of_ble_eq_true rfl, Nat.le_of_ble_eq_true rfl⟩ hw hA hS hl ho9 rfl rfl rfl (Nat.le_of_ble_eq_true rfl) dL_law_217 ⟨Nat.le_of_ble_eq_true rfl, Nat.le_of_ble_eq_true rfl⟩ (fun r ad1 ce13 H locs hp hw hS => ?_)
      rw [hq9.1] at hp
      obtain ⟨rfl, rfl, hV, hF2⟩ := hp
      have hR9 := rfV_k hR9 hF2
      refine W.eq (g2 := F0 m 220 ls [.int (sp_dial T Q M (xs (k + 1)) (xs (k + 2))).1]) rfl ?_
      refine lv_aload_n hx hb dL_law_220 rfl (lv_at hl 2 rfl) ?_
      refine lv_aload_n hx hb dL_law_221 rfl (lv_at hl 0 rfl) ?_
      refine lv_iload_n hx hb dL_law_222 rfl (lv_at hl 3 rfl) ?_
      refine lv_iconst (v := 1) hx hb dL_law_223 (by decide) ?_
      refine lv_iadd hx hb dL_law_224 ?_
      refine z_top (nI (k + 1)) (nI_add k 1) ?_
      refine va_sld hx hb hX hbl hbA hS (vp_in_nI (show k + 1 < L by omega) (by omega)) dL_law_225 ?_
      refine z_top (xs (k + 1)) (by rw [nI_clamp (show k + 1 < 2 ^ 31 by omega)]) ?_
      refine lv_aload_n hx hb dL_law_226 rfl (lv_at hl 0 rfl) ?_
      refine lv_iload_n hx hb dL_law_227 rfl (lv_at hl 3 rfl) ?_
      refine lv_iconst (v := 2) hx hb dL_law_228 (by decide) ?_
      refine lv_iadd hx hb dL_law_229 ?_
      refine z_top (nI (k + 2)) (nI_add k 2) ?_
      refine va_sld hx hb hX hbl hbA hS (vp_in_nI (show k + 2 < L by omega) (by omega)) dL_law_230 ?_
      refine z_top (xs (k + 2)) (by rw [nI_clamp (show k + 2 < 2 ^ 31 by omega)]) ?_
      obtain ⟨vs9, ho9⟩ := rfV_o hR9
      refine z_invV F (rest := [.int (sp_dial T Q M (xs (k + 1)) (xs (k + 2))).1]) (r_dial l T Q M hR9 (xs (k + 1)) (xs (k + 2))) yv_L_35 ⟨Nat.le_of_ble_eq_true rfl, Nat.le_of_ble_eq_true rfl⟩ hw hA hS hl ho9 rfl rfl rfl (Nat.le_of_ble_eq_true rfl) dL_law_231 ⟨Nat.le_of_ble_eq_true rfl, Nat.le_of_ble_eq_true rfl⟩ (fun r ad1 ce14 H locs hp hw hS => ?_)
      obtain ⟨rfl, rfl, hR9, hF2⟩ := hp
      have hV := clV_k hV hF2
      refine W.eq (g2 := F0 m 234 ls [.int (sp_dial T Q M (xs (k + 1)) (xs (k + 2))).1, .int (sp_dial T Q M (xs (k + 1)) (xs (k + 2))).1]) rfl ?_
      refine lv_icmp_eq (tgt := 637) hx hb dL_law_234 (by decide) (fun c234 => ?_) (fun c234 => absurd rfl c234)
      refine lv_iinc (v := nI (k + 5)) (lv' := [(3, .int (nI (k + 5))), (0, .ref b), (1, .ref (ad 0)), (2, .ref (ad 100))]) hx hb dL_law_637 hl (k := 3) rfl (nI_add k 5) (by decide) rfl (fun ls hl => ?_)
      refine lv_goto (tgt := 48) hx hb dL_law_640 (by decide) ?_
      exact ih48 (k + 5, (sp_dial T Q M (xs (k + 1)) (xs (k + 2))).2.1, (sp_dial T Q M (xs (k + 1)) (xs (k + 2))).2.2, M) _ _ _ _ (by show L + 8 - (k + 5) < L + 8 - k; omega) ⟨lv_sub hl [1, 2, 3, 0] rfl, hR9, hV, hq9.2, by show 3 ≤ k + 5; omega, by show k + 5 ≤ L + 5; omega⟩ hw hS
    by_cases h62_3 : (((xs (k)) &&& 31) : Int32) = 3
    · refine lv_tableIn (tgt := 239) (off := 177) hx hb dL_law_62 (by rw [h62_3]; decide) (by rw [h62_3]; decide) (by rw [h62_3]; rfl) (by decide) ?_
      refine lv_aload_n hx hb dL_law_239 rfl (lv_at hl 1 rfl) ?_
      have hq9 : cp_hang T Q = sp_hang T Q M ∧ Iv (sp_hang T Q M).2.1 := q_hang hI
      obtain ⟨vs9, ho9⟩ := clV_o hV
      refine z_invV F (rest := []) (c_hang l T Q hV) yv_L_36 ⟨Nat.le_of_ble_eq_true rfl, Nat.le_of_ble_eq_true rfl⟩ hw hA hS hl ho9 rfl rfl rfl (Nat.le_of_ble_eq_true rfl) dL_law_240 ⟨Nat.le_of_ble_eq_true rfl, Nat.le_of_ble_eq_true rfl⟩ (fun r ad1 ce15 H locs hp hw hS => ?_)
      rw [hq9.1] at hp
      obtain ⟨rfl, rfl, hV, hF2⟩ := hp
      have hR9 := rfV_k hR9 hF2
      refine W.eq (g2 := F0 m 243 ls [.int (sp_hang T Q M).1]) rfl ?_
      refine lv_aload_n hx hb dL_law_243 rfl (lv_at hl 2 rfl) ?_
      obtain ⟨vs9, ho9⟩ := rfV_o hR9
      refine z_invV F (rest := [.int (sp_hang T Q M).1]) (r_hang l T Q M hR9) yv_L_40 ⟨Nat.le_of_ble_eq_true rfl, Nat.le_of_ble_eq_true rfl⟩ hw hA hS hl ho9 rfl rfl rfl (Nat.le_of_ble_eq_true rfl) dL_law_244 ⟨Nat.le_of_ble_eq_true rfl, Nat.le_of_ble_eq_true rfl⟩ (fun r ad1 ce16 H locs hp hw hS => ?_)
      obtain ⟨rfl, rfl, hR9, hF2⟩ := hp
      have hV := clV_k hV hF2
      refine W.eq (g2 := F0 m 247 ls [.int (sp_hang T Q M).1, .int (sp_hang T Q M).1]) rfl ?_
      refine lv_icmp_eq (tgt := 637) hx hb dL_law_247 (by decide) (fun c247 => ?_) (fun c247 => absurd rfl c247)
      refine lv_iinc (v := nI (k + 5)) (lv' := [(3, .int (nI (k + 5))), (0, .ref b), (1, .ref (ad 0)), (2, .ref (ad 100))]) hx hb dL_law_637 hl (k := 3) rfl (nI_add k 5) (by decide) rfl (fun ls hl => ?_)
      refine lv_goto (tgt := 48) hx hb dL_law_640 (by decide) ?_
      exact ih48 (k + 5, (sp_hang T Q M).2.1, (sp_hang T Q M).2.2, M) _ _ _ _ (by show L + 8 - (k + 5) < L + 8 - k; omega) ⟨lv_sub hl [1, 2, 3, 0] rfl, hR9, hV, hq9.2, by show 3 ≤ k + 5; omega, by show k + 5 ≤ L + 5; omega⟩ hw hS
    by_cases h62_4 : (((xs (k)) &&& 31) : Int32) = 4
    · refine lv_tableIn (tgt := 252) (off := 190) hx hb dL_law_62 (by rw [h62_4]; decide) (by rw [h62_4]; decide) (by rw [h62_4]; rfl) (by decide) ?_
      refine lv_aload_n hx hb dL_law_252 rfl (lv_at hl 1 rfl) ?_
      have hq9 : cp_alert T Q = sp_alert T Q M ∧ Iv (sp_alert T Q M).2.1 := q_alert hI
      obtain ⟨vs9, ho9⟩ := clV_o hV
      refine z_invV F (rest := []) (c_alert l T Q hV) yv_L_41 ⟨Nat.le_of_ble_eq_true rfl, Nat.le_of_ble_eq_true rfl⟩ hw hA hS hl ho9 rfl rfl rfl (Nat.le_of_ble_eq_true rfl) dL_law_253 ⟨Nat.le_of_ble_eq_true rfl, Nat.le_of_ble_eq_true rfl⟩ (fun r ad1 ce17 H locs hp hw hS => ?_)
      rw [hq9.1] at hp
      obtain ⟨rfl, rfl, hV, hF2⟩ := hp
      have hR9 := rfV_k hR9 hF2
      refine W.eq (g2 := F0 m 256 ls [.int (sp_alert T Q M).1]) rfl ?_
      refine lv_aload_n hx hb dL_law_256 rfl (lv_at hl 2 rfl) ?_
      obtain ⟨vs9, ho9⟩ := rfV_o hR9
      refine z_invV F (rest := [.int (sp_alert T Q M).1]) (r_alert l T Q M hR9) yv_L_44 ⟨Nat.le_of_ble_eq_true rfl, Nat.le_of_ble_eq_true rfl⟩ hw hA hS hl ho9 rfl rfl rfl (Nat.le_of_ble_eq_true rfl) dL_law_257 ⟨Nat.le_of_ble_eq_true rfl, Nat.le_of_ble_eq_true rfl⟩ (fun r ad1 ce18 H locs hp hw hS => ?_)
      obtain ⟨rfl, rfl, hR9, hF2⟩ := hp
      have hV := clV_k hV hF2
      refine W.eq (g2 := F0 m 260 ls [.int (sp_alert T Q M).1, .int (sp_alert T Q M).1]) rfl ?_
      refine lv_icmp_eq (tgt := 637) hx hb dL_law_260 (by decide) (fun c260 => ?_) (fun c260 => absurd rfl c260)
      refine lv_iinc (v := nI (k + 5)) (lv' := [(3, .int (nI (k + 5))), (0, .ref b), (1, .ref (ad 0)), (2, .ref (ad 100))]) hx hb dL_law_637 hl (k := 3) rfl (nI_add k 5) (by decide) rfl (fun ls hl => ?_)
      refine lv_goto (tgt := 48) hx hb dL_law_640 (by decide) ?_
      exact ih48 (k + 5, (sp_alert T Q M).2.1, (sp_alert T Q M).2.2, M) _ _ _ _ (by show L + 8 - (k + 5) < L + 8 - k; omega) ⟨lv_sub hl [1, 2, 3, 0] rfl, hR9, hV, hq9.2, by show 3 ≤ k + 5; omega, by show k + 5 ≤ L + 5; omega⟩ hw hS
    by_cases h62_5 : (((xs (k)) &&& 31) : Int32) = 5
    · refine lv_tableIn (tgt := 265) (off := 203) hx hb dL_law_62 (by rw [h62_5]; decide) (by rw [h62_5]; decide) (by rw [h62_5]; rfl) (by decide) ?_
      refine lv_aload_n hx hb dL_law_265 rfl (lv_at hl 1 rfl) ?_
      have hq9 : cp_answer T Q = sp_answer T Q M ∧ Iv (sp_answer T Q M).2.1 := q_answer hI
      obtain ⟨vs9, ho9⟩ := clV_o hV
      refine z_invV F (rest := []) (c_answer l T Q hV) yv_L_45 ⟨Nat.le_of_ble_eq_true rfl, Nat.le_of_ble_eq_true rfl⟩ hw hA hS hl ho9 rfl rfl rfl (Nat.le_of_ble_eq_true rfl) dL_law_266 ⟨Nat.le_of_ble_eq_true rfl, Nat.le_of_ble_eq_true rfl⟩ (fun r ad1 ce19 H locs hp hw hS => ?_)
      rw [hq9.1] at hp
      obtain ⟨rfl, rfl, hV, hF2⟩ := hp
      have hR9 := rfV_k hR9 hF2
      refine W.eq (g2 := F0 m 269 ls [.int (sp_answer T Q M).1]) rfl ?_
      refine lv_aload_n hx hb dL_law_269 rfl (lv_at hl 2 rfl) ?_
      obtain ⟨vs9, ho9⟩ := rfV_o hR9
      refine z_invV F (rest := [.int (sp_answer T Q M).1]) (r_answer l T Q M hR9) yv_L_48 ⟨Nat.le_of_ble_eq_true rfl, Nat.le_of_ble_eq_true rfl⟩ hw hA hS hl ho9 rfl rfl rfl (Nat.le_of_ble_eq_true rfl) dL_law_270 ⟨Nat.le_of_ble_eq_true rfl, Nat.le_of_ble_eq_true rfl⟩ (fun r ad1 ce20 H locs hp hw hS => ?_)
      obtain ⟨rfl, rfl, hR9, hF2⟩ := hp
      have hV := clV_k hV hF2
      refine W.eq (g2 := F0 m 273 ls [.int (sp_answer T Q M).1, .int (sp_answer T Q M).1]) rfl ?_
      refine lv_icmp_eq (tgt := 637) hx hb dL_law_273 (by decide) (fun c273 => ?_) (fun c273 => absurd rfl c273)
      refine lv_iinc (v := nI (k + 5)) (lv' := [(3, .int (nI (k + 5))), (0, .ref b), (1, .ref (ad 0)), (2, .ref (ad 100))]) hx hb dL_law_637 hl (k := 3) rfl (nI_add k 5) (by decide) rfl (fun ls hl => ?_)
      refine lv_goto (tgt := 48) hx hb dL_law_640 (by decide) ?_
      exact ih48 (k + 5, (sp_answer T Q M).2.1, (sp_answer T Q M).2.2, M) _ _ _ _ (by show L + 8 - (k + 5) < L + 8 - k; omega) ⟨lv_sub hl [1, 2, 3, 0] rfl, hR9, hV, hq9.2, by show 3 ≤ k + 5; omega, by show k + 5 ≤ L + 5; omega⟩ hw hS
    by_cases h62_6 : (((xs (k)) &&& 31) : Int32) = 6
    · refine lv_tableIn (tgt := 278) (off := 216) hx hb dL_law_62 (by rw [h62_6]; decide) (by rw [h62_6]; decide) (by rw [h62_6]; rfl) (by decide) ?_
      refine lv_aload_n hx hb dL_law_278 rfl (lv_at hl 1 rfl) ?_
      refine lv_aload_n hx hb dL_law_279 rfl (lv_at hl 0 rfl) ?_
      refine lv_iload_n hx hb dL_law_280 rfl (lv_at hl 3 rfl) ?_
      refine lv_iconst (v := 1) hx hb dL_law_281 (by decide) ?_
      refine lv_iadd hx hb dL_law_282 ?_
      refine z_top (nI (k + 1)) (nI_add k 1) ?_
      refine va_sld hx hb hX hbl hbA hS (vp_in_nI (show k + 1 < L by omega) (by omega)) dL_law_283 ?_
      refine z_top (xs (k + 1)) (by rw [nI_clamp (show k + 1 < 2 ^ 31 by omega)]) ?_
      have hq9 : cp_clear T Q (xs (k + 1)) = sp_clear T Q M (xs (k + 1)) ∧ Iv (sp_clear T Q M (xs (k + 1))).2.1 := q_clear hI (xs (k + 1))
      obtain ⟨vs9, ho9⟩ := clV_o hV
      refine z_invV F (rest := []) (c_clear l T Q hV (xs (k + 1))) yv_L_49 ⟨Nat.le_of_ble_eq_true rfl, Nat.le_of_ble_eq_true rfl⟩ hw hA hS hl ho9 rfl rfl rfl (Nat.le_of_ble_eq_true rfl) dL_law_284 ⟨Nat.le_of_ble_eq_true rfl, Nat.le_of_ble_eq_true rfl⟩ (fun r ad1 ce21 H locs hp hw hS => ?_)
      rw [hq9.1] at hp
      obtain ⟨rfl, rfl, hV, hF2⟩ := hp
      have hR9 := rfV_k hR9 hF2
      refine W.eq (g2 := F0 m 287 ls [.int (sp_clear T Q M (xs (k + 1))).1]) rfl ?_
      refine lv_aload_n hx hb dL_law_287 rfl (lv_at hl 2 rfl) ?_
      refine lv_aload_n hx hb dL_law_288 rfl (lv_at hl 0 rfl) ?_
      refine lv_iload_n hx hb dL_law_289 rfl (lv_at hl 3 rfl) ?_
      refine lv_iconst (v := 1) hx hb dL_law_290 (by decide) ?_
      refine lv_iadd hx hb dL_law_291 ?_
      refine z_top (nI (k + 1)) (nI_add k 1) ?_
      refine va_sld hx hb hX hbl hbA hS (vp_in_nI (show k + 1 < L by omega) (by omega)) dL_law_292 ?_
      refine z_top (xs (k + 1)) (by rw [nI_clamp (show k + 1 < 2 ^ 31 by omega)]) ?_
      obtain ⟨vs9, ho9⟩ := rfV_o hR9
      refine z_invV F (rest := [.int (sp_clear T Q M (xs (k + 1))).1]) (r_clear l T Q M hR9 (xs (k + 1))) yv_L_52 ⟨Nat.le_of_ble_eq_true rfl, Nat.le_of_ble_eq_true rfl⟩ hw hA hS hl ho9 rfl rfl rfl (Nat.le_of_ble_eq_true rfl) dL_law_293 ⟨Nat.le_of_ble_eq_true rfl, Nat.le_of_ble_eq_true rfl⟩ (fun r ad1 ce22 H locs hp hw hS => ?_)
      obtain ⟨rfl, rfl, hR9, hF2⟩ := hp
      have hV := clV_k hV hF2
      refine W.eq (g2 := F0 m 296 ls [.int (sp_clear T Q M (xs (k + 1))).1, .int (sp_clear T Q M (xs (k + 1))).1]) rfl ?_
      refine lv_icmp_eq (tgt := 637) hx hb dL_law_296 (by decide) (fun c296 => ?_) (fun c296 => absurd rfl c296)
      refine lv_iinc (v := nI (k + 5)) (lv' := [(3, .int (nI (k + 5))), (0, .ref b), (1, .ref (ad 0)), (2, .ref (ad 100))]) hx hb dL_law_637 hl (k := 3) rfl (nI_add k 5) (by decide) rfl (fun ls hl => ?_)
      refine lv_goto (tgt := 48) hx hb dL_law_640 (by decide) ?_
      exact ih48 (k + 5, (sp_clear T Q M (xs (k + 1))).2.1, (sp_clear T Q M (xs (k + 1))).2.2, M) _ _ _ _ (by show L + 8 - (k + 5) < L + 8 - k; omega) ⟨lv_sub hl [1, 2, 3, 0] rfl, hR9, hV, hq9.2, by show 3 ≤ k + 5; omega, by show k + 5 ≤ L + 5; omega⟩ hw hS
    by_cases h62_7 : (((xs (k)) &&& 31) : Int32) = 7
    · refine lv_tableIn (tgt := 301) (off := 239) hx hb dL_law_62 (by rw [h62_7]; decide) (by rw [h62_7]; decide) (by rw [h62_7]; rfl) (by decide) ?_
      refine lv_aload_n hx hb dL_law_301 rfl (lv_at hl 1 rfl) ?_
      refine lv_aload_n hx hb dL_law_302 rfl (lv_at hl 0 rfl) ?_
      refine lv_iload_n hx hb dL_law_303 rfl (lv_at hl 3 rfl) ?_
      refine lv_iconst (v := 1) hx hb dL_law_304 (by decide) ?_
      refine lv_iadd hx hb dL_law_305 ?_
      refine z_top (nI (k + 1)) (nI_add k 1) ?_
      refine va_sld hx hb hX hbl hbA hS (vp_in_nI (show k + 1 < L by omega) (by omega)) dL_law_306 ?_
      refine z_top (xs (k + 1)) (by rw [nI_clamp (show k + 1 < 2 ^ 31 by omega)]) ?_
      have hq9 : Iv (sp_accept T Q M (xs (k + 1))).2.1 := Iv_o3 hI
      obtain ⟨vs9, ho9⟩ := clV_o hV
      refine z_invV F (rest := []) (c_accept l T Q hV (xs (k + 1))) yv_L_53 ⟨Nat.le_of_ble_eq_true rfl, Nat.le_of_ble_eq_true rfl⟩ hw hA hS hl ho9 rfl rfl rfl (Nat.le_of_ble_eq_true rfl) dL_law_307 ⟨Nat.le_of_ble_eq_true rfl, Nat.le_of_ble_eq_true rfl⟩ (fun r ad1 ce23 H locs hp hw hS => ?_)
      obtain ⟨rfl, rfl, hV, hF2⟩ := hp
      have hR9 := rfV_k hR9 hF2
      refine W.eq (g2 := F0 m 310 ls [.int 1]) rfl ?_
      refine lv_aload_n hx hb dL_law_310 rfl (lv_at hl 2 rfl) ?_
      refine lv_aload_n hx hb dL_law_311 rfl (lv_at hl 0 rfl) ?_
      refine lv_iload_n hx hb dL_law_312 rfl (lv_at hl 3 rfl) ?_
      refine lv_iconst (v := 1) hx hb dL_law_313 (by decide) ?_
      refine lv_iadd hx hb dL_law_314 ?_
      refine z_top (nI (k + 1)) (nI_add k 1) ?_
      refine va_sld hx hb hX hbl hbA hS (vp_in_nI (show k + 1 < L by omega) (by omega)) dL_law_315 ?_
      refine z_top (xs (k + 1)) (by rw [nI_clamp (show k + 1 < 2 ^ 31 by omega)]) ?_
      obtain ⟨vs9, ho9⟩ := rfV_o hR9
      refine z_invV F (rest := [.int 1]) (r_accept l T Q M hR9 (xs (k + 1))) yv_L_56 ⟨Nat.le_of_ble_eq_true rfl, Nat.le_of_ble_eq_true rfl⟩ hw hA hS hl ho9 rfl rfl rfl (Nat.le_of_ble_eq_true rfl) dL_law_316 ⟨Nat.le_of_ble_eq_true rfl, Nat.le_of_ble_eq_true rfl⟩ (fun r ad1 ce24 H locs hp hw hS => ?_)
      obtain ⟨rfl, rfl, hR9, hF2⟩ := hp
      have hV := clV_k hV hF2
      refine W.eq (g2 := F0 m 319 ls [.int (sp_accept T Q M (xs (k + 1))).1, .int 1]) rfl ?_
      refine lv_icmp_eq (tgt := 637) hx hb dL_law_319 (by decide) (fun c319 => ?_) (fun c319 => absurd rfl c319)
      refine lv_iinc (v := nI (k + 5)) (lv' := [(3, .int (nI (k + 5))), (0, .ref b), (1, .ref (ad 0)), (2, .ref (ad 100))]) hx hb dL_law_637 hl (k := 3) rfl (nI_add k 5) (by decide) rfl (fun ls hl => ?_)
      refine lv_goto (tgt := 48) hx hb dL_law_640 (by decide) ?_
      exact ih48 (k + 5, (sp_accept T Q M (xs (k + 1))).2.1, (sp_accept T Q M (xs (k + 1))).2.2, M) _ _ _ _ (by show L + 8 - (k + 5) < L + 8 - k; omega) ⟨lv_sub hl [1, 2, 3, 0] rfl, hR9, hV, hq9, by show 3 ≤ k + 5; omega, by show k + 5 ≤ L + 5; omega⟩ hw hS
    by_cases h62_8 : (((xs (k)) &&& 31) : Int32) = 8
    · refine lv_tableIn (tgt := 324) (off := 262) hx hb dL_law_62 (by rw [h62_8]; decide) (by rw [h62_8]; decide) (by rw [h62_8]; rfl) (by decide) ?_
      refine lv_aload_n hx hb dL_law_324 rfl (lv_at hl 1 rfl) ?_
      refine lv_aload_n hx hb dL_law_325 rfl (lv_at hl 0 rfl) ?_
      refine lv_iload_n hx hb dL_law_326 rfl (lv_at hl 3 rfl) ?_
      refine lv_iconst (v := 1) hx hb dL_law_327 (by decide) ?_
      refine lv_iadd hx hb dL_law_328 ?_
      refine z_top (nI (k + 1)) (nI_add k 1) ?_
      refine va_sld hx hb hX hbl hbA hS (vp_in_nI (show k + 1 < L by omega) (by omega)) dL_law_329 ?_
      refine z_top (xs (k + 1)) (by rw [nI_clamp (show k + 1 < 2 ^ 31 by omega)]) ?_
      refine lv_if_eq (tgt := 337) hx hb dL_law_330 (by decide) (fun c330 => ?_) (fun c330 => ?_)
      · refine lv_iconst (v := 0) hx hb dL_law_337 (by decide) ?_
        have hq9 : cp_radio0 T Q = sp_radio0 T Q M ∧ Iv (sp_radio0 T Q M).2.1 := q_radio0 hI
        obtain ⟨vs9, ho9⟩ := clV_o hV
        refine z_invV F (rest := []) (c_radio0 l T Q hV) yv_L_57 ⟨Nat.le_of_ble_eq_true rfl, Nat.le_of_ble_eq_true rfl⟩ hw hA hS hl ho9 rfl rfl rfl (Nat.le_of_ble_eq_true rfl) dL_law_338 ⟨Nat.le_of_ble_eq_true rfl, Nat.le_of_ble_eq_true rfl⟩ (fun r ad1 ce25 H locs hp hw hS => ?_)
        rw [hq9.1] at hp
        obtain ⟨rfl, rfl, hV, hF2⟩ := hp
        have hR9 := rfV_k hR9 hF2
        refine W.eq (g2 := F0 m 341 ls [.int (sp_radio0 T Q M).1]) rfl ?_
        refine lv_aload_n hx hb dL_law_341 rfl (lv_at hl 2 rfl) ?_
        refine lv_aload_n hx hb dL_law_342 rfl (lv_at hl 0 rfl) ?_
        refine lv_iload_n hx hb dL_law_343 rfl (lv_at hl 3 rfl) ?_
        refine lv_iconst (v := 1) hx hb dL_law_344 (by decide) ?_
        refine lv_iadd hx hb dL_law_345 ?_
        refine z_top (nI (k + 1)) (nI_add k 1) ?_
        refine va_sld hx hb hX hbl hbA hS (vp_in_nI (show k + 1 < L by omega) (by omega)) dL_law_346 ?_
        refine z_top (xs (k + 1)) (by rw [nI_clamp (show k + 1 < 2 ^ 31 by omega)]) ?_
        refine lv_if_eq (tgt := 354) hx hb dL_law_347 (by decide) (fun c347 => ?_) (fun c347 => absurd c330 c347)
        refine lv_iconst (v := 0) hx hb dL_law_354 (by decide) ?_
        obtain ⟨vs9, ho9⟩ := rfV_o hR9
        refine z_invV F (rest := [.int (sp_radio0 T Q M).1]) (r_radio0 l T Q M hR9) yv_L_60 ⟨Nat.le_of_ble_eq_true rfl, Nat.le_of_ble_eq_true rfl⟩ hw hA hS hl ho9 rfl rfl rfl (Nat.le_of_ble_eq_true rfl) dL_law_355 ⟨Nat.le_of_ble_eq_true rfl, Nat.le_of_ble_eq_true rfl⟩ (fun r ad1 ce26 H locs hp hw hS => ?_)
        obtain ⟨rfl, rfl, hR9, hF2⟩ := hp
        have hV := clV_k hV hF2
        refine W.eq (g2 := F0 m 358 ls [.int (sp_radio0 T Q M).1, .int (sp_radio0 T Q M).1]) rfl ?_
        refine lv_icmp_eq (tgt := 637) hx hb dL_law_358 (by decide) (fun c358 => ?_) (fun c358 => absurd rfl c358)
        refine lv_iinc (v := nI (k + 5)) (lv' := [(3, .int (nI (k + 5))), (0, .ref b), (1, .ref (ad 0)), (2, .ref (ad 100))]) hx hb dL_law_637 hl (k := 3) rfl (nI_add k 5) (by decide) rfl (fun ls hl => ?_)
        refine lv_goto (tgt := 48) hx hb dL_law_640 (by decide) ?_
        exact ih48 (k + 5, (sp_radio0 T Q M).2.1, (sp_radio0 T Q M).2.2, M) _ _ _ _ (by show L + 8 - (k + 5) < L + 8 - k; omega) ⟨lv_sub hl [1, 2, 3, 0] rfl, hR9, hV, hq9.2, by show 3 ≤ k + 5; omega, by show k + 5 ≤ L + 5; omega⟩ hw hS
      · refine lv_iconst (v := 1) hx hb dL_law_333 (by decide) ?_
        refine lv_goto (tgt := 338) hx hb dL_law_334 (by decide) ?_
        have hq9 : cp_radio1 T Q = sp_radio1 T Q M ∧ Iv (sp_radio1 T Q M).2.1 := q_radio1 hI
        obtain ⟨vs9, ho9⟩ := clV_o hV
        refine z_invV F (rest := []) (c_radio1 l T Q hV) yv_L_57 ⟨Nat.le_of_ble_eq_true rfl, Nat.le_of_ble_eq_true rfl⟩ hw hA hS hl ho9 rfl rfl rfl (Nat.le_of_ble_eq_true rfl) dL_law_338 ⟨Nat.le_of_ble_eq_true rfl, Nat.le_of_ble_eq_true rfl⟩ (fun r ad1 ce27 H locs hp hw hS => ?_)
        rw [hq9.1] at hp
        obtain ⟨rfl, rfl, hV, hF2⟩ := hp
        have hR9 := rfV_k hR9 hF2
        refine W.eq (g2 := F0 m 341 ls [.int (sp_radio1 T Q M).1]) rfl ?_
        refine lv_aload_n hx hb dL_law_341 rfl (lv_at hl 2 rfl) ?_
        refine lv_aload_n hx hb dL_law_342 rfl (lv_at hl 0 rfl) ?_
        refine lv_iload_n hx hb dL_law_343 rfl (lv_at hl 3 rfl) ?_
        refine lv_iconst (v := 1) hx hb dL_law_344 (by decide) ?_
        refine lv_iadd hx hb dL_law_345 ?_
        refine z_top (nI (k + 1)) (nI_add k 1) ?_
        refine va_sld hx hb hX hbl hbA hS (vp_in_nI (show k + 1 < L by omega) (by omega)) dL_law_346 ?_
        refine z_top (xs (k + 1)) (by rw [nI_clamp (show k + 1 < 2 ^ 31 by omega)]) ?_
        refine lv_if_eq (tgt := 354) hx hb dL_law_347 (by decide) (fun c347 => absurd c347 c330) (fun c347 => ?_)
        refine lv_iconst (v := 1) hx hb dL_law_350 (by decide) ?_
        refine lv_goto (tgt := 355) hx hb dL_law_351 (by decide) ?_
        obtain ⟨vs9, ho9⟩ := rfV_o hR9
        refine z_invV F (rest := [.int (sp_radio1 T Q M).1]) (r_radio1 l T Q M hR9) yv_L_60 ⟨Nat.le_of_ble_eq_true rfl, Nat.le_of_ble_eq_true rfl⟩ hw hA hS hl ho9 rfl rfl rfl (Nat.le_of_ble_eq_true rfl) dL_law_355 ⟨Nat.le_of_ble_eq_true rfl, Nat.le_of_ble_eq_true rfl⟩ (fun r ad1 ce28 H locs hp hw hS => ?_)
        obtain ⟨rfl, rfl, hR9, hF2⟩ := hp
        have hV := clV_k hV hF2
        refine W.eq (g2 := F0 m 358 ls [.int (sp_radio1 T Q M).1, .int (sp_radio1 T Q M).1]) rfl ?_
        refine lv_icmp_eq (tgt := 637) hx hb dL_law_358 (by decide) (fun c358 => ?_) (fun c358 => absurd rfl c358)
        refine lv_iinc (v := nI (k + 5)) (lv' := [(3, .int (nI (k + 5))), (0, .ref b), (1, .ref (ad 0)), (2, .ref (ad 100))]) hx hb dL_law_637 hl (k := 3) rfl (nI_add k 5) (by decide) rfl (fun ls hl => ?_)
        refine lv_goto (tgt := 48) hx hb dL_law_640 (by decide) ?_
        exact ih48 (k + 5, (sp_radio1 T Q M).2.1, (sp_radio1 T Q M).2.2, M) _ _ _ _ (by show L + 8 - (k + 5) < L + 8 - k; omega) ⟨lv_sub hl [1, 2, 3, 0] rfl, hR9, hV, hq9.2, by show 3 ≤ k + 5; omega, by show k + 5 ≤ L + 5; omega⟩ hw hS
    by_cases h62_9 : (((xs (k)) &&& 31) : Int32) = 9
    · refine lv_tableIn (tgt := 363) (off := 301) hx hb dL_law_62 (by rw [h62_9]; decide) (by rw [h62_9]; decide) (by rw [h62_9]; rfl) (by decide) ?_
      refine lv_aload_n hx hb dL_law_363 rfl (lv_at hl 1 rfl) ?_
      refine lv_aload_n hx hb dL_law_364 rfl (lv_at hl 0 rfl) ?_
      refine lv_iload_n hx hb dL_law_365 rfl (lv_at hl 3 rfl) ?_
      refine lv_iconst (v := 1) hx hb dL_law_366 (by decide) ?_
      refine lv_iadd hx hb dL_law_367 ?_
      refine z_top (nI (k + 1)) (nI_add k 1) ?_
      refine va_sld hx hb hX hbl hbA hS (vp_in_nI (show k + 1 < L by omega) (by omega)) dL_law_368 ?_
      refine z_top (xs (k + 1)) (by rw [nI_clamp (show k + 1 < 2 ^ 31 by omega)]) ?_
      by_cases hw0 : (xs (k + 1)) = 0
      · refine z_top 0 hw0 ?_
        have hq9 : cp_carry0 T Q = sp_carry0 T Q M ∧ Iv (sp_carry0 T Q M).2.1 := q_carry0 hI (hwf 0 (by decide)).1 (hwf 0 (by decide)).2.2
        obtain ⟨vs9, ho9⟩ := clV_o hV
        refine z_invV F (rest := []) (c_carry0 l T Q hV) yv_L_61 ⟨Nat.le_of_ble_eq_true rfl, Nat.le_of_ble_eq_true rfl⟩ hw hA hS hl ho9 rfl rfl rfl (Nat.le_of_ble_eq_true rfl) dL_law_369 ⟨Nat.le_of_ble_eq_true rfl, Nat.le_of_ble_eq_true rfl⟩ (fun r ad1 ce29 H locs hp hw hS => ?_)
        rw [hq9.1] at hp
        obtain ⟨rfl, rfl, hV, hF2⟩ := hp
        have hR9 := rfV_k hR9 hF2
        refine W.eq (g2 := F0 m 372 ls [.int (sp_carry0 T Q M).1]) rfl ?_
        refine lv_aload_n hx hb dL_law_372 rfl (lv_at hl 2 rfl) ?_
        refine lv_aload_n hx hb dL_law_373 rfl (lv_at hl 0 rfl) ?_
        refine lv_iload_n hx hb dL_law_374 rfl (lv_at hl 3 rfl) ?_
        refine lv_iconst (v := 1) hx hb dL_law_375 (by decide) ?_
        refine lv_iadd hx hb dL_law_376 ?_
        refine z_top (nI (k + 1)) (nI_add k 1) ?_
        refine va_sld hx hb hX hbl hbA hS (vp_in_nI (show k + 1 < L by omega) (by omega)) dL_law_377 ?_
        refine z_top (xs (k + 1)) (by rw [nI_clamp (show k + 1 < 2 ^ 31 by omega)]) ?_
        refine z_top 0 hw0 ?_
        obtain ⟨vs9, ho9⟩ := rfV_o hR9
        refine z_invV F (rest := [.int (sp_carry0 T Q M).1]) (r_carry0 l T Q M hR9) yv_L_64 ⟨Nat.le_of_ble_eq_true rfl, Nat.le_of_ble_eq_true rfl⟩ hw hA hS hl ho9 rfl rfl rfl (Nat.le_of_ble_eq_true rfl) dL_law_378 ⟨Nat.le_of_ble_eq_true rfl, Nat.le_of_ble_eq_true rfl⟩ (fun r ad1 ce30 H locs hp hw hS => ?_)
        obtain ⟨rfl, rfl, ⟨M1, hR9⟩, hF2⟩ := hp
        have hV := clV_k hV hF2
        refine W.eq (g2 := F0 m 381 ls [.int (sp_carry0 T Q M).1, .int (sp_carry0 T Q M).1]) rfl ?_
        refine lv_icmp_eq (tgt := 637) hx hb dL_law_381 (by decide) (fun c381 => ?_) (fun c381 => absurd rfl c381)
        refine lv_iinc (v := nI (k + 5)) (lv' := [(3, .int (nI (k + 5))), (0, .ref b), (1, .ref (ad 0)), (2, .ref (ad 100))]) hx hb dL_law_637 hl (k := 3) rfl (nI_add k 5) (by decide) rfl (fun ls hl => ?_)
        refine lv_goto (tgt := 48) hx hb dL_law_640 (by decide) ?_
        exact ih48 (k + 5, (sp_carry0 T Q M).2.1, (sp_carry0 T Q M).2.2, M1) _ _ _ _ (by show L + 8 - (k + 5) < L + 8 - k; omega) ⟨lv_sub hl [1, 2, 3, 0] rfl, hR9, hV, hq9.2, by show 3 ≤ k + 5; omega, by show k + 5 ≤ L + 5; omega⟩ hw hS
      by_cases hw1 : (xs (k + 1)) = 1
      · refine z_top 1 hw1 ?_
        have hq9 : cp_carry1 T Q d9 = sp_carry1 T Q M d9 ∧ Iv (sp_carry1 T Q M d9).2.1 := q_carry1 hI d9 (hwf 1 (by decide)).1 (hwf 1 (by decide)).2.2
        obtain ⟨vs9, ho9⟩ := clV_o hV
        refine z_invV F (rest := []) (c_carry1 l T Q hV d9 hd9 hdc9) yv_L_61 ⟨Nat.le_of_ble_eq_true rfl, Nat.le_of_ble_eq_true rfl⟩ hw hA hS hl ho9 rfl rfl rfl (Nat.le_of_ble_eq_true rfl) dL_law_369 ⟨Nat.le_of_ble_eq_true rfl, Nat.le_of_ble_eq_true rfl⟩ (fun r ad1 ce31 H locs hp hw hS => ?_)
        rw [hq9.1] at hp
        obtain ⟨rfl, rfl, hV, hF2⟩ := hp
        have hR9 := rfV_k hR9 hF2
        refine W.eq (g2 := F0 m 372 ls [.int (sp_carry1 T Q M d9).1]) rfl ?_
        refine lv_aload_n hx hb dL_law_372 rfl (lv_at hl 2 rfl) ?_
        refine lv_aload_n hx hb dL_law_373 rfl (lv_at hl 0 rfl) ?_
        refine lv_iload_n hx hb dL_law_374 rfl (lv_at hl 3 rfl) ?_
        refine lv_iconst (v := 1) hx hb dL_law_375 (by decide) ?_
        refine lv_iadd hx hb dL_law_376 ?_
        refine z_top (nI (k + 1)) (nI_add k 1) ?_
        refine va_sld hx hb hX hbl hbA hS (vp_in_nI (show k + 1 < L by omega) (by omega)) dL_law_377 ?_
        refine z_top (xs (k + 1)) (by rw [nI_clamp (show k + 1 < 2 ^ 31 by omega)]) ?_
        refine z_top 1 hw1 ?_
        obtain ⟨vs9, ho9⟩ := rfV_o hR9
        refine z_invV F (rest := [.int (sp_carry1 T Q M d9).1]) (r_carry1 l T Q M hR9 d9 hd9 hdc9) yv_L_64 ⟨Nat.le_of_ble_eq_true rfl, Nat.le_of_ble_eq_true rfl⟩ hw hA hS hl ho9 rfl rfl rfl (Nat.le_of_ble_eq_true rfl) dL_law_378 ⟨Nat.le_of_ble_eq_true rfl, Nat.le_of_ble_eq_true rfl⟩ (fun r ad1 ce32 H locs hp hw hS => ?_)
        obtain ⟨rfl, rfl, ⟨M1, hR9⟩, hF2⟩ := hp
        have hV := clV_k hV hF2
        refine W.eq (g2 := F0 m 381 ls [.int (sp_carry1 T Q M d9).1, .int (sp_carry1 T Q M d9).1]) rfl ?_
        refine lv_icmp_eq (tgt := 637) hx hb dL_law_381 (by decide) (fun c381 => ?_) (fun c381 => absurd rfl c381)
        refine lv_iinc (v := nI (k + 5)) (lv' := [(3, .int (nI (k + 5))), (0, .ref b), (1, .ref (ad 0)), (2, .ref (ad 100))]) hx hb dL_law_637 hl (k := 3) rfl (nI_add k 5) (by decide) rfl (fun ls hl => ?_)
        refine lv_goto (tgt := 48) hx hb dL_law_640 (by decide) ?_
        exact ih48 (k + 5, (sp_carry1 T Q M d9).2.1, (sp_carry1 T Q M d9).2.2, M1) _ _ _ _ (by show L + 8 - (k + 5) < L + 8 - k; omega) ⟨lv_sub hl [1, 2, 3, 0] rfl, hR9, hV, hq9.2, by show 3 ≤ k + 5; omega, by show k + 5 ≤ L + 5; omega⟩ hw hS
      have hnw : ¬ ((xs (k + 1)) = 0 ∨ (xs (k + 1)) = 1) := fun q => q.elim hw0 hw1
      have hq9 : cp_carryx T Q (xs (k + 1)) = sp_carryx T Q M (xs (k + 1)) ∧ Iv (sp_carryx T Q M (xs (k + 1))).2.1 := ⟨rfl, hI⟩
      obtain ⟨vs9, ho9⟩ := clV_o hV
      refine z_invV F (rest := []) (c_carryx l T Q hV (xs (k + 1)) hnw) yv_L_61 ⟨Nat.le_of_ble_eq_true rfl, Nat.le_of_ble_eq_true rfl⟩ hw hA hS hl ho9 rfl rfl rfl (Nat.le_of_ble_eq_true rfl) dL_law_369 ⟨Nat.le_of_ble_eq_true rfl, Nat.le_of_ble_eq_true rfl⟩ (fun r ad1 ce33 H locs hp hw hS => ?_)
      rw [hq9.1] at hp
      obtain ⟨rfl, rfl, hV, hF2⟩ := hp
      have hR9 := rfV_k hR9 hF2
      refine W.eq (g2 := F0 m 372 ls [.int (sp_carryx T Q M (xs (k + 1))).1]) rfl ?_
      refine lv_aload_n hx hb dL_law_372 rfl (lv_at hl 2 rfl) ?_
      refine lv_aload_n hx hb dL_law_373 rfl (lv_at hl 0 rfl) ?_
      refine lv_iload_n hx hb dL_law_374 rfl (lv_at hl 3 rfl) ?_
      refine lv_iconst (v := 1) hx hb dL_law_375 (by decide) ?_
      refine lv_iadd hx hb dL_law_376 ?_
      refine z_top (nI (k + 1)) (nI_add k 1) ?_
      refine va_sld hx hb hX hbl hbA hS (vp_in_nI (show k + 1 < L by omega) (by omega)) dL_law_377 ?_
      refine z_top (xs (k + 1)) (by rw [nI_clamp (show k + 1 < 2 ^ 31 by omega)]) ?_
      obtain ⟨vs9, ho9⟩ := rfV_o hR9
      refine z_invV F (rest := [.int (sp_carryx T Q M (xs (k + 1))).1]) (r_carryx l T Q M hR9 (xs (k + 1)) hnw) yv_L_64 ⟨Nat.le_of_ble_eq_true rfl, Nat.le_of_ble_eq_true rfl⟩ hw hA hS hl ho9 rfl rfl rfl (Nat.le_of_ble_eq_true rfl) dL_law_378 ⟨Nat.le_of_ble_eq_true rfl, Nat.le_of_ble_eq_true rfl⟩ (fun r ad1 ce34 H locs hp hw hS => ?_)
      obtain ⟨rfl, rfl, ⟨M1, hR9⟩, hF2⟩ := hp
      have hV := clV_k hV hF2
      refine W.eq (g2 := F0 m 381 ls [.int (sp_carryx T Q M (xs (k + 1))).1, .int (sp_carryx T Q M (xs (k + 1))).1]) rfl ?_
      refine lv_icmp_eq (tgt := 637) hx hb dL_law_381 (by decide) (fun c381 => ?_) (fun c381 => absurd rfl c381)
      refine lv_iinc (v := nI (k + 5)) (lv' := [(3, .int (nI (k + 5))), (0, .ref b), (1, .ref (ad 0)), (2, .ref (ad 100))]) hx hb dL_law_637 hl (k := 3) rfl (nI_add k 5) (by decide) rfl (fun ls hl => ?_)
      refine lv_goto (tgt := 48) hx hb dL_law_640 (by decide) ?_
      exact ih48 (k + 5, (sp_carryx T Q M (xs (k + 1))).2.1, (sp_carryx T Q M (xs (k + 1))).2.2, M1) _ _ _ _ (by show L + 8 - (k + 5) < L + 8 - k; omega) ⟨lv_sub hl [1, 2, 3, 0] rfl, hR9, hV, hq9.2, by show 3 ≤ k + 5; omega, by show k + 5 ≤ L + 5; omega⟩ hw hS
    by_cases h62_10 : (((xs (k)) &&& 31) : Int32) = 10
    · refine lv_tableIn (tgt := 386) (off := 324) hx hb dL_law_62 (by rw [h62_10]; decide) (by rw [h62_10]; decide) (by rw [h62_10]; rfl) (by decide) ?_
      refine lv_aload_n hx hb dL_law_386 rfl (lv_at hl 1 rfl) ?_
      refine lv_aload_n hx hb dL_law_387 rfl (lv_at hl 0 rfl) ?_
      refine lv_iload_n hx hb dL_law_388 rfl (lv_at hl 3 rfl) ?_
      refine lv_iconst (v := 1) hx hb dL_law_389 (by decide) ?_
      refine lv_iadd hx hb dL_law_390 ?_
      refine z_top (nI (k + 1)) (nI_add k 1) ?_
      refine va_sld hx hb hX hbl hbA hS (vp_in_nI (show k + 1 < L by omega) (by omega)) dL_law_391 ?_
      refine z_top (xs (k + 1)) (by rw [nI_clamp (show k + 1 < 2 ^ 31 by omega)]) ?_
      by_cases hw0 : (xs (k + 1)) = 0
      · refine z_top 0 hw0 ?_
        have hq9 : cp_lose0 T Q = sp_lose0 T Q M ∧ Iv (sp_lose0 T Q M).2.1 := q_lose0 hI (hwf 0 (by decide)).1
        obtain ⟨vs9, ho9⟩ := clV_o hV
        refine z_invV F (rest := []) (c_lose0 l T Q hV) yv_L_65 ⟨Nat.le_of_ble_eq_true rfl, Nat.le_of_ble_eq_true rfl⟩ hw hA hS hl ho9 rfl rfl rfl (Nat.le_of_ble_eq_true rfl) dL_law_392 ⟨Nat.le_of_ble_eq_true rfl, Nat.le_of_ble_eq_true rfl⟩ (fun r ad1 ce35 H locs hp hw hS => ?_)
        rw [hq9.1] at hp
        obtain ⟨rfl, rfl, hV, hF2⟩ := hp
        have hR9 := rfV_k hR9 hF2
        refine W.eq (g2 := F0 m 395 ls [.int (sp_lose0 T Q M).1]) rfl ?_
        refine lv_aload_n hx hb dL_law_395 rfl (lv_at hl 2 rfl) ?_
        refine lv_aload_n hx hb dL_law_396 rfl (lv_at hl 0 rfl) ?_
        refine lv_iload_n hx hb dL_law_397 rfl (lv_at hl 3 rfl) ?_
        refine lv_iconst (v := 1) hx hb dL_law_398 (by decide) ?_
        refine lv_iadd hx hb dL_law_399 ?_
        refine z_top (nI (k + 1)) (nI_add k 1) ?_
        refine va_sld hx hb hX hbl hbA hS (vp_in_nI (show k + 1 < L by omega) (by omega)) dL_law_400 ?_
        refine z_top (xs (k + 1)) (by rw [nI_clamp (show k + 1 < 2 ^ 31 by omega)]) ?_
        refine z_top 0 hw0 ?_
        obtain ⟨vs9, ho9⟩ := rfV_o hR9
        refine z_invV F (rest := [.int (sp_lose0 T Q M).1]) (r_lose0 l T Q M hR9) yv_L_68 ⟨Nat.le_of_ble_eq_true rfl, Nat.le_of_ble_eq_true rfl⟩ hw hA hS hl ho9 rfl rfl rfl (Nat.le_of_ble_eq_true rfl) dL_law_401 ⟨Nat.le_of_ble_eq_true rfl, Nat.le_of_ble_eq_true rfl⟩ (fun r ad1 ce36 H locs hp hw hS => ?_)
        obtain ⟨rfl, rfl, ⟨M1, hR9⟩, hF2⟩ := hp
        have hV := clV_k hV hF2
        refine W.eq (g2 := F0 m 404 ls [.int (sp_lose0 T Q M).1, .int (sp_lose0 T Q M).1]) rfl ?_
        refine lv_icmp_eq (tgt := 637) hx hb dL_law_404 (by decide) (fun c404 => ?_) (fun c404 => absurd rfl c404)
        refine lv_iinc (v := nI (k + 5)) (lv' := [(3, .int (nI (k + 5))), (0, .ref b), (1, .ref (ad 0)), (2, .ref (ad 100))]) hx hb dL_law_637 hl (k := 3) rfl (nI_add k 5) (by decide) rfl (fun ls hl => ?_)
        refine lv_goto (tgt := 48) hx hb dL_law_640 (by decide) ?_
        exact ih48 (k + 5, (sp_lose0 T Q M).2.1, (sp_lose0 T Q M).2.2, M1) _ _ _ _ (by show L + 8 - (k + 5) < L + 8 - k; omega) ⟨lv_sub hl [1, 2, 3, 0] rfl, hR9, hV, hq9.2, by show 3 ≤ k + 5; omega, by show k + 5 ≤ L + 5; omega⟩ hw hS
      by_cases hw1 : (xs (k + 1)) = 1
      · refine z_top 1 hw1 ?_
        have hq9 : cp_lose1 T Q = sp_lose1 T Q M ∧ Iv (sp_lose1 T Q M).2.1 := q_lose1 hI (hwf 1 (by decide)).1
        obtain ⟨vs9, ho9⟩ := clV_o hV
        refine z_invV F (rest := []) (c_lose1 l T Q hV) yv_L_65 ⟨Nat.le_of_ble_eq_true rfl, Nat.le_of_ble_eq_true rfl⟩ hw hA hS hl ho9 rfl rfl rfl (Nat.le_of_ble_eq_true rfl) dL_law_392 ⟨Nat.le_of_ble_eq_true rfl, Nat.le_of_ble_eq_true rfl⟩ (fun r ad1 ce37 H locs hp hw hS => ?_)
        rw [hq9.1] at hp
        obtain ⟨rfl, rfl, hV, hF2⟩ := hp
        have hR9 := rfV_k hR9 hF2
        refine W.eq (g2 := F0 m 395 ls [.int (sp_lose1 T Q M).1]) rfl ?_
        refine lv_aload_n hx hb dL_law_395 rfl (lv_at hl 2 rfl) ?_
        refine lv_aload_n hx hb dL_law_396 rfl (lv_at hl 0 rfl) ?_
        refine lv_iload_n hx hb dL_law_397 rfl (lv_at hl 3 rfl) ?_
        refine lv_iconst (v := 1) hx hb dL_law_398 (by decide) ?_
        refine lv_iadd hx hb dL_law_399 ?_
        refine z_top (nI (k + 1)) (nI_add k 1) ?_
        refine va_sld hx hb hX hbl hbA hS (vp_in_nI (show k + 1 < L by omega) (by omega)) dL_law_400 ?_
        refine z_top (xs (k + 1)) (by rw [nI_clamp (show k + 1 < 2 ^ 31 by omega)]) ?_
        refine z_top 1 hw1 ?_
        obtain ⟨vs9, ho9⟩ := rfV_o hR9
        refine z_invV F (rest := [.int (sp_lose1 T Q M).1]) (r_lose1 l T Q M hR9) yv_L_68 ⟨Nat.le_of_ble_eq_true rfl, Nat.le_of_ble_eq_true rfl⟩ hw hA hS hl ho9 rfl rfl rfl (Nat.le_of_ble_eq_true rfl) dL_law_401 ⟨Nat.le_of_ble_eq_true rfl, Nat.le_of_ble_eq_true rfl⟩ (fun r ad1 ce38 H locs hp hw hS => ?_)
        obtain ⟨rfl, rfl, ⟨M1, hR9⟩, hF2⟩ := hp
        have hV := clV_k hV hF2
        refine W.eq (g2 := F0 m 404 ls [.int (sp_lose1 T Q M).1, .int (sp_lose1 T Q M).1]) rfl ?_
        refine lv_icmp_eq (tgt := 637) hx hb dL_law_404 (by decide) (fun c404 => ?_) (fun c404 => absurd rfl c404)
        refine lv_iinc (v := nI (k + 5)) (lv' := [(3, .int (nI (k + 5))), (0, .ref b), (1, .ref (ad 0)), (2, .ref (ad 100))]) hx hb dL_law_637 hl (k := 3) rfl (nI_add k 5) (by decide) rfl (fun ls hl => ?_)
        refine lv_goto (tgt := 48) hx hb dL_law_640 (by decide) ?_
        exact ih48 (k + 5, (sp_lose1 T Q M).2.1, (sp_lose1 T Q M).2.2, M1) _ _ _ _ (by show L + 8 - (k + 5) < L + 8 - k; omega) ⟨lv_sub hl [1, 2, 3, 0] rfl, hR9, hV, hq9.2, by show 3 ≤ k + 5; omega, by show k + 5 ≤ L + 5; omega⟩ hw hS
      have hnw : ¬ ((xs (k + 1)) = 0 ∨ (xs (k + 1)) = 1) := fun q => q.elim hw0 hw1
      have hq9 : cp_losex T Q (xs (k + 1)) = sp_losex T Q M (xs (k + 1)) ∧ Iv (sp_losex T Q M (xs (k + 1))).2.1 := ⟨rfl, hI⟩
      obtain ⟨vs9, ho9⟩ := clV_o hV
      refine z_invV F (rest := []) (c_losex l T Q hV (xs (k + 1)) hnw) yv_L_65 ⟨Nat.le_of_ble_eq_true rfl, Nat.le_of_ble_eq_true rfl⟩ hw hA hS hl ho9 rfl rfl rfl (Nat.le_of_ble_eq_true rfl) dL_law_392 ⟨Nat.le_of_ble_eq_true rfl, Nat.le_of_ble_eq_true rfl⟩ (fun r ad1 ce39 H locs hp hw hS => ?_)
      rw [hq9.1] at hp
      obtain ⟨rfl, rfl, hV, hF2⟩ := hp
      have hR9 := rfV_k hR9 hF2
      refine W.eq (g2 := F0 m 395 ls [.int (sp_losex T Q M (xs (k + 1))).1]) rfl ?_
      refine lv_aload_n hx hb dL_law_395 rfl (lv_at hl 2 rfl) ?_
      refine lv_aload_n hx hb dL_law_396 rfl (lv_at hl 0 rfl) ?_
      refine lv_iload_n hx hb dL_law_397 rfl (lv_at hl 3 rfl) ?_
      refine lv_iconst (v := 1) hx hb dL_law_398 (by decide) ?_
      refine lv_iadd hx hb dL_law_399 ?_
      refine z_top (nI (k + 1)) (nI_add k 1) ?_
      refine va_sld hx hb hX hbl hbA hS (vp_in_nI (show k + 1 < L by omega) (by omega)) dL_law_400 ?_
      refine z_top (xs (k + 1)) (by rw [nI_clamp (show k + 1 < 2 ^ 31 by omega)]) ?_
      obtain ⟨vs9, ho9⟩ := rfV_o hR9
      refine z_invV F (rest := [.int (sp_losex T Q M (xs (k + 1))).1]) (r_losex l T Q M hR9 (xs (k + 1)) hnw) yv_L_68 ⟨Nat.le_of_ble_eq_true rfl, Nat.le_of_ble_eq_true rfl⟩ hw hA hS hl ho9 rfl rfl rfl (Nat.le_of_ble_eq_true rfl) dL_law_401 ⟨Nat.le_of_ble_eq_true rfl, Nat.le_of_ble_eq_true rfl⟩ (fun r ad1 ce40 H locs hp hw hS => ?_)
      obtain ⟨rfl, rfl, ⟨M1, hR9⟩, hF2⟩ := hp
      have hV := clV_k hV hF2
      refine W.eq (g2 := F0 m 404 ls [.int (sp_losex T Q M (xs (k + 1))).1, .int (sp_losex T Q M (xs (k + 1))).1]) rfl ?_
      refine lv_icmp_eq (tgt := 637) hx hb dL_law_404 (by decide) (fun c404 => ?_) (fun c404 => absurd rfl c404)
      refine lv_iinc (v := nI (k + 5)) (lv' := [(3, .int (nI (k + 5))), (0, .ref b), (1, .ref (ad 0)), (2, .ref (ad 100))]) hx hb dL_law_637 hl (k := 3) rfl (nI_add k 5) (by decide) rfl (fun ls hl => ?_)
      refine lv_goto (tgt := 48) hx hb dL_law_640 (by decide) ?_
      exact ih48 (k + 5, (sp_losex T Q M (xs (k + 1))).2.1, (sp_losex T Q M (xs (k + 1))).2.2, M1) _ _ _ _ (by show L + 8 - (k + 5) < L + 8 - k; omega) ⟨lv_sub hl [1, 2, 3, 0] rfl, hR9, hV, hq9.2, by show 3 ≤ k + 5; omega, by show k + 5 ≤ L + 5; omega⟩ hw hS
    by_cases h62_11 : (((xs (k)) &&& 31) : Int32) = 11
    · refine lv_tableIn (tgt := 409) (off := 347) hx hb dL_law_62 (by rw [h62_11]; decide) (by rw [h62_11]; decide) (by rw [h62_11]; rfl) (by decide) ?_
      refine lv_aload_n hx hb dL_law_409 rfl (lv_at hl 1 rfl) ?_
      refine lv_aload_n hx hb dL_law_410 rfl (lv_at hl 0 rfl) ?_
      refine lv_iload_n hx hb dL_law_411 rfl (lv_at hl 3 rfl) ?_
      refine lv_iconst (v := 1) hx hb dL_law_412 (by decide) ?_
      refine lv_iadd hx hb dL_law_413 ?_
      refine z_top (nI (k + 1)) (nI_add k 1) ?_
      refine va_sld hx hb hX hbl hbA hS (vp_in_nI (show k + 1 < L by omega) (by omega)) dL_law_414 ?_
      refine z_top (xs (k + 1)) (by rw [nI_clamp (show k + 1 < 2 ^ 31 by omega)]) ?_
      by_cases hw0 : (xs (k + 1)) = 0
      · refine z_top 0 hw0 ?_
        refine lv_aload_n hx hb dL_law_415 rfl (lv_at hl 0 rfl) ?_
        refine lv_iload_n hx hb dL_law_416 rfl (lv_at hl 3 rfl) ?_
        refine lv_iconst (v := 2) hx hb dL_law_417 (by decide) ?_
        refine lv_iadd hx hb dL_law_418 ?_
        refine z_top (nI (k + 2)) (nI_add k 2) ?_
        refine va_sld hx hb hX hbl hbA hS (vp_in_nI (show k + 2 < L by omega) (by omega)) dL_law_419 ?_
        refine z_top (xs (k + 2)) (by rw [nI_clamp (show k + 2 < 2 ^ 31 by omega)]) ?_
        refine lv_aload_n hx hb dL_law_420 rfl (lv_at hl 0 rfl) ?_
        refine lv_iload_n hx hb dL_law_421 rfl (lv_at hl 3 rfl) ?_
        refine lv_iconst (v := 3) hx hb dL_law_422 (by decide) ?_
        refine lv_iadd hx hb dL_law_423 ?_
        refine z_top (nI (k + 3)) (nI_add k 3) ?_
        refine va_sld hx hb hX hbl hbA hS (vp_in_nI (show k + 3 < L by omega) (by omega)) dL_law_424 ?_
        refine z_top (xs (k + 3)) (by rw [nI_clamp (show k + 3 < 2 ^ 31 by omega)]) ?_
        have hq9 : cp_spoil0 T Q (xs (k + 2)) (xs (k + 3)) = sp_spoil0 T Q M (xs (k + 2)) (xs (k + 3)) ∧ Iv (sp_spoil0 T Q M (xs (k + 2)) (xs (k + 3))).2.1 := q_spoil0 hI (hwf 0 (by decide)).1 (hwf 0 (by decide)).2.1 (xs (k + 2)) (xs (k + 3))
        obtain ⟨vs9, ho9⟩ := clV_o hV
        refine z_invV F (rest := []) (c_spoil0 l T Q hV (xs (k + 2)) (xs (k + 3))) yv_L_69 ⟨Nat.le_of_ble_eq_true rfl, Nat.le_of_ble_eq_true rfl⟩ hw hA hS hl ho9 rfl rfl rfl (Nat.le_of_ble_eq_true rfl) dL_law_425 ⟨Nat.le_of_ble_eq_true rfl, Nat.le_of_ble_eq_true rfl⟩ (fun r ad1 ce41 H locs hp hw hS => ?_)
        rw [hq9.1] at hp
        obtain ⟨rfl, rfl, hV, hF2⟩ := hp
        have hR9 := rfV_k hR9 hF2
        refine W.eq (g2 := F0 m 428 ls [.int (sp_spoil0 T Q M (xs (k + 2)) (xs (k + 3))).1]) rfl ?_
        refine lv_aload_n hx hb dL_law_428 rfl (lv_at hl 2 rfl) ?_
        refine lv_aload_n hx hb dL_law_429 rfl (lv_at hl 0 rfl) ?_
        refine lv_iload_n hx hb dL_law_430 rfl (lv_at hl 3 rfl) ?_
        refine lv_iconst (v := 1) hx hb dL_law_431 (by decide) ?_
        refine lv_iadd hx hb dL_law_432 ?_
        refine z_top (nI (k + 1)) (nI_add k 1) ?_
        refine va_sld hx hb hX hbl hbA hS (vp_in_nI (show k + 1 < L by omega) (by omega)) dL_law_433 ?_
        refine z_top (xs (k + 1)) (by rw [nI_clamp (show k + 1 < 2 ^ 31 by omega)]) ?_
        refine z_top 0 hw0 ?_
        refine lv_aload_n hx hb dL_law_434 rfl (lv_at hl 0 rfl) ?_
        refine lv_iload_n hx hb dL_law_435 rfl (lv_at hl 3 rfl) ?_
        refine lv_iconst (v := 2) hx hb dL_law_436 (by decide) ?_
        refine lv_iadd hx hb dL_law_437 ?_
        refine z_top (nI (k + 2)) (nI_add k 2) ?_
        refine va_sld hx hb hX hbl hbA hS (vp_in_nI (show k + 2 < L by omega) (by omega)) dL_law_438 ?_
        refine z_top (xs (k + 2)) (by rw [nI_clamp (show k + 2 < 2 ^ 31 by omega)]) ?_
        refine lv_aload_n hx hb dL_law_439 rfl (lv_at hl 0 rfl) ?_
        refine lv_iload_n hx hb dL_law_440 rfl (lv_at hl 3 rfl) ?_
        refine lv_iconst (v := 3) hx hb dL_law_441 (by decide) ?_
        refine lv_iadd hx hb dL_law_442 ?_
        refine z_top (nI (k + 3)) (nI_add k 3) ?_
        refine va_sld hx hb hX hbl hbA hS (vp_in_nI (show k + 3 < L by omega) (by omega)) dL_law_443 ?_
        refine z_top (xs (k + 3)) (by rw [nI_clamp (show k + 3 < 2 ^ 31 by omega)]) ?_
        obtain ⟨vs9, ho9⟩ := rfV_o hR9
        refine z_invV F (rest := [.int (sp_spoil0 T Q M (xs (k + 2)) (xs (k + 3))).1]) (r_spoil0 l T Q M hR9 (xs (k + 2)) (xs (k + 3))) yv_L_73 ⟨Nat.le_of_ble_eq_true rfl, Nat.le_of_ble_eq_true rfl⟩ hw hA hS hl ho9 rfl rfl rfl (Nat.le_of_ble_eq_true rfl) dL_law_444 ⟨Nat.le_of_ble_eq_true rfl, Nat.le_of_ble_eq_true rfl⟩ (fun r ad1 ce42 H locs hp hw hS => ?_)
        obtain ⟨rfl, rfl, hR9, hF2⟩ := hp
        have hV := clV_k hV hF2
        refine W.eq (g2 := F0 m 447 ls [.int (sp_spoil0 T Q M (xs (k + 2)) (xs (k + 3))).1, .int (sp_spoil0 T Q M (xs (k + 2)) (xs (k + 3))).1]) rfl ?_
        refine lv_icmp_eq (tgt := 637) hx hb dL_law_447 (by decide) (fun c447 => ?_) (fun c447 => absurd rfl c447)
        refine lv_iinc (v := nI (k + 5)) (lv' := [(3, .int (nI (k + 5))), (0, .ref b), (1, .ref (ad 0)), (2, .ref (ad 100))]) hx hb dL_law_637 hl (k := 3) rfl (nI_add k 5) (by decide) rfl (fun ls hl => ?_)
        refine lv_goto (tgt := 48) hx hb dL_law_640 (by decide) ?_
        exact ih48 (k + 5, (sp_spoil0 T Q M (xs (k + 2)) (xs (k + 3))).2.1, (sp_spoil0 T Q M (xs (k + 2)) (xs (k + 3))).2.2, M) _ _ _ _ (by show L + 8 - (k + 5) < L + 8 - k; omega) ⟨lv_sub hl [1, 2, 3, 0] rfl, hR9, hV, hq9.2, by show 3 ≤ k + 5; omega, by show k + 5 ≤ L + 5; omega⟩ hw hS
      by_cases hw1 : (xs (k + 1)) = 1
      · refine z_top 1 hw1 ?_
        refine lv_aload_n hx hb dL_law_415 rfl (lv_at hl 0 rfl) ?_
        refine lv_iload_n hx hb dL_law_416 rfl (lv_at hl 3 rfl) ?_
        refine lv_iconst (v := 2) hx hb dL_law_417 (by decide) ?_
        refine lv_iadd hx hb dL_law_418 ?_
        refine z_top (nI (k + 2)) (nI_add k 2) ?_
        refine va_sld hx hb hX hbl hbA hS (vp_in_nI (show k + 2 < L by omega) (by omega)) dL_law_419 ?_
        refine z_top (xs (k + 2)) (by rw [nI_clamp (show k + 2 < 2 ^ 31 by omega)]) ?_
        refine lv_aload_n hx hb dL_law_420 rfl (lv_at hl 0 rfl) ?_
        refine lv_iload_n hx hb dL_law_421 rfl (lv_at hl 3 rfl) ?_
        refine lv_iconst (v := 3) hx hb dL_law_422 (by decide) ?_
        refine lv_iadd hx hb dL_law_423 ?_
        refine z_top (nI (k + 3)) (nI_add k 3) ?_
        refine va_sld hx hb hX hbl hbA hS (vp_in_nI (show k + 3 < L by omega) (by omega)) dL_law_424 ?_
        refine z_top (xs (k + 3)) (by rw [nI_clamp (show k + 3 < 2 ^ 31 by omega)]) ?_
        have hq9 : cp_spoil1 T Q (xs (k + 2)) (xs (k + 3)) = sp_spoil1 T Q M (xs (k + 2)) (xs (k + 3)) ∧ Iv (sp_spoil1 T Q M (xs (k + 2)) (xs (k + 3))).2.1 := q_spoil1 hI (hwf 1 (by decide)).1 (hwf 1 (by decide)).2.1 (xs (k + 2)) (xs (k + 3))
        obtain ⟨vs9, ho9⟩ := clV_o hV
        refine z_invV F (rest := []) (c_spoil1 l T Q hV (xs (k + 2)) (xs (k + 3))) yv_L_69 ⟨Nat.le_of_ble_eq_true rfl, Nat.le_of_ble_eq_true rfl⟩ hw hA hS hl ho9 rfl rfl rfl (Nat.le_of_ble_eq_true rfl) dL_law_425 ⟨Nat.le_of_ble_eq_true rfl, Nat.le_of_ble_eq_true rfl⟩ (fun r ad1 ce43 H locs hp hw hS => ?_)
        rw [hq9.1] at hp
        obtain ⟨rfl, rfl, hV, hF2⟩ := hp
        have hR9 := rfV_k hR9 hF2
        refine W.eq (g2 := F0 m 428 ls [.int (sp_spoil1 T Q M (xs (k + 2)) (xs (k + 3))).1]) rfl ?_
        refine lv_aload_n hx hb dL_law_428 rfl (lv_at hl 2 rfl) ?_
        refine lv_aload_n hx hb dL_law_429 rfl (lv_at hl 0 rfl) ?_
        refine lv_iload_n hx hb dL_law_430 rfl (lv_at hl 3 rfl) ?_
        refine lv_iconst (v := 1) hx hb dL_law_431 (by decide) ?_
        refine lv_iadd hx hb dL_law_432 ?_
        refine z_top (nI (k + 1)) (nI_add k 1) ?_
        refine va_sld hx hb hX hbl hbA hS (vp_in_nI (show k + 1 < L by omega) (by omega)) dL_law_433 ?_
        refine z_top (xs (k + 1)) (by rw [nI_clamp (show k + 1 < 2 ^ 31 by omega)]) ?_
        refine z_top 1 hw1 ?_
        refine lv_aload_n hx hb dL_law_434 rfl (lv_at hl 0 rfl) ?_
        refine lv_iload_n hx hb dL_law_435 rfl (lv_at hl 3 rfl) ?_
        refine lv_iconst (v := 2) hx hb dL_law_436 (by decide) ?_
        refine lv_iadd hx hb dL_law_437 ?_
        refine z_top (nI (k + 2)) (nI_add k 2) ?_
        refine va_sld hx hb hX hbl hbA hS (vp_in_nI (show k + 2 < L by omega) (by omega)) dL_law_438 ?_
        refine z_top (xs (k + 2)) (by rw [nI_clamp (show k + 2 < 2 ^ 31 by omega)]) ?_
        refine lv_aload_n hx hb dL_law_439 rfl (lv_at hl 0 rfl) ?_
        refine lv_iload_n hx hb dL_law_440 rfl (lv_at hl 3 rfl) ?_
        refine lv_iconst (v := 3) hx hb dL_law_441 (by decide) ?_
        refine lv_iadd hx hb dL_law_442 ?_
        refine z_top (nI (k + 3)) (nI_add k 3) ?_
        refine va_sld hx hb hX hbl hbA hS (vp_in_nI (show k + 3 < L by omega) (by omega)) dL_law_443 ?_
        refine z_top (xs (k + 3)) (by rw [nI_clamp (show k + 3 < 2 ^ 31 by omega)]) ?_
        obtain ⟨vs9, ho9⟩ := rfV_o hR9
        refine z_invV F (rest := [.int (sp_spoil1 T Q M (xs (k + 2)) (xs (k + 3))).1]) (r_spoil1 l T Q M hR9 (xs (k + 2)) (xs (k + 3))) yv_L_73 ⟨Nat.le_of_ble_eq_true rfl, Nat.le_of_ble_eq_true rfl⟩ hw hA hS hl ho9 rfl rfl rfl (Nat.le_of_ble_eq_true rfl) dL_law_444 ⟨Nat.le_of_ble_eq_true rfl, Nat.le_of_ble_eq_true rfl⟩ (fun r ad1 ce44 H locs hp hw hS => ?_)
        obtain ⟨rfl, rfl, hR9, hF2⟩ := hp
        have hV := clV_k hV hF2
        refine W.eq (g2 := F0 m 447 ls [.int (sp_spoil1 T Q M (xs (k + 2)) (xs (k + 3))).1, .int (sp_spoil1 T Q M (xs (k + 2)) (xs (k + 3))).1]) rfl ?_
        refine lv_icmp_eq (tgt := 637) hx hb dL_law_447 (by decide) (fun c447 => ?_) (fun c447 => absurd rfl c447)
        refine lv_iinc (v := nI (k + 5)) (lv' := [(3, .int (nI (k + 5))), (0, .ref b), (1, .ref (ad 0)), (2, .ref (ad 100))]) hx hb dL_law_637 hl (k := 3) rfl (nI_add k 5) (by decide) rfl (fun ls hl => ?_)
        refine lv_goto (tgt := 48) hx hb dL_law_640 (by decide) ?_
        exact ih48 (k + 5, (sp_spoil1 T Q M (xs (k + 2)) (xs (k + 3))).2.1, (sp_spoil1 T Q M (xs (k + 2)) (xs (k + 3))).2.2, M) _ _ _ _ (by show L + 8 - (k + 5) < L + 8 - k; omega) ⟨lv_sub hl [1, 2, 3, 0] rfl, hR9, hV, hq9.2, by show 3 ≤ k + 5; omega, by show k + 5 ≤ L + 5; omega⟩ hw hS
      have hnw : ¬ ((xs (k + 1)) = 0 ∨ (xs (k + 1)) = 1) := fun q => q.elim hw0 hw1
      refine lv_aload_n hx hb dL_law_415 rfl (lv_at hl 0 rfl) ?_
      refine lv_iload_n hx hb dL_law_416 rfl (lv_at hl 3 rfl) ?_
      refine lv_iconst (v := 2) hx hb dL_law_417 (by decide) ?_
      refine lv_iadd hx hb dL_law_418 ?_
      refine z_top (nI (k + 2)) (nI_add k 2) ?_
      refine va_sld hx hb hX hbl hbA hS (vp_in_nI (show k + 2 < L by omega) (by omega)) dL_law_419 ?_
      refine z_top (xs (k + 2)) (by rw [nI_clamp (show k + 2 < 2 ^ 31 by omega)]) ?_
      refine lv_aload_n hx hb dL_law_420 rfl (lv_at hl 0 rfl) ?_
      refine lv_iload_n hx hb dL_law_421 rfl (lv_at hl 3 rfl) ?_
      refine lv_iconst (v := 3) hx hb dL_law_422 (by decide) ?_
      refine lv_iadd hx hb dL_law_423 ?_
      refine z_top (nI (k + 3)) (nI_add k 3) ?_
      refine va_sld hx hb hX hbl hbA hS (vp_in_nI (show k + 3 < L by omega) (by omega)) dL_law_424 ?_
      refine z_top (xs (k + 3)) (by rw [nI_clamp (show k + 3 < 2 ^ 31 by omega)]) ?_
      have hq9 : cp_spoilx T Q (xs (k + 1)) (xs (k + 2)) (xs (k + 3)) = sp_spoilx T Q M (xs (k + 1)) (xs (k + 2)) (xs (k + 3)) ∧ Iv (sp_spoilx T Q M (xs (k + 1)) (xs (k + 2)) (xs (k + 3))).2.1 := ⟨rfl, hI⟩
      obtain ⟨vs9, ho9⟩ := clV_o hV
      refine z_invV F (rest := []) (c_spoilx l T Q hV (xs (k + 1)) (xs (k + 2)) (xs (k + 3)) hnw) yv_L_69 ⟨Nat.le_of_ble_eq_true rfl, Nat.le_of_ble_eq_true rfl⟩ hw hA hS hl ho9 rfl rfl rfl (Nat.le_of_ble_eq_true rfl) dL_law_425 ⟨Nat.le_of_ble_eq_true rfl, Nat.le_of_ble_eq_true rfl⟩ (fun r ad1 ce45 H locs hp hw hS => ?_)
      rw [hq9.1] at hp
      obtain ⟨rfl, rfl, hV, hF2⟩ := hp
      have hR9 := rfV_k hR9 hF2
      refine W.eq (g2 := F0 m 428 ls [.int (sp_spoilx T Q M (xs (k + 1)) (xs (k + 2)) (xs (k + 3))).1]) rfl ?_
      refine lv_aload_n hx hb dL_law_428 rfl (lv_at hl 2 rfl) ?_
      refine lv_aload_n hx hb dL_law_429 rfl (lv_at hl 0 rfl) ?_
      refine lv_iload_n hx hb dL_law_430 rfl (lv_at hl 3 rfl) ?_
      refine lv_iconst (v := 1) hx hb dL_law_431 (by decide) ?_
      refine lv_iadd hx hb dL_law_432 ?_
      refine z_top (nI (k + 1)) (nI_add k 1) ?_
      refine va_sld hx hb hX hbl hbA hS (vp_in_nI (show k + 1 < L by omega) (by omega)) dL_law_433 ?_
      refine z_top (xs (k + 1)) (by rw [nI_clamp (show k + 1 < 2 ^ 31 by omega)]) ?_
      refine lv_aload_n hx hb dL_law_434 rfl (lv_at hl 0 rfl) ?_
      refine lv_iload_n hx hb dL_law_435 rfl (lv_at hl 3 rfl) ?_
      refine lv_iconst (v := 2) hx hb dL_law_436 (by decide) ?_
      refine lv_iadd hx hb dL_law_437 ?_
      refine z_top (nI (k + 2)) (nI_add k 2) ?_
      refine va_sld hx hb hX hbl hbA hS (vp_in_nI (show k + 2 < L by omega) (by omega)) dL_law_438 ?_
      refine z_top (xs (k + 2)) (by rw [nI_clamp (show k + 2 < 2 ^ 31 by omega)]) ?_
      refine lv_aload_n hx hb dL_law_439 rfl (lv_at hl 0 rfl) ?_
      refine lv_iload_n hx hb dL_law_440 rfl (lv_at hl 3 rfl) ?_
      refine lv_iconst (v := 3) hx hb dL_law_441 (by decide) ?_
      refine lv_iadd hx hb dL_law_442 ?_
      refine z_top (nI (k + 3)) (nI_add k 3) ?_
      refine va_sld hx hb hX hbl hbA hS (vp_in_nI (show k + 3 < L by omega) (by omega)) dL_law_443 ?_
      refine z_top (xs (k + 3)) (by rw [nI_clamp (show k + 3 < 2 ^ 31 by omega)]) ?_
      obtain ⟨vs9, ho9⟩ := rfV_o hR9
      refine z_invV F (rest := [.int (sp_spoilx T Q M (xs (k + 1)) (xs (k + 2)) (xs (k + 3))).1]) (r_spoilx l T Q M hR9 (xs (k + 1)) (xs (k + 2)) (xs (k + 3)) hnw) yv_L_73 ⟨Nat.le_of_ble_eq_true rfl, Nat.le_of_ble_eq_true rfl⟩ hw hA hS hl ho9 rfl rfl rfl (Nat.le_of_ble_eq_true rfl) dL_law_444 ⟨Nat.le_of_ble_eq_true rfl, Nat.le_of_ble_eq_true rfl⟩ (fun r ad1 ce46 H locs hp hw hS => ?_)
      obtain ⟨rfl, rfl, hR9, hF2⟩ := hp
      have hV := clV_k hV hF2
      refine W.eq (g2 := F0 m 447 ls [.int (sp_spoilx T Q M (xs (k + 1)) (xs (k + 2)) (xs (k + 3))).1, .int (sp_spoilx T Q M (xs (k + 1)) (xs (k + 2)) (xs (k + 3))).1]) rfl ?_
      refine lv_icmp_eq (tgt := 637) hx hb dL_law_447 (by decide) (fun c447 => ?_) (fun c447 => absurd rfl c447)
      refine lv_iinc (v := nI (k + 5)) (lv' := [(3, .int (nI (k + 5))), (0, .ref b), (1, .ref (ad 0)), (2, .ref (ad 100))]) hx hb dL_law_637 hl (k := 3) rfl (nI_add k 5) (by decide) rfl (fun ls hl => ?_)
      refine lv_goto (tgt := 48) hx hb dL_law_640 (by decide) ?_
      exact ih48 (k + 5, (sp_spoilx T Q M (xs (k + 1)) (xs (k + 2)) (xs (k + 3))).2.1, (sp_spoilx T Q M (xs (k + 1)) (xs (k + 2)) (xs (k + 3))).2.2, M) _ _ _ _ (by show L + 8 - (k + 5) < L + 8 - k; omega) ⟨lv_sub hl [1, 2, 3, 0] rfl, hR9, hV, hq9.2, by show 3 ≤ k + 5; omega, by show k + 5 ≤ L + 5; omega⟩ hw hS
    by_cases h62_12 : (((xs (k)) &&& 31) : Int32) = 12
    · refine lv_tableIn (tgt := 452) (off := 390) hx hb dL_law_62 (by rw [h62_12]; decide) (by rw [h62_12]; decide) (by rw [h62_12]; rfl) (by decide) ?_
      refine lv_aload_n hx hb dL_law_452 rfl (lv_at hl 1 rfl) ?_
      refine lv_aload_n hx hb dL_law_453 rfl (lv_at hl 0 rfl) ?_
      refine lv_iload_n hx hb dL_law_454 rfl (lv_at hl 3 rfl) ?_
      refine lv_iconst (v := 1) hx hb dL_law_455 (by decide) ?_
      refine lv_iadd hx hb dL_law_456 ?_
      refine z_top (nI (k + 1)) (nI_add k 1) ?_
      refine va_sld hx hb hX hbl hbA hS (vp_in_nI (show k + 1 < L by omega) (by omega)) dL_law_457 ?_
      refine z_top (xs (k + 1)) (by rw [nI_clamp (show k + 1 < 2 ^ 31 by omega)]) ?_
      by_cases hw0 : (xs (k + 1)) = 0
      · refine z_top 0 hw0 ?_
        refine lv_aload_n hx hb dL_law_458 rfl (lv_at hl 0 rfl) ?_
        refine lv_iload_n hx hb dL_law_459 rfl (lv_at hl 3 rfl) ?_
        refine lv_iconst (v := 2) hx hb dL_law_460 (by decide) ?_
        refine lv_iadd hx hb dL_law_461 ?_
        refine z_top (nI (k + 2)) (nI_add k 2) ?_
        refine va_sld hx hb hX hbl hbA hS (vp_in_nI (show k + 2 < L by omega) (by omega)) dL_law_462 ?_
        refine z_top (xs (k + 2)) (by rw [nI_clamp (show k + 2 < 2 ^ 31 by omega)]) ?_
        refine lv_i2l hx hb dL_law_463 rfl ?_
        refine lv_bipush (v := 32) hx hb dL_law_464 (by decide) ?_
        refine lv_lshl hx hb dL_law_466 rfl ?_
        refine lv_aload_n hx hb dL_law_467 rfl (lv_at hl 0 rfl) ?_
        refine lv_iload_n hx hb dL_law_468 rfl (lv_at hl 3 rfl) ?_
        refine lv_iconst (v := 3) hx hb dL_law_469 (by decide) ?_
        refine lv_iadd hx hb dL_law_470 ?_
        refine z_top (nI (k + 3)) (nI_add k 3) ?_
        refine va_sld hx hb hX hbl hbA hS (vp_in_nI (show k + 3 < L by omega) (by omega)) dL_law_471 ?_
        refine z_top (xs (k + 3)) (by rw [nI_clamp (show k + 3 < 2 ^ 31 by omega)]) ?_
        refine lv_i2l hx hb dL_law_472 rfl ?_
        refine lv_ldc2 (v := 4294967295) hx hb hown (hts _ wd_885) dL_law_473 ?_
        refine lv_land hx hb dL_law_476 ?_
        refine lv_lor hx hb dL_law_477 ?_
        refine lv_aload_n hx hb dL_law_478 rfl (lv_at hl 0 rfl) ?_
        refine lv_iload_n hx hb dL_law_479 rfl (lv_at hl 3 rfl) ?_
        refine lv_iconst (v := 4) hx hb dL_law_480 (by decide) ?_
        refine lv_iadd hx hb dL_law_481 ?_
        refine z_top (nI (k + 4)) (nI_add k 4) ?_
        refine va_sld hx hb hX hbl hbA hS (vp_in_nI (show k + 4 < L by omega) (by omega)) dL_law_482 ?_
        refine z_top (xs (k + 4)) (by rw [nI_clamp (show k + 4 < 2 ^ 31 by omega)]) ?_
        have hq9 : cp_forge0 T Q ((((xs (k + 2)).toInt64) <<< ((32 : Int32).toInt64 &&& 63)) ||| (((xs (k + 3)).toInt64) &&& 4294967295)) (xs (k + 4)) = sp_forge0 T Q M ((((xs (k + 2)).toInt64) <<< ((32 : Int32).toInt64 &&& 63)) ||| (((xs (k + 3)).toInt64) &&& 4294967295)) (xs (k + 4)) ∧ Iv (sp_forge0 T Q M ((((xs (k + 2)).toInt64) <<< ((32 : Int32).toInt64 &&& 63)) ||| (((xs (k + 3)).toInt64) &&& 4294967295)) (xs (k + 4))).2.1 := q_forge0 hI (hwf 0 (by decide)).1 ((((xs (k + 2)).toInt64) <<< ((32 : Int32).toInt64 &&& 63)) ||| (((xs (k + 3)).toInt64) &&& 4294967295)) (xs (k + 4))
        obtain ⟨vs9, ho9⟩ := clV_o hV
        refine z_invV F (rest := []) (c_forge0 l T Q hV ((((xs (k + 2)).toInt64) <<< ((32 : Int32).toInt64 &&& 63)) ||| (((xs (k + 3)).toInt64) &&& 4294967295)) (xs (k + 4))) yv_L_76 ⟨Nat.le_of_ble_eq_true rfl, Nat.le_of_ble_eq_true rfl⟩ hw hA hS hl ho9 rfl rfl rfl (Nat.le_of_ble_eq_true rfl) dL_law_483 ⟨Nat.le_of_ble_eq_true rfl, Nat.le_of_ble_eq_true rfl⟩ (fun r ad1 ce47 H locs hp hw hS => ?_)
        rw [hq9.1] at hp
        obtain ⟨rfl, rfl, hV, hF2⟩ := hp
        have hR9 := rfV_k hR9 hF2
        refine W.eq (g2 := F0 m 486 ls [.int (sp_forge0 T Q M ((((xs (k + 2)).toInt64) <<< ((32 : Int32).toInt64 &&& 63)) ||| (((xs (k + 3)).toInt64) &&& 4294967295)) (xs (k + 4))).1]) rfl ?_
        refine lv_aload_n hx hb dL_law_486 rfl (lv_at hl 2 rfl) ?_
        refine lv_aload_n hx hb dL_law_487 rfl (lv_at hl 0 rfl) ?_
        refine lv_iload_n hx hb dL_law_488 rfl (lv_at hl 3 rfl) ?_
        refine lv_iconst (v := 1) hx hb dL_law_489 (by decide) ?_
        refine lv_iadd hx hb dL_law_490 ?_
        refine z_top (nI (k + 1)) (nI_add k 1) ?_
        refine va_sld hx hb hX hbl hbA hS (vp_in_nI (show k + 1 < L by omega) (by omega)) dL_law_491 ?_
        refine z_top (xs (k + 1)) (by rw [nI_clamp (show k + 1 < 2 ^ 31 by omega)]) ?_
        refine z_top 0 hw0 ?_
        refine lv_aload_n hx hb dL_law_492 rfl (lv_at hl 0 rfl) ?_
        refine lv_iload_n hx hb dL_law_493 rfl (lv_at hl 3 rfl) ?_
        refine lv_iconst (v := 2) hx hb dL_law_494 (by decide) ?_
        refine lv_iadd hx hb dL_law_495 ?_
        refine z_top (nI (k + 2)) (nI_add k 2) ?_
        refine va_sld hx hb hX hbl hbA hS (vp_in_nI (show k + 2 < L by omega) (by omega)) dL_law_496 ?_
        refine z_top (xs (k + 2)) (by rw [nI_clamp (show k + 2 < 2 ^ 31 by omega)]) ?_
        refine lv_i2l hx hb dL_law_497 rfl ?_
        refine lv_bipush (v := 32) hx hb dL_law_498 (by decide) ?_
        refine lv_lshl hx hb dL_law_500 rfl ?_
        refine lv_aload_n hx hb dL_law_501 rfl (lv_at hl 0 rfl) ?_
        refine lv_iload_n hx hb dL_law_502 rfl (lv_at hl 3 rfl) ?_
        refine lv_iconst (v := 3) hx hb dL_law_503 (by decide) ?_
        refine lv_iadd hx hb dL_law_504 ?_
        refine z_top (nI (k + 3)) (nI_add k 3) ?_
        refine va_sld hx hb hX hbl hbA hS (vp_in_nI (show k + 3 < L by omega) (by omega)) dL_law_505 ?_
        refine z_top (xs (k + 3)) (by rw [nI_clamp (show k + 3 < 2 ^ 31 by omega)]) ?_
        refine lv_i2l hx hb dL_law_506 rfl ?_
        refine lv_ldc2 (v := 4294967295) hx hb hown (hts _ wd_885) dL_law_507 ?_
        refine lv_land hx hb dL_law_510 ?_
        refine lv_lor hx hb dL_law_511 ?_
        refine lv_aload_n hx hb dL_law_512 rfl (lv_at hl 0 rfl) ?_
        refine lv_iload_n hx hb dL_law_513 rfl (lv_at hl 3 rfl) ?_
        refine lv_iconst (v := 4) hx hb dL_law_514 (by decide) ?_
        refine lv_iadd hx hb dL_law_515 ?_
        refine z_top (nI (k + 4)) (nI_add k 4) ?_
        refine va_sld hx hb hX hbl hbA hS (vp_in_nI (show k + 4 < L by omega) (by omega)) dL_law_516 ?_
        refine z_top (xs (k + 4)) (by rw [nI_clamp (show k + 4 < 2 ^ 31 by omega)]) ?_
        obtain ⟨vs9, ho9⟩ := rfV_o hR9
        refine z_invV F (rest := [.int (sp_forge0 T Q M ((((xs (k + 2)).toInt64) <<< ((32 : Int32).toInt64 &&& 63)) ||| (((xs (k + 3)).toInt64) &&& 4294967295)) (xs (k + 4))).1]) (r_forge0 l T Q M hR9 ((((xs (k + 2)).toInt64) <<< ((32 : Int32).toInt64 &&& 63)) ||| (((xs (k + 3)).toInt64) &&& 4294967295)) (xs (k + 4))) yv_L_80 ⟨Nat.le_of_ble_eq_true rfl, Nat.le_of_ble_eq_true rfl⟩ hw hA hS hl ho9 rfl rfl rfl (Nat.le_of_ble_eq_true rfl) dL_law_517 ⟨Nat.le_of_ble_eq_true rfl, Nat.le_of_ble_eq_true rfl⟩ (fun r ad1 ce48 H locs hp hw hS => ?_)
        obtain ⟨rfl, rfl, hR9, hF2⟩ := hp
        have hV := clV_k hV hF2
        refine W.eq (g2 := F0 m 520 ls [.int (sp_forge0 T Q M ((((xs (k + 2)).toInt64) <<< ((32 : Int32).toInt64 &&& 63)) ||| (((xs (k + 3)).toInt64) &&& 4294967295)) (xs (k + 4))).1, .int (sp_forge0 T Q M ((((xs (k + 2)).toInt64) <<< ((32 : Int32).toInt64 &&& 63)) ||| (((xs (k + 3)).toInt64) &&& 4294967295)) (xs (k + 4))).1]) rfl ?_
        refine lv_icmp_eq (tgt := 637) hx hb dL_law_520 (by decide) (fun c520 => ?_) (fun c520 => absurd rfl c520)
        refine lv_iinc (v := nI (k + 5)) (lv' := [(3, .int (nI (k + 5))), (0, .ref b), (1, .ref (ad 0)), (2, .ref (ad 100))]) hx hb dL_law_637 hl (k := 3) rfl (nI_add k 5) (by decide) rfl (fun ls hl => ?_)
        refine lv_goto (tgt := 48) hx hb dL_law_640 (by decide) ?_
        exact ih48 (k + 5, (sp_forge0 T Q M ((((xs (k + 2)).toInt64) <<< ((32 : Int32).toInt64 &&& 63)) ||| (((xs (k + 3)).toInt64) &&& 4294967295)) (xs (k + 4))).2.1, (sp_forge0 T Q M ((((xs (k + 2)).toInt64) <<< ((32 : Int32).toInt64 &&& 63)) ||| (((xs (k + 3)).toInt64) &&& 4294967295)) (xs (k + 4))).2.2, M) _ _ _ _ (by show L + 8 - (k + 5) < L + 8 - k; omega) ⟨lv_sub hl [1, 2, 3, 0] rfl, hR9, hV, hq9.2, by show 3 ≤ k + 5; omega, by show k + 5 ≤ L + 5; omega⟩ hw hS
      by_cases hw1 : (xs (k + 1)) = 1
      · refine z_top 1 hw1 ?_
        refine lv_aload_n hx hb dL_law_458 rfl (lv_at hl 0 rfl) ?_
        refine lv_iload_n hx hb dL_law_459 rfl (lv_at hl 3 rfl) ?_
        refine lv_iconst (v := 2) hx hb dL_law_460 (by decide) ?_
        refine lv_iadd hx hb dL_law_461 ?_
        refine z_top (nI (k + 2)) (nI_add k 2) ?_
        refine va_sld hx hb hX hbl hbA hS (vp_in_nI (show k + 2 < L by omega) (by omega)) dL_law_462 ?_
        refine z_top (xs (k + 2)) (by rw [nI_clamp (show k + 2 < 2 ^ 31 by omega)]) ?_
        refine lv_i2l hx hb dL_law_463 rfl ?_
        refine lv_bipush (v := 32) hx hb dL_law_464 (by decide) ?_
        refine lv_lshl hx hb dL_law_466 rfl ?_
        refine lv_aload_n hx hb dL_law_467 rfl (lv_at hl 0 rfl) ?_
        refine lv_iload_n hx hb dL_law_468 rfl (lv_at hl 3 rfl) ?_
        refine lv_iconst (v := 3) hx hb dL_law_469 (by decide) ?_
        refine lv_iadd hx hb dL_law_470 ?_
        refine z_top (nI (k + 3)) (nI_add k 3) ?_
        refine va_sld hx hb hX hbl hbA hS (vp_in_nI (show k + 3 < L by omega) (by omega)) dL_law_471 ?_
        refine z_top (xs (k + 3)) (by rw [nI_clamp (show k + 3 < 2 ^ 31 by omega)]) ?_
        refine lv_i2l hx hb dL_law_472 rfl ?_
        refine lv_ldc2 (v := 4294967295) hx hb hown (hts _ wd_885) dL_law_473 ?_
        refine lv_land hx hb dL_law_476 ?_
        refine lv_lor hx hb dL_law_477 ?_
        refine lv_aload_n hx hb dL_law_478 rfl (lv_at hl 0 rfl) ?_
        refine lv_iload_n hx hb dL_law_479 rfl (lv_at hl 3 rfl) ?_
        refine lv_iconst (v := 4) hx hb dL_law_480 (by decide) ?_
        refine lv_iadd hx hb dL_law_481 ?_
        refine z_top (nI (k + 4)) (nI_add k 4) ?_
        refine va_sld hx hb hX hbl hbA hS (vp_in_nI (show k + 4 < L by omega) (by omega)) dL_law_482 ?_
        refine z_top (xs (k + 4)) (by rw [nI_clamp (show k + 4 < 2 ^ 31 by omega)]) ?_
        have hq9 : cp_forge1 T Q ((((xs (k + 2)).toInt64) <<< ((32 : Int32).toInt64 &&& 63)) ||| (((xs (k + 3)).toInt64) &&& 4294967295)) (xs (k + 4)) = sp_forge1 T Q M ((((xs (k + 2)).toInt64) <<< ((32 : Int32).toInt64 &&& 63)) ||| (((xs (k + 3)).toInt64) &&& 4294967295)) (xs (k + 4)) ∧ Iv (sp_forge1 T Q M ((((xs (k + 2)).toInt64) <<< ((32 : Int32).toInt64 &&& 63)) ||| (((xs (k + 3)).toInt64) &&& 4294967295)) (xs (k + 4))).2.1 := q_forge1 hI (hwf 1 (by decide)).1 ((((xs (k + 2)).toInt64) <<< ((32 : Int32).toInt64 &&& 63)) ||| (((xs (k + 3)).toInt64) &&& 4294967295)) (xs (k + 4))
        obtain ⟨vs9, ho9⟩ := clV_o hV
        refine z_invV F (rest := []) (c_forge1 l T Q hV ((((xs (k + 2)).toInt64) <<< ((32 : Int32).toInt64 &&& 63)) ||| (((xs (k + 3)).toInt64) &&& 4294967295)) (xs (k + 4))) yv_L_76 ⟨Nat.le_of_ble_eq_true rfl, Nat.le_of_ble_eq_true rfl⟩ hw hA hS hl ho9 rfl rfl rfl (Nat.le_of_ble_eq_true rfl) dL_law_483 ⟨Nat.le_of_ble_eq_true rfl, Nat.le_of_ble_eq_true rfl⟩ (fun r ad1 ce49 H locs hp hw hS => ?_)
        rw [hq9.1] at hp
        obtain ⟨rfl, rfl, hV, hF2⟩ := hp
        have hR9 := rfV_k hR9 hF2
        refine W.eq (g2 := F0 m 486 ls [.int (sp_forge1 T Q M ((((xs (k + 2)).toInt64) <<< ((32 : Int32).toInt64 &&& 63)) ||| (((xs (k + 3)).toInt64) &&& 4294967295)) (xs (k + 4))).1]) rfl ?_
        refine lv_aload_n hx hb dL_law_486 rfl (lv_at hl 2 rfl) ?_
        refine lv_aload_n hx hb dL_law_487 rfl (lv_at hl 0 rfl) ?_
        refine lv_iload_n hx hb dL_law_488 rfl (lv_at hl 3 rfl) ?_
        refine lv_iconst (v := 1) hx hb dL_law_489 (by decide) ?_
        refine lv_iadd hx hb dL_law_490 ?_
        refine z_top (nI (k + 1)) (nI_add k 1) ?_
        refine va_sld hx hb hX hbl hbA hS (vp_in_nI (show k + 1 < L by omega) (by omega)) dL_law_491 ?_
        refine z_top (xs (k + 1)) (by rw [nI_clamp (show k + 1 < 2 ^ 31 by omega)]) ?_
        refine z_top 1 hw1 ?_
        refine lv_aload_n hx hb dL_law_492 rfl (lv_at hl 0 rfl) ?_
        refine lv_iload_n hx hb dL_law_493 rfl (lv_at hl 3 rfl) ?_
        refine lv_iconst (v := 2) hx hb dL_law_494 (by decide) ?_
        refine lv_iadd hx hb dL_law_495 ?_
        refine z_top (nI (k + 2)) (nI_add k 2) ?_
        refine va_sld hx hb hX hbl hbA hS (vp_in_nI (show k + 2 < L by omega) (by omega)) dL_law_496 ?_
        refine z_top (xs (k + 2)) (by rw [nI_clamp (show k + 2 < 2 ^ 31 by omega)]) ?_
        refine lv_i2l hx hb dL_law_497 rfl ?_
        refine lv_bipush (v := 32) hx hb dL_law_498 (by decide) ?_
        refine lv_lshl hx hb dL_law_500 rfl ?_
        refine lv_aload_n hx hb dL_law_501 rfl (lv_at hl 0 rfl) ?_
        refine lv_iload_n hx hb dL_law_502 rfl (lv_at hl 3 rfl) ?_
        refine lv_iconst (v := 3) hx hb dL_law_503 (by decide) ?_
        refine lv_iadd hx hb dL_law_504 ?_
        refine z_top (nI (k + 3)) (nI_add k 3) ?_
        refine va_sld hx hb hX hbl hbA hS (vp_in_nI (show k + 3 < L by omega) (by omega)) dL_law_505 ?_
        refine z_top (xs (k + 3)) (by rw [nI_clamp (show k + 3 < 2 ^ 31 by omega)]) ?_
        refine lv_i2l hx hb dL_law_506 rfl ?_
        refine lv_ldc2 (v := 4294967295) hx hb hown (hts _ wd_885) dL_law_507 ?_
        refine lv_land hx hb dL_law_510 ?_
        refine lv_lor hx hb dL_law_511 ?_
        refine lv_aload_n hx hb dL_law_512 rfl (lv_at hl 0 rfl) ?_
        refine lv_iload_n hx hb dL_law_513 rfl (lv_at hl 3 rfl) ?_
        refine lv_iconst (v := 4) hx hb dL_law_514 (by decide) ?_
        refine lv_iadd hx hb dL_law_515 ?_
        refine z_top (nI (k + 4)) (nI_add k 4) ?_
        refine va_sld hx hb hX hbl hbA hS (vp_in_nI (show k + 4 < L by omega) (by omega)) dL_law_516 ?_
        refine z_top (xs (k + 4)) (by rw [nI_clamp (show k + 4 < 2 ^ 31 by omega)]) ?_
        obtain ⟨vs9, ho9⟩ := rfV_o hR9
        refine z_invV F (rest := [.int (sp_forge1 T Q M ((((xs (k + 2)).toInt64) <<< ((32 : Int32).toInt64 &&& 63)) ||| (((xs (k + 3)).toInt64) &&& 4294967295)) (xs (k + 4))).1]) (r_forge1 l T Q M hR9 ((((xs (k + 2)).toInt64) <<< ((32 : Int32).toInt64 &&& 63)) ||| (((xs (k + 3)).toInt64) &&& 4294967295)) (xs (k + 4))) yv_L_80 ⟨Nat.le_of_ble_eq_true rfl, Nat.le_of_ble_eq_true rfl⟩ hw hA hS hl ho9 rfl rfl rfl (Nat.le_of_ble_eq_true rfl) dL_law_517 ⟨Nat.le_of_ble_eq_true rfl, Nat.le_of_ble_eq_true rfl⟩ (fun r ad1 ce50 H locs hp hw hS => ?_)
        obtain ⟨rfl, rfl, hR9, hF2⟩ := hp
        have hV := clV_k hV hF2
        refine W.eq (g2 := F0 m 520 ls [.int (sp_forge1 T Q M ((((xs (k + 2)).toInt64) <<< ((32 : Int32).toInt64 &&& 63)) ||| (((xs (k + 3)).toInt64) &&& 4294967295)) (xs (k + 4))).1, .int (sp_forge1 T Q M ((((xs (k + 2)).toInt64) <<< ((32 : Int32).toInt64 &&& 63)) ||| (((xs (k + 3)).toInt64) &&& 4294967295)) (xs (k + 4))).1]) rfl ?_
        refine lv_icmp_eq (tgt := 637) hx hb dL_law_520 (by decide) (fun c520 => ?_) (fun c520 => absurd rfl c520)
        refine lv_iinc (v := nI (k + 5)) (lv' := [(3, .int (nI (k + 5))), (0, .ref b), (1, .ref (ad 0)), (2, .ref (ad 100))]) hx hb dL_law_637 hl (k := 3) rfl (nI_add k 5) (by decide) rfl (fun ls hl => ?_)
        refine lv_goto (tgt := 48) hx hb dL_law_640 (by decide) ?_
        exact ih48 (k + 5, (sp_forge1 T Q M ((((xs (k + 2)).toInt64) <<< ((32 : Int32).toInt64 &&& 63)) ||| (((xs (k + 3)).toInt64) &&& 4294967295)) (xs (k + 4))).2.1, (sp_forge1 T Q M ((((xs (k + 2)).toInt64) <<< ((32 : Int32).toInt64 &&& 63)) ||| (((xs (k + 3)).toInt64) &&& 4294967295)) (xs (k + 4))).2.2, M) _ _ _ _ (by show L + 8 - (k + 5) < L + 8 - k; omega) ⟨lv_sub hl [1, 2, 3, 0] rfl, hR9, hV, hq9.2, by show 3 ≤ k + 5; omega, by show k + 5 ≤ L + 5; omega⟩ hw hS
      have hnw : ¬ ((xs (k + 1)) = 0 ∨ (xs (k + 1)) = 1) := fun q => q.elim hw0 hw1
      refine lv_aload_n hx hb dL_law_458 rfl (lv_at hl 0 rfl) ?_
      refine lv_iload_n hx hb dL_law_459 rfl (lv_at hl 3 rfl) ?_
      refine lv_iconst (v := 2) hx hb dL_law_460 (by decide) ?_
      refine lv_iadd hx hb dL_law_461 ?_
      refine z_top (nI (k + 2)) (nI_add k 2) ?_
      refine va_sld hx hb hX hbl hbA hS (vp_in_nI (show k + 2 < L by omega) (by omega)) dL_law_462 ?_
      refine z_top (xs (k + 2)) (by rw [nI_clamp (show k + 2 < 2 ^ 31 by omega)]) ?_
      refine lv_i2l hx hb dL_law_463 rfl ?_
      refine lv_bipush (v := 32) hx hb dL_law_464 (by decide) ?_
      refine lv_lshl hx hb dL_law_466 rfl ?_
      refine lv_aload_n hx hb dL_law_467 rfl (lv_at hl 0 rfl) ?_
      refine lv_iload_n hx hb dL_law_468 rfl (lv_at hl 3 rfl) ?_
      refine lv_iconst (v := 3) hx hb dL_law_469 (by decide) ?_
      refine lv_iadd hx hb dL_law_470 ?_
      refine z_top (nI (k + 3)) (nI_add k 3) ?_
      refine va_sld hx hb hX hbl hbA hS (vp_in_nI (show k + 3 < L by omega) (by omega)) dL_law_471 ?_
      refine z_top (xs (k + 3)) (by rw [nI_clamp (show k + 3 < 2 ^ 31 by omega)]) ?_
      refine lv_i2l hx hb dL_law_472 rfl ?_
      refine lv_ldc2 (v := 4294967295) hx hb hown (hts _ wd_885) dL_law_473 ?_
      refine lv_land hx hb dL_law_476 ?_
      refine lv_lor hx hb dL_law_477 ?_
      refine lv_aload_n hx hb dL_law_478 rfl (lv_at hl 0 rfl) ?_
      refine lv_iload_n hx hb dL_law_479 rfl (lv_at hl 3 rfl) ?_
      refine lv_iconst (v := 4) hx hb dL_law_480 (by decide) ?_
      refine lv_iadd hx hb dL_law_481 ?_
      refine z_top (nI (k + 4)) (nI_add k 4) ?_
      refine va_sld hx hb hX hbl hbA hS (vp_in_nI (show k + 4 < L by omega) (by omega)) dL_law_482 ?_
      refine z_top (xs (k + 4)) (by rw [nI_clamp (show k + 4 < 2 ^ 31 by omega)]) ?_
      have hq9 : cp_forgex T Q (xs (k + 1)) ((((xs (k + 2)).toInt64) <<< ((32 : Int32).toInt64 &&& 63)) ||| (((xs (k + 3)).toInt64) &&& 4294967295)) (xs (k + 4)) = sp_forgex T Q M (xs (k + 1)) ((((xs (k + 2)).toInt64) <<< ((32 : Int32).toInt64 &&& 63)) ||| (((xs (k + 3)).toInt64) &&& 4294967295)) (xs (k + 4)) ∧ Iv (sp_forgex T Q M (xs (k + 1)) ((((xs (k + 2)).toInt64) <<< ((32 : Int32).toInt64 &&& 63)) ||| (((xs (k + 3)).toInt64) &&& 4294967295)) (xs (k + 4))).2.1 := ⟨rfl, hI⟩
      obtain ⟨vs9, ho9⟩ := clV_o hV
      refine z_invV F (rest := []) (c_forgex l T Q hV (xs (k + 1)) ((((xs (k + 2)).toInt64) <<< ((32 : Int32).toInt64 &&& 63)) ||| (((xs (k + 3)).toInt64) &&& 4294967295)) (xs (k + 4)) hnw) yv_L_76 ⟨Nat.le_of_ble_eq_true rfl, Nat.le_of_ble_eq_true rfl⟩ hw hA hS hl ho9 rfl rfl rfl (Nat.le_of_ble_eq_true rfl) dL_law_483 ⟨Nat.le_of_ble_eq_true rfl, Nat.le_of_ble_eq_true rfl⟩ (fun r ad1 ce51 H locs hp hw hS => ?_)
      rw [hq9.1] at hp
      obtain ⟨rfl, rfl, hV, hF2⟩ := hp
      have hR9 := rfV_k hR9 hF2
      refine W.eq (g2 := F0 m 486 ls [.int (sp_forgex T Q M (xs (k + 1)) ((((xs (k + 2)).toInt64) <<< ((32 : Int32).toInt64 &&& 63)) ||| (((xs (k + 3)).toInt64) &&& 4294967295)) (xs (k + 4))).1]) rfl ?_
      refine lv_aload_n hx hb dL_law_486 rfl (lv_at hl 2 rfl) ?_
      refine lv_aload_n hx hb dL_law_487 rfl (lv_at hl 0 rfl) ?_
      refine lv_iload_n hx hb dL_law_488 rfl (lv_at hl 3 rfl) ?_
      refine lv_iconst (v := 1) hx hb dL_law_489 (by decide) ?_
      refine lv_iadd hx hb dL_law_490 ?_
      refine z_top (nI (k + 1)) (nI_add k 1) ?_
      refine va_sld hx hb hX hbl hbA hS (vp_in_nI (show k + 1 < L by omega) (by omega)) dL_law_491 ?_
      refine z_top (xs (k + 1)) (by rw [nI_clamp (show k + 1 < 2 ^ 31 by omega)]) ?_
      refine lv_aload_n hx hb dL_law_492 rfl (lv_at hl 0 rfl) ?_
      refine lv_iload_n hx hb dL_law_493 rfl (lv_at hl 3 rfl) ?_
      refine lv_iconst (v := 2) hx hb dL_law_494 (by decide) ?_
      refine lv_iadd hx hb dL_law_495 ?_
      refine z_top (nI (k + 2)) (nI_add k 2) ?_
      refine va_sld hx hb hX hbl hbA hS (vp_in_nI (show k + 2 < L by omega) (by omega)) dL_law_496 ?_
      refine z_top (xs (k + 2)) (by rw [nI_clamp (show k + 2 < 2 ^ 31 by omega)]) ?_
      refine lv_i2l hx hb dL_law_497 rfl ?_
      refine lv_bipush (v := 32) hx hb dL_law_498 (by decide) ?_
      refine lv_lshl hx hb dL_law_500 rfl ?_
      refine lv_aload_n hx hb dL_law_501 rfl (lv_at hl 0 rfl) ?_
      refine lv_iload_n hx hb dL_law_502 rfl (lv_at hl 3 rfl) ?_
      refine lv_iconst (v := 3) hx hb dL_law_503 (by decide) ?_
      refine lv_iadd hx hb dL_law_504 ?_
      refine z_top (nI (k + 3)) (nI_add k 3) ?_
      refine va_sld hx hb hX hbl hbA hS (vp_in_nI (show k + 3 < L by omega) (by omega)) dL_law_505 ?_
      refine z_top (xs (k + 3)) (by rw [nI_clamp (show k + 3 < 2 ^ 31 by omega)]) ?_
      refine lv_i2l hx hb dL_law_506 rfl ?_
      refine lv_ldc2 (v := 4294967295) hx hb hown (hts _ wd_885) dL_law_507 ?_
      refine lv_land hx hb dL_law_510 ?_
      refine lv_lor hx hb dL_law_511 ?_
      refine lv_aload_n hx hb dL_law_512 rfl (lv_at hl 0 rfl) ?_
      refine lv_iload_n hx hb dL_law_513 rfl (lv_at hl 3 rfl) ?_
      refine lv_iconst (v := 4) hx hb dL_law_514 (by decide) ?_
      refine lv_iadd hx hb dL_law_515 ?_
      refine z_top (nI (k + 4)) (nI_add k 4) ?_
      refine va_sld hx hb hX hbl hbA hS (vp_in_nI (show k + 4 < L by omega) (by omega)) dL_law_516 ?_
      refine z_top (xs (k + 4)) (by rw [nI_clamp (show k + 4 < 2 ^ 31 by omega)]) ?_
      obtain ⟨vs9, ho9⟩ := rfV_o hR9
      refine z_invV F (rest := [.int (sp_forgex T Q M (xs (k + 1)) ((((xs (k + 2)).toInt64) <<< ((32 : Int32).toInt64 &&& 63)) ||| (((xs (k + 3)).toInt64) &&& 4294967295)) (xs (k + 4))).1]) (r_forgex l T Q M hR9 (xs (k + 1)) ((((xs (k + 2)).toInt64) <<< ((32 : Int32).toInt64 &&& 63)) ||| (((xs (k + 3)).toInt64) &&& 4294967295)) (xs (k + 4)) hnw) yv_L_80 ⟨Nat.le_of_ble_eq_true rfl, Nat.le_of_ble_eq_true rfl⟩ hw hA hS hl ho9 rfl rfl rfl (Nat.le_of_ble_eq_true rfl) dL_law_517 ⟨Nat.le_of_ble_eq_true rfl, Nat.le_of_ble_eq_true rfl⟩ (fun r ad1 ce52 H locs hp hw hS => ?_)
      obtain ⟨rfl, rfl, hR9, hF2⟩ := hp
      have hV := clV_k hV hF2
      refine W.eq (g2 := F0 m 520 ls [.int (sp_forgex T Q M (xs (k + 1)) ((((xs (k + 2)).toInt64) <<< ((32 : Int32).toInt64 &&& 63)) ||| (((xs (k + 3)).toInt64) &&& 4294967295)) (xs (k + 4))).1, .int (sp_forgex T Q M (xs (k + 1)) ((((xs (k + 2)).toInt64) <<< ((32 : Int32).toInt64 &&& 63)) ||| (((xs (k + 3)).toInt64) &&& 4294967295)) (xs (k + 4))).1]) rfl ?_
      refine lv_icmp_eq (tgt := 637) hx hb dL_law_520 (by decide) (fun c520 => ?_) (fun c520 => absurd rfl c520)
      refine lv_iinc (v := nI (k + 5)) (lv' := [(3, .int (nI (k + 5))), (0, .ref b), (1, .ref (ad 0)), (2, .ref (ad 100))]) hx hb dL_law_637 hl (k := 3) rfl (nI_add k 5) (by decide) rfl (fun ls hl => ?_)
      refine lv_goto (tgt := 48) hx hb dL_law_640 (by decide) ?_
      exact ih48 (k + 5, (sp_forgex T Q M (xs (k + 1)) ((((xs (k + 2)).toInt64) <<< ((32 : Int32).toInt64 &&& 63)) ||| (((xs (k + 3)).toInt64) &&& 4294967295)) (xs (k + 4))).2.1, (sp_forgex T Q M (xs (k + 1)) ((((xs (k + 2)).toInt64) <<< ((32 : Int32).toInt64 &&& 63)) ||| (((xs (k + 3)).toInt64) &&& 4294967295)) (xs (k + 4))).2.2, M) _ _ _ _ (by show L + 8 - (k + 5) < L + 8 - k; omega) ⟨lv_sub hl [1, 2, 3, 0] rfl, hR9, hV, hq9.2, by show 3 ≤ k + 5; omega, by show k + 5 ≤ L + 5; omega⟩ hw hS
    by_cases h62_13 : (((xs (k)) &&& 31) : Int32) = 13
    · refine lv_tableIn (tgt := 525) (off := 463) hx hb dL_law_62 (by rw [h62_13]; decide) (by rw [h62_13]; decide) (by rw [h62_13]; rfl) (by decide) ?_
      refine lv_aload_n hx hb dL_law_525 rfl (lv_at hl 1 rfl) ?_
      refine lv_aload_n hx hb dL_law_526 rfl (lv_at hl 0 rfl) ?_
      refine lv_iload_n hx hb dL_law_527 rfl (lv_at hl 3 rfl) ?_
      refine lv_iconst (v := 1) hx hb dL_law_528 (by decide) ?_
      refine lv_iadd hx hb dL_law_529 ?_
      refine z_top (nI (k + 1)) (nI_add k 1) ?_
      refine va_sld hx hb hX hbl hbA hS (vp_in_nI (show k + 1 < L by omega) (by omega)) dL_law_530 ?_
      refine z_top (xs (k + 1)) (by rw [nI_clamp (show k + 1 < 2 ^ 31 by omega)]) ?_
      have hq9 : cp_tick T Q (xs (k + 1)) = sp_tick T Q M (xs (k + 1)) ∧ Iv (sp_tick T Q M (xs (k + 1))).2.1 := q_tick hI (xs (k + 1))
      obtain ⟨vs9, ho9⟩ := clV_o hV
      refine z_invV F (rest := []) (c_tick l T Q hV (xs (k + 1))) yv_L_81 ⟨Nat.le_of_ble_eq_true rfl, Nat.le_of_ble_eq_true rfl⟩ hw hA hS hl ho9 rfl rfl rfl (Nat.le_of_ble_eq_true rfl) dL_law_531 ⟨Nat.le_of_ble_eq_true rfl, Nat.le_of_ble_eq_true rfl⟩ (fun r ad1 ce53 H locs hp hw hS => ?_)
      rw [hq9.1] at hp
      obtain ⟨rfl, rfl, hV, hF2⟩ := hp
      have hR9 := rfV_k hR9 hF2
      refine W.eq (g2 := F0 m 534 ls [.int (sp_tick T Q M (xs (k + 1))).1]) rfl ?_
      refine lv_aload_n hx hb dL_law_534 rfl (lv_at hl 2 rfl) ?_
      refine lv_aload_n hx hb dL_law_535 rfl (lv_at hl 0 rfl) ?_
      refine lv_iload_n hx hb dL_law_536 rfl (lv_at hl 3 rfl) ?_
      refine lv_iconst (v := 1) hx hb dL_law_537 (by decide) ?_
      refine lv_iadd hx hb dL_law_538 ?_
      refine z_top (nI (k + 1)) (nI_add k 1) ?_
      refine va_sld hx hb hX hbl hbA hS (vp_in_nI (show k + 1 < L by omega) (by omega)) dL_law_539 ?_
      refine z_top (xs (k + 1)) (by rw [nI_clamp (show k + 1 < 2 ^ 31 by omega)]) ?_
      obtain ⟨vs9, ho9⟩ := rfV_o hR9
      refine z_invV F (rest := [.int (sp_tick T Q M (xs (k + 1))).1]) (r_tick l T Q M hR9 (xs (k + 1))) yv_L_84 ⟨Nat.le_of_ble_eq_true rfl, Nat.le_of_ble_eq_true rfl⟩ hw hA hS hl ho9 rfl rfl rfl (Nat.le_of_ble_eq_true rfl) dL_law_540 ⟨Nat.le_of_ble_eq_true rfl, Nat.le_of_ble_eq_true rfl⟩ (fun r ad1 ce54 H locs hp hw hS => ?_)
      obtain ⟨rfl, rfl, hR9, hF2⟩ := hp
      have hV := clV_k hV hF2
      refine W.eq (g2 := F0 m 543 ls [.int (sp_tick T Q M (xs (k + 1))).1, .int (sp_tick T Q M (xs (k + 1))).1]) rfl ?_
      refine lv_icmp_eq (tgt := 637) hx hb dL_law_543 (by decide) (fun c543 => ?_) (fun c543 => absurd rfl c543)
      refine lv_iinc (v := nI (k + 5)) (lv' := [(3, .int (nI (k + 5))), (0, .ref b), (1, .ref (ad 0)), (2, .ref (ad 100))]) hx hb dL_law_637 hl (k := 3) rfl (nI_add k 5) (by decide) rfl (fun ls hl => ?_)
      refine lv_goto (tgt := 48) hx hb dL_law_640 (by decide) ?_
      exact ih48 (k + 5, (sp_tick T Q M (xs (k + 1))).2.1, (sp_tick T Q M (xs (k + 1))).2.2, M) _ _ _ _ (by show L + 8 - (k + 5) < L + 8 - k; omega) ⟨lv_sub hl [1, 2, 3, 0] rfl, hR9, hV, hq9.2, by show 3 ≤ k + 5; omega, by show k + 5 ≤ L + 5; omega⟩ hw hS
    by_cases h62_14 : (((xs (k)) &&& 31) : Int32) = 14
    · refine lv_tableIn (tgt := 548) (off := 486) hx hb dL_law_62 (by rw [h62_14]; decide) (by rw [h62_14]; decide) (by rw [h62_14]; rfl) (by decide) ?_
      refine lv_aload_n hx hb dL_law_548 rfl (lv_at hl 1 rfl) ?_
      refine lv_aload_n hx hb dL_law_549 rfl (lv_at hl 0 rfl) ?_
      refine lv_iload_n hx hb dL_law_550 rfl (lv_at hl 3 rfl) ?_
      refine lv_iconst (v := 1) hx hb dL_law_551 (by decide) ?_
      refine lv_iadd hx hb dL_law_552 ?_
      refine z_top (nI (k + 1)) (nI_add k 1) ?_
      refine va_sld hx hb hX hbl hbA hS (vp_in_nI (show k + 1 < L by omega) (by omega)) dL_law_553 ?_
      refine z_top (xs (k + 1)) (by rw [nI_clamp (show k + 1 < 2 ^ 31 by omega)]) ?_
      have hq9 : cp_told T Q (xs (k + 1)) = sp_told T Q M (xs (k + 1)) ∧ Iv (sp_told T Q M (xs (k + 1))).2.1 := q_told hI (xs (k + 1))
      obtain ⟨vs9, ho9⟩ := clV_o hV
      refine z_invV F (rest := []) (c_told l T Q hV (xs (k + 1))) yv_L_85 ⟨Nat.le_of_ble_eq_true rfl, Nat.le_of_ble_eq_true rfl⟩ hw hA hS hl ho9 rfl rfl rfl (Nat.le_of_ble_eq_true rfl) dL_law_554 ⟨Nat.le_of_ble_eq_true rfl, Nat.le_of_ble_eq_true rfl⟩ (fun r ad1 ce55 H locs hp hw hS => ?_)
      rw [hq9.1] at hp
      obtain ⟨rfl, rfl, hV, hF2⟩ := hp
      have hR9 := rfV_k hR9 hF2
      refine W.eq (g2 := F0 m 557 ls [.int (sp_told T Q M (xs (k + 1))).1]) rfl ?_
      refine lv_aload_n hx hb dL_law_557 rfl (lv_at hl 2 rfl) ?_
      refine lv_aload_n hx hb dL_law_558 rfl (lv_at hl 0 rfl) ?_
      refine lv_iload_n hx hb dL_law_559 rfl (lv_at hl 3 rfl) ?_
      refine lv_iconst (v := 1) hx hb dL_law_560 (by decide) ?_
      refine lv_iadd hx hb dL_law_561 ?_
      refine z_top (nI (k + 1)) (nI_add k 1) ?_
      refine va_sld hx hb hX hbl hbA hS (vp_in_nI (show k + 1 < L by omega) (by omega)) dL_law_562 ?_
      refine z_top (xs (k + 1)) (by rw [nI_clamp (show k + 1 < 2 ^ 31 by omega)]) ?_
      obtain ⟨vs9, ho9⟩ := rfV_o hR9
      refine z_invV F (rest := [.int (sp_told T Q M (xs (k + 1))).1]) (r_told l T Q M hR9 (xs (k + 1))) yv_L_88 ⟨Nat.le_of_ble_eq_true rfl, Nat.le_of_ble_eq_true rfl⟩ hw hA hS hl ho9 rfl rfl rfl (Nat.le_of_ble_eq_true rfl) dL_law_563 ⟨Nat.le_of_ble_eq_true rfl, Nat.le_of_ble_eq_true rfl⟩ (fun r ad1 ce56 H locs hp hw hS => ?_)
      obtain ⟨rfl, rfl, hR9, hF2⟩ := hp
      have hV := clV_k hV hF2
      refine W.eq (g2 := F0 m 566 ls [.int (sp_told T Q M (xs (k + 1))).1, .int (sp_told T Q M (xs (k + 1))).1]) rfl ?_
      refine lv_icmp_eq (tgt := 637) hx hb dL_law_566 (by decide) (fun c566 => ?_) (fun c566 => absurd rfl c566)
      refine lv_iinc (v := nI (k + 5)) (lv' := [(3, .int (nI (k + 5))), (0, .ref b), (1, .ref (ad 0)), (2, .ref (ad 100))]) hx hb dL_law_637 hl (k := 3) rfl (nI_add k 5) (by decide) rfl (fun ls hl => ?_)
      refine lv_goto (tgt := 48) hx hb dL_law_640 (by decide) ?_
      exact ih48 (k + 5, (sp_told T Q M (xs (k + 1))).2.1, (sp_told T Q M (xs (k + 1))).2.2, M) _ _ _ _ (by show L + 8 - (k + 5) < L + 8 - k; omega) ⟨lv_sub hl [1, 2, 3, 0] rfl, hR9, hV, hq9.2, by show 3 ≤ k + 5; omega, by show k + 5 ≤ L + 5; omega⟩ hw hS
    by_cases h62_15 : (((xs (k)) &&& 31) : Int32) = 15
    · refine lv_tableIn (tgt := 571) (off := 509) hx hb dL_law_62 (by rw [h62_15]; decide) (by rw [h62_15]; decide) (by rw [h62_15]; rfl) (by decide) ?_
      refine lv_aload_n hx hb dL_law_571 rfl (lv_at hl 1 rfl) ?_
      refine lv_aload_n hx hb dL_law_572 rfl (lv_at hl 0 rfl) ?_
      refine lv_iload_n hx hb dL_law_573 rfl (lv_at hl 3 rfl) ?_
      refine lv_iconst (v := 1) hx hb dL_law_574 (by decide) ?_
      refine lv_iadd hx hb dL_law_575 ?_
      refine z_top (nI (k + 1)) (nI_add k 1) ?_
      refine va_sld hx hb hX hbl hbA hS (vp_in_nI (show k + 1 < L by omega) (by omega)) dL_law_576 ?_
      refine z_top (xs (k + 1)) (by rw [nI_clamp (show k + 1 < 2 ^ 31 by omega)]) ?_
      by_cases hw0 : (xs (k + 1)) = 0
      · refine z_top 0 hw0 ?_
        refine lv_aload_n hx hb dL_law_577 rfl (lv_at hl 0 rfl) ?_
        refine lv_iload_n hx hb dL_law_578 rfl (lv_at hl 3 rfl) ?_
        refine lv_iconst (v := 2) hx hb dL_law_579 (by decide) ?_
        refine lv_iadd hx hb dL_law_580 ?_
        refine z_top (nI (k + 2)) (nI_add k 2) ?_
        refine va_sld hx hb hX hbl hbA hS (vp_in_nI (show k + 2 < L by omega) (by omega)) dL_law_581 ?_
        refine z_top (xs (k + 2)) (by rw [nI_clamp (show k + 2 < 2 ^ 31 by omega)]) ?_
        refine lv_aload_n hx hb dL_law_582 rfl (lv_at hl 0 rfl) ?_
        refine lv_iload_n hx hb dL_law_583 rfl (lv_at hl 3 rfl) ?_
        refine lv_iconst (v := 3) hx hb dL_law_584 (by decide) ?_
        refine lv_iadd hx hb dL_law_585 ?_
        refine z_top (nI (k + 3)) (nI_add k 3) ?_
        refine va_sld hx hb hX hbl hbA hS (vp_in_nI (show k + 3 < L by omega) (by omega)) dL_law_586 ?_
        refine z_top (xs (k + 3)) (by rw [nI_clamp (show k + 3 < 2 ^ 31 by omega)]) ?_
        have hq9 : cp_byteOf0 T Q (xs (k + 2)) (xs (k + 3)) = sp_byteOf0 T Q M (xs (k + 2)) (xs (k + 3)) ∧ Iv (sp_byteOf0 T Q M (xs (k + 2)) (xs (k + 3))).2.1 := q_byteOf0 hI (xs (k + 2)) (xs (k + 3))
        obtain ⟨vs9, ho9⟩ := clV_o hV
        refine z_invV F (rest := []) (c_byteOf0 l T Q hV (xs (k + 2)) (xs (k + 3))) yv_L_89 ⟨Nat.le_of_ble_eq_true rfl, Nat.le_of_ble_eq_true rfl⟩ hw hA hS hl ho9 rfl rfl rfl (Nat.le_of_ble_eq_true rfl) dL_law_587 ⟨Nat.le_of_ble_eq_true rfl, Nat.le_of_ble_eq_true rfl⟩ (fun r ad1 ce57 H locs hp hw hS => ?_)
        rw [hq9.1] at hp
        obtain ⟨rfl, rfl, hV, hF2⟩ := hp
        have hR9 := rfV_k hR9 hF2
        refine W.eq (g2 := F0 m 590 ls [.int (sp_byteOf0 T Q M (xs (k + 2)) (xs (k + 3))).1]) rfl ?_
        refine lv_aload_n hx hb dL_law_590 rfl (lv_at hl 2 rfl) ?_
        refine lv_aload_n hx hb dL_law_591 rfl (lv_at hl 0 rfl) ?_
        refine lv_iload_n hx hb dL_law_592 rfl (lv_at hl 3 rfl) ?_
        refine lv_iconst (v := 1) hx hb dL_law_593 (by decide) ?_
        refine lv_iadd hx hb dL_law_594 ?_
        refine z_top (nI (k + 1)) (nI_add k 1) ?_
        refine va_sld hx hb hX hbl hbA hS (vp_in_nI (show k + 1 < L by omega) (by omega)) dL_law_595 ?_
        refine z_top (xs (k + 1)) (by rw [nI_clamp (show k + 1 < 2 ^ 31 by omega)]) ?_
        refine z_top 0 hw0 ?_
        refine lv_aload_n hx hb dL_law_596 rfl (lv_at hl 0 rfl) ?_
        refine lv_iload_n hx hb dL_law_597 rfl (lv_at hl 3 rfl) ?_
        refine lv_iconst (v := 2) hx hb dL_law_598 (by decide) ?_
        refine lv_iadd hx hb dL_law_599 ?_
        refine z_top (nI (k + 2)) (nI_add k 2) ?_
        refine va_sld hx hb hX hbl hbA hS (vp_in_nI (show k + 2 < L by omega) (by omega)) dL_law_600 ?_
        refine z_top (xs (k + 2)) (by rw [nI_clamp (show k + 2 < 2 ^ 31 by omega)]) ?_
        refine lv_aload_n hx hb dL_law_601 rfl (lv_at hl 0 rfl) ?_
        refine lv_iload_n hx hb dL_law_602 rfl (lv_at hl 3 rfl) ?_
        refine lv_iconst (v := 3) hx hb dL_law_603 (by decide) ?_
        refine lv_iadd hx hb dL_law_604 ?_
        refine z_top (nI (k + 3)) (nI_add k 3) ?_
        refine va_sld hx hb hX hbl hbA hS (vp_in_nI (show k + 3 < L by omega) (by omega)) dL_law_605 ?_
        refine z_top (xs (k + 3)) (by rw [nI_clamp (show k + 3 < 2 ^ 31 by omega)]) ?_
        obtain ⟨vs9, ho9⟩ := rfV_o hR9
        refine z_invV F (rest := [.int (sp_byteOf0 T Q M (xs (k + 2)) (xs (k + 3))).1]) (r_byteOf0 l T Q M hR9 (xs (k + 2)) (xs (k + 3))) yv_L_92 ⟨Nat.le_of_ble_eq_true rfl, Nat.le_of_ble_eq_true rfl⟩ hw hA hS hl ho9 rfl rfl rfl (Nat.le_of_ble_eq_true rfl) dL_law_606 ⟨Nat.le_of_ble_eq_true rfl, Nat.le_of_ble_eq_true rfl⟩ (fun r ad1 ce58 H locs hp hw hS => ?_)
        obtain ⟨rfl, rfl, hR9, hF2⟩ := hp
        have hV := clV_k hV hF2
        refine W.eq (g2 := F0 m 609 ls [.int (sp_byteOf0 T Q M (xs (k + 2)) (xs (k + 3))).1, .int (sp_byteOf0 T Q M (xs (k + 2)) (xs (k + 3))).1]) rfl ?_
        refine lv_icmp_eq (tgt := 637) hx hb dL_law_609 (by decide) (fun c609 => ?_) (fun c609 => absurd rfl c609)
        refine lv_iinc (v := nI (k + 5)) (lv' := [(3, .int (nI (k + 5))), (0, .ref b), (1, .ref (ad 0)), (2, .ref (ad 100))]) hx hb dL_law_637 hl (k := 3) rfl (nI_add k 5) (by decide) rfl (fun ls hl => ?_)
        refine lv_goto (tgt := 48) hx hb dL_law_640 (by decide) ?_
        exact ih48 (k + 5, (sp_byteOf0 T Q M (xs (k + 2)) (xs (k + 3))).2.1, (sp_byteOf0 T Q M (xs (k + 2)) (xs (k + 3))).2.2, M) _ _ _ _ (by show L + 8 - (k + 5) < L + 8 - k; omega) ⟨lv_sub hl [1, 2, 3, 0] rfl, hR9, hV, hq9.2, by show 3 ≤ k + 5; omega, by show k + 5 ≤ L + 5; omega⟩ hw hS
      by_cases hw1 : (xs (k + 1)) = 1
      · refine z_top 1 hw1 ?_
        refine lv_aload_n hx hb dL_law_577 rfl (lv_at hl 0 rfl) ?_
        refine lv_iload_n hx hb dL_law_578 rfl (lv_at hl 3 rfl) ?_
        refine lv_iconst (v := 2) hx hb dL_law_579 (by decide) ?_
        refine lv_iadd hx hb dL_law_580 ?_
        refine z_top (nI (k + 2)) (nI_add k 2) ?_
        refine va_sld hx hb hX hbl hbA hS (vp_in_nI (show k + 2 < L by omega) (by omega)) dL_law_581 ?_
        refine z_top (xs (k + 2)) (by rw [nI_clamp (show k + 2 < 2 ^ 31 by omega)]) ?_
        refine lv_aload_n hx hb dL_law_582 rfl (lv_at hl 0 rfl) ?_
        refine lv_iload_n hx hb dL_law_583 rfl (lv_at hl 3 rfl) ?_
        refine lv_iconst (v := 3) hx hb dL_law_584 (by decide) ?_
        refine lv_iadd hx hb dL_law_585 ?_
        refine z_top (nI (k + 3)) (nI_add k 3) ?_
        refine va_sld hx hb hX hbl hbA hS (vp_in_nI (show k + 3 < L by omega) (by omega)) dL_law_586 ?_
        refine z_top (xs (k + 3)) (by rw [nI_clamp (show k + 3 < 2 ^ 31 by omega)]) ?_
        have hq9 : cp_byteOf1 T Q (xs (k + 2)) (xs (k + 3)) = sp_byteOf1 T Q M (xs (k + 2)) (xs (k + 3)) ∧ Iv (sp_byteOf1 T Q M (xs (k + 2)) (xs (k + 3))).2.1 := q_byteOf1 hI (xs (k + 2)) (xs (k + 3))
        obtain ⟨vs9, ho9⟩ := clV_o hV
        refine z_invV F (rest := []) (c_byteOf1 l T Q hV (xs (k + 2)) (xs (k + 3))) yv_L_89 ⟨Nat.le_of_ble_eq_true rfl, Nat.le_of_ble_eq_true rfl⟩ hw hA hS hl ho9 rfl rfl rfl (Nat.le_of_ble_eq_true rfl) dL_law_587 ⟨Nat.le_of_ble_eq_true rfl, Nat.le_of_ble_eq_true rfl⟩ (fun r ad1 ce59 H locs hp hw hS => ?_)
        rw [hq9.1] at hp
        obtain ⟨rfl, rfl, hV, hF2⟩ := hp
        have hR9 := rfV_k hR9 hF2
        refine W.eq (g2 := F0 m 590 ls [.int (sp_byteOf1 T Q M (xs (k + 2)) (xs (k + 3))).1]) rfl ?_
        refine lv_aload_n hx hb dL_law_590 rfl (lv_at hl 2 rfl) ?_
        refine lv_aload_n hx hb dL_law_591 rfl (lv_at hl 0 rfl) ?_
        refine lv_iload_n hx hb dL_law_592 rfl (lv_at hl 3 rfl) ?_
        refine lv_iconst (v := 1) hx hb dL_law_593 (by decide) ?_
        refine lv_iadd hx hb dL_law_594 ?_
        refine z_top (nI (k + 1)) (nI_add k 1) ?_
        refine va_sld hx hb hX hbl hbA hS (vp_in_nI (show k + 1 < L by omega) (by omega)) dL_law_595 ?_
        refine z_top (xs (k + 1)) (by rw [nI_clamp (show k + 1 < 2 ^ 31 by omega)]) ?_
        refine z_top 1 hw1 ?_
        refine lv_aload_n hx hb dL_law_596 rfl (lv_at hl 0 rfl) ?_
        refine lv_iload_n hx hb dL_law_597 rfl (lv_at hl 3 rfl) ?_
        refine lv_iconst (v := 2) hx hb dL_law_598 (by decide) ?_
        refine lv_iadd hx hb dL_law_599 ?_
        refine z_top (nI (k + 2)) (nI_add k 2) ?_
        refine va_sld hx hb hX hbl hbA hS (vp_in_nI (show k + 2 < L by omega) (by omega)) dL_law_600 ?_
        refine z_top (xs (k + 2)) (by rw [nI_clamp (show k + 2 < 2 ^ 31 by omega)]) ?_
        refine lv_aload_n hx hb dL_law_601 rfl (lv_at hl 0 rfl) ?_
        refine lv_iload_n hx hb dL_law_602 rfl (lv_at hl 3 rfl) ?_
        refine lv_iconst (v := 3) hx hb dL_law_603 (by decide) ?_
        refine lv_iadd hx hb dL_law_604 ?_
        refine z_top (nI (k + 3)) (nI_add k 3) ?_
        refine va_sld hx hb hX hbl hbA hS (vp_in_nI (show k + 3 < L by omega) (by omega)) dL_law_605 ?_
        refine z_top (xs (k + 3)) (by rw [nI_clamp (show k + 3 < 2 ^ 31 by omega)]) ?_
        obtain ⟨vs9, ho9⟩ := rfV_o hR9
        refine z_invV F (rest := [.int (sp_byteOf1 T Q M (xs (k + 2)) (xs (k + 3))).1]) (r_byteOf1 l T Q M hR9 (xs (k + 2)) (xs (k + 3))) yv_L_92 ⟨Nat.le_of_ble_eq_true rfl, Nat.le_of_ble_eq_true rfl⟩ hw hA hS hl ho9 rfl rfl rfl (Nat.le_of_ble_eq_true rfl) dL_law_606 ⟨Nat.le_of_ble_eq_true rfl, Nat.le_of_ble_eq_true rfl⟩ (fun r ad1 ce60 H locs hp hw hS => ?_)
        obtain ⟨rfl, rfl, hR9, hF2⟩ := hp
        have hV := clV_k hV hF2
        refine W.eq (g2 := F0 m 609 ls [.int (sp_byteOf1 T Q M (xs (k + 2)) (xs (k + 3))).1, .int (sp_byteOf1 T Q M (xs (k + 2)) (xs (k + 3))).1]) rfl ?_
        refine lv_icmp_eq (tgt := 637) hx hb dL_law_609 (by decide) (fun c609 => ?_) (fun c609 => absurd rfl c609)
        refine lv_iinc (v := nI (k + 5)) (lv' := [(3, .int (nI (k + 5))), (0, .ref b), (1, .ref (ad 0)), (2, .ref (ad 100))]) hx hb dL_law_637 hl (k := 3) rfl (nI_add k 5) (by decide) rfl (fun ls hl => ?_)
        refine lv_goto (tgt := 48) hx hb dL_law_640 (by decide) ?_
        exact ih48 (k + 5, (sp_byteOf1 T Q M (xs (k + 2)) (xs (k + 3))).2.1, (sp_byteOf1 T Q M (xs (k + 2)) (xs (k + 3))).2.2, M) _ _ _ _ (by show L + 8 - (k + 5) < L + 8 - k; omega) ⟨lv_sub hl [1, 2, 3, 0] rfl, hR9, hV, hq9.2, by show 3 ≤ k + 5; omega, by show k + 5 ≤ L + 5; omega⟩ hw hS
      have hnw : ¬ ((xs (k + 1)) = 0 ∨ (xs (k + 1)) = 1) := fun q => q.elim hw0 hw1
      refine lv_aload_n hx hb dL_law_577 rfl (lv_at hl 0 rfl) ?_
      refine lv_iload_n hx hb dL_law_578 rfl (lv_at hl 3 rfl) ?_
      refine lv_iconst (v := 2) hx hb dL_law_579 (by decide) ?_
      refine lv_iadd hx hb dL_law_580 ?_
      refine z_top (nI (k + 2)) (nI_add k 2) ?_
      refine va_sld hx hb hX hbl hbA hS (vp_in_nI (show k + 2 < L by omega) (by omega)) dL_law_581 ?_
      refine z_top (xs (k + 2)) (by rw [nI_clamp (show k + 2 < 2 ^ 31 by omega)]) ?_
      refine lv_aload_n hx hb dL_law_582 rfl (lv_at hl 0 rfl) ?_
      refine lv_iload_n hx hb dL_law_583 rfl (lv_at hl 3 rfl) ?_
      refine lv_iconst (v := 3) hx hb dL_law_584 (by decide) ?_
      refine lv_iadd hx hb dL_law_585 ?_
      refine z_top (nI (k + 3)) (nI_add k 3) ?_
      refine va_sld hx hb hX hbl hbA hS (vp_in_nI (show k + 3 < L by omega) (by omega)) dL_law_586 ?_
      refine z_top (xs (k + 3)) (by rw [nI_clamp (show k + 3 < 2 ^ 31 by omega)]) ?_
      have hq9 : cp_byteOfx T Q (xs (k + 1)) (xs (k + 2)) (xs (k + 3)) = sp_byteOfx T Q M (xs (k + 1)) (xs (k + 2)) (xs (k + 3)) ∧ Iv (sp_byteOfx T Q M (xs (k + 1)) (xs (k + 2)) (xs (k + 3))).2.1 := ⟨rfl, hI⟩
      obtain ⟨vs9, ho9⟩ := clV_o hV
      refine z_invV F (rest := []) (c_byteOfx l T Q hV (xs (k + 1)) (xs (k + 2)) (xs (k + 3)) hnw) yv_L_89 ⟨Nat.le_of_ble_eq_true rfl, Nat.le_of_ble_eq_true rfl⟩ hw hA hS hl ho9 rfl rfl rfl (Nat.le_of_ble_eq_true rfl) dL_law_587 ⟨Nat.le_of_ble_eq_true rfl, Nat.le_of_ble_eq_true rfl⟩ (fun r ad1 ce61 H locs hp hw hS => ?_)
      rw [hq9.1] at hp
      obtain ⟨rfl, rfl, hV, hF2⟩ := hp
      have hR9 := rfV_k hR9 hF2
      refine W.eq (g2 := F0 m 590 ls [.int (sp_byteOfx T Q M (xs (k + 1)) (xs (k + 2)) (xs (k + 3))).1]) rfl ?_
      refine lv_aload_n hx hb dL_law_590 rfl (lv_at hl 2 rfl) ?_
      refine lv_aload_n hx hb dL_law_591 rfl (lv_at hl 0 rfl) ?_
      refine lv_iload_n hx hb dL_law_592 rfl (lv_at hl 3 rfl) ?_
      refine lv_iconst (v := 1) hx hb dL_law_593 (by decide) ?_
      refine lv_iadd hx hb dL_law_594 ?_
      refine z_top (nI (k + 1)) (nI_add k 1) ?_
      refine va_sld hx hb hX hbl hbA hS (vp_in_nI (show k + 1 < L by omega) (by omega)) dL_law_595 ?_
      refine z_top (xs (k + 1)) (by rw [nI_clamp (show k + 1 < 2 ^ 31 by omega)]) ?_
      refine lv_aload_n hx hb dL_law_596 rfl (lv_at hl 0 rfl) ?_
      refine lv_iload_n hx hb dL_law_597 rfl (lv_at hl 3 rfl) ?_
      refine lv_iconst (v := 2) hx hb dL_law_598 (by decide) ?_
      refine lv_iadd hx hb dL_law_599 ?_
      refine z_top (nI (k + 2)) (nI_add k 2) ?_
      refine va_sld hx hb hX hbl hbA hS (vp_in_nI (show k + 2 < L by omega) (by omega)) dL_law_600 ?_
      refine z_top (xs (k + 2)) (by rw [nI_clamp (show k + 2 < 2 ^ 31 by omega)]) ?_
      refine lv_aload_n hx hb dL_law_601 rfl (lv_at hl 0 rfl) ?_
      refine lv_iload_n hx hb dL_law_602 rfl (lv_at hl 3 rfl) ?_
      refine lv_iconst (v := 3) hx hb dL_law_603 (by decide) ?_
      refine lv_iadd hx hb dL_law_604 ?_
      refine z_top (nI (k + 3)) (nI_add k 3) ?_
      refine va_sld hx hb hX hbl hbA hS (vp_in_nI (show k + 3 < L by omega) (by omega)) dL_law_605 ?_
      refine z_top (xs (k + 3)) (by rw [nI_clamp (show k + 3 < 2 ^ 31 by omega)]) ?_
      obtain ⟨vs9, ho9⟩ := rfV_o hR9
      refine z_invV F (rest := [.int (sp_byteOfx T Q M (xs (k + 1)) (xs (k + 2)) (xs (k + 3))).1]) (r_byteOfx l T Q M hR9 (xs (k + 1)) (xs (k + 2)) (xs (k + 3)) hnw) yv_L_92 ⟨Nat.le_of_ble_eq_true rfl, Nat.le_of_ble_eq_true rfl⟩ hw hA hS hl ho9 rfl rfl rfl (Nat.le_of_ble_eq_true rfl) dL_law_606 ⟨Nat.le_of_ble_eq_true rfl, Nat.le_of_ble_eq_true rfl⟩ (fun r ad1 ce62 H locs hp hw hS => ?_)
      obtain ⟨rfl, rfl, hR9, hF2⟩ := hp
      have hV := clV_k hV hF2
      refine W.eq (g2 := F0 m 609 ls [.int (sp_byteOfx T Q M (xs (k + 1)) (xs (k + 2)) (xs (k + 3))).1, .int (sp_byteOfx T Q M (xs (k + 1)) (xs (k + 2)) (xs (k + 3))).1]) rfl ?_
      refine lv_icmp_eq (tgt := 637) hx hb dL_law_609 (by decide) (fun c609 => ?_) (fun c609 => absurd rfl c609)
      refine lv_iinc (v := nI (k + 5)) (lv' := [(3, .int (nI (k + 5))), (0, .ref b), (1, .ref (ad 0)), (2, .ref (ad 100))]) hx hb dL_law_637 hl (k := 3) rfl (nI_add k 5) (by decide) rfl (fun ls hl => ?_)
      refine lv_goto (tgt := 48) hx hb dL_law_640 (by decide) ?_
      exact ih48 (k + 5, (sp_byteOfx T Q M (xs (k + 1)) (xs (k + 2)) (xs (k + 3))).2.1, (sp_byteOfx T Q M (xs (k + 1)) (xs (k + 2)) (xs (k + 3))).2.2, M) _ _ _ _ (by show L + 8 - (k + 5) < L + 8 - k; omega) ⟨lv_sub hl [1, 2, 3, 0] rfl, hR9, hV, hq9.2, by show 3 ≤ k + 5; omega, by show k + 5 ≤ L + 5; omega⟩ hw hS
    by_cases h62_16 : (((xs (k)) &&& 31) : Int32) = 16
    · refine lv_tableIn (tgt := 614) (off := 552) hx hb dL_law_62 (by rw [h62_16]; decide) (by rw [h62_16]; decide) (by rw [h62_16]; rfl) (by decide) ?_
      refine lv_aload_n hx hb dL_law_614 rfl (lv_at hl 1 rfl) ?_
      refine lv_aload_n hx hb dL_law_615 rfl (lv_at hl 0 rfl) ?_
      refine lv_iload_n hx hb dL_law_616 rfl (lv_at hl 3 rfl) ?_
      refine lv_iconst (v := 1) hx hb dL_law_617 (by decide) ?_
      refine lv_iadd hx hb dL_law_618 ?_
      refine z_top (nI (k + 1)) (nI_add k 1) ?_
      refine va_sld hx hb hX hbl hbA hS (vp_in_nI (show k + 1 < L by omega) (by omega)) dL_law_619 ?_
      refine z_top (xs (k + 1)) (by rw [nI_clamp (show k + 1 < 2 ^ 31 by omega)]) ?_
      have hq9 : cp_digit T Q (xs (k + 1)) = sp_digit T Q M (xs (k + 1)) ∧ Iv (sp_digit T Q M (xs (k + 1))).2.1 := q_digit hI (xs (k + 1))
      obtain ⟨vs9, ho9⟩ := clV_o hV
      refine z_invV F (rest := []) (c_digit l T Q hV (xs (k + 1)) cc9 hc9 hcc9) yv_L_93 ⟨Nat.le_of_ble_eq_true rfl, Nat.le_of_ble_eq_true rfl⟩ hw hA hS hl ho9 rfl rfl rfl (Nat.le_of_ble_eq_true rfl) dL_law_620 ⟨Nat.le_of_ble_eq_true rfl, Nat.le_of_ble_eq_true rfl⟩ (fun r ad1 ce63 H locs hp hw hS => ?_)
      rw [hq9.1] at hp
      obtain ⟨rfl, rfl, hV, hF2⟩ := hp
      have hR9 := rfV_k hR9 hF2
      refine W.eq (g2 := F0 m 623 ls [.int (sp_digit T Q M (xs (k + 1))).1]) rfl ?_
      refine lv_aload_n hx hb dL_law_623 rfl (lv_at hl 2 rfl) ?_
      refine lv_aload_n hx hb dL_law_624 rfl (lv_at hl 0 rfl) ?_
      refine lv_iload_n hx hb dL_law_625 rfl (lv_at hl 3 rfl) ?_
      refine lv_iconst (v := 1) hx hb dL_law_626 (by decide) ?_
      refine lv_iadd hx hb dL_law_627 ?_
      refine z_top (nI (k + 1)) (nI_add k 1) ?_
      refine va_sld hx hb hX hbl hbA hS (vp_in_nI (show k + 1 < L by omega) (by omega)) dL_law_628 ?_
      refine z_top (xs (k + 1)) (by rw [nI_clamp (show k + 1 < 2 ^ 31 by omega)]) ?_
      obtain ⟨vs9, ho9⟩ := rfV_o hR9
      refine z_invV F (rest := [.int (sp_digit T Q M (xs (k + 1))).1]) (r_digit l T Q M hR9 (xs (k + 1)) cc9 hc9 hcc9) yv_L_96 ⟨Nat.le_of_ble_eq_true rfl, Nat.le_of_ble_eq_true rfl⟩ hw hA hS hl ho9 rfl rfl rfl (Nat.le_of_ble_eq_true rfl) dL_law_629 ⟨Nat.le_of_ble_eq_true rfl, Nat.le_of_ble_eq_true rfl⟩ (fun r ad1 ce64 H locs hp hw hS => ?_)
      obtain ⟨rfl, rfl, hR9, hF2⟩ := hp
      have hV := clV_k hV hF2
      refine W.eq (g2 := F0 m 632 ls [.int (sp_digit T Q M (xs (k + 1))).1, .int (sp_digit T Q M (xs (k + 1))).1]) rfl ?_
      refine lv_icmp_eq (tgt := 637) hx hb dL_law_632 (by decide) (fun c632 => ?_) (fun c632 => absurd rfl c632)
      refine lv_iinc (v := nI (k + 5)) (lv' := [(3, .int (nI (k + 5))), (0, .ref b), (1, .ref (ad 0)), (2, .ref (ad 100))]) hx hb dL_law_637 hl (k := 3) rfl (nI_add k 5) (by decide) rfl (fun ls hl => ?_)
      refine lv_goto (tgt := 48) hx hb dL_law_640 (by decide) ?_
      exact ih48 (k + 5, (sp_digit T Q M (xs (k + 1))).2.1, (sp_digit T Q M (xs (k + 1))).2.2, M) _ _ _ _ (by show L + 8 - (k + 5) < L + 8 - k; omega) ⟨lv_sub hl [1, 2, 3, 0] rfl, hR9, hV, hq9.2, by show 3 ≤ k + 5; omega, by show k + 5 ≤ L + 5; omega⟩ hw hS
    refine lv_tableOut (tgt := 637) hx hb dL_law_62 (rf_tab (n := 16) (by decide) (fun k9 hk9 => by rcases (show k9 = 0 ∨ k9 = 1 ∨ k9 = 2 ∨ k9 = 3 ∨ k9 = 4 ∨ k9 = 5 ∨ k9 = 6 ∨ k9 = 7 ∨ k9 = 8 ∨ k9 = 9 ∨ k9 = 10 ∨ k9 = 11 ∨ k9 = 12 ∨ k9 = 13 ∨ k9 = 14 ∨ k9 = 15 ∨ k9 = 16 by omega) with rfl | rfl | rfl | rfl | rfl | rfl | rfl | rfl | rfl | rfl | rfl | rfl | rfl | rfl | rfl | rfl | rfl <;> first | exact h62_0 | exact h62_1 | exact h62_2 | exact h62_3 | exact h62_4 | exact h62_5 | exact h62_6 | exact h62_7 | exact h62_8 | exact h62_9 | exact h62_10 | exact h62_11 | exact h62_12 | exact h62_13 | exact h62_14 | exact h62_15 | exact h62_16)) (by decide) ?_
    refine lv_iinc (v := nI (k + 5)) (lv' := [(3, .int (nI (k + 5))), (0, .ref b), (1, .ref (ad 0)), (2, .ref (ad 100))]) hx hb dL_law_637 hl (k := 3) rfl (nI_add k 5) (by decide) rfl (fun ls hl => ?_)
    refine lv_goto (tgt := 48) hx hb dL_law_640 (by decide) ?_
    exact ih48 (k + 5, T, Q, M) _ _ _ _ (by show L + 8 - (k + 5) < L + 8 - k; omega) ⟨lv_sub hl [1, 2, 3, 0] rfl, hR9, hV, hI, by show 3 ≤ k + 5; omega, by show k + 5 ≤ L + 5; omega⟩ hw hS
