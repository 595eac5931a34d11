/-! the invariant, and that class and reference do the same -/
def iv_m (a c t w : Int32) : Prop := ((a = 0 ∨ a = 1 ∨ a = 3) ∧ c = 0 ∧ t = 0 ∧ w = 0) ∨ ((a = 2 ∨ a = 4) ∧ c = 0 ∧ 0 ≤ t ∧ w = 0) ∨ (a = 5 ∧ (c = 1 ∨ c = 5) ∧ 0 ≤ t ∧ w = 0) ∨ (a = 5 ∧ (c = 2 ∨ c = 3 ∨ c = 4) ∧ t = 0 ∧ w = 0) ∨ (a = 5 ∧ c = 6 ∧ 0 ≤ t ∧ (w = 0 ∨ w = 1))
def iv_n (a c t w : Int32) : Prop := (a = 0 ∧ c = 0 ∧ t = 0 ∧ w = 0) ∨ ((a = 1 ∨ a = 2) ∧ c = 0 ∧ 0 ≤ t ∧ w = 0) ∨ (a = 3 ∧ (c = 3 ∨ c = 5) ∧ 0 ≤ t ∧ w = 0) ∨ (a = 3 ∧ (c = 0 ∨ c = 1 ∨ c = 2 ∨ c = 4) ∧ t = 0 ∧ w = 0) ∨ (a = 3 ∧ c = 6 ∧ 0 ≤ t ∧ (w = 0 ∨ w = 1))
def Iv (T : rf_T) : Prop := iv_m (T 1 0) (T 2 0) (T 3 0) (T 4 0) ∧ iv_n (T 1 1) (T 2 1) (T 3 1) (T 4 1) ∧ (T 0 7 = -1 ∨ 0 ≤ T 0 7) ∧ 0 ≤ T 0 8 ∧ (∃ d, d ≤ 8 ∧ T 0 9 = nI d) ∧ (∃ d, d ≤ 8 ∧ T 0 10 = nI d)
section PU
variable {T : rf_T} {Q : rf_Q} {M : List Nat}
theorem Iv_0 (a b c : Int32) : Iv (rf_T0 a b c) := ⟨Or.inl ⟨Or.inl rfl, rfl, rfl, rfl⟩, Or.inl ⟨rfl, rfl, rfl, rfl⟩, Or.inl rfl, by show (0 : Int32) ≤ 0; decide, ⟨0, by decide, rfl⟩, ⟨0, by decide, rfl⟩⟩
theorem Iv_b0 {s c t : Int32} (h : Iv T) (hm : iv_m s c t 0) : Iv (rf_become T 0 s c t) := ⟨hm, h.2.1, h.2.2⟩
theorem Iv_b1 {s c t : Int32} (h : Iv T) (hm : iv_n s c t 0) : Iv (rf_become T 1 s c t) := ⟨h.1, hm, h.2.2⟩
theorem Iv_o2 {v : Int32} (h : Iv T) : Iv (va_up T 0 (va_up (T 0) 2 v)) := h
theorem Iv_o3 {v : Int32} (h : Iv T) : Iv (va_up T 0 (va_up (T 0) 3 v)) := h
theorem Iv_o4 {v : Int32} (h : Iv T) : Iv (va_up T 0 (va_up (T 0) 4 v)) := h
theorem Iv_o5 {v : Int32} (h : Iv T) : Iv (va_up T 0 (va_up (T 0) 5 v)) := h
theorem Iv_o6 {v : Int32} (h : Iv T) : Iv (va_up T 0 (va_up (T 0) 6 v)) := h
theorem Iv_o7 {v : Int32} (h : Iv T) (hv : v = -1 ∨ 0 ≤ v) : Iv (va_up T 0 (va_up (T 0) 7 v)) := ⟨h.1, h.2.1, hv, h.2.2.2⟩
theorem Iv_o8 {v : Int32} (h : Iv T) (hv : 0 ≤ v) : Iv (va_up T 0 (va_up (T 0) 8 v)) := ⟨h.1, h.2.1, h.2.2.1, hv, h.2.2.2.2⟩
theorem Iv_o9 {d : Nat} (h : Iv T) (hd : d ≤ 8) : Iv (va_up T 0 (va_up (T 0) 9 (nI d))) := ⟨h.1, h.2.1, h.2.2.1, h.2.2.2.1, ⟨d, hd, rfl⟩, h.2.2.2.2.2⟩
theorem Iv_o10 {d : Nat} (h : Iv T) (hd : d ≤ 8) : Iv (va_up T 0 (va_up (T 0) 10 (nI d))) := ⟨h.1, h.2.1, h.2.2.1, h.2.2.2.1, h.2.2.2.2.1, ⟨d, hd, rfl⟩⟩
theorem Iv_a5 {f : Nat → Int32} (h : Iv T) : Iv (va_up T 5 f) := h
theorem Iv_a6 {f : Nat → Int32} (h : Iv T) : Iv (va_up T 6 f) := h
theorem Iv_a7 {f : Nat → Int32} (h : Iv T) : Iv (va_up T 7 f) := h
theorem q_bid (k : Nat) {s c t : Int32} (h1 : T 1 k = s) (h2 : T 2 k = c) (h3 : T 3 k = t) (h4 : T 4 k = 0) : rf_become T k s c t = T := by
  subst h1 h2 h3
  funext i j
  unfold rf_become
  by_cases e4 : i = 4
  · subst e4
    by_cases ej : j = k
    · subst ej; simp [va_up, upd, h4]
    · simp [va_up, upd, ej]
  by_cases e3 : i = 3
  · subst e3
    by_cases ej : j = k
    · subst ej; simp [va_up, upd]
    · simp [va_up, upd, ej]
  by_cases e2 : i = 2
  · subst e2
    by_cases ej : j = k
    · subst ej; simp [va_up, upd]
    · simp [va_up, upd, ej]
  by_cases e1 : i = 1
  · subst e1
    by_cases ej : j = k
    · subst ej; simp [va_up, upd]
    · simp [va_up, upd, ej]
  simp [va_up, e1, e2, e3, e4]
theorem q_srv (s c t x : Int32) (k : Nat) : rf_become (va_up T 1 (upd (T 1) k x)) k s c t = rf_become T k s c t := by
  funext i j
  unfold rf_become
  by_cases e4 : i = 4
  · subst e4; simp [va_up]
  by_cases e3 : i = 3
  · subst e3; simp [va_up]
  by_cases e2 : i = 2
  · subst e2; simp [va_up]
  by_cases e1 : i = 1
  · subst e1
    by_cases ej : j = k
    · subst ej; simp [va_up, upd]
    · simp [va_up, upd, ej]
  simp [va_up, e1, e2, e3, e4]
theorem q_tw (k : Nat) (h6 : T 2 k = 6) : va_up (rf_rel T k) 4 (upd ((rf_rel T k) 4) k 1) = va_up (va_up T 3 (upd (T 3) k 30)) 4 (upd (T 4) k 1) := by
  funext i j
  unfold rf_rel rf_become
  by_cases e4 : i = 4
  · subst e4
    by_cases ej : j = k
    · subst ej; simp [va_up, upd]
    · simp [va_up, upd, ej]
  by_cases e3 : i = 3
  · subst e3; simp [va_up]
  by_cases e2 : i = 2
  · subst e2
    by_cases ej : j = k
    · subst ej; simp [va_up, upd, h6]
    · simp [va_up, upd, ej]
  by_cases e1 : i = 1
  · subst e1
    by_cases ej : j = k
    · subst ej; simp [va_up, upd]
    · simp [va_up, upd, ej]
  simp [va_up, e1, e2, e3, e4]
theorem q_power0 (h : Iv T) : cp_power0 T Q = sp_power0 T Q M ∧ Iv (sp_power0 T Q M).2.1 := by
  refine ⟨rfl, ?_⟩
  unfold sp_power0
  split
  · exact h
  · exact Iv_b0 h (by unfold iv_m; decide)
theorem q_power1 (h : Iv T) : cp_power1 T Q = sp_power1 T Q M ∧ Iv (sp_power1 T Q M).2.1 := by
  refine ⟨rfl, ?_⟩
  unfold sp_power1
  split
  · exact Iv_b0 (Iv_o6 h) (by unfold iv_m; decide)
  · exact h
/-- what the states tell -/
theorem iv_c (h : Iv T) (h5 : ¬ T 1 0 = 5) : T 2 0 = 0 ∧ T 4 0 = 0 := by
  rcases h.1 with ⟨-, h1, -, h2⟩ | ⟨-, h1, -, h2⟩ | ⟨h1, -⟩ | ⟨h1, -⟩ | ⟨h1, -⟩
  · exact ⟨h1, h2⟩
  · exact ⟨h1, h2⟩
  · exact absurd h1 h5
  · exact absurd h1 h5
  · exact absurd h1 h5
theorem iv_d (h : Iv T) (h5 : ¬ T 1 1 = 3) : T 2 1 = 0 ∧ T 4 1 = 0 := by
  rcases h.2.1 with ⟨-, h1, -, h2⟩ | ⟨-, h1, -, h2⟩ | ⟨h1, -⟩ | ⟨h1, -⟩ | ⟨h1, -⟩
  · exact ⟨h1, h2⟩
  · exact ⟨h1, h2⟩
  · exact absurd h1 h5
  · exact absurd h1 h5
  · exact absurd h1 h5
theorem iv_5 (h : Iv T) (hc : rf_inC T 0 1 6) : T 1 0 = 5 := by
  rcases h.1 with ⟨-, h1, -⟩ | ⟨-, h1, -⟩ | ⟨h1, -⟩ | ⟨h1, -⟩ | ⟨h1, -⟩
  · exact absurd (show T 2 0 < 1 by rw [h1]; decide) hc.1
  · exact absurd (show T 2 0 < 1 by rw [h1]; decide) hc.1
  · exact h1
  · exact h1
  · exact h1
theorem iv_3 (h : Iv T) (hc : ¬ T 2 1 = 0) : T 1 1 = 3 := by
  rcases h.2.1 with ⟨-, h1, -⟩ | ⟨-, h1, -⟩ | ⟨h1, -⟩ | ⟨h1, -⟩ | ⟨h1, -⟩
  · exact absurd h1 hc
  · exact absurd h1 hc
  · exact h1
  · exact h1
  · exact h1
theorem rf_inC_6 {k : Nat} {hi : Int32} (hh : hi ≤ 6) (h : rf_inC T k 1 hi) : rf_inC T k 1 6 := ⟨h.1, fun q => h.2 (by rw [Int32.lt_iff_toInt_lt] at q ⊢; rw [Int32.le_iff_toInt_le] at hh; omega)⟩
theorem rf_inC_n {k : Nat} {hi : Int32} (h : rf_inC T k 1 hi) : ¬ T 2 k = 0 := fun q => h.1 (by rw [q]; decide)
theorem q_update (h : Iv T) (v : Int32) : cp_update T Q v = sp_update T Q M v ∧ Iv (sp_update T Q M v).2.1 := by
  unfold cp_update cp_startUpdating sp_update cl_dn
  by_cases c1 : v < 0
  · rw [if_pos c1, if_pos c1]; exact ⟨rfl, h⟩
  rw [if_neg c1, if_neg c1]
  by_cases c2 : v ≤ 65535
  · rw [if_pos c2, if_pos c2]
    by_cases c3 : T 1 0 = 1
    · have e := (iv_c h (by rw [c3]; decide)).1
      simp only [c3, e, if_true]
      exact ⟨rfl, Iv_b0 h (by unfold iv_m; decide)⟩
    · by_cases c4 : T 1 0 = 3
      · have e := (iv_c h (by rw [c4]; decide)).1
        rw [if_neg c3, if_neg c3, if_pos c4, if_pos c4, e]
        exact ⟨rfl, Iv_b0 h (by unfold iv_m; decide)⟩
      · rw [if_neg c3, if_neg c3, if_neg c4, if_neg c4]
        exact ⟨rfl, h⟩
  · rw [if_neg c2, if_neg c2]; exact ⟨rfl, h⟩
theorem q_dial (h : Iv T) (nv mv : Int32) : cp_dial T Q nv mv = sp_dial T Q M nv mv ∧ Iv (sp_dial T Q M nv mv).2.1 := by
  unfold cp_dial cp_startAsking sp_dial cl_dn
  by_cases c1 : mv < 1
  · rw [if_pos c1, if_pos c1]; exact ⟨rfl, h⟩
  rw [if_neg c1, if_neg c1]
  by_cases c2 : 8 < mv
  · rw [if_pos c2, if_pos c2]; exact ⟨rfl, h⟩
  rw [if_neg c2, if_neg c2]
  by_cases c3 : 0 ≤ nv
  · rw [if_pos c3, if_pos c3]
    have hm0 : ¬ mv < 0 := fun q => c1 (by rw [Int32.lt_iff_toInt_lt] at q ⊢; rw [Int32.toInt_zero] at q; rw [show (1 : Int32).toInt = 1 from rfl]; omega)
    have hmv : mv = nI mv.toNatClampNeg := cl_ixv hm0
    have hd8 : mv.toNatClampNeg ≤ 8 := Nat.le_of_not_lt (fun q => c2 (by rw [hmv]; exact nI_lt (a := 8) q (rf_clt mv)))
    by_cases c4 : T 1 0 = 3
    · have e := (iv_c h (by rw [c4]; decide)).1
      rw [if_pos c4, if_pos c4, ← hmv]
      have e2 : ((va_up (va_up T 0 (va_up (T 0) 9 mv)) 6 (rf_dgs (T 6) nv mv.toNatClampNeg)) 2) 0 = 0 := e
      rw [e2]
      refine ⟨rfl, Iv_b0 (Iv_a6 ?_) (by unfold iv_m; decide)⟩
      have h9 := Iv_o9 h hd8
      rw [← hmv] at h9
      exact h9
    · rw [if_neg c4, if_neg c4]
      exact ⟨rfl, h⟩
  · rw [if_neg c3, if_neg c3]; exact ⟨rfl, h⟩
theorem q_hang (h : Iv T) : cp_hang T Q = sp_hang T Q M ∧ Iv (sp_hang T Q M).2.1 := by
  unfold cp_hang cp_startEnding0 sp_hang cl_dn
  by_cases c : rf_inC T 0 1 4
  · rw [if_pos c, if_pos c]
    exact ⟨rfl, Iv_b0 h (by rw [iv_5 h (rf_inC_6 (by decide) c)]; unfold iv_m; decide)⟩
  · rw [if_neg c, if_neg c]
    exact ⟨rfl, h⟩
theorem q_alert (h : Iv T) : cp_alert T Q = sp_alert T Q M ∧ Iv (sp_alert T Q M).2.1 := by
  unfold cp_alert cp_startRinging sp_alert cl_dn
  by_cases c : T 2 1 = 1
  · rw [if_pos c, if_pos c]
    exact ⟨rfl, Iv_b1 h (by rw [iv_3 h (by rw [c]; decide)]; unfold iv_n; decide)⟩
  · rw [if_neg c, if_neg c]
    exact ⟨rfl, h⟩
theorem q_answer (h : Iv T) : cp_answer T Q = sp_answer T Q M ∧ Iv (sp_answer T Q M).2.1 := by
  unfold cp_answer cp_startAnswered sp_answer cl_dn
  by_cases c : rf_inC T 1 1 2
  · rw [if_pos c, if_pos c]
    exact ⟨rfl, Iv_b1 h (by rw [iv_3 h (rf_inC_n c)]; unfold iv_n; decide)⟩
  · rw [if_neg c, if_neg c]
    exact ⟨rfl, h⟩
theorem q_clear (h : Iv T) (v : Int32) : cp_clear T Q v = sp_clear T Q M v ∧ Iv (sp_clear T Q M v).2.1 := by
  unfold cp_clear cp_startEnding1 sp_clear cl_dn
  by_cases c1 : v < 0
  · rw [if_neg (fun q => q.1 c1), if_pos c1]; exact ⟨rfl, h⟩
  · rw [if_neg c1]
    by_cases c2 : v ≤ 255
    · rw [if_pos ⟨c1, rf_nl c2⟩, if_pos c2]
      by_cases c : rf_inC T 1 1 4
      · rw [if_pos c, if_pos c]
        exact ⟨rfl, Iv_b1 h (by rw [iv_3 h (rf_inC_n c)]; unfold iv_n; decide)⟩
      · rw [if_neg c, if_neg c]
        exact ⟨rfl, h⟩
    · rw [if_neg (fun q => q.2 (rf_gt c2)), if_neg c2]; exact ⟨rfl, h⟩
theorem q_radio1 (h : Iv T) : cp_radio1 T Q = sp_radio1 T Q M ∧ Iv (sp_radio1 T Q M).2.1 := by
  refine ⟨rfl, ?_⟩
  unfold sp_radio1
  split
  · exact h
  · exact Iv_o4 h
theorem q_radio0 (h : Iv T) : cp_radio0 T Q = sp_radio0 T Q M ∧ Iv (sp_radio0 T Q M).2.1 := by
  unfold cp_radio0 cp_dropRadio sp_radio0
  by_cases c : T 0 4 = 0
  · rw [if_pos c, if_pos c]
    have hh : Iv (va_up T 0 (va_up (T 0) 4 1)) := Iv_o4 h
    have g1 : (va_up T 0 (va_up (T 0) 4 1)) 1 0 = T 1 0 := rfl
    rw [g1]
    by_cases c2 : T 1 0 = 2
    · rw [if_pos c2, if_pos c2]
      exact ⟨rfl, Iv_b1 (Iv_b0 hh (by unfold iv_m; decide)) (by unfold iv_n; decide)⟩
    rw [if_neg c2, if_neg c2]
    by_cases c4 : T 1 0 = 4
    · rw [if_pos c4, if_pos c4]
      exact ⟨rfl, Iv_b1 (Iv_b0 hh (by unfold iv_m; decide)) (by unfold iv_n; decide)⟩
    rw [if_neg c4, if_neg c4]
    by_cases c5 : T 1 0 = 5
    · rw [if_pos c5, if_pos c5]
      exact ⟨rfl, Iv_b1 (Iv_b0 hh (by unfold iv_m; decide)) (by unfold iv_n; decide)⟩
    rw [if_neg c5, if_neg c5]
    have e : rf_become (va_up T 0 (va_up (T 0) 4 1)) 0 (T 1 0) 0 0 = va_up T 0 (va_up (T 0) 4 1) := by
      refine q_bid 0 rfl (iv_c hh c5).1 ?_ (iv_c hh c5).2
      rcases hh.1 with ⟨-, -, h1, -⟩ | ⟨h1, -⟩ | ⟨h1, -⟩ | ⟨h1, -⟩ | ⟨h1, -⟩
      · exact h1
      · exact h1.elim (fun q => absurd q c2) (fun q => absurd q c4)
      · exact absurd h1 c5
      · exact absurd h1 c5
      · exact absurd h1 c5
    rw [e]
    exact ⟨rfl, Iv_b1 hh (by unfold iv_n; decide)⟩
  · rw [if_neg c, if_neg c]
    exact ⟨rfl, h⟩
theorem cl_has0 {q : List (List Nat)} (h8 : q.length ≤ 8) : cl_has q 0 ↔ ¬ nI q.length = 0 := by
  refine ⟨fun h e => h.2 (by rw [e]; decide), fun h => ⟨by decide, fun q9 => h ?_⟩⟩
  have h0 : ¬ 0 < q.length := fun q8 => absurd q9 (nI_ge (a := 0) q8 (by omega))
  rw [show q.length = 0 by omega]
  rfl
theorem q_lose0 (h : Iv T) (h8 : (Q 0).length ≤ 8) : cp_lose0 T Q = sp_lose0 T Q M ∧ Iv (sp_lose0 T Q M).2.1 := by
  unfold cp_lose0 sp_lose0
  by_cases c : nI (Q 0).length = 0
  · rw [if_neg (fun q => (cl_has0 h8).mp q c), if_pos c]; exact ⟨rfl, h⟩
  · rw [if_pos ((cl_has0 h8).mpr c), if_neg c]; exact ⟨rfl, h⟩
theorem q_lose1 (h : Iv T) (h8 : (Q 1).length ≤ 8) : cp_lose1 T Q = sp_lose1 T Q M ∧ Iv (sp_lose1 T Q M).2.1 := by
  unfold cp_lose1 sp_lose1
  by_cases c : nI (Q 1).length = 0
  · rw [if_neg (fun q => (cl_has0 h8).mp q c), if_pos c]; exact ⟨rfl, h⟩
  · rw [if_pos ((cl_has0 h8).mpr c), if_neg c]; exact ⟨rfl, h⟩
theorem cl_spl (x : List Nat) (iv0 mv : Int32) (hx : x.length ≤ 24) : cl_byte (cl_chg x iv0 mv) iv0 = (if iv0 < 0 then -3 else if iv0 < nI x.length then nI (x.getD iv0.toNatClampNeg 0 ^^^ mv.toNatClampNeg) else -3) ∧ (cl_chg x iv0 mv = if iv0 < 0 then x else if iv0 < nI x.length then x.set iv0.toNatClampNeg (x.getD iv0.toNatClampNeg 0 ^^^ mv.toNatClampNeg) else x) := by
  have hl := cl_chg_len x iv0 mv
  by_cases c1 : iv0 < 0
  · rw [if_pos c1, if_pos c1]
    unfold cl_byte cl_chg
    rw [if_neg (fun q => q.1 c1), if_neg (fun q => q.1 c1)]
    exact ⟨rfl, rfl⟩
  · rw [if_neg c1, if_neg c1]
    by_cases c2 : iv0 < nI x.length
    · rw [if_pos c2, if_pos c2]
      have hin : cl_in x iv0 := ⟨c1, fun q => rf_nl q c2⟩
      have hi := cl_ixl hin.1 hin.2
      have e : cl_chg x iv0 mv = x.set iv0.toNatClampNeg (x.getD iv0.toNatClampNeg 0 ^^^ mv.toNatClampNeg) := by unfold cl_chg; rw [if_pos hin]
      refine ⟨?_, e⟩
      unfold cl_byte
      rw [if_pos ⟨c1, by rw [hl]; exact hin.2⟩, e, cl_sd _ _ _ hi, if_pos rfl]
    · rw [if_neg c2, if_neg c2]
      have hin : ¬ cl_in x iv0 := fun q => q.2 (rf_ge c2)
      unfold cl_byte cl_chg
      rw [if_neg hin, if_neg hin]
      exact ⟨rfl, rfl⟩
theorem rf_hdtl2 {q : List (List Nat)} (h : ¬ nI q.length = 0) : q.headD [] :: q.tail = q := by
  cases q with
  | nil => exact absurd rfl h
  | cons a l => rfl
theorem q_vid (w : Nat) : va_up Q w (Q w) = Q := by
  funext i
  by_cases e : i = w
  · subst e; simp [va_up]
  · simp [va_up, e]
theorem q_spoil0 (h : Iv T) (h8 : (Q 0).length ≤ 8) (hx : ((Q 0).headD []).length ≤ 24) (iv0 mv : Int32) : cp_spoil0 T Q iv0 mv = sp_spoil0 T Q M iv0 mv ∧ Iv (sp_spoil0 T Q M iv0 mv).2.1 := by
  unfold cp_spoil0 sp_spoil0
  obtain ⟨e1, e2⟩ := cl_spl ((Q 0).headD []) iv0 mv hx
  by_cases c1 : mv < 0
  · rw [if_neg (fun q => q.1 c1), if_pos c1]; exact ⟨rfl, h⟩
  rw [if_neg c1]
  by_cases c2 : mv ≤ 255
  · rw [if_pos ⟨c1, rf_nl c2⟩, if_pos c2]
    by_cases c : nI (Q 0).length = 0
    · rw [if_neg (fun q => (cl_has0 h8).mp q c), if_pos c]; exact ⟨rfl, h⟩
    rw [if_pos ((cl_has0 h8).mpr c), if_neg c, e1, e2]
    by_cases c3 : iv0 < 0
    · rw [if_pos c3, if_pos c3, if_pos c3, rf_hdtl2 c, q_vid]; exact ⟨rfl, h⟩
    rw [if_neg c3, if_neg c3, if_neg c3]
    by_cases c4 : iv0 < nI ((Q 0).headD []).length
    · rw [if_pos c4, if_pos c4, if_pos c4]; exact ⟨rfl, h⟩
    · rw [if_neg c4, if_neg c4, if_neg c4, rf_hdtl2 c, q_vid]; exact ⟨rfl, h⟩
  · rw [if_neg (fun q => q.2 (rf_gt c2)), if_neg c2]; exact ⟨rfl, h⟩
theorem q_spoil1 (h : Iv T) (h8 : (Q 1).length ≤ 8) (hx : ((Q 1).headD []).length ≤ 24) (iv0 mv : Int32) : cp_spoil1 T Q iv0 mv = sp_spoil1 T Q M iv0 mv ∧ Iv (sp_spoil1 T Q M iv0 mv).2.1 := by
  unfold cp_spoil1 sp_spoil1
  obtain ⟨e1, e2⟩ := cl_spl ((Q 1).headD []) iv0 mv hx
  by_cases c1 : mv < 0
  · rw [if_neg (fun q => q.1 c1), if_pos c1]; exact ⟨rfl, h⟩
  rw [if_neg c1]
  by_cases c2 : mv ≤ 255
  · rw [if_pos ⟨c1, rf_nl c2⟩, if_pos c2]
    by_cases c : nI (Q 1).length = 0
    · rw [if_neg (fun q => (cl_has0 h8).mp q c), if_pos c]; exact ⟨rfl, h⟩
    rw [if_pos ((cl_has0 h8).mpr c), if_neg c, e1, e2]
    by_cases c3 : iv0 < 0
    · rw [if_pos c3, if_pos c3, if_pos c3, rf_hdtl2 c, q_vid]; exact ⟨rfl, h⟩
    rw [if_neg c3, if_neg c3, if_neg c3]
    by_cases c4 : iv0 < nI ((Q 1).headD []).length
    · rw [if_pos c4, if_pos c4, if_pos c4]; exact ⟨rfl, h⟩
    · rw [if_neg c4, if_neg c4, if_neg c4, rf_hdtl2 c, q_vid]; exact ⟨rfl, h⟩
  · rw [if_neg (fun q => q.2 (rf_gt c2)), if_neg c2]; exact ⟨rfl, h⟩
theorem cl_bya (x : List Nat) (i : Int32) : cl_byte x i = if i < 0 then -3 else if nI x.length ≤ i then -3 else nI (x.getD i.toNatClampNeg 0) := by
  unfold cl_byte
  by_cases c1 : i < 0
  · rw [if_neg (fun q => q.1 c1), if_pos c1]
  rw [if_neg c1]
  by_cases c2 : nI x.length ≤ i
  · rw [if_neg (fun q => q.2 c2), if_pos c2]
  · rw [if_pos ⟨c1, c2⟩, if_neg c2]
theorem q_byteOf0 (h : Iv T) (kv iv0 : Int32) : cp_byteOf0 T Q kv iv0 = sp_byteOf0 T Q M kv iv0 ∧ Iv (sp_byteOf0 T Q M kv iv0).2.1 := by
  unfold cp_byteOf0 sp_byteOf0
  rw [cl_bya]
  by_cases c1 : kv < 0
  · rw [if_neg (fun q => q.1 c1), if_pos c1]; exact ⟨rfl, h⟩
  rw [if_neg c1]
  by_cases c2 : kv < nI (Q 0).length
  · rw [if_pos ⟨c1, fun q => rf_nl q c2⟩, if_pos c2]
    by_cases c3 : iv0 < 0
    · rw [if_pos c3, if_pos c3]; exact ⟨rfl, h⟩
    rw [if_neg c3, if_neg c3]
    by_cases c4 : nI ((Q 0).getD kv.toNatClampNeg []).length ≤ iv0
    · rw [if_pos c4, if_pos c4]; exact ⟨rfl, h⟩
    · rw [if_neg c4, if_neg c4]; exact ⟨rfl, h⟩
  · rw [if_neg (fun q => q.2 (rf_ge c2)), if_neg c2]; exact ⟨rfl, h⟩
theorem q_byteOf1 (h : Iv T) (kv iv0 : Int32) : cp_byteOf1 T Q kv iv0 = sp_byteOf1 T Q M kv iv0 ∧ Iv (sp_byteOf1 T Q M kv iv0).2.1 := by
  unfold cp_byteOf1 sp_byteOf1
  rw [cl_bya]
  by_cases c1 : kv < 0
  · rw [if_neg (fun q => q.1 c1), if_pos c1]; exact ⟨rfl, h⟩
  rw [if_neg c1]
  by_cases c2 : kv < nI (Q 1).length
  · rw [if_pos ⟨c1, fun q => rf_nl q c2⟩, if_pos c2]
    by_cases c3 : iv0 < 0
    · rw [if_pos c3, if_pos c3]; exact ⟨rfl, h⟩
    rw [if_neg c3, if_neg c3]
    by_cases c4 : nI ((Q 1).getD kv.toNatClampNeg []).length ≤ iv0
    · rw [if_pos c4, if_pos c4]; exact ⟨rfl, h⟩
    · rw [if_neg c4, if_neg c4]; exact ⟨rfl, h⟩
  · rw [if_neg (fun q => q.2 (rf_ge c2)), if_neg c2]; exact ⟨rfl, h⟩
theorem q_digit (h : Iv T) (v : Int32) : cp_digit T Q v = sp_digit T Q M v ∧ Iv (sp_digit T Q M v).2.1 := by
  have hx : Iv (sp_digit T Q M v).2.1 := by
    unfold sp_digit
    (repeat' split) <;> exact h
  refine ⟨?_, hx⟩
  unfold cp_digit cp_numberByte sp_digit
  have hc : T 2 1 = 0 ↔ T 2 1 ≤ 0 := by
    refine ⟨fun q => by rw [q]; decide, fun q => ?_⟩
    rcases h.2.1 with ⟨-, h1, -⟩ | ⟨-, h1, -⟩ | ⟨-, h1, -⟩ | ⟨-, h1, -⟩ | ⟨-, h1, -⟩
    · exact h1
    · exact h1
    · rcases h1 with h1 | h1 <;> rw [h1] at q <;> exact absurd q (by decide)
    · rcases h1 with h1 | h1 | h1 | h1
      · exact h1
      · rw [h1] at q; exact absurd q (by decide)
      · rw [h1] at q; exact absurd q (by decide)
      · rw [h1] at q; exact absurd q (by decide)
    · rw [h1] at q; exact absurd q (by decide)
  by_cases c : T 2 1 = 0
  · rw [if_pos c, if_pos (hc.mp c)]
  · rw [if_neg c, if_neg (fun q => c (hc.mpr q))]
theorem q_it {c : Prop} [Decidable c] {a b : rf_R} {T : rf_T} (ha : a.2.1 = T) (hb : b.2.1 = T) : (if c then a else b).2.1 = T := by
  split
  · exact ha
  · exact hb
theorem q_told (h : Iv T) (v : Int32) : cp_told T Q v = sp_told T Q M v ∧ Iv (sp_told T Q M v).2.1 := by
  refine ⟨rfl, ?_⟩
  have e : (sp_told T Q M v).2.1 = T := by
    unfold sp_told
    exact (q_it rfl (q_it rfl (q_it rfl (q_it rfl (q_it rfl (q_it rfl (q_it rfl (q_it rfl (q_it rfl (q_it rfl (q_it rfl (q_it (q_it rfl rfl) (q_it rfl (q_it rfl rfl))))))))))))))
  rw [e]
  exact h
theorem q_forge0 (h : Iv T) (h8 : (Q 0).length ≤ 8) (v : Int64) (nv : Int32) : cp_forge0 T Q v nv = sp_forge0 T Q M v nv ∧ Iv (sp_forge0 T Q M v nv).2.1 := by
  unfold cp_forge0 sp_forge0
  by_cases c1 : nv < 2
  · rw [if_pos c1, if_pos c1]; exact ⟨rfl, h⟩
  rw [if_neg c1, if_neg c1]
  by_cases c2 : nv ≤ 8
  · rw [if_pos c2, if_pos c2]
    by_cases c3 : T 0 4 = 0
    · rw [if_pos c3]
      by_cases c4 : nI (Q 0).length = 8
      · rw [if_neg (fun q => absurd (cl_op_rm.mp q).2 (by have := (nI_eq (b := 8) (by omega) (by decide)).mp c4; omega)), if_pos c4]; exact ⟨rfl, h⟩
      · rw [if_pos (cl_op_rm.mpr ⟨c3, Nat.lt_of_le_of_ne h8 (fun q => c4 (by rw [q]; rfl))⟩), if_neg c4]; exact ⟨rfl, h⟩
    · rw [if_neg (fun q => c3 (cl_op_rm.mp q).1), if_neg c3]; exact ⟨rfl, h⟩
  · rw [if_neg c2, if_neg c2]; exact ⟨rfl, h⟩
theorem q_forge1 (h : Iv T) (h8 : (Q 1).length ≤ 8) (v : Int64) (nv : Int32) : cp_forge1 T Q v nv = sp_forge1 T Q M v nv ∧ Iv (sp_forge1 T Q M v nv).2.1 := by
  unfold cp_forge1 sp_forge1
  by_cases c1 : nv < 2
  · rw [if_pos c1, if_pos c1]; exact ⟨rfl, h⟩
  rw [if_neg c1, if_neg c1]
  by_cases c2 : nv ≤ 8
  · rw [if_pos c2, if_pos c2]
    by_cases c3 : T 0 4 = 0
    · rw [if_pos c3]
      by_cases c4 : nI (Q 1).length = 8
      · rw [if_neg (fun q => absurd (cl_op_rm.mp q).2 (by have := (nI_eq (b := 8) (by omega) (by decide)).mp c4; omega)), if_pos c4]; exact ⟨rfl, h⟩
      · rw [if_pos (cl_op_rm.mpr ⟨c3, Nat.lt_of_le_of_ne h8 (fun q => c4 (by rw [q]; rfl))⟩), if_neg c4]; exact ⟨rfl, h⟩
    · rw [if_neg (fun q => c3 (cl_op_rm.mp q).1), if_neg c3]; exact ⟨rfl, h⟩
  · rw [if_neg c2, if_neg c2]; exact ⟨rfl, h⟩
end PU
