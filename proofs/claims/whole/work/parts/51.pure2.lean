section PU2
variable {T : rf_T} {Q : rf_Q} {M : List Nat} {t : List (List Nat)}
theorem q_or (a b : Nat) : nI a ||| nI b = nI (a ||| b) := by
  apply Int32.toBitVec_inj.1
  show BitVec.ofNat 32 a ||| BitVec.ofNat 32 b = BitVec.ofNat 32 (a ||| b)
  apply BitVec.eq_of_getLsbD_eq
  intro i hi
  simp [hi]
theorem q_and2 (v : Int32) : v &&& 2 = 0 ∨ v &&& 2 = 2 := by
  have two : ∀ i, i < 32 → (2#32).getLsbD i = decide (i = 1) := by decide +kernel
  cases hb : v.toBitVec.getLsbD 1
  · left
    apply Int32.toBitVec_inj.1
    apply BitVec.eq_of_getLsbD_eq
    intro i hi
    show (v.toBitVec &&& 2#32).getLsbD i = (0#32).getLsbD i
    rw [BitVec.getLsbD_and, two i hi]
    by_cases e : i = 1
    · subst e; rw [hb]; rfl
    · simp [e]
  · right
    apply Int32.toBitVec_inj.1
    apply BitVec.eq_of_getLsbD_eq
    intro i hi
    show (v.toBitVec &&& 2#32).getLsbD i = (2#32).getLsbD i
    rw [BitVec.getLsbD_and, two i hi]
    by_cases e : i = 1
    · subst e; rw [hb]; rfl
    · simp [e]
theorem q_and1 (v : Int32) : v &&& 1 = 0 ∨ v &&& 1 = 1 := by
  have h := pk_and v (m := 1) 1 (by decide)
  rcases Nat.mod_two_eq_zero_or_one v.toBitVec.toNat with e | e
  · left; rw [h, show v.toBitVec.toNat % 2 ^ 1 = 0 from e]; rfl
  · right; rw [h, show v.toBitVec.toNat % 2 ^ 1 = 1 from e]; rfl
theorem q_b0 (v : Int32) : cl_b0 v = 0 ↔ ¬ v &&& 1 = 1 := by
  unfold cl_b0
  rcases q_and1 v with e | e
  · rw [e]; decide
  · rw [e]; decide
theorem q_b1 (v : Int32) : cl_b1 v = 0 ↔ ¬ v &&& 2 = 2 := by
  unfold cl_b1
  rcases q_and2 v with e | e
  · rw [e]; decide
  · rw [e]; decide
theorem q_val2 (hb : ∀ i, i < M.length → M.getD i 0 < 256) (hs : rf_sz M 19 = some 2) : 0 ≤ rf_val M 19 := by
  have hB : ∀ i, M.getD i 0 < 256 := fun i => if h : i < M.length then hb i h else by
    simp [List.getD, List.getElem?_eq_none (Nat.le_of_not_lt h)]
  unfold rf_sz at hs
  obtain ⟨i, h1, h2⟩ := Option.map_eq_some_iff.mp hs
  unfold rf_val
  rw [h1]
  show 0 ≤ rf_num M i (M.getD (i + 1) 0)
  rw [h2]
  show 0 ≤ ((((0 : Int32) <<< ((8 : Int32) &&& 31)) ||| nI (M.getD (i + 2 + 0) 0)) <<< ((8 : Int32) &&& 31)) ||| nI (M.getD (i + 2 + 1) 0)
  have ha := hB (i + 2 + 0)
  have hc := hB (i + 2 + 1)
  generalize M.getD (i + 2 + 0) 0 = a at *
  generalize M.getD (i + 2 + 1) 0 = c at *
  rw [show ((0 : Int32) <<< ((8 : Int32) &&& 31)) = nI 0 from by decide, q_or, Nat.zero_or, pk_shlN _ 8 (by decide) (by omega), q_or]
  have hl : (a * 2 ^ 8 ||| c) < 2 ^ 16 := Nat.or_lt_two_pow (by omega) (by omega)
  exact rf_ge (nI_pos (by omega))
theorem q_pc1 {x : List Nat} : rf_put T (va_up Q 0 t) 1 x = va_up (rf_put T Q 1 x) 0 t := by
  unfold rf_put
  rw [rf_vu_n _ _ (show (1 : Nat) ≠ 0 by decide)]
  split
  · funext i
    by_cases e0 : i = 0
    · subst e0; simp [va_up]
    · by_cases e1 : i = 1
      · subst e1; simp [va_up]
      · simp [va_up, e0, e1]
  · rfl
theorem q_pc0 {x : List Nat} : rf_put T (va_up Q 1 t) 0 x = va_up (rf_put T Q 0 x) 1 t := by
  unfold rf_put
  rw [rf_vu_n _ _ (show (0 : Nat) ≠ 1 by decide)]
  split
  · funext i
    by_cases e0 : i = 0
    · subst e0; simp [va_up]
    · by_cases e1 : i = 1
      · subst e1; simp [va_up]
      · simp [va_up, e0, e1]
  · rfl
/-- a class's result beside the reference's, which has taken the message out of row w first -/
def q_ok (w : Nat) (Q : rf_Q) (t : List (List Nat)) (a b : rf_R) : Prop := b = (a.1, a.2.1, va_up a.2.2 w t) ∧ Iv a.2.1 ∧ a.2.2 w = Q w
theorem q_net0 {T1 : rf_T} (r : Int32) (h : Iv T1) : q_ok 0 Q t (r, T1, Q) (r, T1, va_up Q 0 t) := ⟨rfl, h, rfl⟩
theorem q_net1 {T1 T2 : rf_T} (r : Int32) (x : List Nat) (h : Iv T1) : q_ok 0 Q t (r, T1, rf_put T2 Q 1 x) (r, T1, rf_put T2 (va_up Q 0 t) 1 x) := ⟨by rw [q_pc1], h, cl_putn _ _ _ (by decide)⟩
theorem q_mob0 {T1 : rf_T} (r : Int32) (h : Iv T1) : q_ok 1 Q t (r, T1, Q) (r, T1, va_up Q 1 t) := ⟨rfl, h, rfl⟩
theorem q_mob1 {T1 T2 : rf_T} (r : Int32) (x : List Nat) (h : Iv T1) : q_ok 1 Q t (r, T1, rf_put T2 Q 0 x) (r, T1, rf_put T2 (va_up Q 1 t) 0 x) := ⟨by rw [q_pc0], h, cl_putn _ _ _ (by decide)⟩
theorem q_ans (h : Iv T) (hs : T 1 1 = 1 ∨ T 1 1 = 2) (hz : rf_sz M 34 = some 4) : q_ok 0 Q t (cp_takesAnswer T Q M) (1, (sp_judge T (va_up Q 0 t) M).2.1, (sp_judge T (va_up Q 0 t) M).2.2) := by
  have e2 : T 2 1 = 0 := (iv_d h (by rcases hs with e | e <;> rw [e] <;> decide)).1
  have key : q_ok 0 Q t (if rf_val M 34 = rf_turned (T 0 2) (T 0 1) then (if T 1 1 = 1 then (1, (cp_decideUpdate T Q).2.1, (cp_decideUpdate T Q).2.2) else (1, (cp_decideService T Q).2.1, (cp_decideService T Q).2.2)) else (1, (cp_forgetMobile T (rf_put T Q 1 [5, 17])).2.1, (cp_forgetMobile T (rf_put T Q 1 [5, 17])).2.2)) (1, (sp_judge T (va_up Q 0 t) M).2.1, (sp_judge T (va_up Q 0 t) M).2.2) := by
    unfold sp_judge
    by_cases c1 : rf_val M 34 = rf_turned (T 0 2) (T 0 1)
    · rw [if_pos c1, if_pos c1]
      by_cases c2 : T 1 1 = 1
      · rw [if_pos c2, if_pos c2]
        unfold cp_decideUpdate
        by_cases c3 : T 0 3 &&& 1 = 1
        · rw [if_neg (fun q => (q_b0 _).mp q c3), if_pos c3]
          rw [show ((va_up T 0 (va_up (T 0) 7 (T 0 8))) 2) 1 = 0 from e2]
          exact q_net1 1 _ (Iv_b1 (Iv_o7 h (Or.inr h.2.2.2.1)) (by unfold iv_n; decide))
        · rw [if_pos ((q_b0 _).mpr c3), if_neg c3, e2]
          exact q_net1 1 _ (Iv_b1 h (by unfold iv_n; decide))
      · rw [if_neg c2, if_neg c2]
        unfold cp_decideService
        by_cases c3 : T 0 3 &&& 2 = 2
        · rw [if_neg (fun q => (q_b1 _).mp q c3), if_pos c3, e2]
          exact q_net1 1 _ (Iv_b1 h (by unfold iv_n; decide))
        · rw [if_pos ((q_b1 _).mpr c3), if_neg c3, e2]
          exact q_net1 1 _ (Iv_b1 h (by unfold iv_n; decide))
    · rw [if_neg c1, if_neg c1, e2]
      exact q_net1 1 _ (Iv_b1 (Iv_o7 h (Or.inl rfl)) (by unfold iv_n; decide))
  unfold cp_takesAnswer
  by_cases c : T 1 1 = 1
  · rw [if_pos c, if_pos hz]
    exact key
  · rw [if_neg c, if_pos (hs.resolve_left c), if_pos hz]
    exact key
theorem q_askk (h : Iv T) (h0 : T 1 1 = 0) (wh : Int32) (hw : wh = 1 ∨ wh = 2) : q_ok 0 Q t (1, (cp_sendChallenge T Q wh).2.1, (cp_sendChallenge T Q wh).2.2) (1, (sp_ask T (va_up Q 0 t) M wh).2.1, (sp_ask T (va_up Q 0 t) M wh).2.2) := by
  have e2 : T 2 1 = 0 := (iv_d h (by rw [h0]; decide)).1
  unfold cp_sendChallenge sp_ask
  rw [show ((va_up T 0 (va_up (T 0) 2 (((T 0 2) * 1103515245) + 12345))) 2) 1 = 0 from e2]
  exact q_net1 1 _ (Iv_b1 (Iv_o2 h) (by rcases hw with e | e <;> rw [e] <;> unfold iv_n <;> decide))
theorem q_man1 (h : Iv T) (hb : ∀ i, i < M.length → M.getD i 0 < 256) : q_ok 0 Q t (cp_takesManaging1 T Q M) (sp_networkMoves T (va_up Q 0 t) M (M.getD 1 0)) := by
  unfold cp_takesManaging1 sp_networkMoves
  by_cases c1 : M.getD 1 0 = 1
  · rw [if_pos c1, if_pos c1]
    exact q_net0 1 (Iv_b1 (Iv_o7 h (Or.inl rfl)) (by unfold iv_n; decide))
  rw [if_neg c1, if_neg c1]
  by_cases c8 : M.getD 1 0 = 8
  · rw [if_pos c8, if_pos c8]
    unfold cp_takesUpdate
    by_cases s0 : T 1 1 = 0
    · rw [if_pos s0, if_pos s0]
      by_cases z : rf_sz M 19 = some 2
      · rw [if_pos z, if_pos z]
        exact q_askk (T := va_up T 0 (va_up (T 0) 8 (rf_val M 19))) (Iv_o8 h (q_val2 hb z)) s0 1 (Or.inl rfl)
      · rw [if_neg z, if_neg z]; exact q_net0 0 h
    · rw [if_neg s0, if_neg s0]; exact q_net0 0 h
  rw [if_neg c8, if_neg c8]
  by_cases c20 : M.getD 1 0 = 20
  · rw [if_pos c20, if_pos c20]
    by_cases s1 : T 1 1 = 1
    · rw [if_pos s1]
      by_cases z : rf_sz M 34 = some 4
      · rw [if_pos z]; exact q_ans h (Or.inl s1) z
      · rw [if_neg z]
        unfold cp_takesAnswer
        rw [if_pos s1, if_neg z]; exact q_net0 0 h
    · rw [if_neg s1]
      by_cases s2 : T 1 1 = 2
      · rw [if_pos s2]
        by_cases z : rf_sz M 34 = some 4
        · rw [if_pos z]; exact q_ans h (Or.inr s2) z
        · rw [if_neg z]
          unfold cp_takesAnswer
          rw [if_neg s1, if_pos s2, if_neg z]; exact q_net0 0 h
      · rw [if_neg s2]
        unfold cp_takesAnswer
        rw [if_neg s1, if_neg s2]; exact q_net0 0 h
  rw [if_neg c20, if_neg c20]
  by_cases c36 : M.getD 1 0 = 36
  · rw [if_pos c36, if_pos c36]
    unfold cp_takesService
    by_cases s0 : T 1 1 = 0
    · rw [if_pos s0, if_pos s0]
      by_cases k : T 0 7 = -1
      · rw [if_pos k, if_neg (show ¬ (0 : Int32) ≤ T 0 7 by rw [k]; decide)]
        exact q_net1 1 _ h
      · rw [if_neg k, if_pos (h.2.2.1.resolve_left k)]
        exact q_askk h s0 2 (Or.inr rfl)
    · rw [if_neg s0, if_neg s0]; exact q_net0 0 h
  · rw [if_neg c36, if_neg c36]; exact q_net0 0 h
/-- the ways in which a call is closed -/
theorem q_end1 (h : Iv T) : q_ok 0 Q t (cp_takesEnd1 T Q M) (sp_closes T (va_up Q 0 t) M 1 37) := by
  unfold cp_takesEnd1 sp_closes
  by_cases c : rf_inC T 1 1 5
  · rw [if_pos c]
    by_cases z : rf_sz M 8 = some 1
    · rw [if_pos z, if_pos ⟨rfl, z, c⟩]
      exact q_net1 1 _ (Iv_b1 (T := va_up T 5 (upd (T 5) 1 (rf_val M 8))) h (by show iv_n (T 1 1) 6 30 0; rw [iv_3 h (rf_inC_n c)]; unfold iv_n; decide))
    · rw [if_neg z, if_neg (fun q => z q.2.1), if_neg (fun q => absurd q.1 (by decide)), if_neg (fun q => absurd q.1 (by decide))]; exact q_net0 0 h
  · rw [if_neg c, if_neg (fun q => c q.2.2), if_neg (fun q => absurd q.1 (by decide)), if_neg (fun q => absurd q.1 (by decide))]; exact q_net0 0 h
theorem q_end0 (h : Iv T) : q_ok 1 Q t (cp_takesEnd0 T Q M) (sp_closes T (va_up Q 1 t) M 0 37) := by
  unfold cp_takesEnd0 sp_closes
  by_cases c : rf_inC T 0 1 5
  · rw [if_pos c]
    by_cases z : rf_sz M 8 = some 1
    · rw [if_pos z, if_pos ⟨rfl, z, c⟩]
      exact q_mob1 1 _ (Iv_b0 (T := va_up T 5 (upd (T 5) 0 (rf_val M 8))) h (by show iv_m (T 1 0) 6 30 0; rw [iv_5 h (rf_inC_6 (by decide) c)]; unfold iv_m; decide))
    · rw [if_neg z, if_neg (fun q => z q.2.1), if_neg (fun q => absurd q.1 (by decide)), if_neg (fun q => absurd q.1 (by decide))]; exact q_mob0 0 h
  · rw [if_neg c, if_neg (fun q => c q.2.2), if_neg (fun q => absurd q.1 (by decide)), if_neg (fun q => absurd q.1 (by decide))]; exact q_mob0 0 h
theorem q_clo1 (h : Iv T) {ty : Nat} (n37 : ¬ ty = 37) : q_ok 0 Q t (if ty = 42 then ((cp_takesReleased1 T Q).1, (cp_takesReleased1 T Q).2.1, (cp_takesReleased1 T Q).2.2) else if ty = 45 then ((cp_takesRelease1 T Q).1, (cp_takesRelease1 T Q).2.1, (cp_takesRelease1 T Q).2.2) else (0, T, Q)) (sp_closes T (va_up Q 0 t) M 1 ty) := by
  unfold sp_closes
  rw [if_neg (show ¬ (ty = 37 ∧ rf_sz M 8 = some 1 ∧ (¬ T 2 1 < 1 ∧ ¬ (5 : Int32) < T 2 1)) from fun q => n37 q.1)]
  by_cases c45 : ty = 45
  · subst c45
    rw [if_neg (show ¬ (45 : Nat) = 42 by decide), if_pos (rfl : (45 : Nat) = 45), if_pos (show (45 = 45 ∧ (1 = 1 ∨ (0 : Int32) < T 2 1)) from ⟨rfl, Or.inl rfl⟩)]
    exact q_net1 1 _ (Iv_b1 h (by unfold iv_n; decide))
  · rw [if_neg (show ¬ (ty = 45 ∧ (1 = 1 ∨ (0 : Int32) < T 2 1)) from fun q => c45 q.1)]
    by_cases c42 : ty = 42
    · subst c42
      rw [if_pos (rfl : (42 : Nat) = 42), if_pos (show (42 = 42 ∧ (1 = 1 ∨ (0 : Int32) < T 2 1)) from ⟨rfl, Or.inl rfl⟩)]
      exact q_net0 1 (Iv_b1 h (by unfold iv_n; decide))
    · rw [if_neg c42, if_neg c45, if_neg (show ¬ (ty = 42 ∧ (1 = 1 ∨ (0 : Int32) < T 2 1)) from fun q => c42 q.1)]; exact q_net0 0 h
theorem q_clo0 (h : Iv T) (h5 : T 1 0 = 5) {ty : Nat} (n37 : ¬ ty = 37) : q_ok 1 Q t (if ty = 42 then ((cp_takesReleased0 T Q).1, (cp_takesReleased0 T Q).2.1, (cp_takesReleased0 T Q).2.2) else if ty = 45 then ((cp_takesRelease0 T Q).1, (cp_takesRelease0 T Q).2.1, (cp_takesRelease0 T Q).2.2) else (0, T, Q)) (sp_closes T (va_up Q 1 t) M 0 ty) := by
  have hc : (0 : Int32) < T 2 0 := by
    rcases h.1 with ⟨h1, -⟩ | ⟨h1, -⟩ | ⟨-, h1, -⟩ | ⟨-, h1, -⟩ | ⟨-, h1, -⟩
    · rcases h1 with h1 | h1 | h1 <;> rw [h1] at h5 <;> exact absurd h5 (by decide)
    · rcases h1 with h1 | h1 <;> rw [h1] at h5 <;> exact absurd h5 (by decide)
    · rcases h1 with h1 | h1 <;> rw [h1] <;> decide
    · rcases h1 with h1 | h1 | h1 <;> rw [h1] <;> decide
    · rw [h1]; decide
  unfold sp_closes
  rw [if_neg (show ¬ (ty = 37 ∧ rf_sz M 8 = some 1 ∧ (¬ T 2 0 < 1 ∧ ¬ (5 : Int32) < T 2 0)) from fun q => n37 q.1)]
  by_cases c45 : ty = 45
  · subst c45
    rw [if_neg (show ¬ (45 : Nat) = 42 by decide), if_pos (rfl : (45 : Nat) = 45), if_pos (show (45 = 45 ∧ (0 = 1 ∨ (0 : Int32) < T 2 0)) from ⟨rfl, Or.inr hc⟩)]
    exact q_mob1 1 _ (Iv_b0 h (by unfold iv_m; decide))
  · rw [if_neg (show ¬ (ty = 45 ∧ (0 = 1 ∨ (0 : Int32) < T 2 0)) from fun q => c45 q.1)]
    by_cases c42 : ty = 42
    · subst c42
      rw [if_pos (rfl : (42 : Nat) = 42), if_pos (show (42 = 42 ∧ (0 = 1 ∨ (0 : Int32) < T 2 0)) from ⟨rfl, Or.inr hc⟩)]
      exact q_mob0 1 (Iv_b0 h (by unfold iv_m; decide))
    · rw [if_neg c42, if_neg c45, if_neg (show ¬ (ty = 42 ∧ (0 = 1 ∨ (0 : Int32) < T 2 0)) from fun q => c42 q.1)]; exact q_mob0 0 h
theorem q_nty {ty k : Nat} (hty : ty < 256) (hk : k < 256) : (nI ty = nI k) = (ty = k) := propext ⟨fun q => rf_ei hty hk q, fun q => by rw [q]⟩
theorem q_clo1z (h : Iv T) {ty : Nat} (n37 : ¬ ty = 37) (n42 : ¬ ty = 42) (n45 : ¬ ty = 45) : sp_closes T Q M 1 ty = (0, T, Q) := by
  unfold sp_closes
  rw [if_neg (fun q => n37 q.1), if_neg (fun q => n45 q.1), if_neg (fun q => n42 q.1)]
theorem q_clo0z (h : Iv T) {ty : Nat} (n37 : ¬ ty = 37) (n42 : ¬ ty = 42) (n45 : ¬ ty = 45) : sp_closes T Q M 0 ty = (0, T, Q) := by
  unfold sp_closes
  rw [if_neg (fun q => n37 q.1), if_neg (fun q => n45 q.1), if_neg (fun q => n42 q.1)]
theorem q_cal1 (h : Iv T) (hty : M.getD 1 0 < 256) : q_ok 0 Q t (cp_takesCalling1 T Q M) (sp_networkCalls T (va_up Q 0 t) M (M.getD 1 0)) := by
  unfold cp_takesCalling1 sp_networkCalls
  have i5 : (nI (M.getD 1 0) = 5) = (M.getD 1 0 = 5) := q_nty (k := 5) hty (by decide)
  have i15 : (nI (M.getD 1 0) = 15) = (M.getD 1 0 = 15) := q_nty (k := 15) hty (by decide)
  simp only [i5, i15]
  by_cases s3 : T 1 1 = 3
  · rw [if_pos s3, if_pos s3]
    generalize hte : M.getD 1 0 = ty
    by_cases c5 : ty = 5
    · subst c5
      have hz : sp_closes T (va_up Q 0 t) M 1 5 = (0, T, va_up Q 0 t) := q_clo1z h (by decide) (by decide) (by decide)
      rw [if_pos rfl, if_pos rfl, hz]
      simp only [show ¬ (5 : Nat) = 15 by decide, if_false]
      unfold cp_takesSetUp
      by_cases f : rf_fd M 94 = none
      · rw [if_pos f]
        by_cases d0 : T 2 1 = 0
        · rw [if_pos d0, if_pos d0, if_pos f]; exact q_net0 0 h
        · rw [if_neg d0, if_neg d0]; exact q_net0 0 h
      · rw [if_neg f]
        by_cases d0 : T 2 1 = 0
        · rw [if_pos d0, if_pos d0, if_neg f]
          by_cases z1 : nI (M.getD (rf_i M 94 + 1) 0) < 1
          · rw [if_pos z1, if_pos z1]; exact q_net0 0 h
          rw [if_neg z1, if_neg z1]
          by_cases z8 : nI (M.getD (rf_i M 94 + 1) 0) ≤ 8
          · rw [if_pos z8, if_neg (rf_nl z8)]
            rw [show (va_up (va_up T 0 (va_up (T 0) 10 (nI (M.getD (rf_i M 94 + 1) 0)))) 7 (rf_cp (T 7) M (rf_i M 94) (M.getD (rf_i M 94 + 1) 0))) 1 1 = 3 from s3]
            refine q_net1 1 _ (Iv_b1 (Iv_a7 ?_) (by unfold iv_n; decide))
            generalize nI (M.getD (rf_i M 94 + 1) 0) = v at z1 z8
            have hv0 : ¬ v < 0 := fun q => z1 (by rw [Int32.lt_iff_toInt_lt] at q ⊢; rw [Int32.toInt_zero] at q; rw [show (1 : Int32).toInt = 1 from rfl]; omega)
            have e := cl_ixv hv0
            have h8 : v.toNatClampNeg ≤ 8 := Nat.le_of_not_lt (fun q => absurd z8 (by rw [e]; exact nI_ge (a := 8) q (rf_clt v)))
            have h9 := Iv_o10 h h8
            rw [← e] at h9
            exact h9
          · rw [if_neg z8, if_pos (rf_gt z8)]; exact q_net0 0 h
        · rw [if_neg d0, if_neg d0]; exact q_net0 0 h
    rw [if_neg c5, if_neg c5]
    by_cases c15 : ty = 15
    · subst c15
      rw [if_pos rfl, if_pos rfl]
      unfold cp_takesConnected
      by_cases d3 : T 2 1 = 3
      · rw [if_pos d3, if_pos d3, s3]
        exact q_net0 1 (Iv_b1 h (by unfold iv_n; decide))
      · rw [if_neg d3, if_neg d3, q_clo1z h (by decide) (by decide) (by decide)]; exact q_net0 0 h
    rw [if_neg c15, if_neg c15]
    by_cases c37 : ty = 37
    · subst c37
      rw [if_pos rfl]; exact q_end1 h
    · rw [if_neg c37]; exact q_clo1 h c37
  · rw [if_neg s3, if_neg s3]; exact q_net0 0 h
theorem q_man0 (h : Iv T) (d : Nat) : q_ok 1 Q t (cp_takesManaging0 T Q M d) (sp_mobileMoves T (va_up Q 1 t) M (M.getD 1 0) d) := by
  unfold cp_takesManaging0 sp_mobileMoves
  by_cases c2 : M.getD 1 0 = 2
  · rw [if_pos c2, if_pos c2]
    unfold cp_takesUpdated
    by_cases s : T 1 0 = 2
    · rw [if_pos s, if_pos s, (iv_c h (by rw [s]; decide)).1]
      by_cases z : rf_sz M 19 = some 2
      · rw [if_pos z, if_pos z]; exact q_mob0 1 (Iv_b0 (Iv_o6 h) (by unfold iv_m; decide))
      · rw [if_neg z, if_neg z]; exact q_mob0 0 h
    · rw [if_neg s, if_neg s]; exact q_mob0 0 h
  rw [if_neg c2, if_neg c2]
  by_cases c4 : M.getD 1 0 = 4
  · rw [if_pos c4, if_pos c4]
    unfold cp_takesRefusal
    by_cases s : T 1 0 = 2
    · rw [if_pos s, if_pos s, (iv_c h (by rw [s]; decide)).1]
      by_cases z : rf_sz M 8 = some 1
      · rw [if_pos z, if_pos z]; exact q_mob0 1 (Iv_b0 (Iv_a5 h) (by unfold iv_m; decide))
      · rw [if_neg z, if_neg z]; exact q_mob0 0 h
    · rw [if_neg s, if_neg s]; exact q_mob0 0 h
  rw [if_neg c4, if_neg c4]
  by_cases c17 : M.getD 1 0 = 17
  · rw [if_pos c17, if_pos c17]
    unfold cp_takesExpelled
    by_cases s : T 1 0 = 0
    · rw [if_pos s, if_pos s]; exact q_mob0 0 h
    · rw [if_neg s, if_neg s]; exact q_mob0 1 (Iv_b0 h (by unfold iv_m; decide))
  rw [if_neg c17, if_neg c17]
  by_cases c18 : M.getD 1 0 = 18
  · rw [if_pos c18, if_pos c18]
    unfold cp_takesChallenge
    by_cases s : T 1 0 = 2
    · rw [if_pos s, if_pos s]
      by_cases z : rf_sz M 33 = some 4
      · rw [if_pos z, if_pos z]; exact q_mob1 1 _ h
      · rw [if_neg z, if_neg z]; exact q_mob0 0 h
    · rw [if_neg s, if_neg s]
      by_cases s4 : T 1 0 = 4
      · rw [if_pos s4, if_pos s4]
        by_cases z : rf_sz M 33 = some 4
        · rw [if_pos z, if_pos z]; exact q_mob1 1 _ h
        · rw [if_neg z, if_neg z]; exact q_mob0 0 h
      · rw [if_neg s4, if_neg s4]; exact q_mob0 0 h
  rw [if_neg c18, if_neg c18]
  by_cases c33 : M.getD 1 0 = 33
  · rw [if_pos c33, if_pos c33]
    unfold cp_takesServed
    by_cases s : T 1 0 = 4
    · rw [if_pos s, if_pos s, q_srv]
      exact q_mob1 1 _ (Iv_b0 h (show iv_m 5 1 30 0 by unfold iv_m; decide))
    · rw [if_neg s, if_neg s]; exact q_mob0 0 h
  rw [if_neg c33, if_neg c33]
  by_cases c34 : M.getD 1 0 = 34
  · rw [if_pos c34, if_pos c34]
    unfold cp_takesRefusal
    by_cases s : T 1 0 = 4
    · rw [if_pos s, if_pos s]
      by_cases z : rf_sz M 8 = some 1
      · rw [if_pos z, if_pos z]; exact q_mob0 1 (Iv_b0 (Iv_a5 h) (by unfold iv_m; decide))
      · rw [if_neg z, if_neg z]; exact q_mob0 0 h
    · rw [if_neg s, if_neg s]; exact q_mob0 0 h
  · rw [if_neg c34, if_neg c34]; exact q_mob0 0 h
theorem q_pro (h : Iv T) (h5 : T 1 0 = 5) (vl vn : Int32) (hn : iv_m 5 vn 0 0) : q_ok 1 Q t (cp_takesProgress T Q vl vn) (if rf_inC T 0 1 vl then (1, rf_become T 0 5 vn 0, va_up Q 1 t) else (0, T, va_up Q 1 t)) := by
  unfold cp_takesProgress
  by_cases c : rf_inC T 0 1 vl
  · rw [if_pos c, if_pos c, h5]; exact q_mob0 1 (Iv_b0 h hn)
  · rw [if_neg c, if_neg c]; exact q_mob0 0 h
theorem q_cal0 (h : Iv T) (hty : M.getD 1 0 < 256) : q_ok 1 Q t (cp_takesCalling0 T Q M) (sp_mobileCalls T (va_up Q 1 t) M (M.getD 1 0)) := by
  unfold cp_takesCalling0 sp_mobileCalls
  by_cases s5 : T 1 0 = 5
  · rw [if_pos s5, if_pos s5]
    have i2 : (nI (M.getD 1 0) = 2) = (M.getD 1 0 = 2) := q_nty (k := 2) hty (by decide)
    have i1 : (nI (M.getD 1 0) = 1) = (M.getD 1 0 = 1) := q_nty (k := 1) hty (by decide)
    have i7 : (nI (M.getD 1 0) = 7) = (M.getD 1 0 = 7) := q_nty (k := 7) hty (by decide)
    simp only [i1, i2, i7]
    generalize hte : M.getD 1 0 = ty
    by_cases c1 : ty = 1
    · subst c1
      rw [q_clo0z h (by decide) (by decide) (by decide)]
      simp only [show ¬ (1 : Nat) = 2 by decide, show ¬ (1 : Nat) = 7 by decide, if_false, if_true]
      exact q_pro h s5 2 3 (by unfold iv_m; decide)
    rw [if_neg c1]
    by_cases c2 : ty = 2
    · subst c2
      rw [q_clo0z h (by decide) (by decide) (by decide)]
      simp only [show ¬ (2 : Nat) = 1 by decide, show ¬ (2 : Nat) = 7 by decide, if_false, if_true]
      exact q_pro h s5 1 2 (by unfold iv_m; decide)
    rw [if_neg c2]
    by_cases c7 : ty = 7
    · subst c7
      rw [q_clo0z h (by decide) (by decide) (by decide)]
      simp only [show ¬ (7 : Nat) = 1 by decide, show ¬ (7 : Nat) = 2 by decide, if_false, if_true]
      unfold cp_takesConnect cp_takesProgress
      by_cases c : rf_inC T 0 1 3
      · rw [if_pos c, if_pos c, s5]
        exact q_mob1 1 _ (Iv_b0 h (by unfold iv_m; decide))
      · rw [if_neg c, if_neg c]; exact q_mob0 0 h
    rw [if_neg c7]
    simp only [c1, c2, c7, if_false]
    by_cases c37 : ty = 37
    · subst c37
      rw [if_pos rfl]; exact q_end0 h
    · rw [if_neg c37]; exact q_clo0 h s5 c37
  · rw [if_neg s5, if_neg s5]; exact q_mob0 0 h
/-- behind the taking: the answer and what was left -/
def q_res (ty : Int32) (a : rf_R) (q : rf_Q) : rf_R := if a.1 = 0 then (ty + 1000, va_up a.2.1 0 (va_up (a.2.1 0) 5 ((a.2.1 0 5) + 1)), q) else (ty, a.2.1, q)
theorem q_fin {w : Nat} {a b : rf_R} {ty : Int32} (hk : q_ok w Q (Q w).tail a b) : q_res ty a (va_up a.2.2 w (a.2.2 w).tail) = q_res ty b b.2.2 ∧ Iv (q_res ty b b.2.2).2.1 := by
  obtain ⟨rfl, h1, h2⟩ := hk
  rw [h2]
  refine ⟨rfl, ?_⟩
  unfold q_res
  split
  · exact Iv_o5 h1
  · exact h1
theorem q_carry0 (h : Iv T) (h8 : (Q 0).length ≤ 8) (hb : ¬ nI (Q 0).length = 0 → 2 ≤ ((Q 0).headD []).length ∧ ∀ i, i < ((Q 0).headD []).length → ((Q 0).headD []).getD i 0 < 256) : cp_carry0 T Q = sp_carry0 T Q M ∧ Iv (sp_carry0 T Q M).2.1 := by
  unfold cp_carry0 sp_carry0
  by_cases c : nI (Q 0).length = 0
  · rw [if_neg (fun q => (cl_has0 h8).mp q c), if_pos c]; exact ⟨rfl, h⟩
  rw [if_pos ((cl_has0 h8).mpr c), if_neg c]
  obtain ⟨hl, hB⟩ := hb c
  generalize hH : (Q 0).headD [] = H at *
  have h0 := hB 0 (by omega)
  have h1 := hB 1 (by omega)
  have i5 : (nI (H.getD 0 0) = 5) = (H.getD 0 0 = 5) := q_nty (k := 5) h0 (by decide)
  have i3 : (nI (H.getD 0 0) = 3) = (H.getD 0 0 = 3) := q_nty (k := 3) h0 (by decide)
  simp only [i5, i3]
  by_cases g : rf_good H
  · rw [if_pos g]
    by_cases p3 : H.getD 0 0 = 3
    · have e : cp_takes1 T Q H = cp_takesCalling1 T Q H := by unfold cp_takes1; rw [if_pos g, if_pos p3]
      rw [e, if_neg (show ¬ H.getD 0 0 = 5 by omega), if_pos p3]
      exact q_fin (q_cal1 h h1)
    by_cases p5 : H.getD 0 0 = 5
    · have e : cp_takes1 T Q H = cp_takesManaging1 T Q H := by unfold cp_takes1; rw [if_pos g, if_neg p3, if_pos p5]
      rw [e, if_pos p5]
      exact q_fin (q_man1 h hB)
    · have e : cp_takes1 T Q H = (0, T, Q) := by unfold cp_takes1; rw [if_pos g, if_neg p3, if_neg p5]
      rw [e, if_neg p5, if_neg p3]
      exact ⟨rfl, Iv_o5 h⟩
  · rw [if_neg g]
    have e : cp_takes1 T Q H = (0, T, Q) := by unfold cp_takes1; rw [if_neg g]
    rw [e]
    exact ⟨rfl, Iv_o5 h⟩
theorem q_carry1 (h : Iv T) (d : Nat) (h8 : (Q 1).length ≤ 8) (hb : ¬ nI (Q 1).length = 0 → 2 ≤ ((Q 1).headD []).length ∧ ∀ i, i < ((Q 1).headD []).length → ((Q 1).headD []).getD i 0 < 256) : cp_carry1 T Q d = sp_carry1 T Q M d ∧ Iv (sp_carry1 T Q M d).2.1 := by
  unfold cp_carry1 sp_carry1
  by_cases c : nI (Q 1).length = 0
  · rw [if_neg (fun q => (cl_has0 h8).mp q c), if_pos c]; exact ⟨rfl, h⟩
  rw [if_pos ((cl_has0 h8).mpr c), if_neg c]
  obtain ⟨hl, hB⟩ := hb c
  generalize hH : (Q 1).headD [] = H at *
  have h0 := hB 0 (by omega)
  have h1 := hB 1 (by omega)
  have i5 : (nI (H.getD 0 0) = 5) = (H.getD 0 0 = 5) := q_nty (k := 5) h0 (by decide)
  have i3 : (nI (H.getD 0 0) = 3) = (H.getD 0 0 = 3) := q_nty (k := 3) h0 (by decide)
  simp only [i5, i3]
  by_cases g : rf_good H
  · rw [if_pos g]
    by_cases p3 : H.getD 0 0 = 3
    · have e : cp_takes0 T Q H d = cp_takesCalling0 T Q H := by unfold cp_takes0; rw [if_pos g, if_pos p3]
      rw [e, if_neg (show ¬ H.getD 0 0 = 5 by omega), if_pos p3]
      exact q_fin (q_cal0 h h1)
    by_cases p5 : H.getD 0 0 = 5
    · have e : cp_takes0 T Q H d = cp_takesManaging0 T Q H d := by unfold cp_takes0; rw [if_pos g, if_neg p3, if_pos p5]
      rw [e, if_pos p5]
      exact q_fin (q_man0 h d)
    · have e : cp_takes0 T Q H d = (0, T, Q) := by unfold cp_takes0; rw [if_pos g, if_neg p3, if_neg p5]
      rw [e, if_neg p5, if_neg p3]
      exact ⟨rfl, Iv_o5 h⟩
  · rw [if_neg g]
    have e : cp_takes0 T Q H d = (0, T, Q) := by unfold cp_takes0; rw [if_neg g]
    rw [e]
    exact ⟨rfl, Iv_o5 h⟩
/-! the timers -/
theorem q_out0 (h : Iv T) (hh : T 1 0 = 2 ∨ T 1 0 = 4 ∨ T 2 0 = 1 ∨ T 2 0 = 5 ∨ T 2 0 = 6) : cp_timeOut0 T Q = sp_out0 T Q M ∧ Iv (sp_out0 T Q M).2.1 := by
  unfold cp_timeOut0 cp_timeOutClearing0 sp_out0
  rcases h.1 with ⟨ha, hc, ht, hw⟩ | ⟨ha | ha, hc, ht, hw⟩ | ⟨ha, hc | hc, ht, hw⟩ | ⟨ha, hc, ht, hw⟩ | ⟨ha, hc, ht, hw⟩
  · exfalso
    rcases hh with e | e | e | e | e
    · rcases ha with g | g | g <;> rw [g] at e <;> exact absurd e (by decide)
    · rcases ha with g | g | g <;> rw [g] at e <;> exact absurd e (by decide)
    · rw [hc] at e; exact absurd e (by decide)
    · rw [hc] at e; exact absurd e (by decide)
    · rw [hc] at e; exact absurd e (by decide)
  · simp +decide only [ha, hc, if_true, if_false]
    exact ⟨trivial, Iv_b0 h (by unfold iv_m; decide)⟩
  · simp +decide only [ha, hc, if_true, if_false]
    exact ⟨trivial, Iv_b0 h (by unfold iv_m; decide)⟩
  · simp +decide only [ha, hc, if_true, if_false]
    exact ⟨trivial, Iv_b0 h (by unfold iv_m; decide)⟩
  · simp +decide only [ha, hc, if_true, if_false]
    exact ⟨trivial, Iv_b0 h (by rw [ha]; unfold iv_m; decide)⟩
  · exfalso
    rcases hh with e | e | e | e | e
    · rw [ha] at e; exact absurd e (by decide)
    · rw [ha] at e; exact absurd e (by decide)
    · rcases hc with g | g | g <;> rw [g] at e <;> exact absurd e (by decide)
    · rcases hc with g | g | g <;> rw [g] at e <;> exact absurd e (by decide)
    · rcases hc with g | g | g <;> rw [g] at e <;> exact absurd e (by decide)
  · rcases hw with hw | hw
    · simp +decide only [ha, hc, hw, if_true, if_false]
      rw [q_tw 0 hc]
      exact ⟨rfl, Or.inr (Or.inr (Or.inr (Or.inr ⟨ha, hc, by show (0 : Int32) ≤ 30; decide, Or.inr rfl⟩))), h.2.1, h.2.2⟩
    · simp +decide only [ha, hc, hw, if_true, if_false]
      exact ⟨trivial, Iv_b0 h (by unfold iv_m; decide)⟩
theorem q_out1 (h : Iv T) (hh : T 1 1 = 1 ∨ T 1 1 = 2 ∨ T 2 1 = 3 ∨ T 2 1 = 5 ∨ T 2 1 = 6) : cp_timeOut1 T Q = sp_out1 T Q M ∧ Iv (sp_out1 T Q M).2.1 := by
  unfold cp_timeOut1 cp_timeOutClearing1 cp_startEnding1 sp_out1
  rcases h.2.1 with ⟨ha, hc, ht, hw⟩ | ⟨ha | ha, hc, ht, hw⟩ | ⟨ha, hc | hc, ht, hw⟩ | ⟨ha, hc, ht, hw⟩ | ⟨ha, hc, ht, hw⟩
  · exfalso
    rcases hh with e | e | e | e | e
    · rw [ha] at e; exact absurd e (by decide)
    · rw [ha] at e; exact absurd e (by decide)
    · rw [hc] at e; exact absurd e (by decide)
    · rw [hc] at e; exact absurd e (by decide)
    · rw [hc] at e; exact absurd e (by decide)
  · simp +decide only [ha, hc, if_true, if_false]
    exact ⟨trivial, Iv_b1 h (by unfold iv_n; decide)⟩
  · simp +decide only [ha, hc, if_true, if_false]
    exact ⟨trivial, Iv_b1 h (by unfold iv_n; decide)⟩
  · simp +decide only [ha, hc, rf_inC, if_true, if_false]
    exact ⟨trivial, Iv_b1 h (by unfold iv_n; decide)⟩
  · simp +decide only [ha, hc, if_true, if_false]
    exact ⟨trivial, Iv_b1 h (by rw [ha]; unfold iv_n; decide)⟩
  · exfalso
    rcases hh with e | e | e | e | e
    · rw [ha] at e; exact absurd e (by decide)
    · rw [ha] at e; exact absurd e (by decide)
    · rcases hc with g | g | g | g <;> rw [g] at e <;> exact absurd e (by decide)
    · rcases hc with g | g | g | g <;> rw [g] at e <;> exact absurd e (by decide)
    · rcases hc with g | g | g | g <;> rw [g] at e <;> exact absurd e (by decide)
  · rcases hw with hw | hw
    · simp +decide only [ha, hc, hw, if_true, if_false]
      rw [q_tw 1 hc]
      exact ⟨rfl, h.1, Or.inr (Or.inr (Or.inr (Or.inr ⟨ha, hc, by show (0 : Int32) ≤ 30; decide, Or.inr rfl⟩))), h.2.2⟩
    · simp +decide only [ha, hc, hw, if_true, if_false]
      exact ⟨trivial, Iv_b1 h (by unfold iv_n; decide)⟩
def q_h0 (M : List Nat) (T : rf_T) (Q : rf_Q) : rf_R := if T 3 0 ≤ 0 then (0, T, Q) else if T 3 0 - 1 = 0 then (1, (sp_out0 (va_up T 3 (upd (T 3) 0 (T 3 0 - 1))) Q M).2.1, (sp_out0 (va_up T 3 (upd (T 3) 0 (T 3 0 - 1))) Q M).2.2) else (0, va_up T 3 (upd (T 3) 0 (T 3 0 - 1)), Q)
def q_h1 (M : List Nat) (T : rf_T) (Q : rf_Q) : rf_R := if T 3 1 ≤ 0 then (0, T, Q) else if T 3 1 - 1 = 0 then (1, (sp_out1 (va_up T 3 (upd (T 3) 1 (T 3 1 - 1))) Q M).2.1, (sp_out1 (va_up T 3 (upd (T 3) 1 (T 3 1 - 1))) Q M).2.2) else (0, va_up T 3 (upd (T 3) 1 (T 3 1 - 1)), Q)
theorem q_tm (v : Int32) (h0 : 0 ≤ v) (hn : ¬ v = 0) : ¬ v ≤ 0 ∧ 0 ≤ v - 1 ∧ (v - 1 ≤ 0 ↔ v - 1 = 0) := by
  obtain ⟨j, hj, e⟩ := nI_of (rf_nl h0)
  cases j with
  | zero => exact absurd e hn
  | succ k =>
    rw [e, nI_pred]
    refine ⟨nI_ge (a := 0) (b := k + 1) (by omega) hj, rf_ge (nI_pos (by omega)), fun q => ?_, fun q => by rw [q]; decide⟩
    have : ¬ 0 < k := fun q8 => absurd q (nI_ge (a := 0) q8 (by omega))
    rw [show k = 0 by omega]
    rfl
theorem q_e0 (h : Iv T) : cp_endsTimer0 T Q = q_h0 M T Q ∧ Iv (q_h0 M T Q).2.1 := by
  have hge : 0 ≤ T 3 0 := by
    rcases h.1 with ⟨-, -, ht, -⟩ | ⟨-, -, ht, -⟩ | ⟨-, -, ht, -⟩ | ⟨-, -, ht, -⟩ | ⟨-, -, ht, -⟩
    · rw [ht]; decide
    · exact ht
    · exact ht
    · rw [ht]; decide
    · exact ht
  unfold cp_endsTimer0 q_h0
  by_cases z : T 3 0 = 0
  · rw [if_pos z, if_pos (show T 3 0 ≤ 0 by rw [z]; decide)]; exact ⟨rfl, h⟩
  obtain ⟨k1, k2, k3⟩ := q_tm _ hge z
  rw [if_neg z, if_neg k1]
  have hT : Iv (va_up T 3 (upd (T 3) 0 (T 3 0 - 1))) := by
    refine ⟨?_, h.2.1, h.2.2⟩
    show iv_m (T 1 0) (T 2 0) (T 3 0 - 1) (T 4 0)
    rcases h.1 with ⟨-, -, ht, -⟩ | ⟨g1, g2, -, g3⟩ | ⟨g1, g2, -, g3⟩ | ⟨-, -, ht, -⟩ | ⟨g1, g2, -, g3⟩
    · exact absurd ht z
    · exact Or.inr (Or.inl ⟨g1, g2, k2, g3⟩)
    · exact Or.inr (Or.inr (Or.inl ⟨g1, g2, k2, g3⟩))
    · exact absurd ht z
    · exact Or.inr (Or.inr (Or.inr (Or.inr ⟨g1, g2, k2, g3⟩)))
  have hh : T 1 0 = 2 ∨ T 1 0 = 4 ∨ T 2 0 = 1 ∨ T 2 0 = 5 ∨ T 2 0 = 6 := by
    rcases h.1 with ⟨-, -, ht, -⟩ | ⟨g1, -⟩ | ⟨-, g2, -⟩ | ⟨-, -, ht, -⟩ | ⟨-, g2, -⟩
    · exact absurd ht z
    · exact g1.elim Or.inl (fun q => Or.inr (Or.inl q))
    · exact g2.elim (fun q => Or.inr (Or.inr (Or.inl q))) (fun q => Or.inr (Or.inr (Or.inr (Or.inl q))))
    · exact absurd ht z
    · exact Or.inr (Or.inr (Or.inr (Or.inr g2)))
  by_cases l : T 3 0 - 1 = 0
  · rw [if_pos (k3.mpr l), if_pos l]
    obtain ⟨e1, e2⟩ := q_out0 (Q := Q) (M := M) hT hh
    rw [e1]
    exact ⟨rfl, e2⟩
  · rw [if_neg (fun q => l (k3.mp q)), if_neg l]
    exact ⟨rfl, hT⟩
theorem q_e1 (h : Iv T) : cp_endsTimer1 T Q = q_h1 M T Q ∧ Iv (q_h1 M T Q).2.1 := by
  have hge : 0 ≤ T 3 1 := by
    rcases h.2.1 with ⟨-, -, ht, -⟩ | ⟨-, -, ht, -⟩ | ⟨-, -, ht, -⟩ | ⟨-, -, ht, -⟩ | ⟨-, -, ht, -⟩
    · rw [ht]; decide
    · exact ht
    · exact ht
    · rw [ht]; decide
    · exact ht
  unfold cp_endsTimer1 q_h1
  by_cases z : T 3 1 = 0
  · rw [if_pos z, if_pos (show T 3 1 ≤ 0 by rw [z]; decide)]; exact ⟨rfl, h⟩
  obtain ⟨k1, k2, k3⟩ := q_tm _ hge z
  rw [if_neg z, if_neg k1]
  have hT : Iv (va_up T 3 (upd (T 3) 1 (T 3 1 - 1))) := by
    refine ⟨h.1, ?_, h.2.2⟩
    show iv_n (T 1 1) (T 2 1) (T 3 1 - 1) (T 4 1)
    rcases h.2.1 with ⟨-, -, ht, -⟩ | ⟨g1, g2, -, g3⟩ | ⟨g1, g2, -, g3⟩ | ⟨-, -, ht, -⟩ | ⟨g1, g2, -, g3⟩
    · exact absurd ht z
    · exact Or.inr (Or.inl ⟨g1, g2, k2, g3⟩)
    · exact Or.inr (Or.inr (Or.inl ⟨g1, g2, k2, g3⟩))
    · exact absurd ht z
    · exact Or.inr (Or.inr (Or.inr (Or.inr ⟨g1, g2, k2, g3⟩)))
  have hh : T 1 1 = 1 ∨ T 1 1 = 2 ∨ T 2 1 = 3 ∨ T 2 1 = 5 ∨ T 2 1 = 6 := by
    rcases h.2.1 with ⟨-, -, ht, -⟩ | ⟨g1, -⟩ | ⟨-, g2, -⟩ | ⟨-, -, ht, -⟩ | ⟨-, g2, -⟩
    · exact absurd ht z
    · exact g1.elim Or.inl (fun q => Or.inr (Or.inl q))
    · exact g2.elim (fun q => Or.inr (Or.inr (Or.inl q))) (fun q => Or.inr (Or.inr (Or.inr (Or.inl q))))
    · exact absurd ht z
    · exact Or.inr (Or.inr (Or.inr (Or.inr g2)))
  by_cases l : T 3 1 - 1 = 0
  · rw [if_pos (k3.mpr l), if_pos l]
    obtain ⟨e1, e2⟩ := q_out1 (Q := Q) (M := M) hT hh
    rw [e1]
    exact ⟨rfl, e2⟩
  · rw [if_neg (fun q => l (k3.mp q)), if_neg l]
    exact ⟨rfl, hT⟩
def q_cnt (n : Int32) (a : rf_R) (b : rf_R) : rf_R := (if a.1 = 0 then (if b.1 = 0 then n else n + 1) else (if b.1 = 0 then n + 1 else n + 1 + 1), b.2.1, b.2.2)
theorem q_vv (T : rf_T) (i : Nat) (f g : Nat → Int32) : va_up (va_up T i f) i g = va_up T i g := by
  funext j
  by_cases e : j = i
  · subst e; simp [va_up]
  · simp [va_up, e]
theorem q_sp1 (n : Int32) : sp_tk1 M n T Q = q_cnt n (q_h0 M T Q) (q_h1 M (q_h0 M T Q).2.1 (q_h0 M T Q).2.2) := by
  unfold sp_tk1 q_h0
  by_cases c0 : T 3 0 ≤ 0
  · rw [if_pos c0, if_pos c0]
    unfold q_h1
    by_cases c1 : T 3 1 ≤ 0
    · rw [if_pos c1, if_pos c1]; rfl
    · rw [if_neg c1, if_neg c1]
      by_cases d1 : T 3 1 - 1 = 0
      · rw [if_pos d1, if_pos d1]; rfl
      · rw [if_neg d1, if_neg d1]; rfl
  · rw [if_neg c0, if_neg c0]
    by_cases d0 : T 3 0 - 1 = 0
    · rw [if_pos d0, if_pos d0]
      generalize sp_out0 (va_up T 3 (upd (T 3) 0 (T 3 0 - 1))) Q M = g
      obtain ⟨g0, T2, Q2⟩ := g
      show (if T2 3 1 ≤ 0 then _ else _) = q_cnt n (1, T2, Q2) (q_h1 M T2 Q2)
      unfold q_h1
      by_cases c1 : T2 3 1 ≤ 0
      · rw [if_pos c1, if_pos c1]; rfl
      · rw [if_neg c1, if_neg c1]
        by_cases d1 : T2 3 1 - 1 = 0
        · rw [if_pos d1, if_pos d1]; rfl
        · rw [if_neg d1, if_neg d1]; rfl
    · rw [if_neg d0, if_neg d0]
      show (if T 3 1 ≤ 0 then _ else _) = q_cnt n (0, va_up T 3 (upd (T 3) 0 (T 3 0 - 1)), Q) (q_h1 M (va_up T 3 (upd (T 3) 0 (T 3 0 - 1))) Q)
      unfold q_h1
      rw [show (va_up T 3 (upd (T 3) 0 (T 3 0 - 1))) 3 1 = T 3 1 from rfl, q_vv]
      by_cases c1 : T 3 1 ≤ 0
      · rw [if_pos c1, if_pos c1]; rfl
      · rw [if_neg c1, if_neg c1]
        by_cases d1 : T 3 1 - 1 = 0
        · rw [if_pos (show (upd (T 3) 0 (T 3 0 - 1)) 1 - 1 = 0 from d1), if_pos d1]; rfl
        · rw [if_neg (show ¬ (upd (T 3) 0 (T 3 0 - 1)) 1 - 1 = 0 from d1), if_neg d1]; rfl
theorem q_cp1 (n : Int32) : cl_tk1 n T Q = q_cnt n (cp_endsTimer0 T Q) (cp_endsTimer1 (cp_endsTimer0 T Q).2.1 (cp_endsTimer0 T Q).2.2) := by
  unfold cl_tk1 q_cnt
  by_cases a : (cp_endsTimer0 T Q).1 = 0
  · rw [if_pos a, if_pos a]
    by_cases b : (cp_endsTimer1 (cp_endsTimer0 T Q).2.1 (cp_endsTimer0 T Q).2.2).1 = 0
    · rw [if_pos b, if_pos b]
    · rw [if_neg b, if_neg b]
  · rw [if_neg a, if_neg a]
    by_cases b : (cp_endsTimer1 (cp_endsTimer0 T Q).2.1 (cp_endsTimer0 T Q).2.2).1 = 0
    · rw [if_pos b, if_pos b]
    · rw [if_neg b, if_neg b]
theorem q_tk1 (h : Iv T) (n : Int32) : cl_tk1 n T Q = sp_tk1 M n T Q ∧ Iv (sp_tk1 M n T Q).2.1 := by
  rw [q_cp1, q_sp1]
  obtain ⟨e0, i0⟩ := q_e0 (Q := Q) (M := M) h
  rw [e0]
  obtain ⟨e1, i1⟩ := q_e1 (Q := (q_h0 M T Q).2.2) (M := M) i0
  rw [e1]
  exact ⟨rfl, i1⟩
theorem q_tks (h : Iv T) : ∀ k, cl_tks k (0, T, Q) = rf_tks M k (0, T, Q) ∧ Iv (rf_tks M k (0, T, Q)).2.1
  | 0 => ⟨rfl, h⟩
  | k + 1 => by
    obtain ⟨e, i⟩ := q_tks h k
    rw [cl_tks, rf_tks, e]
    exact q_tk1 i _
theorem q_tick (h : Iv T) (v : Int32) : cp_tick T Q v = sp_tick T Q M v ∧ Iv (sp_tick T Q M v).2.1 := by
  unfold cp_tick sp_tick
  by_cases c1 : v < 1
  · rw [if_pos c1, if_pos c1]; exact ⟨rfl, h⟩
  rw [if_neg c1, if_neg c1]
  by_cases c2 : v ≤ 100
  · rw [if_pos c2, if_pos c2]; exact q_tks h _
  · rw [if_neg c2, if_neg c2]; exact ⟨rfl, h⟩
end PU2
