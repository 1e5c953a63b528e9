/-! the reference: what lies behind an array's end is not seen -/
theorem arr_congr {cI : ClassId} {n : Nat} {f g : Nat → Value} (h : ∀ k, k < n → f k = g k) : arrV cI n f = arrV cI n g := by
  have e : (fun j : Fin n => f j.val) = fun j : Fin n => g j.val := funext (fun j => h j.val j.isLt)
  unfold arrV; rw [e]
theorem z_cutP {E : z_E} {S : z_Sh} {σ : z_M} {o n : Nat} (hS : S[o]? = some (0, n, [])) {f : Nat → Int32} (hf : ∀ k, k < n → f k = σ o k) {H : Heap} (h : va_P E.1 vwCl (z_ws E S σ) H) : va_P E.1 vwCl (z_ws E S (z_up σ o f)) H := by
  rw [← z_ws_set hS f]
  intro k q hq
  by_cases e : o = k
  · subst e
    have h0 := h o _ (z_ws_at hS)
    rw [List.getElem?_set_self (by rw [z_ws_len]; exact z_lt hS)] at hq
    cases hq
    have e2 : vp_cell E.2.1 (n, .inl f) = vp_cell E.2.1 (n, .inl (σ o)) := arr_congr (cI := E.2.1) (n := n) (f := fun j => .int (f j)) (g := fun j => .int (σ o j)) (fun k hk => by rw [hf k hk])
    show H[z_ad E o]? = some (vp_cell E.2.1 (n, .inl f))
    rw [e2]; exact h0
  · rw [List.getElem?_set_ne e] at hq
    exact h k q hq
theorem z_cut {l : Launch} {K : z_K} {E : z_E} {S : z_Sh} {d nL : Nat} {P : Option Value → z_M → Prop} {pc : Nat} {lv : List (Nat × Value)} {st : List Value} {σ : z_M} {o n : Nat} (hS : S[o]? = some (0, n, [])) (f : Nat → Int32) (hf : ∀ k, k < n → f k = σ o k) (kk : z_X l K E S d nL P pc lv st (z_up σ o f)) : z_X l K E S d nL P pc lv st σ :=
  fun H locs ls hP hSS hl => kk H locs ls (z_cutP hS hf hP) hSS hl
set_option maxHeartbeats 400000 in
set_option maxRecDepth 10000 in
theorem kX10_in {l : Launch} {E : z_E} (σ : z_M) {S : z_Sh} (x a b : Int32) : z_C l E S 0 yX10_in cX10_in 3 (some FieldType.boolean) [.int x, .int a, .int b] σ (z_Pp (bI (a ≤ x ∧ x ≤ b)) σ) := by
  refine z_intro iX10_in (Nat.le_of_ble_eq_true rfl) (fun K F => ?_)
  refine z_iload_n F dX10_in_0 0 rfl 1 rfl ?_
  refine z_iload_n F dX10_in_1 1 rfl 2 rfl ?_
  refine z_icmp_lt F dX10_in_2 14 (by decide) 5 rfl (fun h2 => ?_) (fun h2 => ?_)
  · skip
    refine z_iconst F dX10_in_14 0 (by decide) 15 rfl ?_
    refine z_rpz F dX10_in_15 (by first | rfl | exact bIn) ?_ rfl
    first | (refine (bI_t ?_).symm; simp only [Int32.lt_iff_toInt_lt, Int32.le_iff_toInt_le, ← Int32.toInt_inj, Int32.reduceToInt] at *; omega) | (refine (bI_f ?_).symm; simp only [Int32.lt_iff_toInt_lt, Int32.le_iff_toInt_le, ← Int32.toInt_inj, Int32.reduceToInt] at *; omega)
  · skip
    refine z_iload_n F dX10_in_5 0 rfl 6 rfl ?_
    refine z_iload_n F dX10_in_6 2 rfl 7 rfl ?_
    refine z_icmp_gt F dX10_in_7 14 (by decide) 10 rfl (fun h7 => ?_) (fun h7 => ?_)
    · skip
      refine z_iconst F dX10_in_14 0 (by decide) 15 rfl ?_
      refine z_rpz F dX10_in_15 (by first | rfl | exact bIn) ?_ rfl
      first | (refine (bI_t ?_).symm; simp only [Int32.lt_iff_toInt_lt, Int32.le_iff_toInt_le, ← Int32.toInt_inj, Int32.reduceToInt] at *; omega) | (refine (bI_f ?_).symm; simp only [Int32.lt_iff_toInt_lt, Int32.le_iff_toInt_le, ← Int32.toInt_inj, Int32.reduceToInt] at *; omega)
    · skip
      refine z_iconst F dX10_in_10 1 (by decide) 11 rfl ?_
      refine z_goto F dX10_in_11 15 (by decide) ?_
      refine z_rpz F dX10_in_15 (by first | rfl | exact bIn) ?_ rfl
      first | (refine (bI_t ?_).symm; simp only [Int32.lt_iff_toInt_lt, Int32.le_iff_toInt_le, ← Int32.toInt_inj, Int32.reduceToInt] at *; omega) | (refine (bI_f ?_).symm; simp only [Int32.lt_iff_toInt_lt, Int32.le_iff_toInt_le, ← Int32.toInt_inj, Int32.reduceToInt] at *; omega)
set_option maxHeartbeats 400000 in
set_option maxRecDepth 10000 in
theorem kX10_error {l : Launch} {E : z_E} (σ : z_M) {k : Nat} (h1 : 1 ≤ k) (h6 : k ≤ 6) : z_C l E shM 0 yX10_error cX10_error 2 (some FieldType.int) [.ref (z_ad E 0), .int (LO k)] σ (z_Pi (fun rv μ' => rv = (er σ k).1 ∧ μ' = (er σ k).2)) := by
  refine z_intro iX10_error (Nat.le_of_ble_eq_true rfl) (fun K F => ?_)
  have e : (-1000000000 : Int32) - LO k = nI k := by
    rcases (show k = 1 ∨ k = 2 ∨ k = 3 ∨ k = 4 ∨ k = 5 ∨ k = 6 by omega) with rfl | rfl | rfl | rfl | rfl | rfl <;> decide
  refine z_aload_n F dX10_error_0 0 rfl 1 rfl ?_
  refine z_getR F zc9 dX10_error_1 rfl 4 (by decide) (by decide) (.inl m_934) rfl (by decide) 4 rfl ?_
  refine z_ldc F dX10_error_4 m_1006 6 rfl ?_
  refine z_iload_n F dX10_error_6 1 rfl 7 rfl ?_
  refine z_isub F dX10_error_7 8 rfl ?_
  rw [e]
  refine z_dup2 F dX10_error_8 rfl rfl 9 rfl ?_
  refine z_iald F dX10_error_9 rfl (vp_in_nI (by omega) (by decide)) 10 rfl ?_
  rw [nI_clamp (by omega)]
  refine z_iconst F dX10_error_10 1 (by decide) 11 rfl ?_
  refine z_iadd F dX10_error_11 12 rfl ?_
  refine z_iast F dX10_error_12 rfl (vp_in_nI (by omega) (by decide)) 13 rfl ?_
  rw [nI_clamp (by omega)]
  refine z_iload_n F dX10_error_13 1 rfl 14 rfl ?_
  refine z_ri F dX10_error_14 ?_
  exact ⟨rfl, rfl⟩
