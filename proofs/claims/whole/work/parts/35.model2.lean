/-! the reference's helpers -/
theorem ix5 (p w : Nat) : (19 : Int32) + 5 * nI p + nI w = nI (19 + 5 * p + w) := by
  rw [show (5 : Int32) = nI 5 from rfl, pk_mul, show (19 : Int32) = nI 19 from rfl, nI_add, nI_add]
set_option maxHeartbeats 400000 in
set_option maxRecDepth 10000 in
theorem kX10_held {l : Launch} {E : z_E} (σ : z_M) {S : z_Sh} (x a b : Int32) : z_C l E S 0 yX10_held cX10_held 3 (some FieldType.int) [.int x, .int a, .int b] σ (z_Pp (if x < a then a else if b < x then b else x) σ) := by
  refine z_intro iX10_held (Nat.le_of_ble_eq_true rfl) (fun K F => ?_)
  refine z_iload_n F dX10_held_0 0 rfl 1 rfl ?_
  refine z_iload_n F dX10_held_1 1 rfl 2 rfl ?_
  refine z_icmp_ge F dX10_held_2 9 (by decide) 5 rfl (fun h2 => ?_) (fun h2 => ?_)
  · skip
    refine z_iload_n F dX10_held_9 0 rfl 10 rfl ?_
    refine z_iload_n F dX10_held_10 2 rfl 11 rfl ?_
    refine z_icmp_le F dX10_held_11 18 (by decide) 14 rfl (fun h11 => ?_) (fun h11 => ?_)
    · skip
      refine z_iload_n F dX10_held_18 0 rfl 19 rfl ?_
      refine z_rp F dX10_held_19 ?_ rfl
      (repeat' split) <;> first | rfl | (exfalso; simp only [Int32.lt_iff_toInt_lt, Int32.le_iff_toInt_le, ← Int32.toInt_inj, Int32.reduceToInt] at *; omega)
    · skip
      refine z_iload_n F dX10_held_14 2 rfl 15 rfl ?_
      refine z_goto F dX10_held_15 19 (by decide) ?_
      refine z_rp F dX10_held_19 ?_ rfl
      (repeat' split) <;> first | rfl | (exfalso; simp only [Int32.lt_iff_toInt_lt, Int32.le_iff_toInt_le, ← Int32.toInt_inj, Int32.reduceToInt] at *; omega)
  · skip
    refine z_iload_n F dX10_held_5 1 rfl 6 rfl ?_
    refine z_goto F dX10_held_6 19 (by decide) ?_
    refine z_rp F dX10_held_19 ?_ rfl
    (repeat' split) <;> first | rfl | (exfalso; simp only [Int32.lt_iff_toInt_lt, Int32.le_iff_toInt_le, ← Int32.toInt_inj, Int32.reduceToInt] at *; omega)
set_option maxHeartbeats 400000 in
set_option maxRecDepth 10000 in
theorem kX10_of {l : Launch} {E : z_E} (σ : z_M) {p w : Nat} (hp : p < 8) (hw : w < 5) : z_C l E shM 0 yX10_of cX10_of 3 (some FieldType.int) [.ref (z_ad E 0), .int (nI p), .int (nI w)] σ (z_Pp (pO (σ 1) p w) σ) := by
  refine z_intro iX10_of (Nat.le_of_ble_eq_true rfl) (fun K F => ?_)
  refine z_aload_n F dX10_of_0 0 rfl 1 rfl ?_
  refine z_getR F zc9 dX10_of_1 rfl 0 (by decide) (by decide) (.inl m_930) rfl (by decide) 4 rfl ?_
  refine z_bipush F dX10_of_4 19 (by decide) 6 rfl ?_
  refine z_iconst F dX10_of_6 5 (by decide) 7 rfl ?_
  refine z_iload_n F dX10_of_7 1 rfl 8 rfl ?_
  refine z_imul F dX10_of_8 9 rfl ?_
  refine z_iadd F dX10_of_9 10 rfl ?_
  refine z_iload_n F dX10_of_10 2 rfl 11 rfl ?_
  refine z_iadd F dX10_of_11 12 rfl ?_
  rw [ix5]
  refine z_iald F dX10_of_12 rfl (vp_in_nI (by omega) (by decide)) 13 rfl ?_
  rw [nI_clamp (by omega)]
  refine z_rp F dX10_of_13 ?_ rfl
  rfl
set_option maxHeartbeats 400000 in
set_option maxRecDepth 10000 in
theorem kX10_puts {l : Launch} {E : z_E} (σ : z_M) {p w : Nat} (hp : p < 8) (hw : w < 5) (v : Int32) : z_C l E shM 0 yX10_puts cX10_puts 4 none [.ref (z_ad E 0), .int (nI p), .int (nI w), .int v] σ (z_Pu (z_up σ 1 (pU (σ 1) p w v))) := by
  refine z_intro iX10_puts (Nat.le_of_ble_eq_true rfl) (fun K F => ?_)
  refine z_aload_n F dX10_puts_0 0 rfl 1 rfl ?_
  refine z_getR F zc9 dX10_puts_1 rfl 0 (by decide) (by decide) (.inl m_930) rfl (by decide) 4 rfl ?_
  refine z_bipush F dX10_puts_4 19 (by decide) 6 rfl ?_
  refine z_iconst F dX10_puts_6 5 (by decide) 7 rfl ?_
  refine z_iload_n F dX10_puts_7 1 rfl 8 rfl ?_
  refine z_imul F dX10_puts_8 9 rfl ?_
  refine z_iadd F dX10_puts_9 10 rfl ?_
  refine z_iload_n F dX10_puts_10 2 rfl 11 rfl ?_
  refine z_iadd F dX10_puts_11 12 rfl ?_
  rw [ix5]
  refine z_iload_n F dX10_puts_12 3 rfl 13 rfl ?_
  refine z_iast F dX10_puts_13 rfl (vp_in_nI (by omega) (by decide)) 14 rfl ?_
  rw [nI_clamp (by omega)]
  refine z_ru F dX10_puts_14 ?_
  rfl
set_option maxHeartbeats 400000 in
set_option maxRecDepth 10000 in
theorem kX10_becomes {l : Launch} {E : z_E} (σ : z_M) {k : Nat} (hk : k < 385) (v : Int32) : z_C l E shM 0 yX10_becomes cX10_becomes 4 (some FieldType.int) [.ref (z_ad E 0), .int (nI k), .int v] σ (z_Pi (fun rv μ' => rv = σ 1 k ∧ μ' = z_up σ 1 (upd (σ 1) k v))) := by
  refine z_intro iX10_becomes (Nat.le_of_ble_eq_true rfl) (fun K F => ?_)
  refine z_aload_n F dX10_becomes_0 0 rfl 1 rfl ?_
  refine z_getR F zc9 dX10_becomes_1 rfl 0 (by decide) (by decide) (.inl m_930) rfl (by decide) 4 rfl ?_
  refine z_iload_n F dX10_becomes_4 1 rfl 5 rfl ?_
  refine z_iald F dX10_becomes_5 rfl (vp_in_nI (by omega) (by decide)) 6 rfl ?_
  rw [nI_clamp (by omega)]
  refine z_istore_n F dX10_becomes_6 [(0, _), (1, _), (2, _), (3, _)] rfl (by decide) 7 rfl ?_
  refine z_aload_n F dX10_becomes_7 0 rfl 8 rfl ?_
  refine z_getR F zc9 dX10_becomes_8 rfl 0 (by decide) (by decide) (.inl m_930) rfl (by decide) 11 rfl ?_
  refine z_iload_n F dX10_becomes_11 1 rfl 12 rfl ?_
  refine z_iload_n F dX10_becomes_12 2 rfl 13 rfl ?_
  refine z_iast F dX10_becomes_13 rfl (vp_in_nI (by omega) (by decide)) 14 rfl ?_
  rw [nI_clamp (by omega)]
  refine z_iload_n F dX10_becomes_14 3 rfl 15 rfl ?_
  refine z_ri F dX10_becomes_15 ?_
  exact ⟨rfl, rfl⟩
set_option maxHeartbeats 400000 in
set_option maxRecDepth 10000 in
theorem kX10_isPerson {l : Launch} {E : z_E} (σ : z_M) (hn : σ 1 2 = nI (nP (σ 1)) ∧ nP (σ 1) ≤ 8) (x : Int32) : z_C l E shM 1 yX10_isPerson cX10_isPerson 2 (some FieldType.boolean) [.ref (z_ad E 0), .int x] σ (z_Pp (bI (0 ≤ x ∧ x < σ 1 2)) σ) := by
  refine z_intro iX10_isPerson (Nat.le_of_ble_eq_true rfl) (fun K F => ?_)
  refine z_iload_n F dX10_isPerson_0 1 rfl 1 rfl ?_
  refine z_iconst F dX10_isPerson_1 0 (by decide) 2 rfl ?_
  refine z_aload_n F dX10_isPerson_2 0 rfl 3 rfl ?_
  refine z_getR F zc9 dX10_isPerson_3 rfl 0 (by decide) (by decide) (.inl m_930) rfl (by decide) 6 rfl ?_
  refine z_iconst F dX10_isPerson_6 2 (by decide) 7 rfl ?_
  refine z_iald F dX10_isPerson_7 rfl (show vp_in (nI 2) 385 from vp_in_nI (by decide) (by decide)) 8 rfl ?_
  refine z_iconst F dX10_isPerson_8 1 (by decide) 9 rfl ?_
  refine z_isub F dX10_isPerson_9 10 rfl ?_
  refine z_callSp F dX10_isPerson_10 m_998 iX10_in m_999 rfl (kX10_in σ x _ _) rfl (by decide) (Nat.le_of_ble_eq_true rfl) 13 rfl ?_
  refine z_rpz F dX10_isPerson_13 (by first | rfl | exact bIn) ?_ rfl
  refine bI_c ⟨fun z => ⟨z.1, ?_⟩, fun z => ⟨z.1, ?_⟩⟩
  · have h1 : x ≤ σ 1 2 - 1 := z.2
    have h0 := z.1
    rw [hn.1] at h1 ⊢
    rcases Nat.eq_zero_or_pos (nP (σ 1)) with q | q
    · rw [q] at h1
      exact absurd (Int32.le_trans h0 h1) (by decide)
    · rw [show nI (nP (σ 1)) - 1 = nI (nP (σ 1) - 1) from pk_sub (b := 1) (by omega)] at h1
      obtain ⟨j, hj, e⟩ := nI_of (i_nlt.mpr h0)
      rw [e] at h1 ⊢
      have := le_nI h1 hj (by omega)
      exact nI_lt (by omega) (by omega)
  · obtain ⟨j, hj, e⟩ := isP_of (n := nP (σ 1)) (hn.1 ▸ z) (by omega)
    show x ≤ σ 1 2 - 1
    rw [hn.1, e, show nI (nP (σ 1)) - 1 = nI (nP (σ 1) - 1) from pk_sub (b := 1) (by omega)]
    exact nI_le (by omega) (by omega)
set_option maxHeartbeats 400000 in
set_option maxRecDepth 10000 in
theorem kX10_isKin {l : Launch} {E : z_E} (σ : z_M) {a b : Nat} (ha : a < 8) (hb : b < 8) : z_C l E shM 1 yX10_isKin cX10_isKin 3 (some FieldType.boolean) [.ref (z_ad E 0), .int (nI a), .int (nI b)] σ (z_Pp (bI (adj (σ 1) a b = true)) σ) := by
  refine z_intro iX10_isKin (Nat.le_of_ble_eq_true rfl) (fun K F => ?_)
  refine z_aload_n F dX10_isKin_0 0 rfl 1 rfl ?_
  refine z_iload_n F dX10_isKin_1 1 rfl 2 rfl ?_
  refine z_iconst F dX10_isKin_2 2 (by decide) 3 rfl ?_
  refine z_callVp F dX10_isKin_3 m_1020 iX10_of jX10_of rfl zc9 rfl (kX10_of σ (p := a) (w := 2) ha (by decide)) rfl (by decide) (Nat.le_of_ble_eq_true rfl) 6 rfl ?_
  refine z_iload_n F dX10_isKin_6 2 rfl 7 rfl ?_
  refine z_icmp_eq F dX10_isKin_7 30 (by decide) 10 rfl (fun h7 => ?_) (fun h7 => ?_)
  · skip
    refine z_iconst F dX10_isKin_30 1 (by decide) 31 rfl ?_
    refine z_goto F dX10_isKin_31 35 (by decide) ?_
    refine z_rpz F dX10_isKin_35 (by first | rfl | exact bIn) ?_ rfl
    unfold adj
    exact (bI_t (decide_eq_true (Or.inl h7))).symm
  · skip
    refine z_aload_n F dX10_isKin_10 0 rfl 11 rfl ?_
    refine z_iload_n F dX10_isKin_11 2 rfl 12 rfl ?_
    refine z_iconst F dX10_isKin_12 2 (by decide) 13 rfl ?_
    refine z_callVp F dX10_isKin_13 m_1020 iX10_of jX10_of rfl zc9 rfl (kX10_of σ (p := b) (w := 2) hb (by decide)) rfl (by decide) (Nat.le_of_ble_eq_true rfl) 16 rfl ?_
    refine z_iload_n F dX10_isKin_16 1 rfl 17 rfl ?_
    refine z_icmp_eq F dX10_isKin_17 30 (by decide) 20 rfl (fun h17 => ?_) (fun h17 => ?_)
    · skip
      refine z_iconst F dX10_isKin_30 1 (by decide) 31 rfl ?_
      refine z_goto F dX10_isKin_31 35 (by decide) ?_
      refine z_rpz F dX10_isKin_35 (by first | rfl | exact bIn) ?_ rfl
      unfold adj
      exact (bI_t (decide_eq_true (Or.inr (Or.inl h17)))).symm
    · skip
      refine z_aload_n F dX10_isKin_20 0 rfl 21 rfl ?_
      refine z_iload_n F dX10_isKin_21 1 rfl 22 rfl ?_
      refine z_iconst F dX10_isKin_22 3 (by decide) 23 rfl ?_
      refine z_callVp F dX10_isKin_23 m_1020 iX10_of jX10_of rfl zc9 rfl (kX10_of σ (p := a) (w := 3) ha (by decide)) rfl (by decide) (Nat.le_of_ble_eq_true rfl) 26 rfl ?_
      refine z_iload_n F dX10_isKin_26 2 rfl 27 rfl ?_
      refine z_icmp_ne F dX10_isKin_27 34 (by decide) 30 rfl (fun h27 => ?_) (fun h27 => ?_)
      · skip
        refine z_iconst F dX10_isKin_34 0 (by decide) 35 rfl ?_
        refine z_rpz F dX10_isKin_35 (by first | rfl | exact bIn) ?_ rfl
        unfold adj
        exact (bI_f (fun z => (of_decide_eq_true z).elim h7 (fun y => y.elim h17 h27))).symm
      · skip
        refine z_iconst F dX10_isKin_30 1 (by decide) 31 rfl ?_
        refine z_goto F dX10_isKin_31 35 (by decide) ?_
        refine z_rpz F dX10_isKin_35 (by first | rfl | exact bIn) ?_ rfl
        unfold adj
        exact (bI_t (decide_eq_true (Or.inr (Or.inr h27)))).symm
set_option maxHeartbeats 400000 in
set_option maxRecDepth 10000 in
theorem kX10_bits {l : Launch} {E : z_E} (σ : z_M) {S : z_Sh} {s : Nat} (hs : s < 256) : z_C l E S 0 yX10_bits cX10_bits 3 (some FieldType.int) [.int (nI s)] σ (z_Pp (nI (pcN s)) σ) := by
  refine z_intro iX10_bits (Nat.le_of_ble_eq_true rfl) (fun K F => ?_)
  have loop4 : ∀ (f : Nat) (t c : Nat) (_ : t < f) (_ : t < 256) (_ : c + pcN t = pcN s), z_X l K E S 0 3 (z_Pp (nI (pcN s)) σ) 4 [(0, .int (nI s)), (1, .int (nI c)), (2, .int (nI t))] [] σ := by
    intro f
    induction f with
    | zero =>
      intro t c hf ht hc
      omega
    | succ f ih =>
      intro t c hf ht hc
      refine z_iload_n F dX10_bits_4 2 rfl 5 rfl ?_
      refine z_if_eq F dX10_bits_5 20 (by decide) 8 rfl (fun h5 => ?_) (fun h5 => ?_)
      · skip
        refine z_iload_n F dX10_bits_20 1 rfl 21 rfl ?_
        refine z_rp F dX10_bits_21 ?_ rfl
        have ht0 : t = 0 := eq_nI (b := 0) h5 (by omega) (by decide)
        subst ht0
        rw [← hc]; rfl
      · skip
        have ht0 : 0 < t := by
          rcases Nat.eq_zero_or_pos t with z | z
          · subst z; exact absurd rfl h5
          · exact z
        obtain ⟨p1, p2, p3⟩ := pc_step t ht ht0
        refine z_iinc F dX10_bits_8 1 rfl 1 (by decide) [(0, _), (1, _), (2, _)] rfl (by decide) 11 rfl ?_
        refine z_iload_n F dX10_bits_11 2 rfl 12 rfl ?_
        refine z_iload_n F dX10_bits_12 2 rfl 13 rfl ?_
        refine z_iconst F dX10_bits_13 1 (by decide) 14 rfl ?_
        refine z_isub F dX10_bits_14 15 rfl ?_
        refine z_iand F dX10_bits_15 16 rfl ?_
        rw [p3]
        refine z_istore_n F dX10_bits_16 [(0, _), (1, _), (2, _)] rfl (by decide) 17 rfl ?_
        refine z_goto F dX10_bits_17 4 (by decide) ?_
        rw [nI_1]
        exact ih (t &&& (t - 1)) (c + 1) (by omega) (by omega) (by omega)
  refine z_iconst F dX10_bits_0 0 (by decide) 1 rfl ?_
  refine z_istore_n F dX10_bits_1 [(0, _), (1, _)] rfl (by decide) 2 rfl ?_
  refine z_iload_n F dX10_bits_2 0 rfl 3 rfl ?_
  refine z_istore_n F dX10_bits_3 [(0, _), (1, _), (2, _)] rfl (by decide) 4 rfl ?_
  exact loop4 257 s 0 (by omega) hs (by omega)
