/-! the reference's public calls: trade to seers -/
theorem ltI_of {x : Int32} {n : Nat} (h : 0 ≤ x ∧ x ≤ nI n) (hn : n + 1 < 2 ^ 31) : ∃ q, q < n + 1 ∧ x = nI q := by
  refine isP_of ⟨h.1, ?_⟩ hn
  obtain ⟨j, hj, rfl⟩ := nI_of (i_nlt.mpr h.1)
  have := le_nI h.2 hj (by omega)
  exact nI_lt (by omega) hn
set_option maxHeartbeats 400000 in
set_option maxRecDepth 10000 in
theorem kX10_trade {l : Launch} {E : z_E} (σ : z_M) {τ0 : z_M} (hR : Rel τ0 σ) (w : Int32) (v : Int32)  : z_C l E shM 1 yX10_trade cX10_trade 3 (some FieldType.int) [.ref (z_ad E 0), .int w, .int v] σ (z_Pi (fun rv μ' => rv = (aTrade σ w v).1 ∧ MO (aTrade σ w v).2 μ')) := by
  refine z_intro iX10_trade (Nat.le_of_ble_eq_true rfl) (fun K F => ?_)
  have hn : σ 1 2 = nI (nP (σ 1)) := hR.2.1.1.1
  have h8 : nP (σ 1) ≤ 8 := hR.n8
  have hN : σ 1 2 = nI (nP (σ 1)) ∧ nP (σ 1) ≤ 8 := ⟨hn, h8⟩
  refine z_iload_n F dX10_trade_0 1 rfl 1 rfl ?_
  refine z_iconst F dX10_trade_1 0 (by decide) 2 rfl ?_
  refine z_iconst F dX10_trade_2 1 (by decide) 3 rfl ?_
  refine z_callSp F dX10_trade_3 m_998 iX10_in m_999 rfl (kX10_in σ _ _ _) rfl (by decide) (Nat.le_of_ble_eq_true rfl) 6 rfl ?_
  refine z_if_eq F dX10_trade_6 40 (by decide) 9 rfl (fun h6 => ?_) (fun h6 => ?_)
  · skip
    have h6 := bI0.mp h6
    refine z_aload_n F dX10_trade_40 0 rfl 41 rfl ?_
    refine z_ldc F dX10_trade_41 m_1001 43 rfl ?_
    rw [lo1]
    refine z_callVi F dX10_trade_43 m_1002 iX10_error jX10_error rfl zc9 rfl (kX10_error σ (k := 1) (by decide) (by decide)) rfl (by decide) (Nat.le_of_ble_eq_true rfl) 46 rfl (fun r43 s43 c43 => ?_)
    refine z_ri F dX10_trade_46 ?_
    obtain ⟨rfl, rfl⟩ := c43
    exact finM (by
      unfold aTrade
      (repeat' split) <;> first | rfl | contradiction | (exfalso; simp only [Int32.lt_iff_toInt_lt, Int32.le_iff_toInt_le, ← Int32.toInt_inj, Int32.reduceToInt] at *; omega)) MO.rf
  · skip
    have h6 := bI1.mp h6
    refine z_iload_n F dX10_trade_9 2 rfl 10 rfl ?_
    refine z_iconst F dX10_trade_10 0 (by decide) 11 rfl ?_
    refine z_iload_n F dX10_trade_11 1 rfl 12 rfl ?_
    refine z_if_ne F dX10_trade_12 21 (by decide) 15 rfl (fun h12 => ?_) (fun h12 => ?_)
    · skip
      have hw : w = 1 := by simp only [Int32.lt_iff_toInt_lt, Int32.le_iff_toInt_le, ← Int32.toInt_inj, Int32.reduceToInt] at *; omega
      subst hw
      refine z_bipush F dX10_trade_21 40 (by decide) 23 rfl ?_
      refine z_callSp F dX10_trade_23 m_998 iX10_in m_999 rfl (kX10_in σ _ _ _) rfl (by decide) (Nat.le_of_ble_eq_true rfl) 26 rfl ?_
      refine z_if_eq F dX10_trade_26 40 (by decide) 29 rfl (fun h26 => ?_) (fun h26 => ?_)
      · skip
        have h26 := bI0.mp h26
        refine z_aload_n F dX10_trade_40 0 rfl 41 rfl ?_
        refine z_ldc F dX10_trade_41 m_1001 43 rfl ?_
        rw [lo1]
        refine z_callVi F dX10_trade_43 m_1002 iX10_error jX10_error rfl zc9 rfl (kX10_error σ (k := 1) (by decide) (by decide)) rfl (by decide) (Nat.le_of_ble_eq_true rfl) 46 rfl (fun r43 s43 c43 => ?_)
        refine z_ri F dX10_trade_46 ?_
        obtain ⟨rfl, rfl⟩ := c43
        exact finM (by
          unfold aTrade
          (repeat' split) <;> first | rfl | contradiction | (exfalso; simp only [Int32.lt_iff_toInt_lt, Int32.le_iff_toInt_le, ← Int32.toInt_inj, Int32.reduceToInt] at *; omega)) MO.rf
      · skip
        have h26 := bI1.mp h26
        refine z_aload_n F dX10_trade_29 0 rfl 30 rfl ?_
        refine z_iconst F dX10_trade_30 3 (by decide) 31 rfl ?_
        refine z_iload_n F dX10_trade_31 1 rfl 32 rfl ?_
        refine z_iadd F dX10_trade_32 33 rfl ?_
        rw [show (3 : Int32) + 1 = nI 4 by decide]
        refine z_iload_n F dX10_trade_33 2 rfl 34 rfl ?_
        refine z_callVi F dX10_trade_34 m_1065 iX10_becomes jX10_becomes rfl zc9 rfl (kX10_becomes σ (k := _) (by decide) _) rfl (by decide) (Nat.le_of_ble_eq_true rfl) 37 rfl (fun r34 s34 c34 => ?_)
        refine z_goto F dX10_trade_37 46 (by decide) ?_
        refine z_ri F dX10_trade_46 ?_
        obtain ⟨rfl, rfl⟩ := c34
        refine finM ?_ MO.rf
        unfold aTrade
        rw [if_neg (fun z => absurd z.1 (by decide)), if_pos ⟨rfl, h26.1, h26.2⟩]
    · skip
      have hw : w = 0 := h12
      subst hw
      refine z_sipush F dX10_trade_15 999 (by decide) 18 rfl ?_
      refine z_goto F dX10_trade_18 23 (by decide) ?_
      refine z_callSp F dX10_trade_23 m_998 iX10_in m_999 rfl (kX10_in σ _ _ _) rfl (by decide) (Nat.le_of_ble_eq_true rfl) 26 rfl ?_
      refine z_if_eq F dX10_trade_26 40 (by decide) 29 rfl (fun h26 => ?_) (fun h26 => ?_)
      · skip
        have h26 := bI0.mp h26
        refine z_aload_n F dX10_trade_40 0 rfl 41 rfl ?_
        refine z_ldc F dX10_trade_41 m_1001 43 rfl ?_
        rw [lo1]
        refine z_callVi F dX10_trade_43 m_1002 iX10_error jX10_error rfl zc9 rfl (kX10_error σ (k := 1) (by decide) (by decide)) rfl (by decide) (Nat.le_of_ble_eq_true rfl) 46 rfl (fun r43 s43 c43 => ?_)
        refine z_ri F dX10_trade_46 ?_
        obtain ⟨rfl, rfl⟩ := c43
        exact finM (by
          unfold aTrade
          (repeat' split) <;> first | rfl | contradiction | (exfalso; simp only [Int32.lt_iff_toInt_lt, Int32.le_iff_toInt_le, ← Int32.toInt_inj, Int32.reduceToInt] at *; omega)) MO.rf
      · skip
        have h26 := bI1.mp h26
        refine z_aload_n F dX10_trade_29 0 rfl 30 rfl ?_
        refine z_iconst F dX10_trade_30 3 (by decide) 31 rfl ?_
        refine z_iload_n F dX10_trade_31 1 rfl 32 rfl ?_
        refine z_iadd F dX10_trade_32 33 rfl ?_
        rw [show (3 : Int32) + 0 = nI 3 by decide]
        refine z_iload_n F dX10_trade_33 2 rfl 34 rfl ?_
        refine z_callVi F dX10_trade_34 m_1065 iX10_becomes jX10_becomes rfl zc9 rfl (kX10_becomes σ (k := _) (by decide) _) rfl (by decide) (Nat.le_of_ble_eq_true rfl) 37 rfl (fun r34 s34 c34 => ?_)
        refine z_goto F dX10_trade_37 46 (by decide) ?_
        refine z_ri F dX10_trade_46 ?_
        obtain ⟨rfl, rfl⟩ := c34
        refine finM ?_ MO.rf
        unfold aTrade
        rw [if_pos ⟨rfl, h26.1, h26.2⟩]
set_option maxHeartbeats 400000 in
set_option maxRecDepth 10000 in
theorem kX10_untell {l : Launch} {E : z_E} (σ : z_M) {τ0 : z_M} (hR : Rel τ0 σ) (u : Int32)  : z_C l E shM 1 yX10_untell cX10_untell 2 (some FieldType.int) [.ref (z_ad E 0), .int u] σ (z_Pi (fun rv μ' => rv = (aUntell σ u).1 ∧ MO (aUntell σ u).2 μ')) := by
  refine z_intro iX10_untell (Nat.le_of_ble_eq_true rfl) (fun K F => ?_)
  have hn : σ 1 2 = nI (nP (σ 1)) := hR.2.1.1.1
  have h8 : nP (σ 1) ≤ 8 := hR.n8
  have hN : σ 1 2 = nI (nP (σ 1)) ∧ nP (σ 1) ≤ 8 := ⟨hn, h8⟩
  refine z_iload_n F dX10_untell_0 1 rfl 1 rfl ?_
  refine z_iconst F dX10_untell_1 0 (by decide) 2 rfl ?_
  refine z_iconst F dX10_untell_2 1 (by decide) 3 rfl ?_
  refine z_callSp F dX10_untell_3 m_998 iX10_in m_999 rfl (kX10_in σ _ _ _) rfl (by decide) (Nat.le_of_ble_eq_true rfl) 6 rfl ?_
  refine z_if_ne F dX10_untell_6 16 (by decide) 9 rfl (fun h6 => ?_) (fun h6 => ?_)
  · skip
    have h6 := bI1.mp h6
    obtain ⟨q, hq, rfl⟩ := ltI_of (n := 1) h6 (by decide)
    have q31 : q < 2 ^ 31 := by omega
    have hu2 : nI q < 2 := nI_lt (b := 2) hq (by decide)
    refine z_aload_n F dX10_untell_16 0 rfl 17 rfl ?_
    refine z_sipush F dX10_untell_17 143 (by decide) 20 rfl ?_
    refine z_bipush F dX10_untell_20 121 (by decide) 22 rfl ?_
    refine z_iload_n F dX10_untell_22 1 rfl 23 rfl ?_
    refine z_imul F dX10_untell_23 24 rfl ?_
    refine z_iadd F dX10_untell_24 25 rfl ?_
    rw [at_u]
    refine z_iconst F dX10_untell_25 0 (by decide) 26 rfl ?_
    refine z_callVi F dX10_untell_26 m_1065 iX10_becomes jX10_becomes rfl zc9 rfl (kX10_becomes σ (k := 143 + 121 * q) (by omega) _) rfl (by decide) (Nat.le_of_ble_eq_true rfl) 29 rfl (fun r26 s26 c26 => ?_)
    obtain ⟨rfl, rfl⟩ := c26
    refine z_if_le F dX10_untell_29 36 (by decide) 32 rfl (fun h29 => ?_) (fun h29 => ?_)
    · skip
      refine z_iconst F dX10_untell_36 0 (by decide) 37 rfl ?_
      refine z_ri F dX10_untell_37 ?_
      refine finM ?_ MO.rf
      unfold aUntell
      rw [if_pos ⟨h6.1, hu2⟩, nI_clamp q31, if_neg (by simp only [Int32.lt_iff_toInt_lt, Int32.le_iff_toInt_le, ← Int32.toInt_inj, Int32.reduceToInt] at *; omega)]
    · skip
      refine z_iconst F dX10_untell_32 1 (by decide) 33 rfl ?_
      refine z_goto F dX10_untell_33 37 (by decide) ?_
      refine z_ri F dX10_untell_37 ?_
      refine finM ?_ MO.rf
      unfold aUntell
      rw [if_pos ⟨h6.1, hu2⟩, nI_clamp q31, if_pos (by simp only [Int32.lt_iff_toInt_lt, Int32.le_iff_toInt_le, ← Int32.toInt_inj, Int32.reduceToInt] at *; omega)]
  · skip
    have h6 := bI0.mp h6
    refine z_aload_n F dX10_untell_9 0 rfl 10 rfl ?_
    refine z_ldc F dX10_untell_10 m_1001 12 rfl ?_
    rw [lo1]
    refine z_callVi F dX10_untell_12 m_1002 iX10_error jX10_error rfl zc9 rfl (kX10_error σ (k := 1) (by decide) (by decide)) rfl (by decide) (Nat.le_of_ble_eq_true rfl) 15 rfl (fun r12 s12 c12 => ?_)
    refine z_ri F dX10_untell_15 ?_
    obtain ⟨rfl, rfl⟩ := c12
    exact finM (by
      unfold aUntell
      (repeat' split) <;> first | rfl | contradiction | (exfalso; simp only [Int32.lt_iff_toInt_lt, Int32.le_iff_toInt_le, ← Int32.toInt_inj, Int32.reduceToInt] at *; omega)) MO.rf
set_option maxHeartbeats 400000 in
set_option maxRecDepth 10000 in
theorem kX10_law {l : Launch} {E : z_E} (σ : z_M) {τ0 : z_M} (hR : Rel τ0 σ) (u : Int32) (x : Int32) (y : Int32) (z : Int32)  : z_C l E shM 3 yX10_law cX10_law 5 (some FieldType.int) [.ref (z_ad E 0), .int u, .int x, .int y, .int z] σ (z_Pi (fun rv μ' => rv = (aLaw σ u x y z).1 ∧ MO (aLaw σ u x y z).2 μ')) := by
  refine z_intro iX10_law (Nat.le_of_ble_eq_true rfl) (fun K F => ?_)
  have hn : σ 1 2 = nI (nP (σ 1)) := hR.2.1.1.1
  have h8 : nP (σ 1) ≤ 8 := hR.n8
  have hN : σ 1 2 = nI (nP (σ 1)) ∧ nP (σ 1) ≤ 8 := ⟨hn, h8⟩
  refine z_iload_n F dX10_law_0 1 rfl 1 rfl ?_
  refine z_iconst F dX10_law_1 0 (by decide) 2 rfl ?_
  refine z_iconst F dX10_law_2 1 (by decide) 3 rfl ?_
  refine z_callSp F dX10_law_3 m_998 iX10_in m_999 rfl (kX10_in σ _ _ _) rfl (by decide) (Nat.le_of_ble_eq_true rfl) 6 rfl ?_
  refine z_if_eq F dX10_law_6 21 (by decide) 9 rfl (fun h6 => ?_) (fun h6 => ?_)
  · skip
    have h6 := bI0.mp h6
    refine z_aload_n F dX10_law_21 0 rfl 22 rfl ?_
    refine z_ldc F dX10_law_22 m_1001 24 rfl ?_
    rw [lo1]
    refine z_callVi F dX10_law_24 m_1002 iX10_error jX10_error rfl zc9 rfl (kX10_error σ (k := 1) (by decide) (by decide)) rfl (by decide) (Nat.le_of_ble_eq_true rfl) 27 rfl (fun r24 s24 c24 => ?_)
    refine z_ri F dX10_law_27 ?_
    obtain ⟨rfl, rfl⟩ := c24
    exact finM (by
      unfold aLaw
      (repeat' split) <;> first | rfl | contradiction | (exfalso; simp only [Int32.lt_iff_toInt_lt, Int32.le_iff_toInt_le, ← Int32.toInt_inj, Int32.reduceToInt] at *; omega)) MO.rf
  · skip
    have h6 := bI1.mp h6
    obtain ⟨q, hq, rfl⟩ := ltI_of (n := 1) h6 (by decide)
    have q31 : q < 2 ^ 31 := by omega
    have hu2 : nI q < 2 := nI_lt (b := 2) hq (by decide)
    have hC : VC (σ 1) q := by
      rcases (show q = 0 ∨ q = 1 by omega) with rfl | rfl
      · exact hR.2.1.2.1
      · exact hR.2.1.2.2.1
    refine z_aload_n F dX10_law_9 0 rfl 10 rfl ?_
    refine z_iload_n F dX10_law_10 1 rfl 11 rfl ?_
    refine z_iload_n F dX10_law_11 2 rfl 12 rfl ?_
    refine z_iload_n F dX10_law_12 3 rfl 13 rfl ?_
    refine z_iload F dX10_law_13 4 rfl 15 rfl ?_
    refine z_callVi F dX10_law_15 m_1047 iX10_gives jX10_gives rfl zc9 rfl (kX10_gives σ (u := q) (by omega) hC _ _ _) rfl (by decide) (Nat.le_of_ble_eq_true rfl) 18 rfl (fun r15 s15 c15 => ?_)
    obtain ⟨rfl, m15⟩ := c15
    refine z_goto F dX10_law_18 27 (by decide) ?_
    refine z_ri F dX10_law_27 ?_
    refine finM (m := σ) ?_ (MO.g m15)
    unfold aLaw
    rw [if_pos ⟨h6.1, hu2⟩, nI_clamp q31]
set_option maxHeartbeats 400000 in
set_option maxRecDepth 10000 in
theorem kX10_year {l : Launch} {E : z_E} (σ : z_M) {τ0 : z_M} (hR : Rel τ0 σ) (v : Int32)  : z_C l E shM 1 yX10_year cX10_year 2 (some FieldType.int) [.ref (z_ad E 0), .int v] σ (z_Pi (fun rv μ' => rv = (aYear σ v).1 ∧ MO (aYear σ v).2 μ')) := by
  refine z_intro iX10_year (Nat.le_of_ble_eq_true rfl) (fun K F => ?_)
  have hn : σ 1 2 = nI (nP (σ 1)) := hR.2.1.1.1
  have h8 : nP (σ 1) ≤ 8 := hR.n8
  have hN : σ 1 2 = nI (nP (σ 1)) ∧ nP (σ 1) ≤ 8 := ⟨hn, h8⟩
  have hP8 := h8
  refine z_iload_n F dX10_year_0 1 rfl 1 rfl ?_
  refine z_iconst F dX10_year_1 0 (by decide) 2 rfl ?_
  refine z_sipush F dX10_year_2 9999 (by decide) 5 rfl ?_
  refine z_callSp F dX10_year_5 m_998 iX10_in m_999 rfl (kX10_in σ _ _ _) rfl (by decide) (Nat.le_of_ble_eq_true rfl) 8 rfl ?_
  refine z_if_eq F dX10_year_8 20 (by decide) 11 rfl (fun h8 => ?_) (fun h8 => ?_)
  · skip
    have h8 := bI0.mp h8
    refine z_aload_n F dX10_year_20 0 rfl 21 rfl ?_
    refine z_ldc F dX10_year_21 m_1001 23 rfl ?_
    rw [lo1]
    refine z_callVi F dX10_year_23 m_1002 iX10_error jX10_error rfl zc9 rfl (kX10_error σ (k := 1) (by decide) (by decide)) rfl (by decide) (Nat.le_of_ble_eq_true rfl) 26 rfl (fun r23 s23 c23 => ?_)
    refine z_ri F dX10_year_26 ?_
    obtain ⟨rfl, rfl⟩ := c23
    exact finM (by
      unfold aYear
      (repeat' split) <;> first | rfl | contradiction | (exfalso; simp only [Int32.lt_iff_toInt_lt, Int32.le_iff_toInt_le, ← Int32.toInt_inj, Int32.reduceToInt] at *; omega)) MO.rf
  · skip
    have h8 := bI1.mp h8
    have hy := h8
    refine z_aload_n F dX10_year_11 0 rfl 12 rfl ?_
    refine z_iconst F dX10_year_12 0 (by decide) 13 rfl ?_
    refine z_iload_n F dX10_year_13 1 rfl 14 rfl ?_
    refine z_callVi F dX10_year_14 m_1065 iX10_becomes jX10_becomes rfl zc9 rfl (kX10_becomes σ (k := 0) (by decide) _) rfl (by decide) (Nat.le_of_ble_eq_true rfl) 17 rfl (fun r14 s14 c14 => ?_)
    obtain ⟨rfl, rfl⟩ := c14
    refine z_goto F dX10_year_17 26 (by decide) ?_
    refine z_ri F dX10_year_26 ?_
    refine finM ?_ MO.rf
    unfold aYear
    rw [if_pos hy]
set_option maxHeartbeats 400000 in
set_option maxRecDepth 10000 in
theorem kX10_seed {l : Launch} {E : z_E} (σ : z_M) {τ0 : z_M} (hR : Rel τ0 σ) (v : Int32)  : z_C l E shM 1 yX10_seed cX10_seed 2 (some FieldType.int) [.ref (z_ad E 0), .int v] σ (z_Pi (fun rv μ' => rv = (aSeed σ v).1 ∧ MO (aSeed σ v).2 μ')) := by
  refine z_intro iX10_seed (Nat.le_of_ble_eq_true rfl) (fun K F => ?_)
  have hn : σ 1 2 = nI (nP (σ 1)) := hR.2.1.1.1
  have h8 : nP (σ 1) ≤ 8 := hR.n8
  have hN : σ 1 2 = nI (nP (σ 1)) ∧ nP (σ 1) ≤ 8 := ⟨hn, h8⟩
  refine z_aload_n F dX10_seed_0 0 rfl 1 rfl ?_
  refine z_iconst F dX10_seed_1 1 (by decide) 2 rfl ?_
  refine z_iload_n F dX10_seed_2 1 rfl 3 rfl ?_
  refine z_callVi F dX10_seed_3 m_1065 iX10_becomes jX10_becomes rfl zc9 rfl (kX10_becomes σ (k := 1) (by decide) _) rfl (by decide) (Nat.le_of_ble_eq_true rfl) 6 rfl (fun r3 s3 c3 => ?_)
  obtain ⟨rfl, rfl⟩ := c3
  refine z_ri F dX10_seed_6 ?_
  refine finM ?_ MO.rf
  rfl
set_option maxHeartbeats 400000 in
set_option maxRecDepth 10000 in
theorem kX10_count {l : Launch} {E : z_E} (σ : z_M) {τ0 : z_M} (hR : Rel τ0 σ) (w : Int32)  : z_C l E shM 2 yX10_count cX10_count 2 (some FieldType.int) [.ref (z_ad E 0), .int w] σ (z_Pi (fun rv μ' => rv = (aCount σ w).1 ∧ MO (aCount σ w).2 μ')) := by
  refine z_intro iX10_count (Nat.le_of_ble_eq_true rfl) (fun K F => ?_)
  have hn : σ 1 2 = nI (nP (σ 1)) := hR.2.1.1.1
  have h8 : nP (σ 1) ≤ 8 := hR.n8
  have hN : σ 1 2 = nI (nP (σ 1)) ∧ nP (σ 1) ≤ 8 := ⟨hn, h8⟩
  refine z_iload_n F dX10_count_0 1 rfl 1 rfl ?_
  by_cases e1_0 : w = 0
  · skip
    refine z_tableIn F dX10_count_1 (by rw [e1_0]; decide) (by rw [e1_0]; decide) (by rw [e1_0]; rfl) 52 (by decide) ?_
    refine z_aload_n F dX10_count_52 0 rfl 53 rfl ?_
    refine z_getR F zc9 dX10_count_53 rfl 0 (by decide) (by decide) (.inl m_930) rfl (by decide) 56 rfl ?_
    refine z_iconst F dX10_count_56 2 (by decide) 57 rfl ?_
    refine z_iald F dX10_count_57 rfl (show vp_in (nI 2) 385 from vp_in_nI (by decide) (by decide)) 58 rfl ?_
    rw [tn_2]
    refine z_ri F dX10_count_58 ?_
    refine finM (m := σ) ?_ MO.rf
    unfold aCount
    simp only [e1_0]; rfl
  by_cases e1_1 : w = 1
  · skip
    refine z_tableIn F dX10_count_1 (by rw [e1_1]; decide) (by rw [e1_1]; decide) (by rw [e1_1]; rfl) 59 (by decide) ?_
    refine z_aload_n F dX10_count_59 0 rfl 60 rfl ?_
    refine z_getR F zc9 dX10_count_60 rfl 0 (by decide) (by decide) (.inl m_930) rfl (by decide) 63 rfl ?_
    refine z_iconst F dX10_count_63 0 (by decide) 64 rfl ?_
    refine z_iald F dX10_count_64 rfl (show vp_in (nI 0) 385 from vp_in_nI (by decide) (by decide)) 65 rfl ?_
    rw [tn_0]
    refine z_ri F dX10_count_65 ?_
    refine finM (m := σ) ?_ MO.rf
    unfold aCount
    simp only [e1_1]; rfl
  by_cases e1_2 : w = 2
  · skip
    refine z_tableIn F dX10_count_1 (by rw [e1_2]; decide) (by rw [e1_2]; decide) (by rw [e1_2]; rfl) 66 (by decide) ?_
    refine z_aload_n F dX10_count_66 0 rfl 67 rfl ?_
    refine z_getR F zc9 dX10_count_67 rfl 0 (by decide) (by decide) (.inl m_930) rfl (by decide) 70 rfl ?_
    refine z_iconst F dX10_count_70 3 (by decide) 71 rfl ?_
    refine z_iald F dX10_count_71 rfl (show vp_in (nI 3) 385 from vp_in_nI (by decide) (by decide)) 72 rfl ?_
    rw [tn_3]
    refine z_ri F dX10_count_72 ?_
    refine finM (m := σ) ?_ MO.rf
    unfold aCount
    simp only [e1_2]; rfl
  by_cases e1_3 : w = 3
  · skip
    refine z_tableIn F dX10_count_1 (by rw [e1_3]; decide) (by rw [e1_3]; decide) (by rw [e1_3]; rfl) 73 (by decide) ?_
    refine z_aload_n F dX10_count_73 0 rfl 74 rfl ?_
    refine z_getR F zc9 dX10_count_74 rfl 0 (by decide) (by decide) (.inl m_930) rfl (by decide) 77 rfl ?_
    refine z_iconst F dX10_count_77 4 (by decide) 78 rfl ?_
    refine z_iald F dX10_count_78 rfl (show vp_in (nI 4) 385 from vp_in_nI (by decide) (by decide)) 79 rfl ?_
    rw [tn_4]
    refine z_ri F dX10_count_79 ?_
    refine finM (m := σ) ?_ MO.rf
    unfold aCount
    simp only [e1_3]; rfl
  by_cases e1_4 : w = 4
  · skip
    refine z_tableIn F dX10_count_1 (by rw [e1_4]; decide) (by rw [e1_4]; decide) (by rw [e1_4]; rfl) 80 (by decide) ?_
    refine z_aload_n F dX10_count_80 0 rfl 81 rfl ?_
    refine z_callVp F dX10_count_81 m_1193 iX10_allSeen jX10_allSeen rfl zc9 rfl (kX10_allSeen σ hR.vk hR.vt) rfl (by decide) (Nat.le_of_ble_eq_true rfl) 84 rfl ?_
    refine z_ri F dX10_count_84 ?_
    refine finM (m := σ) ?_ MO.rf
    unfold aCount
    simp only [e1_4]; rfl
  by_cases e1_5 : w = 5
  · skip
    refine z_tableIn F dX10_count_1 (by rw [e1_5]; decide) (by rw [e1_5]; decide) (by rw [e1_5]; rfl) 85 (by decide) ?_
    refine z_aload_n F dX10_count_85 0 rfl 86 rfl ?_
    refine z_getR F zc9 dX10_count_86 rfl 0 (by decide) (by decide) (.inl m_930) rfl (by decide) 89 rfl ?_
    refine z_iconst F dX10_count_89 5 (by decide) 90 rfl ?_
    refine z_iald F dX10_count_90 rfl (show vp_in (nI 5) 385 from vp_in_nI (by decide) (by decide)) 91 rfl ?_
    rw [tn_5]
    refine z_ri F dX10_count_91 ?_
    refine finM (m := σ) ?_ MO.rf
    unfold aCount
    simp only [e1_5]; rfl
  by_cases e1_6 : w = 6
  · skip
    refine z_tableIn F dX10_count_1 (by rw [e1_6]; decide) (by rw [e1_6]; decide) (by rw [e1_6]; rfl) 92 (by decide) ?_
    refine z_aload_n F dX10_count_92 0 rfl 93 rfl ?_
    refine z_getR F zc9 dX10_count_93 rfl 0 (by decide) (by decide) (.inl m_930) rfl (by decide) 96 rfl ?_
    refine z_bipush F dX10_count_96 6 (by decide) 98 rfl ?_
    refine z_iald F dX10_count_98 rfl (show vp_in (nI 6) 385 from vp_in_nI (by decide) (by decide)) 99 rfl ?_
    rw [tn_6]
    refine z_ri F dX10_count_99 ?_
    refine finM (m := σ) ?_ MO.rf
    unfold aCount
    simp only [e1_6]; rfl
  by_cases e1_7 : w = 7
  · skip
    refine z_tableIn F dX10_count_1 (by rw [e1_7]; decide) (by rw [e1_7]; decide) (by rw [e1_7]; rfl) 100 (by decide) ?_
    refine z_aload_n F dX10_count_100 0 rfl 101 rfl ?_
    refine z_getI F zc9 dX10_count_101 rfl 18 (by decide) (by decide) (.inl m_948) rfl 104 rfl ?_
    refine z_ri F dX10_count_104 ?_
    refine finM (m := σ) ?_ MO.rf
    unfold aCount
    simp only [e1_7]; rfl
  by_cases e1_8 : w = 8
  · skip
    refine z_tableIn F dX10_count_1 (by rw [e1_8]; decide) (by rw [e1_8]; decide) (by rw [e1_8]; rfl) 105 (by decide) ?_
    refine z_aload_n F dX10_count_105 0 rfl 106 rfl ?_
    refine z_getR F zc9 dX10_count_106 rfl 0 (by decide) (by decide) (.inl m_930) rfl (by decide) 109 rfl ?_
    refine z_iconst F dX10_count_109 1 (by decide) 110 rfl ?_
    refine z_iald F dX10_count_110 rfl (show vp_in (nI 1) 385 from vp_in_nI (by decide) (by decide)) 111 rfl ?_
    rw [tn_1]
    refine z_ri F dX10_count_111 ?_
    refine finM (m := σ) ?_ MO.rf
    unfold aCount
    simp only [e1_8]; rfl
  refine z_tableOut F dX10_count_1 (by have t0 := w.toInt; have t1 := lv_neT e1_0 (a := 0) rfl; have t2 := lv_neT e1_1 (a := 1) rfl; have t3 := lv_neT e1_2 (a := 2) rfl; have t4 := lv_neT e1_3 (a := 3) rfl; have t5 := lv_neT e1_4 (a := 4) rfl; have t6 := lv_neT e1_5 (a := 5) rfl; have t7 := lv_neT e1_6 (a := 6) rfl; have t8 := lv_neT e1_7 (a := 7) rfl; have t9 := lv_neT e1_8 (a := 8) rfl; omega) 112 (by decide) ?_
  refine z_aload_n F dX10_count_112 0 rfl 113 rfl ?_
  refine z_ldc F dX10_count_113 m_1001 115 rfl ?_
  rw [lo1]
  refine z_callVi F dX10_count_115 m_1002 iX10_error jX10_error rfl zc9 rfl (kX10_error σ (k := 1) (by decide) (by decide)) rfl (by decide) (Nat.le_of_ble_eq_true rfl) 118 rfl (fun r115 s115 c115 => ?_)
  refine z_ri F dX10_count_118 ?_
  obtain ⟨rfl, rfl⟩ := c115
  exact finM (by
    unfold aCount
    (repeat' split) <;> first | rfl | contradiction | (exfalso; simp only [Int32.lt_iff_toInt_lt, Int32.le_iff_toInt_le, ← Int32.toInt_inj, Int32.reduceToInt] at *; omega)) MO.rf
set_option maxHeartbeats 400000 in
set_option maxRecDepth 10000 in
theorem kX10_told {l : Launch} {E : z_E} (σ : z_M) {τ0 : z_M} (hR : Rel τ0 σ) (k : Int32)  : z_C l E shM 1 yX10_told cX10_told 2 (some FieldType.int) [.ref (z_ad E 0), .int k] σ (z_Pi (fun rv μ' => rv = (aTold σ k).1 ∧ MO (aTold σ k).2 μ')) := by
  refine z_intro iX10_told (Nat.le_of_ble_eq_true rfl) (fun K F => ?_)
  have hn : σ 1 2 = nI (nP (σ 1)) := hR.2.1.1.1
  have h8 : nP (σ 1) ≤ 8 := hR.n8
  have hN : σ 1 2 = nI (nP (σ 1)) ∧ nP (σ 1) ≤ 8 := ⟨hn, h8⟩
  refine z_iload_n F dX10_told_0 1 rfl 1 rfl ?_
  refine z_iconst F dX10_told_1 1 (by decide) 2 rfl ?_
  refine z_bipush F dX10_told_2 6 (by decide) 4 rfl ?_
  refine z_callSp F dX10_told_4 m_998 iX10_in m_999 rfl (kX10_in σ _ _ _) rfl (by decide) (Nat.le_of_ble_eq_true rfl) 7 rfl ?_
  refine z_if_eq F dX10_told_7 19 (by decide) 10 rfl (fun h7 => ?_) (fun h7 => ?_)
  · skip
    have h7 := bI0.mp h7
    refine z_aload_n F dX10_told_19 0 rfl 20 rfl ?_
    refine z_ldc F dX10_told_20 m_1001 22 rfl ?_
    rw [lo1]
    refine z_callVi F dX10_told_22 m_1002 iX10_error jX10_error rfl zc9 rfl (kX10_error σ (k := 1) (by decide) (by decide)) rfl (by decide) (Nat.le_of_ble_eq_true rfl) 25 rfl (fun r22 s22 c22 => ?_)
    refine z_ri F dX10_told_25 ?_
    obtain ⟨rfl, rfl⟩ := c22
    exact finM (by
      unfold aTold
      (repeat' split) <;> first | rfl | contradiction | (exfalso; simp only [Int32.lt_iff_toInt_lt, Int32.le_iff_toInt_le, ← Int32.toInt_inj, Int32.reduceToInt] at *; omega)) MO.rf
  · skip
    have h7 := bI1.mp h7
    obtain ⟨q, hq, rfl⟩ : ∃ q, q < 7 ∧ k = nI q := isP_of (n := 7) ⟨by simp only [Int32.lt_iff_toInt_lt, Int32.le_iff_toInt_le, ← Int32.toInt_inj, Int32.reduceToInt] at *; omega, by show k < 7; simp only [Int32.lt_iff_toInt_lt, Int32.le_iff_toInt_le, ← Int32.toInt_inj, Int32.reduceToInt] at *; omega⟩ (by decide)
    have q31 : q < 2 ^ 31 := by omega
    refine z_aload_n F dX10_told_10 0 rfl 11 rfl ?_
    refine z_getR F zc9 dX10_told_11 rfl 4 (by decide) (by decide) (.inl m_934) rfl (by decide) 14 rfl ?_
    refine z_iload_n F dX10_told_14 1 rfl 15 rfl ?_
    refine z_iald F dX10_told_15 rfl (vp_in_nI (by omega) (by decide)) 16 rfl ?_
    rw [nI_clamp q31]
    refine z_goto F dX10_told_16 25 (by decide) ?_
    refine z_ri F dX10_told_25 ?_
    refine finM (m := σ) ?_ MO.rf
    unfold aTold
    rw [if_pos h7, nI_clamp q31]
set_option maxHeartbeats 400000 in
set_option maxRecDepth 10000 in
theorem kX10_image {l : Launch} {E : z_E} (σ : z_M) {τ0 : z_M} (hR : Rel τ0 σ)   : z_C l E shM 1 yX10_image cX10_image 1 (some FieldType.int) [.ref (z_ad E 0)] σ (z_Pi (fun rv μ' => rv = (aImage σ).1 ∧ MO (aImage σ).2 μ')) := by
  refine z_intro iX10_image (Nat.le_of_ble_eq_true rfl) (fun K F => ?_)
  have hn : σ 1 2 = nI (nP (σ 1)) := hR.2.1.1.1
  have h8 : nP (σ 1) ≤ 8 := hR.n8
  have hN : σ 1 2 = nI (nP (σ 1)) ∧ nP (σ 1) ≤ 8 := ⟨hn, h8⟩
  refine z_aload_n F dX10_image_0 0 rfl 1 rfl ?_
  refine z_getR F zc9 dX10_image_1 rfl 0 (by decide) (by decide) (.inl m_930) rfl (by decide) 4 rfl ?_
  refine z_aload_n F dX10_image_4 0 rfl 5 rfl ?_
  refine z_getR F zc9 dX10_image_5 rfl 1 (by decide) (by decide) (.inl m_931) rfl (by decide) 8 rfl ?_
  refine z_callSu F dX10_image_8 m_1226 iX10_copyAll m_1227 rfl (kX10_copyAll σ (o := 1) (o2 := 2) rfl rfl (by decide)) rfl (by decide) (Nat.le_of_ble_eq_true rfl) 11 rfl ?_
  refine z_aload_n F dX10_image_11 0 rfl 12 rfl ?_
  refine z_dup F dX10_image_12 rfl 13 rfl ?_
  refine z_getI F zc9 dX10_image_13 rfl 3 (by decide) (by decide) (.inl m_933) rfl 16 rfl ?_
  refine z_iconst F dX10_image_16 1 (by decide) 17 rfl ?_
  refine z_iadd F dX10_image_17 18 rfl ?_
  rw [up_o (by decide)]
  refine z_putI F zc9 dX10_image_18 rfl 3 (by decide) (by decide) (.inl m_933) rfl rfl z_pI 21 rfl ?_
  refine z_aload_n F dX10_image_21 0 rfl 22 rfl ?_
  refine z_getI F zc9 dX10_image_22 rfl 3 (by decide) (by decide) (.inl m_933) rfl 25 rfl ?_
  rw [u2_same]
  refine z_ri F dX10_image_25 ?_
  refine finM ?_ MO.rf
  rfl
set_option maxHeartbeats 400000 in
set_option maxRecDepth 10000 in
theorem kX10_restore {l : Launch} {E : z_E} (σ : z_M) {τ0 : z_M} (hR : Rel τ0 σ)   : z_C l E shM 1 yX10_restore cX10_restore 1 (some FieldType.int) [.ref (z_ad E 0)] σ (z_Pi (fun rv μ' => rv = (aRestore σ).1 ∧ MO (aRestore σ).2 μ')) := by
  refine z_intro iX10_restore (Nat.le_of_ble_eq_true rfl) (fun K F => ?_)
  have hn : σ 1 2 = nI (nP (σ 1)) := hR.2.1.1.1
  have h8 : nP (σ 1) ≤ 8 := hR.n8
  have hN : σ 1 2 = nI (nP (σ 1)) ∧ nP (σ 1) ≤ 8 := ⟨hn, h8⟩
  refine z_aload_n F dX10_restore_0 0 rfl 1 rfl ?_
  refine z_getI F zc9 dX10_restore_1 rfl 3 (by decide) (by decide) (.inl m_933) rfl 4 rfl ?_
  refine z_if_ne F dX10_restore_4 14 (by decide) 7 rfl (fun h4 => ?_) (fun h4 => ?_)
  · skip
    refine z_aload_n F dX10_restore_14 0 rfl 15 rfl ?_
    refine z_getR F zc9 dX10_restore_15 rfl 1 (by decide) (by decide) (.inl m_931) rfl (by decide) 18 rfl ?_
    refine z_aload_n F dX10_restore_18 0 rfl 19 rfl ?_
    refine z_getR F zc9 dX10_restore_19 rfl 0 (by decide) (by decide) (.inl m_930) rfl (by decide) 22 rfl ?_
    refine z_callSu F dX10_restore_22 m_1226 iX10_copyAll m_1227 rfl (kX10_copyAll σ (o := 2) (o2 := 1) rfl rfl (by decide)) rfl (by decide) (Nat.le_of_ble_eq_true rfl) 25 rfl ?_
    refine z_aload_n F dX10_restore_25 0 rfl 26 rfl ?_
    refine z_getR F zc9 dX10_restore_26 rfl 0 (by decide) (by decide) (.inl m_930) rfl (by decide) 29 rfl ?_
    refine z_iconst F dX10_restore_29 0 (by decide) 30 rfl ?_
    refine z_iald F dX10_restore_30 rfl (show vp_in (nI 0) 385 from vp_in_nI (by decide) (by decide)) 31 rfl ?_
    rw [tn_0]
    refine z_ri F dX10_restore_31 ?_
    refine finM ?_ MO.rf
    unfold aRestore
    rw [if_neg h4, up_same]
  · skip
    refine z_aload_n F dX10_restore_7 0 rfl 8 rfl ?_
    refine z_ldc F dX10_restore_8 m_1091 10 rfl ?_
    rw [lo2]
    refine z_callVi F dX10_restore_10 m_1002 iX10_error jX10_error rfl zc9 rfl (kX10_error σ (k := 2) (by decide) (by decide)) rfl (by decide) (Nat.le_of_ble_eq_true rfl) 13 rfl (fun r10 s10 c10 => ?_)
    refine z_ri F dX10_restore_13 ?_
    obtain ⟨rfl, rfl⟩ := c10
    exact finM (by
      unfold aRestore
      (repeat' split) <;> first | rfl | contradiction | (exfalso; simp only [Int32.lt_iff_toInt_lt, Int32.le_iff_toInt_le, ← Int32.toInt_inj, Int32.reduceToInt] at *; omega)) MO.rf
set_option maxHeartbeats 400000 in
set_option maxRecDepth 10000 in
theorem kX10_tell {l : Launch} {E : z_E} (σ : z_M) {τ0 : z_M} (hR : Rel τ0 σ) (v : Int32)  : z_C l E shM 1 yX10_tell cX10_tell 2 (some FieldType.int) [.ref (z_ad E 0), .int v] σ (z_Pi (fun rv μ' => rv = (aTell σ v).1 ∧ MO (aTell σ v).2 μ')) := by
  refine z_intro iX10_tell (Nat.le_of_ble_eq_true rfl) (fun K F => ?_)
  have hn : σ 1 2 = nI (nP (σ 1)) := hR.2.1.1.1
  have h8 : nP (σ 1) ≤ 8 := hR.n8
  have hN : σ 1 2 = nI (nP (σ 1)) ∧ nP (σ 1) ≤ 8 := ⟨hn, h8⟩
  have hx := hR.vx
  have e6 : σ 1 6 = nI (wN (σ 1)) := hx.2.2.2.1
  have w24 := hx.2.2.2.2
  refine z_aload_n F dX10_tell_0 0 rfl 1 rfl ?_
  refine z_getR F zc9 dX10_tell_1 rfl 0 (by decide) (by decide) (.inl m_930) rfl (by decide) 4 rfl ?_
  refine z_bipush F dX10_tell_4 6 (by decide) 6 rfl ?_
  refine z_iald F dX10_tell_6 rfl (show vp_in (nI 6) 385 from vp_in_nI (by decide) (by decide)) 7 rfl ?_
  rw [tn_6]
  refine z_bipush F dX10_tell_7 24 (by decide) 9 rfl ?_
  refine z_icmp_ne F dX10_tell_9 19 (by decide) 12 rfl (fun h9 => ?_) (fun h9 => ?_)
  · skip
    have hwl : wN (σ 1) < 24 := by
      rcases Nat.lt_or_ge (wN (σ 1)) 24 with z | z
      · exact z
      · exact absurd (e6.trans (congrArg nI (show wN (σ 1) = 24 by omega))) h9
    have hl : σ 1 6 < 24 := by rw [e6]; exact nI_lt (b := 24) hwl (by decide)
    refine z_aload_n F dX10_tell_19 0 rfl 20 rfl ?_
    refine z_getR F zc9 dX10_tell_20 rfl 0 (by decide) (by decide) (.inl m_930) rfl (by decide) 23 rfl ?_
    refine z_bipush F dX10_tell_23 119 (by decide) 25 rfl ?_
    refine z_aload_n F dX10_tell_25 0 rfl 26 rfl ?_
    refine z_getR F zc9 dX10_tell_26 rfl 0 (by decide) (by decide) (.inl m_930) rfl (by decide) 29 rfl ?_
    refine z_bipush F dX10_tell_29 6 (by decide) 31 rfl ?_
    refine z_iald F dX10_tell_31 rfl (show vp_in (nI 6) 385 from vp_in_nI (by decide) (by decide)) 32 rfl ?_
    rw [tn_6]
    rw [e6]
    refine z_iadd F dX10_tell_32 33 rfl ?_
    rw [show (119 : Int32) + nI (wN (σ 1)) = nI (119 + wN (σ 1)) from nI_add 119 _]
    refine z_iload_n F dX10_tell_33 1 rfl 34 rfl ?_
    refine z_iast F dX10_tell_34 rfl (vp_in_nI (by omega) (by decide)) 35 rfl ?_
    rw [nI_clamp (by omega)]
    refine z_aload_n F dX10_tell_35 0 rfl 36 rfl ?_
    refine z_getR F zc9 dX10_tell_36 rfl 0 (by decide) (by decide) (.inl m_930) rfl (by decide) 39 rfl ?_
    refine z_bipush F dX10_tell_39 6 (by decide) 41 rfl ?_
    refine z_dup2 F dX10_tell_41 rfl rfl 42 rfl ?_
    refine z_iald F dX10_tell_42 rfl (show vp_in (nI 6) 385 from vp_in_nI (by decide) (by decide)) 43 rfl ?_
    rw [tn_6]
    refine z_iconst F dX10_tell_43 1 (by decide) 44 rfl ?_
    refine z_iadd F dX10_tell_44 45 rfl ?_
    refine z_iast F dX10_tell_45 rfl (show vp_in (nI 6) 385 from vp_in_nI (by decide) (by decide)) 46 rfl ?_
    rw [tn_6]
    refine z_aload_n F dX10_tell_46 0 rfl 47 rfl ?_
    refine z_getR F zc9 dX10_tell_47 rfl 0 (by decide) (by decide) (.inl m_930) rfl (by decide) 50 rfl ?_
    refine z_bipush F dX10_tell_50 6 (by decide) 52 rfl ?_
    refine z_iald F dX10_tell_52 rfl (show vp_in (nI 6) 385 from vp_in_nI (by decide) (by decide)) 53 rfl ?_
    rw [tn_6]
    refine z_ri F dX10_tell_53 ?_
    have e66 : z_u2 σ 1 (119 + wN (σ 1)) v 1 6 = σ 1 6 := u2_k (by omega)
    rw [e66, u2_same]
    refine finM (m := z_up σ 1 (upd (upd (σ 1) (119 + wN (σ 1)) v) 6 (σ 1 6 + 1))) ?_ (by simp only [z_u2, up_same, up_up]; exact MO.rf)
    unfold aTell
    rw [if_pos hl]
  · skip
    have hl : ¬ σ 1 6 < 24 := by rw [h9]; decide
    refine z_aload_n F dX10_tell_12 0 rfl 13 rfl ?_
    refine z_ldc F dX10_tell_13 m_1007 15 rfl ?_
    rw [lo4]
    refine z_callVi F dX10_tell_15 m_1002 iX10_error jX10_error rfl zc9 rfl (kX10_error σ (k := 4) (by decide) (by decide)) rfl (by decide) (Nat.le_of_ble_eq_true rfl) 18 rfl (fun r15 s15 c15 => ?_)
    refine z_ri F dX10_tell_18 ?_
    obtain ⟨rfl, rfl⟩ := c15
    exact finM (by
      unfold aTell
      (repeat' split) <;> first | rfl | contradiction | (exfalso; simp only [Int32.lt_iff_toInt_lt, Int32.le_iff_toInt_le, ← Int32.toInt_inj, Int32.reduceToInt] at *; omega)) MO.rf
set_option maxHeartbeats 400000 in
set_option maxRecDepth 10000 in
theorem kX10_seers {l : Launch} {E : z_E} (σ : z_M) {τ0 : z_M} (hR : Rel τ0 σ) (x : Int32)  : z_C l E shM 2 yX10_seers cX10_seers 2 (some FieldType.int) [.ref (z_ad E 0), .int x] σ (z_Pi (fun rv μ' => rv = (aSeers σ x).1 ∧ MO (aSeers σ x).2 μ')) := by
  refine z_intro iX10_seers (Nat.le_of_ble_eq_true rfl) (fun K F => ?_)
  have hn : σ 1 2 = nI (nP (σ 1)) := hR.2.1.1.1
  have h8 : nP (σ 1) ≤ 8 := hR.n8
  have hN : σ 1 2 = nI (nP (σ 1)) ∧ nP (σ 1) ≤ 8 := ⟨hn, h8⟩
  refine z_aload_n F dX10_seers_0 0 rfl 1 rfl ?_
  refine z_iload_n F dX10_seers_1 1 rfl 2 rfl ?_
  refine z_callVp F dX10_seers_2 m_1016 iX10_isPerson jX10_isPerson rfl zc9 rfl (kX10_isPerson σ hN _) rfl (by decide) (Nat.le_of_ble_eq_true rfl) 5 rfl ?_
  refine z_if_eq F dX10_seers_5 16 (by decide) 8 rfl (fun h5 => ?_) (fun h5 => ?_)
  · skip
    have h5 := bI0.mp h5
    refine z_aload_n F dX10_seers_16 0 rfl 17 rfl ?_
    refine z_ldc F dX10_seers_17 m_1001 19 rfl ?_
    rw [lo1]
    refine z_callVi F dX10_seers_19 m_1002 iX10_error jX10_error rfl zc9 rfl (kX10_error σ (k := 1) (by decide) (by decide)) rfl (by decide) (Nat.le_of_ble_eq_true rfl) 22 rfl (fun r19 s19 c19 => ?_)
    refine z_ri F dX10_seers_22 ?_
    obtain ⟨rfl, rfl⟩ := c19
    exact finM (by
      unfold aSeers
      (repeat' split) <;> first | rfl | contradiction | (exfalso; simp only [Int32.lt_iff_toInt_lt, Int32.le_iff_toInt_le, ← Int32.toInt_inj, Int32.reduceToInt] at *; omega)) MO.rf
  · skip
    have h5 := bI1.mp h5
    obtain ⟨i, hi, rfl⟩ := isP_of (n := nP (σ 1)) (hn ▸ h5) (by omega)
    have i31 : i < 2 ^ 31 := by omega
    refine z_aload_n F dX10_seers_8 0 rfl 9 rfl ?_
    refine z_iload_n F dX10_seers_9 1 rfl 10 rfl ?_
    refine z_callVp F dX10_seers_10 m_1245 iX10_seersOf jX10_seersOf rfl zc9 rfl (kX10_seersOf σ hR.vk hR.vt (i := i) (by omega)) rfl (by decide) (Nat.le_of_ble_eq_true rfl) 13 rfl ?_
    refine z_goto F dX10_seers_13 22 (by decide) ?_
    refine z_ri F dX10_seers_22 ?_
    refine finM (m := σ) ?_ MO.rf
    unfold aSeers
    rw [if_pos h5, nI_clamp i31]
