/-! the class's reader against the grammar -/
def RdI (τ : z_M) (b : Nat → Int32) (n w i : Nat) (L : List (Int32 × Int32)) : Prop := (τ 21 1 = nI n ∧ n ≤ 60 ∧ ∀ k, k < n → τ 22 k = b k) ∧ τ 51 3 = nI i ∧ τ 51 2 = nI w ∧ τ 52 1 = nI L.length ∧ ∀ k, k < L.length → τ 53 k = enc (L.getD k (0, 0)).1 (L.getD k (0, 0)).2
def RdP (τ : z_M) (b : Nat → Int32) (n w : Nat) (L : List (Int32 × Int32)) (r : PR) (rv : Int32) (τ' : z_M) : Prop := rv = bI (r.2.2 = true) ∧ MS [51, 52, 53] τ τ' ∧ (r.2.2 = true → RdI τ' b n w r.1 (L ++ r.2.1)) ∧ (¬ r.2.2 = true → τ' 51 3 = nI r.1)
theorem RdI.at {τ : z_M} {b : Nat → Int32} {n w i : Nat} {L : List (Int32 × Int32)} (h : RdI τ b n w i L) (hT : Tb b n) (hi : i ≤ n) : rAt τ 21 22 (nI i) = b i := by
  have h60 := h.1.2.1
  unfold rAt
  rw [h.1.1]
  by_cases z : i < n
  · rw [if_pos ⟨nI_pos' (by omega), nI_lt z (by omega)⟩, nI_clamp (by omega)]; exact h.1.2.2 i z
  · rw [if_neg (fun q => absurd q.2 (nI_nlt (by omega) (by omega)))]; exact (hT.1 i (by omega)).symm
theorem RdI.adv {τ : z_M} {b : Nat → Int32} {n w i j : Nat} {L : List (Int32 × Int32)} (h : RdI τ b n w i L) : RdI (z_u2 τ 51 3 (nI j)) b n w j L := by
  obtain ⟨h1, h2, h3, h4, h5⟩ := h
  unfold RdI
  rw [u2_o (show (21 : Nat) ≠ 51 by decide), u2_o (show (22 : Nat) ≠ 51 by decide), u2_same, u2_k (by decide), u2_o (show (52 : Nat) ≠ 51 by decide), u2_o (show (53 : Nat) ≠ 51 by decide)]
  exact ⟨h1, rfl, h3, h4, h5⟩
theorem RdI.add {τ : z_M} {b : Nat → Int32} {n w i : Nat} {L : List (Int32 × Int32)} (h : RdI τ b n w i L) (op v : Int32) : RdI (z_u2 (z_u2 τ 53 L.length (enc op v)) 52 1 (nI (L.length + 1))) b n w i (L ++ [(op, v)]) := by
  obtain ⟨h1, h2, h3, h4, h5⟩ := h
  refine ⟨?_, ?_, ?_, ?_, fun k hk => ?_⟩
  · rw [u2_o (show (21 : Nat) ≠ 52 by decide), u2_o (show (21 : Nat) ≠ 53 by decide), u2_o (show (22 : Nat) ≠ 52 by decide), u2_o (show (22 : Nat) ≠ 53 by decide)]; exact h1
  · rw [u2_o (by decide), u2_o (by decide)]; exact h2
  · rw [u2_o (by decide), u2_o (by decide)]; exact h3
  · rw [u2_same]; simp
  · rw [u2_o (by decide), u2_at]
    simp at hk
    by_cases q : k = L.length
    · subst q; simp
    · rw [if_neg (fun z => q z.2), h5 k (by omega)]
      simp [List.getD_eq_getElem?_getD, List.getElem?_append_left (show k < L.length by omega)]
theorem RdI.ms {τ τ' : z_M} {b : Nat → Int32} {n w i : Nat} {L : List (Int32 × Int32)} (h : RdI τ b n w i L) (h2 : τ' = τ) : RdI τ' b n w i L := h2 ▸ h
theorem i2c_at : ∀ c, c < 256 → ((nI c).toUInt32 % 65536).toInt32 = nI c := by decide +kernel
set_option maxHeartbeats 1000000 in
set_option maxRecDepth 10000 in
theorem kX3_readNumber {l : Launch} {E : z_E} (σ : z_M) {b : Nat → Int32} {n w i : Nat} {L : List (Int32 × Int32)} (hT : Tb b n) (hI : RdI σ b n w i L) (hi : i < n) (hL : L.length ≤ i) : z_C l E shC 1 yX3_readNumber cX3_readNumber 3 none [.ref (z_ad E 51)] σ (z_Pv (fun σ' => MS [51, 52, 53] σ σ' ∧ RdI σ' b n w (numP b 4 i 0).1 (L ++ [(1, nI (numP b 4 i 0).2)]))) := by
  refine z_intro iX3_readNumber (Nat.le_of_ble_eq_true rfl) (fun K F => ?_)
  have h60 := hI.1.2.1
  have loop4 : ∀ (f : Nat) (j q v : Nat) (τ : z_M) (_ : 4 < j + f) (_ : j ≤ 4) (_ : q ≤ n) (_ : numP b (4 - j) q v = numP b 4 i 0) (_ : MS [51, 52, 53] σ τ) (_ : RdI τ b n w q L) (_ : v < 10 ^ j), z_X l K E shC 1 3 (z_Pv (fun σ' => MS [51, 52, 53] σ σ' ∧ RdI σ' b n w (numP b 4 i 0).1 (L ++ [(1, nI (numP b 4 i 0).2)]))) 4 [(0, .ref (z_ad E 51)), (1, .int (nI v)), (2, .int (nI j))] [] τ := by
    intro f
    induction f with
    | zero =>
      intro j q v τ hf hj hq hN hs hI2 hv
      omega
    | succ f ih =>
      intro j q v τ hf hj hq hN hs hI2 hv
      have h4 : (10 : Nat) ^ j ≤ 10 ^ 4 := Nat.pow_le_pow_right (by decide) hj
      obtain ⟨c, hc, ec⟩ := hT.2 q
      refine z_iload_n F dX3_readNumber_4 2 rfl 5 rfl ?_
      refine z_iconst F dX3_readNumber_5 4 (by decide) 6 rfl ?_
      refine z_icmp_ge F dX3_readNumber_6 62 (by decide) 9 rfl (fun h6 => ?_) (fun h6 => ?_)
      · skip
        refine z_aload_n F dX3_readNumber_62 0 rfl 63 rfl ?_
        refine z_getR F zc2 dX3_readNumber_63 rfl 1 (by decide) (by decide) (.inl m_244) rfl (by decide) 66 rfl ?_
        refine z_iload_n F dX3_readNumber_66 1 rfl 67 rfl ?_
        refine z_callVu F dX3_readNumber_67 m_536 iX4_add jX4_add rfl zc3 rfl (kX4_add τ (S := shC) (r := 52) (a := 53) (cap := 60) rfl rfl (by decide) (n := L.length) hI2.2.2.2.1 (by omega) (by decide) _) rfl (by decide) (Nat.le_of_ble_eq_true rfl) 70 rfl ?_
        rw [if_pos (show L.length < 60 by omega)]
        refine z_rv F dX3_readNumber_70 ?_
        have hj4 : j = 4 := by have := le_nI (a := 4) h6 (by decide) (by omega); omega
        subst hj4
        have e : numP b 4 i 0 = (q, v) := hN.symm
        rw [e]
        have := hI2.add 1 (nI v)
        exact ⟨(hs.u2 (by decide)).u2 (by decide), this⟩
      · skip
        have hj4 : j < 4 := nle_nI h6 (by omega) (by omega)
        have e4 : 4 - j = (4 - (j + 1)) + 1 := by omega
        refine z_aload_n F dX3_readNumber_9 0 rfl 10 rfl ?_
        refine z_getR F zc2 dX3_readNumber_10 rfl 0 (by decide) (by decide) (.inl m_243) rfl (by decide) 13 rfl ?_
        refine z_aload_n F dX3_readNumber_13 0 rfl 14 rfl ?_
        refine z_getI F zc2 dX3_readNumber_14 rfl 3 (by decide) (by decide) (.inl m_247) rfl 17 rfl ?_
        rw [hI2.2.1]
        refine z_callVp F dX3_readNumber_17 m_528 iX4_at jX4_at rfl zc3 rfl (kX4_at τ (S := shC) (r := 21) (a := 22) (cap := 60) rfl rfl (by decide) (n := n) hI2.1.1 hI2.1.2.1 (by decide) _) rfl (by decide) (Nat.le_of_ble_eq_true rfl) 20 rfl ?_
        rw [hI2.at hT hq, ec]
        refine z_callSp F dX3_readNumber_20 m_529 iX3_isDigit m_530 rfl (kX3_isDigit τ _) rfl (by decide) (Nat.le_of_ble_eq_true rfl) 23 rfl ?_
        refine z_if_eq F dX3_readNumber_23 62 (by decide) 26 rfl (fun h23 => ?_) (fun h23 => ?_)
        · skip
          have h23 := bI0.mp h23
          refine z_aload_n F dX3_readNumber_62 0 rfl 63 rfl ?_
          refine z_getR F zc2 dX3_readNumber_63 rfl 1 (by decide) (by decide) (.inl m_244) rfl (by decide) 66 rfl ?_
          refine z_iload_n F dX3_readNumber_66 1 rfl 67 rfl ?_
          refine z_callVu F dX3_readNumber_67 m_536 iX4_add jX4_add rfl zc3 rfl (kX4_add τ (S := shC) (r := 52) (a := 53) (cap := 60) rfl rfl (by decide) (n := L.length) hI2.2.2.2.1 (by omega) (by decide) _) rfl (by decide) (Nat.le_of_ble_eq_true rfl) 70 rfl ?_
          rw [if_pos (show L.length < 60 by omega)]
          refine z_rv F dX3_readNumber_70 ?_
          have e : numP b 4 i 0 = (q, v) := by
            rw [← hN, e4]
            unfold numP
            rw [ec, if_neg h23]
          rw [e]
          have := hI2.add 1 (nI v)
          exact ⟨(hs.u2 (by decide)).u2 (by decide), this⟩
        · skip
          have h23 := bI1.mp h23
          obtain ⟨d1, d2, d3, d4, d5⟩ := dig_at c hc h23
          have hqn : q < n := hT.lt (i := q) (by rw [ec]; exact d1)
          refine z_iload_n F dX3_readNumber_26 1 rfl 27 rfl ?_
          refine z_bipush F dX3_readNumber_27 10 (by decide) 29 rfl ?_
          refine z_imul F dX3_readNumber_29 30 rfl ?_
          refine z_aload_n F dX3_readNumber_30 0 rfl 31 rfl ?_
          refine z_getR F zc2 dX3_readNumber_31 rfl 0 (by decide) (by decide) (.inl m_243) rfl (by decide) 34 rfl ?_
          refine z_aload_n F dX3_readNumber_34 0 rfl 35 rfl ?_
          refine z_getI F zc2 dX3_readNumber_35 rfl 3 (by decide) (by decide) (.inl m_247) rfl 38 rfl ?_
          rw [hI2.2.1]
          refine z_callVp F dX3_readNumber_38 m_528 iX4_at jX4_at rfl zc3 rfl (kX4_at τ (S := shC) (r := 21) (a := 22) (cap := 60) rfl rfl (by decide) (n := n) hI2.1.1 hI2.1.2.1 (by decide) _) rfl (by decide) (Nat.le_of_ble_eq_true rfl) 41 rfl ?_
          rw [hI2.at hT hq, ec]
          refine z_bipush F dX3_readNumber_41 48 (by decide) 43 rfl ?_
          refine z_isub F dX3_readNumber_43 44 rfl ?_
          refine z_iadd F dX3_readNumber_44 45 rfl ?_
          rw [d5, show (10 : Int32) = nI 10 from rfl, pk_mul, nI_add]
          refine z_istore_n F dX3_readNumber_45 [(0, _), (1, _), (2, _)] rfl (by decide) 46 rfl ?_
          refine z_aload_n F dX3_readNumber_46 0 rfl 47 rfl ?_
          refine z_dup F dX3_readNumber_47 rfl 48 rfl ?_
          refine z_getI F zc2 dX3_readNumber_48 rfl 3 (by decide) (by decide) (.inl m_247) rfl 51 rfl ?_
          refine z_iconst F dX3_readNumber_51 1 (by decide) 52 rfl ?_
          refine z_iadd F dX3_readNumber_52 53 rfl ?_
          rw [hI2.2.1, nI_1]
          refine z_putI F zc2 dX3_readNumber_53 rfl 3 (by decide) (by decide) (.inl m_247) rfl rfl z_pI 56 rfl ?_
          refine z_iinc F dX3_readNumber_56 2 rfl 1 (by decide) [(0, _), (1, _), (2, _)] rfl (by decide) 59 rfl ?_
          refine z_goto F dX3_readNumber_59 4 (by decide) ?_
          rw [nI_1]
          refine ih (j + 1) (q + 1) (v * 10 + (c - 48)) _ (by omega) (by omega) (by omega) ?_ (hs.u2 (by decide)) hI2.adv ?_
          · rw [← hN, e4]
            conv => rhs; unfold numP
            rw [ec, if_pos h23, d4]
          · rw [Nat.pow_succ]; omega
  refine z_iconst F dX3_readNumber_0 0 (by decide) 1 rfl ?_
  refine z_istore_n F dX3_readNumber_1 [(0, _), (1, _)] rfl (by decide) 2 rfl ?_
  refine z_iconst F dX3_readNumber_2 0 (by decide) 3 rfl ?_
  refine z_istore_n F dX3_readNumber_3 [(0, _), (1, _), (2, _)] rfl (by decide) 4 rfl ?_
  exact loop4 5 0 i 0 σ (by omega) (by omega) (by omega) rfl MS.rf hI (by decide)
set_option maxHeartbeats 2000000 in
set_option maxRecDepth 10000 in
theorem kX3_unit0 {l : Launch} {E : z_E} {b : Nat → Int32} {n w : Nat} (hT : Tb b n) (hw : w < 2) : ∀ (i : Nat) (L : List (Int32 × Int32)) (τ : z_M) (_ : i ≤ n) (_ : L.length ≤ i) (_ : RdI τ b n w i L), z_C l E shC (8 + 8 * (0)) yX3_readsUnit cX3_readsUnit 4 (some FieldType.boolean) [.ref (z_ad E 51), .int (nI (5 - (0)))] τ (z_Pi (RdP τ b n w L (untP b w (0) i))) := by
  intro i L τ hi hL hI
  obtain ⟨c, hc, ec⟩ := hT.2 i
  refine z_intro iX3_readsUnit (Nat.le_of_ble_eq_true rfl) (fun K F => ?_)
  refine z_aload_n F dX3_readsUnit_0 0 rfl 1 rfl ?_
  refine z_getR F zc2 dX3_readsUnit_1 rfl 0 (by decide) (by decide) (.inl m_243) rfl (by decide) 4 rfl ?_
  refine z_aload_n F dX3_readsUnit_4 0 rfl 5 rfl ?_
  refine z_getI F zc2 dX3_readsUnit_5 rfl 3 (by decide) (by decide) (.inl m_247) rfl 8 rfl ?_
  have h60 := hI.1.2.1
  rw [hI.2.1]
  refine z_callVp F dX3_readsUnit_8 m_528 iX4_at jX4_at rfl zc3 rfl (kX4_at τ (S := shC) (r := 21) (a := 22) (cap := 60) rfl rfl (by decide) (n := n) hI.1.1 hI.1.2.1 (by decide) _) rfl (by omega) (Nat.le_of_ble_eq_true rfl) 11 rfl ?_
  rw [hI.at hT hi, ec]
  refine z_istore_n F dX3_readsUnit_11 [(0, _), (1, _), (2, _)] rfl (by decide) 12 rfl ?_
  refine z_iload_n F dX3_readsUnit_12 2 rfl 13 rfl ?_
  refine z_callSp F dX3_readsUnit_13 m_529 iX3_isDigit m_530 rfl (kX3_isDigit τ _) rfl (by omega) (Nat.le_of_ble_eq_true rfl) 16 rfl ?_
  refine z_if_eq F dX3_readsUnit_16 25 (by decide) 19 rfl (fun h16 => ?_) (fun h16 => ?_)
  · skip
    have h16 := bI0.mp h16
    have hd : ¬ (48 ≤ b i ∧ b i ≤ 57) := ec ▸ h16
    refine z_aload_n F dX3_readsUnit_25 0 rfl 26 rfl ?_
    refine z_getS F zc2 dX3_readsUnit_26 rfl 2 (by decide) (by decide) (.inl m_246) rfl 29 rfl ?_
    have hS2 := hw
    rw [hI.2.2.1, nI_clamp (show w < 2 ^ 31 by omega)]
    refine z_iload_n F dX3_readsUnit_29 2 rfl 30 rfl ?_
    refine z_i2c F dX3_readsUnit_30 31 rfl ?_
    rw [i2c_at c hc]
    refine z_callVSp F hS2 dX3_readsUnit_31 m_537 iJ0_indexOf_0f7a4 jJ0_indexOf_0f7a4 rfl rfl (kJ0_indexOf_0f7a4 τ hw hc) rfl (by omega) (Nat.le_of_ble_eq_true rfl) 34 rfl ?_
    refine z_istore_n F dX3_readsUnit_34 [(0, _), (1, _), (2, _), (3, _)] rfl (by decide) 35 rfl ?_
    refine z_iload_n F dX3_readsUnit_35 3 rfl 36 rfl ?_
    refine z_if_lt F dX3_readsUnit_36 61 (by decide) 39 rfl (fun h36 => ?_) (fun h36 => ?_)
    · skip
      have hnm : ¬ 0 ≤ nmS w (b i) := by rw [ec]; exact i_nle.mpr h36
      refine z_iload_n F dX3_readsUnit_61 1 rfl 62 rfl ?_
      refine z_iconst F dX3_readsUnit_62 5 (by decide) 63 rfl ?_
      refine z_icmp_ge F dX3_readsUnit_63 78 (by decide) 66 rfl (fun h63 => ?_) (fun h63 => ?_)
      · skip
        refine z_iconst F dX3_readsUnit_78 0 (by decide) 79 rfl ?_
        refine z_riz F dX3_readsUnit_79 (by first | rfl | exact bIn) ?_
        have e : untP b w 0 i = (i, [], false) := by unfold untP baseP; rw [if_neg hd, if_neg hnm]
        rw [e]
        exact ⟨rfl, MS.rf, fun z => absurd z Bool.false_ne_true, fun _ => hI.2.1⟩
      · skip
        exact absurd (show (5 : Int32) ≤ nI (5 - 0) by decide) h63
    · skip
      have hnm : 0 ≤ nmS w (b i) := by rw [ec]; exact i_nlt.mp h36
      have hin : i < n := hT.lt (i := i) (by rw [ec]; exact (nm_at c hc w hw (ec ▸ hnm)).1)
      refine z_aload_n F dX3_readsUnit_39 0 rfl 40 rfl ?_
      refine z_dup F dX3_readsUnit_40 rfl 41 rfl ?_
      refine z_getI F zc2 dX3_readsUnit_41 rfl 3 (by decide) (by decide) (.inl m_247) rfl 44 rfl ?_
      refine z_iconst F dX3_readsUnit_44 1 (by decide) 45 rfl ?_
      refine z_iadd F dX3_readsUnit_45 46 rfl ?_
      rw [hI.2.1, nI_1]
      refine z_putI F zc2 dX3_readsUnit_46 rfl 3 (by decide) (by decide) (.inl m_247) rfl rfl z_pI 49 rfl ?_
      refine z_aload_n F dX3_readsUnit_49 0 rfl 50 rfl ?_
      refine z_getR F zc2 dX3_readsUnit_50 rfl 1 (by decide) (by decide) (.inl m_244) rfl (by decide) 53 rfl ?_
      refine z_iconst F dX3_readsUnit_53 (-1) (by decide) 54 rfl ?_
      refine z_iload_n F dX3_readsUnit_54 3 rfl 55 rfl ?_
      refine z_isub F dX3_readsUnit_55 56 rfl ?_
      refine z_callVu F dX3_readsUnit_56 m_536 iX4_add jX4_add rfl zc3 rfl (kX4_add _ (S := shC) (r := 52) (a := 53) (cap := 60) rfl rfl (by decide) (n := L.length) (hI.adv (j := i + 1)).2.2.2.1 (by omega) (by decide) _) rfl (by omega) (Nat.le_of_ble_eq_true rfl) 59 rfl ?_
      rw [if_pos (show L.length < 60 by have := hI.1.2.1; omega)]
      refine z_iconst F dX3_readsUnit_59 1 (by decide) 60 rfl ?_
      refine z_riz F dX3_readsUnit_60 (by first | rfl | exact bIn) ?_
      have e : untP b w 0 i = (i + 1, [(2, nmS w (b i))], true) := by unfold untP baseP; rw [if_neg hd, if_pos hnm]
      rw [e]
      have := hI.adv (j := i + 1) |>.add 2 (nmS w (b i))
      rw [ec] at this ⊢
      exact ⟨rfl, ((MS.rf.u2 (by decide)).u2 (by decide)).u2 (by decide), fun _ => this, fun z => absurd rfl z⟩
  · skip
    have h16 := bI1.mp h16
    have hd : 48 ≤ b i ∧ b i ≤ 57 := ec ▸ h16
    have hin : i < n := hT.lt (i := i) (by rw [ec]; exact (dig_at c hc h16).1)
    refine z_aload_n F dX3_readsUnit_19 0 rfl 20 rfl ?_
    refine z_callVv F dX3_readsUnit_20 m_532 iX3_readNumber jX3_readNumber rfl zc2 rfl (kX3_readNumber τ hT hI hin hL) rfl (by omega) (Nat.le_of_ble_eq_true rfl) 23 rfl (fun s20 c20 => ?_)
    refine z_iconst F dX3_readsUnit_23 1 (by decide) 24 rfl ?_
    refine z_riz F dX3_readsUnit_24 (by first | rfl | exact bIn) ?_
    have e : untP b w 0 i = ((numP b 4 i 0).1, [(1, nI (numP b 4 i 0).2)], true) := by unfold untP baseP; rw [if_pos hd]
    rw [e]
    exact ⟨rfl, c20.1, fun _ => c20.2, fun z => absurd rfl z⟩
set_option maxHeartbeats 2000000 in
set_option maxRecDepth 10000 in
theorem kX3_denied {l : Launch} {E : z_E} {b : Nat → Int32} {n w : Nat} (hT : Tb b n) (hw : w < 2) {h : Nat} (hU : ∀ (i : Nat) (L : List (Int32 × Int32)) (τ : z_M) (_ : i ≤ n) (_ : L.length ≤ i) (_ : RdI τ b n w i L), z_C l E shC (8 + 8 * (h)) yX3_readsUnit cX3_readsUnit 4 (some FieldType.boolean) [.ref (z_ad E 51), .int (nI (5 - (h)))] τ (z_Pi (RdP τ b n w L (untP b w (h) i)))) : ∀ (i : Nat) (L : List (Int32 × Int32)) (τ : z_M) (_ : i ≤ n) (_ : L.length < i) (_ : RdI τ b n w i L), z_C l E shC (9 + 8 * h) yX3_readsDenied cX3_readsDenied 2 (some FieldType.boolean) [.ref (z_ad E 51), .int (nI (5 - h))] τ (z_Pi (RdP τ b n w L ((untP b w h i).1, (untP b w h i).2.1 ++ [(3, 0)], (untP b w h i).2.2))) := by
  intro i L τ hi hL hI
  refine z_intro iX3_readsDenied (Nat.le_of_ble_eq_true rfl) (fun K F => ?_)
  refine z_aload_n F dX3_readsDenied_0 0 rfl 1 rfl ?_
  refine z_iload_n F dX3_readsDenied_1 1 rfl 2 rfl ?_
  refine z_callVi F dX3_readsDenied_2 m_524 iX3_readsUnit jX3_readsUnit rfl zc2 rfl (hU i L τ hi (by omega) hI) rfl (by omega) (Nat.le_of_ble_eq_true rfl) 5 rfl (fun r2 s2 c2 => ?_)
  obtain ⟨rfl, m2, p2, f2⟩ := c2
  refine z_if_ne F dX3_readsDenied_5 10 (by decide) 8 rfl (fun h5 => ?_) (fun h5 => ?_)
  · skip
    have h5 := bI1.mp h5
    obtain ⟨g1, g2, g3⟩ := unt_gd hT hw h i hi
    obtain ⟨g4, g5, -⟩ := g3 h5
    have h60 := hI.1.2.1
    refine z_aload_n F dX3_readsDenied_10 0 rfl 11 rfl ?_
    refine z_getR F zc2 dX3_readsDenied_11 rfl 1 (by decide) (by decide) (.inl m_244) rfl (by decide) 14 rfl ?_
    refine z_sipush F dX3_readsDenied_14 10033 (by decide) 17 rfl ?_
    refine z_callVu F dX3_readsDenied_17 m_536 iX4_add jX4_add rfl zc3 rfl (kX4_add s2 (S := shC) (r := 52) (a := 53) (cap := 60) rfl rfl (by decide) (n := (L ++ (untP b w h i).2.1).length) (p2 h5).2.2.2.1 (by rw [List.length_append]; omega) (by decide) _) rfl (by omega) (Nat.le_of_ble_eq_true rfl) 20 rfl ?_
    rw [if_pos (show (L ++ (untP b w h i).2.1).length < 60 by rw [List.length_append]; omega)]
    refine z_iconst F dX3_readsDenied_20 1 (by decide) 21 rfl ?_
    refine z_riz F dX3_readsDenied_21 (by first | rfl | exact bIn) ?_
    have := (p2 h5).add 3 0
    rw [List.append_assoc] at this
    exact ⟨(bI_t h5).symm, (m2.u2 (by decide)).u2 (by decide), fun _ => this, fun z => absurd h5 z⟩
  · skip
    have h5 := bI0.mp h5
    refine z_iconst F dX3_readsDenied_8 0 (by decide) 9 rfl ?_
    refine z_riz F dX3_readsDenied_9 (by first | rfl | exact bIn) ?_
    exact ⟨(bI_f h5).symm, m2, fun z => absurd z h5, fun _ => f2 h5⟩
set_option maxHeartbeats 2000000 in
set_option maxRecDepth 10000 in
theorem kX3_closed {l : Launch} {E : z_E} {b : Nat → Int32} {n w : Nat} (hT : Tb b n) (hw : w < 2) {h : Nat} (hV : ∀ (i : Nat) (L : List (Int32 × Int32)) (τ : z_M) (_ : i ≤ n) (_ : L.length ≤ i) (_ : RdI τ b n w i L), z_C l E shC (9 + 8 * (h) + (5)) yX3_readsLevel cX3_readsLevel 4 (some FieldType.boolean) [.ref (z_ad E 51), .int (nI (5 - (5))), .int (nI (5 - (h)))] τ (z_Pi (RdP τ b n w L (levP b (untP b w (h)) (5) i)))) : ∀ (i : Nat) (L : List (Int32 × Int32)) (τ : z_M) (_ : i ≤ n) (_ : L.length ≤ i) (_ : RdI τ b n w i L), z_C l E shC (15 + 8 * h) yX3_readsClosed cX3_readsClosed 2 (some FieldType.boolean) [.ref (z_ad E 51), .int (nI (5 - h))] τ (z_Pi (RdP τ b n w L (if (levP b (untP b w h) 5 i).2.2 = true then (if b (levP b (untP b w h) 5 i).1 = 41 then ((levP b (untP b w h) 5 i).1 + 1, (levP b (untP b w h) 5 i).2.1, true) else ((levP b (untP b w h) 5 i).1, [], false)) else levP b (untP b w h) 5 i))) := by
  intro i L τ hi hL hI
  refine z_intro iX3_readsClosed (Nat.le_of_ble_eq_true rfl) (fun K F => ?_)
  refine z_aload_n F dX3_readsClosed_0 0 rfl 1 rfl ?_
  refine z_iconst F dX3_readsClosed_1 0 (by decide) 2 rfl ?_
  refine z_iload_n F dX3_readsClosed_2 1 rfl 3 rfl ?_
  refine z_callVi F dX3_readsClosed_3 m_520 iX3_readsLevel jX3_readsLevel rfl zc2 rfl (hV i L τ hi hL hI) rfl (by omega) (Nat.le_of_ble_eq_true rfl) 6 rfl (fun r3 s3 c3 => ?_)
  obtain ⟨rfl, m3, p3, f3⟩ := c3
  refine z_if_eq F dX3_readsClosed_6 25 (by decide) 9 rfl (fun h6 => ?_) (fun h6 => ?_)
  · skip
    have h6 := bI0.mp h6
    refine z_iconst F dX3_readsClosed_25 0 (by decide) 26 rfl ?_
    refine z_riz F dX3_readsClosed_26 (by first | rfl | exact bIn) ?_
    rw [if_neg h6]
    exact ⟨(bI_f h6).symm, m3, fun z => absurd z h6, fun _ => f3 h6⟩
  · skip
    have h6 := bI1.mp h6
    obtain ⟨g1, g2, g3⟩ := lev_gd hT (unt_gd hT hw h) 5 (by decide) i hi
    refine z_aload_n F dX3_readsClosed_9 0 rfl 10 rfl ?_
    refine z_getR F zc2 dX3_readsClosed_10 rfl 0 (by decide) (by decide) (.inl m_243) rfl (by decide) 13 rfl ?_
    refine z_aload_n F dX3_readsClosed_13 0 rfl 14 rfl ?_
    refine z_getI F zc2 dX3_readsClosed_14 rfl 3 (by decide) (by decide) (.inl m_247) rfl 17 rfl ?_
    rw [(p3 h6).2.1]
    refine z_callVp F dX3_readsClosed_17 m_528 iX4_at jX4_at rfl zc3 rfl (kX4_at s3 (S := shC) (r := 21) (a := 22) (cap := 60) rfl rfl (by decide) (n := n) (p3 h6).1.1 (p3 h6).1.2.1 (by decide) _) rfl (by omega) (Nat.le_of_ble_eq_true rfl) 20 rfl ?_
    rw [(p3 h6).at hT g2]
    refine z_bipush F dX3_readsClosed_20 41 (by decide) 22 rfl ?_
    refine z_icmp_eq F dX3_readsClosed_22 27 (by decide) 25 rfl (fun h22 => ?_) (fun h22 => ?_)
    · skip
      refine z_aload_n F dX3_readsClosed_27 0 rfl 28 rfl ?_
      refine z_dup F dX3_readsClosed_28 rfl 29 rfl ?_
      refine z_getI F zc2 dX3_readsClosed_29 rfl 3 (by decide) (by decide) (.inl m_247) rfl 32 rfl ?_
      refine z_iconst F dX3_readsClosed_32 1 (by decide) 33 rfl ?_
      refine z_iadd F dX3_readsClosed_33 34 rfl ?_
      rw [(p3 h6).2.1, nI_1]
      refine z_putI F zc2 dX3_readsClosed_34 rfl 3 (by decide) (by decide) (.inl m_247) rfl rfl z_pI 37 rfl ?_
      refine z_iconst F dX3_readsClosed_37 1 (by decide) 38 rfl ?_
      refine z_riz F dX3_readsClosed_38 (by first | rfl | exact bIn) ?_
      rw [if_pos h6, if_pos h22]
      exact ⟨rfl, m3.u2 (by decide), fun _ => (p3 h6).adv, fun z => absurd rfl z⟩
    · skip
      refine z_iconst F dX3_readsClosed_25 0 (by decide) 26 rfl ?_
      refine z_riz F dX3_readsClosed_26 (by first | rfl | exact bIn) ?_
      rw [if_pos h6, if_neg h22]
      exact ⟨rfl, m3, fun z => absurd z Bool.false_ne_true, fun _ => (p3 h6).2.1⟩
set_option maxHeartbeats 2000000 in
set_option maxRecDepth 10000 in
theorem kX3_unitS {l : Launch} {E : z_E} {b : Nat → Int32} {n w : Nat} (hT : Tb b n) (hw : w < 2) {h : Nat} (hh : h < 5) (hden : ∀ (i : Nat) (L : List (Int32 × Int32)) (τ : z_M) (_ : i ≤ n) (_ : L.length < i) (_ : RdI τ b n w i L), z_C l E shC (9 + 8 * h) yX3_readsDenied cX3_readsDenied 2 (some FieldType.boolean) [.ref (z_ad E 51), .int (nI (5 - h))] τ (z_Pi (RdP τ b n w L ((untP b w h i).1, (untP b w h i).2.1 ++ [(3, 0)], (untP b w h i).2.2)))) (hclo : ∀ (i : Nat) (L : List (Int32 × Int32)) (τ : z_M) (_ : i ≤ n) (_ : L.length ≤ i) (_ : RdI τ b n w i L), z_C l E shC (15 + 8 * h) yX3_readsClosed cX3_readsClosed 2 (some FieldType.boolean) [.ref (z_ad E 51), .int (nI (5 - h))] τ (z_Pi (RdP τ b n w L (if (levP b (untP b w h) 5 i).2.2 = true then (if b (levP b (untP b w h) 5 i).1 = 41 then ((levP b (untP b w h) 5 i).1 + 1, (levP b (untP b w h) 5 i).2.1, true) else ((levP b (untP b w h) 5 i).1, [], false)) else levP b (untP b w h) 5 i)))) : ∀ (i : Nat) (L : List (Int32 × Int32)) (τ : z_M) (_ : i ≤ n) (_ : L.length ≤ i) (_ : RdI τ b n w i L), z_C l E shC (8 + 8 * (h + 1)) yX3_readsUnit cX3_readsUnit 4 (some FieldType.boolean) [.ref (z_ad E 51), .int (nI (5 - (h + 1)))] τ (z_Pi (RdP τ b n w L (untP b w (h + 1) i))) := by
  intro i L τ hi hL hI
  obtain ⟨c, hc, ec⟩ := hT.2 i
  refine z_intro iX3_readsUnit (Nat.le_of_ble_eq_true rfl) (fun K F => ?_)
  refine z_aload_n F dX3_readsUnit_0 0 rfl 1 rfl ?_
  refine z_getR F zc2 dX3_readsUnit_1 rfl 0 (by decide) (by decide) (.inl m_243) rfl (by decide) 4 rfl ?_
  refine z_aload_n F dX3_readsUnit_4 0 rfl 5 rfl ?_
  refine z_getI F zc2 dX3_readsUnit_5 rfl 3 (by decide) (by decide) (.inl m_247) rfl 8 rfl ?_
  have h60 := hI.1.2.1
  rw [hI.2.1]
  refine z_callVp F dX3_readsUnit_8 m_528 iX4_at jX4_at rfl zc3 rfl (kX4_at τ (S := shC) (r := 21) (a := 22) (cap := 60) rfl rfl (by decide) (n := n) hI.1.1 hI.1.2.1 (by decide) _) rfl (by omega) (Nat.le_of_ble_eq_true rfl) 11 rfl ?_
  rw [hI.at hT hi, ec]
  refine z_istore_n F dX3_readsUnit_11 [(0, _), (1, _), (2, _)] rfl (by decide) 12 rfl ?_
  refine z_iload_n F dX3_readsUnit_12 2 rfl 13 rfl ?_
  refine z_callSp F dX3_readsUnit_13 m_529 iX3_isDigit m_530 rfl (kX3_isDigit τ _) rfl (by omega) (Nat.le_of_ble_eq_true rfl) 16 rfl ?_
  refine z_if_eq F dX3_readsUnit_16 25 (by decide) 19 rfl (fun h16 => ?_) (fun h16 => ?_)
  · skip
    have h16 := bI0.mp h16
    have hd : ¬ (48 ≤ b i ∧ b i ≤ 57) := ec ▸ h16
    refine z_aload_n F dX3_readsUnit_25 0 rfl 26 rfl ?_
    refine z_getS F zc2 dX3_readsUnit_26 rfl 2 (by decide) (by decide) (.inl m_246) rfl 29 rfl ?_
    have hS2 := hw
    rw [hI.2.2.1, nI_clamp (show w < 2 ^ 31 by omega)]
    refine z_iload_n F dX3_readsUnit_29 2 rfl 30 rfl ?_
    refine z_i2c F dX3_readsUnit_30 31 rfl ?_
    rw [i2c_at c hc]
    refine z_callVSp F hS2 dX3_readsUnit_31 m_537 iJ0_indexOf_0f7a4 jJ0_indexOf_0f7a4 rfl rfl (kJ0_indexOf_0f7a4 τ hw hc) rfl (by omega) (Nat.le_of_ble_eq_true rfl) 34 rfl ?_
    refine z_istore_n F dX3_readsUnit_34 [(0, _), (1, _), (2, _), (3, _)] rfl (by decide) 35 rfl ?_
    refine z_iload_n F dX3_readsUnit_35 3 rfl 36 rfl ?_
    refine z_if_lt F dX3_readsUnit_36 61 (by decide) 39 rfl (fun h36 => ?_) (fun h36 => ?_)
    · skip
      have hnm : ¬ 0 ≤ nmS w (b i) := by rw [ec]; exact i_nle.mpr h36
      refine z_iload_n F dX3_readsUnit_61 1 rfl 62 rfl ?_
      refine z_iconst F dX3_readsUnit_62 5 (by decide) 63 rfl ?_
      refine z_icmp_ge F dX3_readsUnit_63 78 (by decide) 66 rfl (fun h63 => ?_) (fun h63 => ?_)
      · skip
        exact absurd h63 (nI_ge (a := 5 - (h + 1)) (b := 5) (by omega) (by decide))
      · skip
        refine z_iload_n F dX3_readsUnit_66 2 rfl 67 rfl ?_
        refine z_bipush F dX3_readsUnit_67 33 (by decide) 69 rfl ?_
        refine z_icmp_eq F dX3_readsUnit_69 80 (by decide) 72 rfl (fun h69 => ?_) (fun h69 => ?_)
        · skip
          have hb : b i = 33 := ec.trans h69
          have hin : i < n := hT.lt (i := i) (by rw [hb]; decide)
          refine z_aload_n F dX3_readsUnit_80 0 rfl 81 rfl ?_
          refine z_dup F dX3_readsUnit_81 rfl 82 rfl ?_
          refine z_getI F zc2 dX3_readsUnit_82 rfl 3 (by decide) (by decide) (.inl m_247) rfl 85 rfl ?_
          refine z_iconst F dX3_readsUnit_85 1 (by decide) 86 rfl ?_
          refine z_iadd F dX3_readsUnit_86 87 rfl ?_
          rw [hI.2.1, nI_1]
          refine z_putI F zc2 dX3_readsUnit_87 rfl 3 (by decide) (by decide) (.inl m_247) rfl rfl z_pI 90 rfl ?_
          refine z_iload_n F dX3_readsUnit_90 2 rfl 91 rfl ?_
          refine z_bipush F dX3_readsUnit_91 33 (by decide) 93 rfl ?_
          refine z_icmp_ne F dX3_readsUnit_93 106 (by decide) 96 rfl (fun h93 => ?_) (fun h93 => ?_)
          · skip
            exact absurd (ec ▸ hb) h93
          · skip
            refine z_aload_n F dX3_readsUnit_96 0 rfl 97 rfl ?_
            refine z_iload_n F dX3_readsUnit_97 1 rfl 98 rfl ?_
            refine z_iconst F dX3_readsUnit_98 1 (by decide) 99 rfl ?_
            refine z_iadd F dX3_readsUnit_99 100 rfl ?_
            rw [nI_1, show 5 - (h + 1) + 1 = 5 - h by omega]
            refine z_callVi F dX3_readsUnit_100 m_619 iX3_readsDenied jX3_readsDenied rfl zc2 rfl (hden (i + 1) L _ (by omega) (by omega) hI.adv) rfl (by omega) (Nat.le_of_ble_eq_true rfl) 103 rfl (fun r100 s100 c100 => ?_)
            obtain ⟨rfl, m100, p100, f100⟩ := c100
            refine z_goto F dX3_readsUnit_103 113 (by decide) ?_
            refine z_riz F dX3_readsUnit_113 (by first | rfl | exact bIn) ?_
            have e : untP b w (h + 1) i = ((untP b w h (i + 1)).1, (untP b w h (i + 1)).2.1 ++ [(3, 0)], (untP b w h (i + 1)).2.2) := by
              show baseP b w i (if b i = 33 then _ else _) = _
              unfold baseP
              rw [if_neg hd, if_neg hnm, if_pos hb]
            rw [e]
            exact ⟨rfl, (MS.rf.u2 (by decide)).tr m100, p100, f100⟩
        · skip
          refine z_iload_n F dX3_readsUnit_72 2 rfl 73 rfl ?_
          refine z_bipush F dX3_readsUnit_73 40 (by decide) 75 rfl ?_
          refine z_icmp_eq F dX3_readsUnit_75 80 (by decide) 78 rfl (fun h75 => ?_) (fun h75 => ?_)
          · skip
            have hb : b i = 40 := ec.trans h75
            have hb2 : ¬ b i = 33 := ec ▸ h69
            have hin : i < n := hT.lt (i := i) (by rw [hb]; decide)
            refine z_aload_n F dX3_readsUnit_80 0 rfl 81 rfl ?_
            refine z_dup F dX3_readsUnit_81 rfl 82 rfl ?_
            refine z_getI F zc2 dX3_readsUnit_82 rfl 3 (by decide) (by decide) (.inl m_247) rfl 85 rfl ?_
            refine z_iconst F dX3_readsUnit_85 1 (by decide) 86 rfl ?_
            refine z_iadd F dX3_readsUnit_86 87 rfl ?_
            rw [hI.2.1, nI_1]
            refine z_putI F zc2 dX3_readsUnit_87 rfl 3 (by decide) (by decide) (.inl m_247) rfl rfl z_pI 90 rfl ?_
            refine z_iload_n F dX3_readsUnit_90 2 rfl 91 rfl ?_
            refine z_bipush F dX3_readsUnit_91 33 (by decide) 93 rfl ?_
            refine z_icmp_ne F dX3_readsUnit_93 106 (by decide) 96 rfl (fun h93 => ?_) (fun h93 => ?_)
            · skip
              refine z_aload_n F dX3_readsUnit_106 0 rfl 107 rfl ?_
              refine z_iload_n F dX3_readsUnit_107 1 rfl 108 rfl ?_
              refine z_iconst F dX3_readsUnit_108 1 (by decide) 109 rfl ?_
              refine z_iadd F dX3_readsUnit_109 110 rfl ?_
              rw [nI_1, show 5 - (h + 1) + 1 = 5 - h by omega]
              refine z_callVi F dX3_readsUnit_110 m_623 iX3_readsClosed jX3_readsClosed rfl zc2 rfl (hclo (i + 1) L _ (by omega) (by omega) hI.adv) rfl (by omega) (Nat.le_of_ble_eq_true rfl) 113 rfl (fun r110 s110 c110 => ?_)
              obtain ⟨rfl, m110, p110, f110⟩ := c110
              refine z_riz F dX3_readsUnit_113 (by first | rfl | exact bIn) ?_
              have e : untP b w (h + 1) i = (if (levP b (untP b w h) 5 (i + 1)).2.2 = true then (if b (levP b (untP b w h) 5 (i + 1)).1 = 41 then ((levP b (untP b w h) 5 (i + 1)).1 + 1, (levP b (untP b w h) 5 (i + 1)).2.1, true) else ((levP b (untP b w h) 5 (i + 1)).1, [], false)) else levP b (untP b w h) 5 (i + 1)) := by
                show baseP b w i (if b i = 33 then _ else _) = _
                unfold baseP
                rw [if_neg hd, if_neg hnm, if_neg hb2, if_pos hb]
              rw [e]
              exact ⟨rfl, (MS.rf.u2 (by decide)).tr m110, p110, f110⟩
            · skip
              exact absurd h93 h69
          · skip
            refine z_iconst F dX3_readsUnit_78 0 (by decide) 79 rfl ?_
            refine z_riz F dX3_readsUnit_79 (by first | rfl | exact bIn) ?_
            have e : untP b w (h + 1) i = (i, [], false) := by unfold untP baseP; rw [if_neg hd, if_neg hnm, ec, if_neg h69, if_neg h75]
            rw [e]
            exact ⟨rfl, MS.rf, fun z => absurd z Bool.false_ne_true, fun _ => hI.2.1⟩
    · skip
      have hnm : 0 ≤ nmS w (b i) := by rw [ec]; exact i_nlt.mp h36
      have hin : i < n := hT.lt (i := i) (by rw [ec]; exact (nm_at c hc w hw (ec ▸ hnm)).1)
      refine z_aload_n F dX3_readsUnit_39 0 rfl 40 rfl ?_
      refine z_dup F dX3_readsUnit_40 rfl 41 rfl ?_
      refine z_getI F zc2 dX3_readsUnit_41 rfl 3 (by decide) (by decide) (.inl m_247) rfl 44 rfl ?_
      refine z_iconst F dX3_readsUnit_44 1 (by decide) 45 rfl ?_
      refine z_iadd F dX3_readsUnit_45 46 rfl ?_
      rw [hI.2.1, nI_1]
      refine z_putI F zc2 dX3_readsUnit_46 rfl 3 (by decide) (by decide) (.inl m_247) rfl rfl z_pI 49 rfl ?_
      refine z_aload_n F dX3_readsUnit_49 0 rfl 50 rfl ?_
      refine z_getR F zc2 dX3_readsUnit_50 rfl 1 (by decide) (by decide) (.inl m_244) rfl (by decide) 53 rfl ?_
      refine z_iconst F dX3_readsUnit_53 (-1) (by decide) 54 rfl ?_
      refine z_iload_n F dX3_readsUnit_54 3 rfl 55 rfl ?_
      refine z_isub F dX3_readsUnit_55 56 rfl ?_
      refine z_callVu F dX3_readsUnit_56 m_536 iX4_add jX4_add rfl zc3 rfl (kX4_add _ (S := shC) (r := 52) (a := 53) (cap := 60) rfl rfl (by decide) (n := L.length) (hI.adv (j := i + 1)).2.2.2.1 (by omega) (by decide) _) rfl (by omega) (Nat.le_of_ble_eq_true rfl) 59 rfl ?_
      rw [if_pos (show L.length < 60 by have := hI.1.2.1; omega)]
      refine z_iconst F dX3_readsUnit_59 1 (by decide) 60 rfl ?_
      refine z_riz F dX3_readsUnit_60 (by first | rfl | exact bIn) ?_
      have e : untP b w (h + 1) i = (i + 1, [(2, nmS w (b i))], true) := by unfold untP baseP; rw [if_neg hd, if_pos hnm]
      rw [e]
      have := hI.adv (j := i + 1) |>.add 2 (nmS w (b i))
      rw [ec] at this ⊢
      exact ⟨rfl, ((MS.rf.u2 (by decide)).u2 (by decide)).u2 (by decide), fun _ => this, fun z => absurd rfl z⟩
  · skip
    have h16 := bI1.mp h16
    have hd : 48 ≤ b i ∧ b i ≤ 57 := ec ▸ h16
    have hin : i < n := hT.lt (i := i) (by rw [ec]; exact (dig_at c hc h16).1)
    refine z_aload_n F dX3_readsUnit_19 0 rfl 20 rfl ?_
    refine z_callVv F dX3_readsUnit_20 m_532 iX3_readNumber jX3_readNumber rfl zc2 rfl (kX3_readNumber τ hT hI hin hL) rfl (by omega) (Nat.le_of_ble_eq_true rfl) 23 rfl (fun s20 c20 => ?_)
    refine z_iconst F dX3_readsUnit_23 1 (by decide) 24 rfl ?_
    refine z_riz F dX3_readsUnit_24 (by first | rfl | exact bIn) ?_
    have e : untP b w (h + 1) i = ((numP b 4 i 0).1, [(1, nI (numP b 4 i 0).2)], true) := by unfold untP baseP; rw [if_pos hd]
    rw [e]
    exact ⟨rfl, c20.1, fun _ => c20.2, fun z => absurd rfl z⟩
set_option maxHeartbeats 2000000 in
set_option maxRecDepth 10000 in
theorem kX3_lev0 {l : Launch} {E : z_E} {b : Nat → Int32} {n w : Nat} (hT : Tb b n) (hw : w < 2) {h : Nat} (hh : h ≤ 5) (hU : ∀ (i : Nat) (L : List (Int32 × Int32)) (τ : z_M) (_ : i ≤ n) (_ : L.length ≤ i) (_ : RdI τ b n w i L), z_C l E shC (8 + 8 * (h)) yX3_readsUnit cX3_readsUnit 4 (some FieldType.boolean) [.ref (z_ad E 51), .int (nI (5 - (h)))] τ (z_Pi (RdP τ b n w L (untP b w (h) i)))) : ∀ (i : Nat) (L : List (Int32 × Int32)) (τ : z_M) (_ : i ≤ n) (_ : L.length ≤ i) (_ : RdI τ b n w i L), z_C l E shC (9 + 8 * (h) + (0)) yX3_readsLevel cX3_readsLevel 4 (some FieldType.boolean) [.ref (z_ad E 51), .int (nI (5 - (0))), .int (nI (5 - (h)))] τ (z_Pi (RdP τ b n w L (levP b (untP b w (h)) (0) i))) := by
  intro i L τ hi hL hI
  refine z_intro iX3_readsLevel (Nat.le_of_ble_eq_true rfl) (fun K F => ?_)
  refine z_iload_n F dX3_readsLevel_0 2 rfl 1 rfl ?_
  refine z_iconst F dX3_readsLevel_1 5 (by decide) 2 rfl ?_
  refine z_icmp_le F dX3_readsLevel_2 7 (by decide) 5 rfl (fun h2 => ?_) (fun h2 => ?_)
  · skip
    refine z_iload_n F dX3_readsLevel_7 1 rfl 8 rfl ?_
    refine z_iconst F dX3_readsLevel_8 5 (by decide) 9 rfl ?_
    refine z_icmp_lt F dX3_readsLevel_9 18 (by decide) 12 rfl (fun h9 => ?_) (fun h9 => ?_)
    · skip
      exact absurd h9 (by decide)
    · skip
      refine z_aload_n F dX3_readsLevel_12 0 rfl 13 rfl ?_
      refine z_iload_n F dX3_readsLevel_13 2 rfl 14 rfl ?_
      refine z_callVi F dX3_readsLevel_14 m_524 iX3_readsUnit jX3_readsUnit rfl zc2 rfl (hU i L τ hi hL hI) rfl (by omega) (Nat.le_of_ble_eq_true rfl) 17 rfl (fun r14 s14 c14 => ?_)
      obtain ⟨rfl, m14, p14, f14⟩ := c14
      refine z_riz F dX3_readsLevel_17 (by first | rfl | exact bIn) ?_
      exact ⟨rfl, m14, p14, f14⟩
  · skip
    exact absurd (nI_le (a := 5 - h) (b := 5) (by omega) (by decide)) h2
set_option maxHeartbeats 4000000 in
set_option maxRecDepth 10000 in
theorem kX3_levS {l : Launch} {E : z_E} {b : Nat → Int32} {n w : Nat} (hT : Tb b n) (hw : w < 2) {h j : Nat} (hh : h ≤ 5) (hj : j < 5) (hV : ∀ (i : Nat) (L : List (Int32 × Int32)) (τ : z_M) (_ : i ≤ n) (_ : L.length ≤ i) (_ : RdI τ b n w i L), z_C l E shC (9 + 8 * (h) + (j)) yX3_readsLevel cX3_readsLevel 4 (some FieldType.boolean) [.ref (z_ad E 51), .int (nI (5 - (j))), .int (nI (5 - (h)))] τ (z_Pi (RdP τ b n w L (levP b (untP b w (h)) (j) i)))) : ∀ (i : Nat) (L : List (Int32 × Int32)) (τ : z_M) (_ : i ≤ n) (_ : L.length ≤ i) (_ : RdI τ b n w i L), z_C l E shC (9 + 8 * (h) + (j + 1)) yX3_readsLevel cX3_readsLevel 4 (some FieldType.boolean) [.ref (z_ad E 51), .int (nI (5 - (j + 1))), .int (nI (5 - (h)))] τ (z_Pi (RdP τ b n w L (levP b (untP b w (h)) (j + 1) i))) := by
  intro i L τ hi hL hI
  rw [show 5 - (j + 1) = 4 - j by omega]
  refine z_intro iX3_readsLevel (Nat.le_of_ble_eq_true rfl) (fun K F => ?_)
  have loop31 : ∀ (f q : Nat) (M : List (Int32 × Int32)) (ρ : z_M) (R : PR) (_ : q ≤ n) (_ : (L ++ M).length ≤ q) (_ : 61 ≤ q + f) (_ : MS [51, 52, 53] τ ρ) (_ : RdI ρ b n w q (L ++ M)) (_ : lopP b (4 - j) (levP b (untP b w h) j) f q M = R), z_X l K E shC (9 + 8 * h + (j + 1)) 4 (z_Pi (RdP τ b n w L R)) 31 [(0, .ref (z_ad E 51)), (1, .int (nI (4 - j))), (2, .int (nI (5 - h)))] [] ρ := by
    intro f
    induction f with
    | zero =>
      intro q M ρ R hq hlq hf hs hI2 hR
      have := hI2.1.2.1
      omega
    | succ f ih =>
      intro q M ρ R hq hlq hf hs hI2 hR
      refine z_aload_n F dX3_readsLevel_31 0 rfl 32 rfl ?_
      refine z_getI F zc2 dX3_readsLevel_32 rfl 3 (by decide) (by decide) (.inl m_247) rfl 35 rfl ?_
      refine z_aload_n F dX3_readsLevel_35 0 rfl 36 rfl ?_
      refine z_getR F zc2 dX3_readsLevel_36 rfl 0 (by decide) (by decide) (.inl m_243) rfl (by decide) 39 rfl ?_
      refine z_callVp F dX3_readsLevel_39 m_627 iX4_size jX4_size rfl zc3 rfl (kX4_size ρ (S := shC) (r := 21) (a := 22) (cap := 60) rfl rfl (by decide)) rfl (by omega) (Nat.le_of_ble_eq_true rfl) 42 rfl ?_
      rw [hI2.2.1, hI2.1.1]
      refine z_icmp_ge F dX3_readsLevel_42 120 (by decide) 45 rfl (fun h42 => ?_) (fun h42 => ?_)
      · skip
        refine z_iconst F dX3_readsLevel_120 1 (by decide) 121 rfl ?_
        refine z_riz F dX3_readsLevel_121 (by first | rfl | exact bIn) ?_
        have e : R = (q, M, true) := by
          rw [← hR]
          show (if lvS (b q) = nI (4 - j) then _ else (q, M, true)) = _
          have hqn : n ≤ q := le_nI h42 (by have := hI2.1.2.1; omega) (by have := hI2.1.2.1; omega)
          rw [hT.1 q hqn, if_neg (fun z => by
            have : (-1 : Int32) = nI (4 - j) := z
            exact m1_ne (by omega) this)]
        rw [e]
        exact ⟨rfl, hs, fun _ => hI2, fun z => absurd rfl z⟩
      · skip
        refine z_aload_n F dX3_readsLevel_45 0 rfl 46 rfl ?_
        refine z_getR F zc2 dX3_readsLevel_46 rfl 0 (by decide) (by decide) (.inl m_243) rfl (by decide) 49 rfl ?_
        refine z_aload_n F dX3_readsLevel_49 0 rfl 50 rfl ?_
        refine z_getI F zc2 dX3_readsLevel_50 rfl 3 (by decide) (by decide) (.inl m_247) rfl 53 rfl ?_
        rw [hI2.2.1]
        refine z_callVp F dX3_readsLevel_53 m_528 iX4_at jX4_at rfl zc3 rfl (kX4_at ρ (S := shC) (r := 21) (a := 22) (cap := 60) rfl rfl (by decide) (n := n) hI2.1.1 hI2.1.2.1 (by decide) _) rfl (by omega) (Nat.le_of_ble_eq_true rfl) 56 rfl ?_
        rw [hI2.at hT hq]
        refine z_callSp F dX3_readsLevel_56 m_628 iX3_levelOf m_629 rfl (kX3_levelOf ρ _) rfl (by omega) (Nat.le_of_ble_eq_true rfl) 59 rfl ?_
        refine z_iload_n F dX3_readsLevel_59 1 rfl 60 rfl ?_
        refine z_icmp_ne F dX3_readsLevel_60 120 (by decide) 63 rfl (fun h60 => ?_) (fun h60 => ?_)
        · skip
          refine z_iconst F dX3_readsLevel_120 1 (by decide) 121 rfl ?_
          refine z_riz F dX3_readsLevel_121 (by first | rfl | exact bIn) ?_
          have e : R = (q, M, true) := by
            rw [← hR]
            show (if lvS (b q) = nI (4 - j) then _ else (q, M, true)) = _
            rw [if_neg h60]
          rw [e]
          exact ⟨rfl, hs, fun _ => hI2, fun z => absurd rfl z⟩
        · skip
          have h60' : lvS (b q) = nI (4 - j) := h60
          obtain ⟨c, hc, ec⟩ := hT.2 q
          have hsg : sgn (b q) ∧ q < n := by
            rw [ec] at h60'
            obtain ⟨y1, y2⟩ := lvl_at c hc (4 - j) (by omega) h60'
            exact ⟨ec ▸ y2, hT.lt (i := q) (by rw [ec]; exact y1)⟩
          obtain ⟨hsg, hqn⟩ := hsg
          refine z_aload_n F dX3_readsLevel_63 0 rfl 64 rfl ?_
          refine z_getR F zc2 dX3_readsLevel_64 rfl 0 (by decide) (by decide) (.inl m_243) rfl (by decide) 67 rfl ?_
          refine z_aload_n F dX3_readsLevel_67 0 rfl 68 rfl ?_
          refine z_getI F zc2 dX3_readsLevel_68 rfl 3 (by decide) (by decide) (.inl m_247) rfl 71 rfl ?_
          rw [hI2.2.1]
          refine z_callVp F dX3_readsLevel_71 m_528 iX4_at jX4_at rfl zc3 rfl (kX4_at ρ (S := shC) (r := 21) (a := 22) (cap := 60) rfl rfl (by decide) (n := n) hI2.1.1 hI2.1.2.1 (by decide) _) rfl (by omega) (Nat.le_of_ble_eq_true rfl) 74 rfl ?_
          rw [hI2.at hT hq]
          refine z_istore_n F dX3_readsLevel_74 [(0, _), (1, _), (2, _), (3, _)] rfl (by decide) 75 rfl ?_
          refine z_aload_n F dX3_readsLevel_75 0 rfl 76 rfl ?_
          refine z_dup F dX3_readsLevel_76 rfl 77 rfl ?_
          refine z_getI F zc2 dX3_readsLevel_77 rfl 3 (by decide) (by decide) (.inl m_247) rfl 80 rfl ?_
          refine z_iconst F dX3_readsLevel_80 1 (by decide) 81 rfl ?_
          refine z_iadd F dX3_readsLevel_81 82 rfl ?_
          rw [hI2.2.1, nI_1]
          refine z_putI F zc2 dX3_readsLevel_82 rfl 3 (by decide) (by decide) (.inl m_247) rfl rfl z_pI 85 rfl ?_
          refine z_aload_n F dX3_readsLevel_85 0 rfl 86 rfl ?_
          refine z_iload_n F dX3_readsLevel_86 1 rfl 87 rfl ?_
          refine z_iconst F dX3_readsLevel_87 1 (by decide) 88 rfl ?_
          refine z_iadd F dX3_readsLevel_88 89 rfl ?_
          refine z_iload_n F dX3_readsLevel_89 2 rfl 90 rfl ?_
          rw [nI_1, show 4 - j + 1 = 5 - j by omega]
          refine z_callVi F dX3_readsLevel_90 m_520 iX3_readsLevel jX3_readsLevel rfl zc2 rfl (hV (q + 1) (L ++ M) _ (by omega) (by omega) hI2.adv) rfl (by omega) (Nat.le_of_ble_eq_true rfl) 93 rfl (fun r90 s90 c90 => ?_)
          obtain ⟨rfl, m90, p90, f90⟩ := c90
          obtain ⟨g1, g2, g3⟩ := lev_gd hT (unt_gd hT hw h) j (by omega) (q + 1) (by omega)
          have hs2 : MS [51, 52, 53] τ s90 := (hs.u2 (by decide)).tr m90
          refine z_if_ne F dX3_readsLevel_93 98 (by decide) 96 rfl (fun h93 => ?_) (fun h93 => ?_)
          · skip
            have h93 := bI1.mp h93
            obtain ⟨g4, g5, -⟩ := g3 h93
            have hn60 := hI2.1.2.1
            have hadd := (p90 h93).add (b q) 0
            have een : enc (b q) 0 = 10000 + b q := by
              obtain ⟨n1, n2, n3, -⟩ := sgn_ne hsg
              unfold enc; rw [if_neg n1, if_neg n2, if_neg n3]
            rw [een, show L ++ M ++ (levP b (untP b w h) j (q + 1)).2.1 ++ [(b q, (0 : Int32))] = L ++ (M ++ ((levP b (untP b w h) j (q + 1)).2.1 ++ [(b q, 0)])) by simp only [List.append_assoc]] at hadd
            have hlen : (L ++ (M ++ ((levP b (untP b w h) j (q + 1)).2.1 ++ [(b q, (0 : Int32))]))).length ≤ (levP b (untP b w h) j (q + 1)).1 := by
              have e1 : (L ++ (M ++ ((levP b (untP b w h) j (q + 1)).2.1 ++ [(b q, (0 : Int32))]))).length = (L ++ M).length + ((levP b (untP b w h) j (q + 1)).2.1.length + 1) := by
                rw [← List.append_assoc, List.length_append (as := L ++ M), List.length_append (as := (levP b (untP b w h) j (q + 1)).2.1)]; rfl
              rw [e1]; omega
            refine z_aload_n F dX3_readsLevel_98 0 rfl 99 rfl ?_
            refine z_getR F zc2 dX3_readsLevel_99 rfl 1 (by decide) (by decide) (.inl m_244) rfl (by decide) 102 rfl ?_
            refine z_sipush F dX3_readsLevel_102 10000 (by decide) 105 rfl ?_
            refine z_iload_n F dX3_readsLevel_105 3 rfl 106 rfl ?_
            refine z_iadd F dX3_readsLevel_106 107 rfl ?_
            refine z_callVu F dX3_readsLevel_107 m_536 iX4_add jX4_add rfl zc3 rfl (kX4_add s90 (S := shC) (r := 52) (a := 53) (cap := 60) rfl rfl (by decide) (n := (L ++ M ++ (levP b (untP b w h) j (q + 1)).2.1).length) (p90 h93).2.2.2.1 (by rw [List.length_append]; omega) (by decide) _) rfl (by omega) (Nat.le_of_ble_eq_true rfl) 110 rfl ?_
            rw [if_pos (show (L ++ M ++ (levP b (untP b w h) j (q + 1)).2.1).length < 60 by rw [List.length_append]; omega)]
            refine z_iload_n F dX3_readsLevel_110 1 rfl 111 rfl ?_
            refine z_iconst F dX3_readsLevel_111 2 (by decide) 112 rfl ?_
            refine z_icmp_ne F dX3_readsLevel_112 117 (by decide) 115 rfl (fun h112 => ?_) (fun h112 => ?_)
            · skip
              refine z_goto F dX3_readsLevel_117 31 (by decide) ?_
              refine z_sub [0, 1, 2] rfl (ih (levP b (untP b w h) j (q + 1)).1 (M ++ ((levP b (untP b w h) j (q + 1)).2.1 ++ [(b q, 0)])) _ R g2 hlen (by omega) ((hs2.u2 (by decide)).u2 (by decide)) hadd ?_)
              rw [← hR]
              show _ = (if lvS (b q) = nI (4 - j) then (if (levP b (untP b w h) j (q + 1)).2.2 = true then (if 4 - j = 2 then ((levP b (untP b w h) j (q + 1)).1, M ++ ((levP b (untP b w h) j (q + 1)).2.1 ++ [(b q, 0)]), true) else lopP b (4 - j) (levP b (untP b w h) j) f (levP b (untP b w h) j (q + 1)).1 (M ++ ((levP b (untP b w h) j (q + 1)).2.1 ++ [(b q, 0)]))) else ((levP b (untP b w h) j (q + 1)).1, M, false)) else (q, M, true))
              rw [if_pos h60', if_pos h93, if_neg (fun z => h112 (by rw [z]; rfl))]
            · skip
              refine z_iconst F dX3_readsLevel_115 1 (by decide) 116 rfl ?_
              refine z_riz F dX3_readsLevel_116 (by first | rfl | exact bIn) ?_
              have e : R = ((levP b (untP b w h) j (q + 1)).1, M ++ ((levP b (untP b w h) j (q + 1)).2.1 ++ [(b q, 0)]), true) := by
                rw [← hR]
                show (if lvS (b q) = nI (4 - j) then (if (levP b (untP b w h) j (q + 1)).2.2 = true then (if 4 - j = 2 then _ else _) else _) else _) = _
                rw [if_pos h60', if_pos h93, if_pos (eq_nI (b := 2) h112 (by omega) (by decide))]
              rw [e]
              refine ⟨rfl, (hs2.u2 (by decide)).u2 (by decide), fun _ => ?_, fun z => absurd rfl z⟩
              exact hadd
          · skip
            have h93 := bI0.mp h93
            refine z_iconst F dX3_readsLevel_96 0 (by decide) 97 rfl ?_
            refine z_riz F dX3_readsLevel_97 (by first | rfl | exact bIn) ?_
            have e : R = ((levP b (untP b w h) j (q + 1)).1, M, false) := by
              rw [← hR]
              show (if lvS (b q) = nI (4 - j) then (if (levP b (untP b w h) j (q + 1)).2.2 = true then (if 4 - j = 2 then _ else _) else ((levP b (untP b w h) j (q + 1)).1, M, false)) else _) = _
              rw [if_pos h60', if_neg h93]
            rw [e]
            exact ⟨rfl, hs2, fun z => absurd z Bool.false_ne_true, fun _ => f90 h93⟩
  refine z_iload_n F dX3_readsLevel_0 2 rfl 1 rfl ?_
  refine z_iconst F dX3_readsLevel_1 5 (by decide) 2 rfl ?_
  refine z_icmp_le F dX3_readsLevel_2 7 (by decide) 5 rfl (fun h2 => ?_) (fun h2 => ?_)
  · skip
    refine z_iload_n F dX3_readsLevel_7 1 rfl 8 rfl ?_
    refine z_iconst F dX3_readsLevel_8 5 (by decide) 9 rfl ?_
    refine z_icmp_lt F dX3_readsLevel_9 18 (by decide) 12 rfl (fun h9 => ?_) (fun h9 => ?_)
    · skip
      refine z_aload_n F dX3_readsLevel_18 0 rfl 19 rfl ?_
      refine z_iload_n F dX3_readsLevel_19 1 rfl 20 rfl ?_
      refine z_iconst F dX3_readsLevel_20 1 (by decide) 21 rfl ?_
      refine z_iadd F dX3_readsLevel_21 22 rfl ?_
      refine z_iload_n F dX3_readsLevel_22 2 rfl 23 rfl ?_
      rw [nI_1, show 4 - j + 1 = 5 - j by omega]
      refine z_callVi F dX3_readsLevel_23 m_520 iX3_readsLevel jX3_readsLevel rfl zc2 rfl (hV i L τ hi hL hI) rfl (by omega) (Nat.le_of_ble_eq_true rfl) 26 rfl (fun r23 s23 c23 => ?_)
      obtain ⟨rfl, m23, p23, f23⟩ := c23
      refine z_if_ne F dX3_readsLevel_26 31 (by decide) 29 rfl (fun h26 => ?_) (fun h26 => ?_)
      · skip
        have h26 := bI1.mp h26
        obtain ⟨g1, g2, g3⟩ := lev_gd hT (unt_gd hT hw h) j (by omega) i hi
        obtain ⟨g4, g5, g6⟩ := g3 h26
        rw [show levP b (untP b w h) (j + 1) i = lopP b (4 - j) (levP b (untP b w h) j) 61 (levP b (untP b w h) j i).1 (levP b (untP b w h) j i).2.1 from if_pos h26]
        exact loop31 61 _ _ _ _ g2 (by rw [List.length_append]; omega) (by omega) m23 (p23 h26) rfl
      · skip
        have h26 := bI0.mp h26
        refine z_iconst F dX3_readsLevel_29 0 (by decide) 30 rfl ?_
        refine z_riz F dX3_readsLevel_30 (by first | rfl | exact bIn) ?_
        rw [show levP b (untP b w h) (j + 1) i = levP b (untP b w h) j i from if_neg h26]
        exact ⟨(bI_f h26).symm, m23, fun z => absurd z h26, fun _ => f23 h26⟩
    · skip
      exact absurd (nI_lt (a := 4 - j) (b := 5) (by omega) (by decide)) h9
  · skip
    exact absurd (nI_le (a := 5 - h) (b := 5) (by omega) (by decide)) h2
