/-! the reference: check, match -/
set_option maxHeartbeats 400000 in
set_option maxRecDepth 10000 in
theorem kX10_check {l : Launch} {E : z_E} (σ : z_M) {τ0 : z_M} (hR : Rel τ0 σ)   : z_C l E shM 6 yX10_check cX10_check 3 (some FieldType.int) [.ref (z_ad E 0)] σ (z_Pi (fun rv μ' => rv = (aCheck σ).1 ∧ MO (aCheck σ).2 μ')) := by
  refine z_intro iX10_check (Nat.le_of_ble_eq_true rfl) (fun K F => ?_)
  have hn : σ 1 2 = nI (nP (σ 1)) := hR.2.1.1.1
  have h8 : nP (σ 1) ≤ 8 := hR.n8
  have hN : σ 1 2 = nI (nP (σ 1)) ∧ nP (σ 1) ≤ 8 := ⟨hn, h8⟩
  have hx := hR.vx
  have e6 : σ 1 6 = nI (wN (σ 1)) := hx.2.2.2.1
  have w24 := hx.2.2.2.2
  refine z_aload_n F dX10_check_0 0 rfl 1 rfl ?_
  refine z_getR F zc9 dX10_check_1 rfl 0 (by decide) (by decide) (.inl m_930) rfl (by decide) 4 rfl ?_
  refine z_bipush F dX10_check_4 6 (by decide) 6 rfl ?_
  refine z_iald F dX10_check_6 rfl (show vp_in (nI 6) 385 from vp_in_nI (by decide) (by decide)) 7 rfl ?_
  rw [tn_6]
  rw [e6]
  refine z_istore_n F dX10_check_7 [(0, _), (1, _)] rfl (by decide) 8 rfl ?_
  refine z_aload_n F dX10_check_8 0 rfl 9 rfl ?_
  refine z_getR F zc9 dX10_check_9 rfl 0 (by decide) (by decide) (.inl m_930) rfl (by decide) 12 rfl ?_
  refine z_bipush F dX10_check_12 6 (by decide) 14 rfl ?_
  refine z_iconst F dX10_check_14 0 (by decide) 15 rfl ?_
  refine z_iast F dX10_check_15 rfl (show vp_in (nI 6) 385 from vp_in_nI (by decide) (by decide)) 16 rfl ?_
  rw [tn_6]
  have loop18 : ∀ (f : Nat) (k : Nat) (τ : z_M) (_ : 24 < k + f) (_ : k ≤ wN (σ 1)) (_ : MS [10, 11] (z_u2 σ 1 6 0) τ) (_ : ∀ t, t < k → (!(decide (t < nP (σ 1)) && decide (σ 1 (119 + t) = sightS (σ 1) t))) = false), z_X l K E shM 6 3 (z_Pi (fun rv μ' => rv = (aCheck σ).1 ∧ MO (aCheck σ).2 μ')) 18 [(0, .ref (z_ad E 0)), (1, .int (nI (wN (σ 1)))), (2, .int (nI k))] [] τ := by
    intro f
    induction f with
    | zero =>
      intro k τ hf hk hs hno
      omega
    | succ f ih =>
      intro k τ hf hk hs hno
      have e1 : τ 1 = upd (σ 1) 6 0 := (hs 1 (by decide)).trans (by rw [z_u2, up_same])
      have hN1 : τ 1 2 = nI (nP (τ 1)) ∧ nP (τ 1) ≤ 8 := by rw [e1]; exact hN
      have e12 : τ 1 2 = σ 1 2 := by rw [e1]; rfl
      have hC1 : VC (τ 1) 1 := by rw [e1]; exact vcE (fun j hj => by rw [upd_at, if_neg (by omega)]) hR.2.1.2.2.1
      have hmo : MO (z_up σ 1 (upd (σ 1) 6 0)) τ := MO.g hs
      refine z_iload_n F dX10_check_18 2 rfl 19 rfl ?_
      refine z_iload_n F dX10_check_19 1 rfl 20 rfl ?_
      refine z_icmp_ge F dX10_check_20 58 (by decide) 23 rfl (fun h20 => ?_) (fun h20 => ?_)
      · skip
        refine z_iconst F dX10_check_58 0 (by decide) 59 rfl ?_
        refine z_ri F dX10_check_59 ?_
        have hke : k = wN (σ 1) := by have := le_nI h20 (by omega) (by omega); omega
        subst hke
        refine finM ?_ hmo
        unfold aCheck
        rw [show chkN (σ 1) = wN (σ 1) from fstF_none hno, if_pos rfl]
      · skip
        have hkw : k < wN (σ 1) := nle_nI h20 (by omega) (by omega)
        refine z_aload_n F dX10_check_23 0 rfl 24 rfl ?_
        refine z_iload_n F dX10_check_24 2 rfl 25 rfl ?_
        refine z_callVp F dX10_check_25 m_1016 iX10_isPerson jX10_isPerson rfl zc9 rfl (kX10_isPerson τ hN1 _) rfl (by decide) (Nat.le_of_ble_eq_true rfl) 28 rfl ?_
        rw [e12]
        refine z_if_eq F dX10_check_28 48 (by decide) 31 rfl (fun h28 => ?_) (fun h28 => ?_)
        · skip
          have h28 := bI0.mp h28
          refine z_iconst F dX10_check_48 1 (by decide) 49 rfl ?_
          refine z_iload_n F dX10_check_49 2 rfl 50 rfl ?_
          refine z_iadd F dX10_check_50 51 rfl ?_
          refine z_ri F dX10_check_51 ?_
          have hbad : (!(decide (k < nP (σ 1)) && decide (σ 1 (119 + k) = sightS (σ 1) k))) = true := by
            rw [decide_eq_false (p := k < nP (σ 1)) (fun z => h28 ⟨nI_pos' (by omega), by rw [hn]; exact nI_lt z (by omega)⟩)]; rfl
          have ek : chkN (σ 1) = k := fstF_is (p := fun i => !(decide (i < nP (σ 1)) && decide (σ 1 (119 + i) = sightS (σ 1) i))) (by omega) hbad hno
          refine finM ?_ hmo
          unfold aCheck
          rw [ek, if_neg (by omega), ← nI_add 1 k]; rfl
        · skip
          have h28 := bI1.mp h28
          have hkn : k < nP (σ 1) := by
            obtain ⟨j, hj, e⟩ := isP_of (n := nP (σ 1)) (hn ▸ h28) (by omega)
            rw [eq_nI e (by omega) (by omega)]; exact hj
          have hkt : k < nP (τ 1) := by rw [e1]; exact hkn
          refine z_aload_n F dX10_check_31 0 rfl 32 rfl ?_
          refine z_getR F zc9 dX10_check_32 rfl 0 (by decide) (by decide) (.inl m_930) rfl (by decide) 35 rfl ?_
          refine z_bipush F dX10_check_35 119 (by decide) 37 rfl ?_
          refine z_iload_n F dX10_check_37 2 rfl 38 rfl ?_
          refine z_iadd F dX10_check_38 39 rfl ?_
          rw [show (119 : Int32) + nI k = nI (119 + k) from nI_add 119 k]
          refine z_iald F dX10_check_39 rfl (vp_in_nI (by omega) (by decide)) 40 rfl ?_
          rw [nI_clamp (by omega), show τ 1 (119 + k) = σ 1 (119 + k) by rw [e1, upd_at, if_neg (by omega)]]
          refine z_aload_n F dX10_check_40 0 rfl 41 rfl ?_
          refine z_iload_n F dX10_check_41 2 rfl 42 rfl ?_
          refine z_callVi F dX10_check_42 m_1024 iX10_sight jX10_sight rfl zc9 rfl (kX10_sight τ hN1 hC1 hkt) rfl (by decide) (Nat.le_of_ble_eq_true rfl) 45 rfl (fun r42 s42 c42 => ?_)
          obtain ⟨rfl, m42⟩ := c42
          rw [show sightS (τ 1) k = sightS (σ 1) k by rw [e1]; exact sight_6 (by omega)]
          refine z_icmp_eq F dX10_check_45 52 (by decide) 48 rfl (fun h45 => ?_) (fun h45 => ?_)
          · skip
            refine z_iinc F dX10_check_52 2 rfl 1 (by decide) [(0, _), (1, _), (2, _)] rfl (by decide) 55 rfl ?_
            refine z_goto F dX10_check_55 18 (by decide) ?_
            rw [nI_1]
            exact ih (k + 1) s42 (by omega) (by omega) (hs.tr m42) (fun t ht => by
              rcases Nat.lt_or_ge t k with z | z
              · exact hno t z
              · have : t = k := by omega
                subst this
                rw [decide_eq_true h45, decide_eq_true hkn]; rfl)
          · skip
            refine z_iconst F dX10_check_48 1 (by decide) 49 rfl ?_
            refine z_iload_n F dX10_check_49 2 rfl 50 rfl ?_
            refine z_iadd F dX10_check_50 51 rfl ?_
            refine z_ri F dX10_check_51 ?_
            have hbad : (!(decide (k < nP (σ 1)) && decide (σ 1 (119 + k) = sightS (σ 1) k))) = true := by
              rw [decide_eq_false (p := σ 1 (119 + k) = sightS (σ 1) k) h45]; simp
            have ek : chkN (σ 1) = k := fstF_is (p := fun i => !(decide (i < nP (σ 1)) && decide (σ 1 (119 + i) = sightS (σ 1) i))) (by omega) hbad hno
            refine finM ?_ (hmo.tr (MO.g m42))
            unfold aCheck
            rw [ek, if_neg (by omega), ← nI_add 1 k]; rfl
  refine z_iconst F dX10_check_16 0 (by decide) 17 rfl ?_
  refine z_istore_n F dX10_check_17 [(0, _), (1, _), (2, _)] rfl (by decide) 18 rfl ?_
  exact loop18 25 0 _ (by omega) (by omega) MS.rf (fun t ht => by omega)
set_option maxHeartbeats 2000000 in
set_option maxRecDepth 10000 in
theorem kX10_match {l : Launch} {E : z_E} (σ : z_M) {τ0 : z_M} (hR : Rel τ0 σ) (x : Int32) (y : Int32) (w : Int32)  : z_C l E shM 4 yX10_match cX10_match 9 (some FieldType.int) [.ref (z_ad E 0), .int x, .int y, .int w] σ (z_Pi (fun rv μ' => rv = (aMatch σ x y w).1 ∧ MO (aMatch σ x y w).2 μ')) := by
  refine z_intro iX10_match (Nat.le_of_ble_eq_true rfl) (fun K F => ?_)
  have hn : σ 1 2 = nI (nP (σ 1)) := hR.2.1.1.1
  have h8 : nP (σ 1) ≤ 8 := hR.n8
  have hN : σ 1 2 = nI (nP (σ 1)) ∧ nP (σ 1) ≤ 8 := ⟨hn, h8⟩
  refine z_aload_n F dX10_match_0 0 rfl 1 rfl ?_
  refine z_iload_n F dX10_match_1 1 rfl 2 rfl ?_
  refine z_callVp F dX10_match_2 m_1016 iX10_isPerson jX10_isPerson rfl zc9 rfl (kX10_isPerson σ hN _) rfl (by decide) (Nat.le_of_ble_eq_true rfl) 5 rfl ?_
  refine z_if_eq F dX10_match_5 25 (by decide) 8 rfl (fun h5 => ?_) (fun h5 => ?_)
  · skip
    have h5 := bI0.mp h5
    refine z_aload_n F dX10_match_25 0 rfl 26 rfl ?_
    refine z_ldc F dX10_match_26 m_1001 28 rfl ?_
    rw [lo1]
    refine z_callVi F dX10_match_28 m_1002 iX10_error jX10_error rfl zc9 rfl (kX10_error σ (k := 1) (by decide) (by decide)) rfl (by decide) (Nat.le_of_ble_eq_true rfl) 31 rfl (fun r28 s28 c28 => ?_)
    refine z_ri F dX10_match_31 ?_
    obtain ⟨rfl, rfl⟩ := c28
    exact finM (by
      unfold aMatch
      (repeat' split) <;> first | rfl | contradiction | (exfalso; simp only [Int32.lt_iff_toInt_lt, Int32.le_iff_toInt_le, ← Int32.toInt_inj, Int32.reduceToInt] at *; omega)) MO.rf
  · skip
    have h5 := bI1.mp h5
    refine z_aload_n F dX10_match_8 0 rfl 9 rfl ?_
    refine z_iload_n F dX10_match_9 2 rfl 10 rfl ?_
    refine z_callVp F dX10_match_10 m_1016 iX10_isPerson jX10_isPerson rfl zc9 rfl (kX10_isPerson σ hN _) rfl (by decide) (Nat.le_of_ble_eq_true rfl) 13 rfl ?_
    refine z_if_eq F dX10_match_13 25 (by decide) 16 rfl (fun h13 => ?_) (fun h13 => ?_)
    · skip
      have h13 := bI0.mp h13
      refine z_aload_n F dX10_match_25 0 rfl 26 rfl ?_
      refine z_ldc F dX10_match_26 m_1001 28 rfl ?_
      rw [lo1]
      refine z_callVi F dX10_match_28 m_1002 iX10_error jX10_error rfl zc9 rfl (kX10_error σ (k := 1) (by decide) (by decide)) rfl (by decide) (Nat.le_of_ble_eq_true rfl) 31 rfl (fun r28 s28 c28 => ?_)
      refine z_ri F dX10_match_31 ?_
      obtain ⟨rfl, rfl⟩ := c28
      exact finM (by
        unfold aMatch
        (repeat' split) <;> first | rfl | contradiction | (exfalso; simp only [Int32.lt_iff_toInt_lt, Int32.le_iff_toInt_le, ← Int32.toInt_inj, Int32.reduceToInt] at *; omega)) MO.rf
    · skip
      have h13 := bI1.mp h13
      refine z_iload_n F dX10_match_16 3 rfl 17 rfl ?_
      refine z_iconst F dX10_match_17 0 (by decide) 18 rfl ?_
      refine z_iconst F dX10_match_18 1 (by decide) 19 rfl ?_
      refine z_callSp F dX10_match_19 m_998 iX10_in m_999 rfl (kX10_in σ _ _ _) rfl (by decide) (Nat.le_of_ble_eq_true rfl) 22 rfl ?_
      refine z_if_ne F dX10_match_22 32 (by decide) 25 rfl (fun h22 => ?_) (fun h22 => ?_)
      · skip
        have h22 := bI1.mp h22
        obtain ⟨i, hi, rfl⟩ := isP_of (n := nP (σ 1)) (hn ▸ h5) (by omega)
        have i31 : i < 2 ^ 31 := by omega
        obtain ⟨j, hj, rfl⟩ := isP_of (n := nP (σ 1)) (hn ▸ h13) (by omega)
        have j31 : j < 2 ^ 31 := by omega
        refine z_aload_n F dX10_match_32 0 rfl 33 rfl ?_
        refine z_callVu F dX10_match_33 m_1222 iX10_thinks jX10_thinks rfl zc9 rfl (kX10_thinks σ) rfl (by decide) (Nat.le_of_ble_eq_true rfl) 36 rfl ?_
        generalize hm : z_up σ 3 (σ 1) = σ3
        have s1 : σ3 1 = σ 1 := by rw [← hm]; exact up_o (by decide)
        have s3 : σ3 3 = σ 1 := by rw [← hm]; exact up_same
        have hmo : MO σ σ3 := hm ▸ MO.ms (MS.up (MS.rf (G := [3])) (by decide)) (by decide)
        have loop50 : ∀ (f : Nat) (a : Nat) (_ : 8 < a + f) (_ : a ≤ nP (σ 1)), z_X l K E shM 4 9 (z_Pi (fun rv μ' => rv = (aMatch σ (nI i) (nI j) w).1 ∧ MO (aMatch σ (nI i) (nI j) w).2 μ')) 50 [(0, .ref (z_ad E 0)), (1, .int (nI i)), (2, .int (nI j)), (3, .int w), (4, .int (nI (mS (σ 1) i j (8 * a)).1)), (5, .int (mB (mS (σ 1) i j (8 * a)))), (6, .int (nI a))] [] σ3 := by
          intro f
          induction f with
          | zero =>
            intro a hf ha
            omega
          | succ f ih =>
            intro a hf ha
            have loop67 : ∀ (g : Nat) (b : Nat) (_ : 8 < b + g) (_ : a < nP (σ 1)) (_ : a < b) (_ : b ≤ nP (σ 1)), z_X l K E shM 4 9 (z_Pi (fun rv μ' => rv = (aMatch σ (nI i) (nI j) w).1 ∧ MO (aMatch σ (nI i) (nI j) w).2 μ')) 67 [(0, .ref (z_ad E 0)), (1, .int (nI i)), (2, .int (nI j)), (3, .int w), (4, .int (nI (mS (σ 1) i j (8 * a + b)).1)), (5, .int (mB (mS (σ 1) i j (8 * a + b)))), (6, .int (nI a)), (7, .int (nI b))] [] σ3 := by
              intro g
              induction g with
              | zero =>
                intro b hg han hab hb
                omega
              | succ g ih2 =>
                intro b hg han hab hb
                have rg := mS_rng (σ 1) i j (8 * a + b) (by omega)
                have w40 := dst_le (nP (wedR (σ 1) a b)) (adj (wedR (σ 1) a b)) i j
                have w40b : dS (wedR (σ 1) a b) i j ≤ 40 := w40
                refine z_iload F dX10_match_67 7 rfl 69 rfl ?_
                refine z_aload_n F dX10_match_69 0 rfl 70 rfl ?_
                refine z_getR F zc9 dX10_match_70 rfl 0 (by decide) (by decide) (.inl m_930) rfl (by decide) 73 rfl ?_
                refine z_iconst F dX10_match_73 2 (by decide) 74 rfl ?_
                refine z_iald F dX10_match_74 rfl (show vp_in (nI 2) 385 from vp_in_nI (by decide) (by decide)) 75 rfl ?_
                rw [tn_2, s1, hn]
                refine z_icmp_ge F dX10_match_75 162 (by decide) 78 rfl (fun h75 => ?_) (fun h75 => ?_)
                · skip
                  refine z_iinc F dX10_match_162 6 rfl 1 (by decide) [(0, _), (1, _), (2, _), (3, _), (4, _), (5, _), (6, _), (7, _)] rfl (by decide) 165 rfl ?_
                  refine z_goto F dX10_match_165 50 (by decide) ?_
                  have hbe : b = nP (σ 1) := by have := le_nI h75 (by omega) (by omega); omega
                  have ec : mS (σ 1) i j (8 * (a + 1)) = mS (σ 1) i j (8 * a + b) := mS_cut (by omega) (fun k h1 h2 => by
                    unfold mOkB
                    have e2 : b ≤ k % 8 := by omega
                    have e3 : ¬ k % 8 < nP (σ 1) := by omega
                    simp [e3])
                  have L := ih (a + 1) (by omega) (by omega)
                  rw [ec] at L
                  rw [nI_1]
                  exact z_sub [0, 1, 2, 3, 4, 5, 6] rfl L
                · skip
                  have hbn : b < nP (σ 1) := nle_nI h75 (by omega) (by omega)
                  have q1 : (8 * a + b) / 8 = a := by omega
                  have q2 : (8 * a + b) % 8 = b := by omega
                  refine z_aload_n F dX10_match_78 0 rfl 79 rfl ?_
                  refine z_iload F dX10_match_79 6 rfl 81 rfl ?_
                  refine z_iconst F dX10_match_81 3 (by decide) 82 rfl ?_
                  refine z_callVp F dX10_match_82 m_1020 iX10_of jX10_of rfl zc9 rfl (kX10_of σ3 (p := a) (w := 3) (by omega) (by decide)) rfl (by decide) (Nat.le_of_ble_eq_true rfl) 85 rfl ?_
                  rw [s1]
                  refine z_if_ge F dX10_match_85 156 (by decide) 88 rfl (fun h85 => ?_) (fun h85 => ?_)
                  · skip
                    refine z_iinc F dX10_match_156 7 rfl 1 (by decide) [(0, _), (1, _), (2, _), (3, _), (4, _), (5, _), (6, _), (7, _)] rfl (by decide) 159 rfl ?_
                    refine z_goto F dX10_match_159 67 (by decide) ?_
                    have ho : mOkB (σ 1) (8 * a + b) = false := by
                      unfold mOkB
                      rw [q1, q2]
                      simp [i_nlt.mpr h85]
                    rw [nI_1]
                    have L := ih2 (b + 1) (by omega) han (by omega) (by omega)
                    rw [← Nat.add_assoc, mS_f (Or.inl ho)] at L
                    exact L
                  · skip
                    refine z_aload_n F dX10_match_88 0 rfl 89 rfl ?_
                    refine z_iload F dX10_match_89 7 rfl 91 rfl ?_
                    refine z_iconst F dX10_match_91 3 (by decide) 92 rfl ?_
                    refine z_callVp F dX10_match_92 m_1020 iX10_of jX10_of rfl zc9 rfl (kX10_of σ3 (p := b) (w := 3) (by omega) (by decide)) rfl (by decide) (Nat.le_of_ble_eq_true rfl) 95 rfl ?_
                    rw [s1]
                    refine z_if_ge F dX10_match_95 156 (by decide) 98 rfl (fun h95 => ?_) (fun h95 => ?_)
                    · skip
                      refine z_iinc F dX10_match_156 7 rfl 1 (by decide) [(0, _), (1, _), (2, _), (3, _), (4, _), (5, _), (6, _), (7, _)] rfl (by decide) 159 rfl ?_
                      refine z_goto F dX10_match_159 67 (by decide) ?_
                      have ho : mOkB (σ 1) (8 * a + b) = false := by
                        unfold mOkB
                        rw [q1, q2]
                        simp [i_nlt.mpr h95]
                      rw [nI_1]
                      have L := ih2 (b + 1) (by omega) han (by omega) (by omega)
                      rw [← Nat.add_assoc, mS_f (Or.inl ho)] at L
                      exact L
                    · skip
                      have ho : mOkB (σ 1) (8 * a + b) = true := by
                        unfold mOkB
                        rw [q1, q2]
                        simp [hab, hbn, i_nle.mp h85, i_nle.mp h95]
                      refine z_aload_n F dX10_match_98 0 rfl 99 rfl ?_
                      refine z_iload F dX10_match_99 6 rfl 101 rfl ?_
                      refine z_iload F dX10_match_101 7 rfl 103 rfl ?_
                      refine z_callVu F dX10_match_103 m_1083 iX10_weds jX10_weds rfl zc9 rfl (kX10_weds σ3 (a := a) (b := b) (by omega) (by omega)) rfl (by decide) (Nat.le_of_ble_eq_true rfl) 106 rfl ?_
                      rw [s1]
                      have hW : (z_up σ3 1 (wedR (σ 1) a b)) 1 2 = nI (nP ((z_up σ3 1 (wedR (σ 1) a b)) 1)) ∧ nP ((z_up σ3 1 (wedR (σ 1) a b)) 1) ≤ 8 := by rw [up_same]; exact wed_n hN
                      refine z_aload_n F dX10_match_106 0 rfl 107 rfl ?_
                      refine z_iload_n F dX10_match_107 1 rfl 108 rfl ?_
                      refine z_iload_n F dX10_match_108 2 rfl 109 rfl ?_
                      refine z_callVp F dX10_match_109 m_1096 iX10_stepsBy jX10_stepsBy rfl zc9 rfl (kX10_stepsBy _ hW (i := i) (j := j) (by rw [up_same, nP_wed]; exact hi) (by rw [up_same, nP_wed]; exact hj)) rfl (by decide) (Nat.le_of_ble_eq_true rfl) 112 rfl ?_
                      rw [up_same]
                      refine z_istore F dX10_match_112 [(0, _), (1, _), (2, _), (3, _), (4, _), (5, _), (6, _), (7, _), (8, _)] rfl (by decide) 114 rfl ?_
                      refine z_aload_n F dX10_match_114 0 rfl 115 rfl ?_
                      refine z_callVu F dX10_match_115 m_1229 iX10_putsBack jX10_putsBack rfl zc9 rfl (kX10_putsBack _) rfl (by decide) (Nat.le_of_ble_eq_true rfl) 118 rfl ?_
                      rw [up_up, show z_up σ3 1 (wedR (σ 1) a b) 3 = σ3 1 from (up_o (by decide)).trans (s3.trans s1.symm), up_id]
                      refine z_iload F dX10_match_118 8 rfl 120 rfl ?_
                      refine z_iload F dX10_match_120 4 rfl 122 rfl ?_
                      refine z_icmp_ge F dX10_match_122 136 (by decide) 125 rfl (fun h122 => ?_) (fun h122 => ?_)
                      · skip
                        have hnl : ¬ dS (wedR (σ 1) ((8 * a + b) / 8) ((8 * a + b) % 8)) i j < (mS (σ 1) i j (8 * a + b)).1 := by rw [q1, q2]; have := le_nI h122 (by omega) (by omega); omega
                        have est := mS_f (Or.inr hnl)
                        refine z_iload F dX10_match_136 5 rfl 138 rfl ?_
                        refine z_istore F dX10_match_138 [(0, _), (1, _), (2, _), (3, _), (4, _), (5, _), (6, _), (7, _), (8, _)] rfl (by decide) 140 rfl ?_
                        refine z_iload F dX10_match_140 8 rfl 142 rfl ?_
                        refine z_iload F dX10_match_142 4 rfl 144 rfl ?_
                        refine z_icmp_ge F dX10_match_144 152 (by decide) 147 rfl (fun h144 => ?_) (fun h144 => ?_)
                        · skip
                          refine z_iload F dX10_match_152 4 rfl 154 rfl ?_
                          refine z_istore F dX10_match_154 [(0, _), (1, _), (2, _), (3, _), (4, _), (5, _), (6, _), (7, _), (8, _)] rfl (by decide) 156 rfl ?_
                          refine z_iinc F dX10_match_156 7 rfl 1 (by decide) [(0, _), (1, _), (2, _), (3, _), (4, _), (5, _), (6, _), (7, _), (8, _)] rfl (by decide) 159 rfl ?_
                          refine z_goto F dX10_match_159 67 (by decide) ?_
                          rw [nI_1]
                          have L := ih2 (b + 1) (by omega) han (by omega) (by omega)
                          rw [← Nat.add_assoc, est] at L
                          exact z_sub [0, 1, 2, 3, 4, 5, 6, 7] rfl L
                        · skip
                          exact absurd h122 h144
                      · skip
                        have hlt : dS (wedR (σ 1) ((8 * a + b) / 8) ((8 * a + b) % 8)) i j < (mS (σ 1) i j (8 * a + b)).1 := by rw [q1, q2]; exact nle_nI h122 (by omega) (by omega)
                        have est := mS_t ho hlt
                        rw [q1, q2] at est
                        refine z_bipush F dX10_match_125 10 (by decide) 127 rfl ?_
                        refine z_iload F dX10_match_127 6 rfl 129 rfl ?_
                        refine z_imul F dX10_match_129 130 rfl ?_
                        refine z_iload F dX10_match_130 7 rfl 132 rfl ?_
                        refine z_iadd F dX10_match_132 133 rfl ?_
                        rw [show (10 : Int32) = nI 10 from rfl, pk_mul, nI_add]
                        refine z_goto F dX10_match_133 138 (by decide) ?_
                        refine z_istore F dX10_match_138 [(0, _), (1, _), (2, _), (3, _), (4, _), (5, _), (6, _), (7, _), (8, _)] rfl (by decide) 140 rfl ?_
                        refine z_iload F dX10_match_140 8 rfl 142 rfl ?_
                        refine z_iload F dX10_match_142 4 rfl 144 rfl ?_
                        refine z_icmp_ge F dX10_match_144 152 (by decide) 147 rfl (fun h144 => ?_) (fun h144 => ?_)
                        · skip
                          exact absurd h144 h122
                        · skip
                          refine z_iload F dX10_match_147 8 rfl 149 rfl ?_
                          refine z_goto F dX10_match_149 154 (by decide) ?_
                          refine z_istore F dX10_match_154 [(0, _), (1, _), (2, _), (3, _), (4, _), (5, _), (6, _), (7, _), (8, _)] rfl (by decide) 156 rfl ?_
                          refine z_iinc F dX10_match_156 7 rfl 1 (by decide) [(0, _), (1, _), (2, _), (3, _), (4, _), (5, _), (6, _), (7, _), (8, _)] rfl (by decide) 159 rfl ?_
                          refine z_goto F dX10_match_159 67 (by decide) ?_
                          rw [nI_1]
                          have L := ih2 (b + 1) (by omega) han (by omega) (by omega)
                          rw [← Nat.add_assoc, est] at L
                          have e10 : mB (dS (wedR (σ 1) a b) i j, 10 * a + b) = nI (10 * a + b) := if_neg (show ¬ 10 * a + b = 100 by omega)
                          rw [e10] at L
                          exact z_sub [0, 1, 2, 3, 4, 5, 6, 7] rfl L
            refine z_iload F dX10_match_50 6 rfl 52 rfl ?_
            refine z_aload_n F dX10_match_52 0 rfl 53 rfl ?_
            refine z_getR F zc9 dX10_match_53 rfl 0 (by decide) (by decide) (.inl m_930) rfl (by decide) 56 rfl ?_
            refine z_iconst F dX10_match_56 2 (by decide) 57 rfl ?_
            refine z_iald F dX10_match_57 rfl (show vp_in (nI 2) 385 from vp_in_nI (by decide) (by decide)) 58 rfl ?_
            rw [tn_2, s1, hn]
            refine z_icmp_ge F dX10_match_58 168 (by decide) 61 rfl (fun h58 => ?_) (fun h58 => ?_)
            · skip
              have hae : a = nP (σ 1) := by have := le_nI h58 (by omega) (by omega); omega
              have e64 : mS (σ 1) i j 64 = mS (σ 1) i j (8 * a) := mS_cut (by omega) (fun k h1 h2 => by
                unfold mOkB
                have e3 : k % 8 < k / 8 + 1 ∨ ¬ k % 8 < nP (σ 1) := by omega
                rcases e3 with e3 | e3
                · simp [show ¬ k / 8 < k % 8 by omega]
                · simp [e3])
              have rg := mS_rng (σ 1) i j (8 * a) (by omega)
              have rg2 : (mS (σ 1) i j (8 * a)).2 = 100 ∨ (mS (σ 1) i j (8 * a)).2 < 88 := by rcases rg.2.2 with z | z; exact Or.inl z.1; exact Or.inr z.1
              refine z_iload F dX10_match_168 5 rfl 170 rfl ?_
              refine z_if_ge F dX10_match_170 182 (by decide) 173 rfl (fun h170 => ?_) (fun h170 => ?_)
              · skip
                refine z_iload_n F dX10_match_182 3 rfl 183 rfl ?_
                refine z_if_ne F dX10_match_183 191 (by decide) 186 rfl (fun h183 => ?_) (fun h183 => ?_)
                · skip
                  refine z_iload F dX10_match_191 4 rfl 193 rfl ?_
                  refine z_ri F dX10_match_193 ?_
                  have h100 : ¬ (mS (σ 1) i j (8 * a)).2 = 100 := fun z => i_nlt.mpr h170 ((mB_neg rg2).mpr z)
                  refine finM (m := σ) ?_ hmo
                  unfold aMatch
                  rw [if_pos ⟨⟨h5, h13⟩, h22⟩, nI_clamp i31, nI_clamp j31, e64, if_neg h100, if_neg h183]
                · skip
                  refine z_iload F dX10_match_186 5 rfl 188 rfl ?_
                  refine z_goto F dX10_match_188 193 (by decide) ?_
                  refine z_ri F dX10_match_193 ?_
                  have h100 : ¬ (mS (σ 1) i j (8 * a)).2 = 100 := fun z => i_nlt.mpr h170 ((mB_neg rg2).mpr z)
                  have hb : mB (mS (σ 1) i j (8 * a)) = nI (mS (σ 1) i j (8 * a)).2 := if_neg h100
                  rw [hb]
                  refine finM (m := σ) ?_ hmo
                  unfold aMatch
                  rw [if_pos ⟨⟨h5, h13⟩, h22⟩, nI_clamp i31, nI_clamp j31, e64, if_neg h100, if_pos h183]
              · skip
                refine z_aload_n F dX10_match_173 0 rfl 174 rfl ?_
                refine z_ldc F dX10_match_174 m_1091 176 rfl ?_
                rw [lo2]
                refine z_callVi F dX10_match_176 m_1002 iX10_error jX10_error rfl zc9 rfl (kX10_error σ3 (k := 2) (by decide) (by decide)) rfl (by decide) (Nat.le_of_ble_eq_true rfl) 179 rfl (fun r176 s176 c176 => ?_)
                refine z_goto F dX10_match_179 193 (by decide) ?_
                refine z_ri F dX10_match_193 ?_
                obtain ⟨rfl, rfl⟩ := c176
                have h100 : (mS (σ 1) i j (8 * a)).2 = 100 := (mB_neg rg2).mp (i_nle.mp h170)
                refine finE ?_ hmo
                unfold aMatch
                rw [if_pos ⟨⟨h5, h13⟩, h22⟩, nI_clamp i31, nI_clamp j31, e64, if_pos h100]
            · skip
              have han : a < nP (σ 1) := nle_nI h58 (by omega) (by omega)
              refine z_iload F dX10_match_61 6 rfl 63 rfl ?_
              refine z_iconst F dX10_match_63 1 (by decide) 64 rfl ?_
              refine z_iadd F dX10_match_64 65 rfl ?_
              refine z_istore F dX10_match_65 [(0, _), (1, _), (2, _), (3, _), (4, _), (5, _), (6, _), (7, _)] rfl (by decide) 67 rfl ?_
              rw [nI_1]
              have L := loop67 9 (a + 1) (by omega) han (by omega) (by omega)
              have ec : mS (σ 1) i j (8 * a + (a + 1)) = mS (σ 1) i j (8 * a) := mS_cut (q := 8 * a) (m := 8 * a + (a + 1)) (by omega) (fun k h1 h2 => by
                unfold mOkB
                simp [show ¬ k / 8 < k % 8 by omega])
              rw [ec] at L
              exact L
        refine z_aload_n F dX10_match_36 0 rfl 37 rfl ?_
        refine z_iload_n F dX10_match_37 1 rfl 38 rfl ?_
        refine z_iload_n F dX10_match_38 2 rfl 39 rfl ?_
        refine z_callVp F dX10_match_39 m_1096 iX10_stepsBy jX10_stepsBy rfl zc9 rfl (kX10_stepsBy σ3 (by rw [s1]; exact hN) (i := i) (j := j) (by rw [s1]; exact hi) (by rw [s1]; exact hj)) rfl (by decide) (Nat.le_of_ble_eq_true rfl) 42 rfl ?_
        rw [s1]
        refine z_istore F dX10_match_42 [(0, _), (1, _), (2, _), (3, _), (4, _)] rfl (by decide) 44 rfl ?_
        refine z_iconst F dX10_match_44 (-1) (by decide) 45 rfl ?_
        refine z_istore F dX10_match_45 [(0, _), (1, _), (2, _), (3, _), (4, _), (5, _)] rfl (by decide) 47 rfl ?_
        refine z_iconst F dX10_match_47 0 (by decide) 48 rfl ?_
        refine z_istore F dX10_match_48 [(0, _), (1, _), (2, _), (3, _), (4, _), (5, _), (6, _)] rfl (by decide) 50 rfl ?_
        exact loop50 9 0 (by omega) (by omega)
      · skip
        have h22 := bI0.mp h22
        refine z_aload_n F dX10_match_25 0 rfl 26 rfl ?_
        refine z_ldc F dX10_match_26 m_1001 28 rfl ?_
        rw [lo1]
        refine z_callVi F dX10_match_28 m_1002 iX10_error jX10_error rfl zc9 rfl (kX10_error σ (k := 1) (by decide) (by decide)) rfl (by decide) (Nat.le_of_ble_eq_true rfl) 31 rfl (fun r28 s28 c28 => ?_)
        refine z_ri F dX10_match_31 ?_
        obtain ⟨rfl, rfl⟩ := c28
        exact finM (by
          unfold aMatch
          (repeat' split) <;> first | rfl | contradiction | (exfalso; simp only [Int32.lt_iff_toInt_lt, Int32.le_iff_toInt_le, ← Int32.toInt_inj, Int32.reduceToInt] at *; omega)) MO.rf
