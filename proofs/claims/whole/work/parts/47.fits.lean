/-! the reference: fits -/
theorem ix24 (s k : Nat) : (24 : Int32) * nI s + nI k = nI (24 * s + k) := by
  rw [show (24 : Int32) = nI 24 from rfl, pk_mul, nI_add]
theorem allB_le {f : Nat → Bool} {k : Nat} : ∀ {n : Nat}, k ≤ n → allB f n = true → allB f k = true
  | 0, h, h2 => by have : k = 0 := by omega
                   subst this; exact h2
  | n + 1, h, h2 => by
    by_cases z : k = n + 1
    · subst z; exact h2
    · have h3 : (allB f n && f n) = true := h2
      rw [Bool.and_eq_true] at h3
      exact allB_le (by omega) h3.1
theorem Rel.shq {σ μ : z_M} (h : Rel σ μ) : ∀ s, s < 4 → (∃ q, q ≤ 24 ∧ μ 6 s = nI q) ∧ (μ 5 s = 0 ∨ μ 5 s = 8 ∨ μ 5 s = 16 ∨ μ 5 s = 32) := fun s hs => by
  obtain ⟨-, -, ⟨q, h1, h2, -⟩, h3⟩ := h.2.2.2.2.2.1 s hs
  exact ⟨⟨q, h1, h2⟩, h3⟩
set_option maxHeartbeats 1000000 in
set_option maxRecDepth 10000 in
theorem kX10_isSo {l : Launch} {E : z_E} (σ : z_M) (hn : σ 1 2 = nI (nP (σ 1)) ∧ nP (σ 1) ≤ 8) (hC : VC (σ 1) 0) {i : Nat} (hi : i < nP (σ 1)) {s : Nat} (hs4 : s < 4) {q : Nat} (hq : q ≤ 24) (eq : σ 6 s = nI q) : z_C l E shM 5 yX10_isSo cX10_isSo 5 (some FieldType.boolean) [.ref (z_ad E 0), .int (nI s), .int (nI i)] σ (z_Pi (fun rv σ' => rv = bI (soB (σ 1) i (fun k => σ 7 (24 * s + k)) q = true) ∧ MS [10, 11] σ σ')) := by
  refine z_intro iX10_isSo (Nat.le_of_ble_eq_true rfl) (fun K F => ?_)
  have loop5 : ∀ (f : Nat) (k : Nat) (τ : z_M) (_ : 25 < k + f) (_ : k ≤ q) (_ : MS [10, 11] σ τ), z_X l K E shM 5 5 (z_Pi (fun rv σ' => rv = bI (soB (σ 1) i (fun k => σ 7 (24 * s + k)) q = true) ∧ MS [10, 11] σ σ')) 5 [(0, .ref (z_ad E 0)), (1, .int (nI s)), (2, .int (nI i)), (3, .int (bI (allB (fun k => decide (k < nP (σ 1)) && decide (σ 7 (24 * s + k) = veilS (σ 1) i k)) k = true))), (4, .int (nI k))] [] τ := by
    intro f
    induction f with
    | zero =>
      intro k τ hf hk hs
      omega
    | succ f ih =>
      intro k τ hf hk hs
      have e1 : τ 1 = σ 1 := hs 1 (by decide)
      have e6 : τ 6 = σ 6 := hs 6 (by decide)
      have e7 : τ 7 = σ 7 := hs 7 (by decide)
      refine z_iload F dX10_isSo_5 4 rfl 7 rfl ?_
      refine z_aload_n F dX10_isSo_7 0 rfl 8 rfl ?_
      refine z_getR F zc9 dX10_isSo_8 rfl 6 (by decide) (by decide) (.inl m_936) rfl (by decide) 11 rfl ?_
      refine z_iload_n F dX10_isSo_11 1 rfl 12 rfl ?_
      refine z_iald F dX10_isSo_12 rfl (vp_in_nI (by omega) (by decide)) 13 rfl ?_
      rw [nI_clamp (by omega), e6, eq]
      refine z_icmp_ge F dX10_isSo_13 63 (by decide) 16 rfl (fun h13 => ?_) (fun h13 => ?_)
      · skip
        refine z_iload_n F dX10_isSo_63 3 rfl 64 rfl ?_
        refine z_riz F dX10_isSo_64 (by first | rfl | exact bIn) ?_
        refine ⟨bI_c ?_, hs⟩
        have hke : k = q := by have := le_nI h13 (by omega) (by omega); omega
        rw [← hke]; exact Iff.rfl
      · skip
        have hkq : k < q := nle_nI h13 (by omega) (by omega)
        refine z_iload_n F dX10_isSo_16 3 rfl 17 rfl ?_
        refine z_if_eq F dX10_isSo_17 63 (by decide) 20 rfl (fun h17 => ?_) (fun h17 => ?_)
        · skip
          have h17 := bI0.mp h17
          refine z_iload_n F dX10_isSo_63 3 rfl 64 rfl ?_
          refine z_riz F dX10_isSo_64 (by first | rfl | exact bIn) ?_
          refine ⟨bI_c ?_, hs⟩
          refine ⟨fun z => absurd z h17, fun z => ?_⟩
          exact absurd (allB_le (by omega) z) h17
        · skip
          have h17 := bI1.mp h17
          refine z_aload_n F dX10_isSo_20 0 rfl 21 rfl ?_
          refine z_iload F dX10_isSo_21 4 rfl 23 rfl ?_
          refine z_callVp F dX10_isSo_23 m_1016 iX10_isPerson jX10_isPerson rfl zc9 rfl (kX10_isPerson τ (by rw [e1]; exact hn) _) rfl (by decide) (Nat.le_of_ble_eq_true rfl) 26 rfl ?_
          rw [e1]
          refine z_if_eq F dX10_isSo_26 55 (by decide) 29 rfl (fun h26 => ?_) (fun h26 => ?_)
          · skip
            have h26 := bI0.mp h26
            refine z_iconst F dX10_isSo_55 0 (by decide) 56 rfl ?_
            refine z_istore_n F dX10_isSo_56 [(0, _), (1, _), (2, _), (3, _), (4, _)] rfl (by decide) 57 rfl ?_
            refine z_iinc F dX10_isSo_57 4 rfl 1 (by decide) [(0, _), (1, _), (2, _), (3, _), (4, _)] rfl (by decide) 60 rfl ?_
            refine z_goto F dX10_isSo_60 5 (by decide) ?_
            have L := ih (k + 1) τ (by omega) (by omega) hs
            rw [bI_f (show ¬ allB (fun k => decide (k < nP (σ 1)) && decide (σ 7 (24 * s + k) = veilS (σ 1) i k)) (k + 1) = true from fun z => by
              have z2 : (allB (fun k => decide (k < nP (σ 1)) && decide (σ 7 (24 * s + k) = veilS (σ 1) i k)) k && (fun k => decide (k < nP (σ 1)) && decide (σ 7 (24 * s + k) = veilS (σ 1) i k)) k) = true := z
              simp only [Bool.and_eq_true, decide_eq_true_eq] at z2
              exact h26 ⟨nI_pos' (by omega), by rw [hn.1]; exact nI_lt z2.2.1 (by omega)⟩)] at L
            rw [nI_1]
            exact L
          · skip
            have h26 := bI1.mp h26
            have hkn : k < nP (σ 1) := by
              obtain ⟨j, hj, e⟩ := isP_of (n := nP (σ 1)) (hn.1 ▸ h26) (by omega)
              rw [eq_nI e (by omega) (by omega)]; exact hj
            refine z_aload_n F dX10_isSo_29 0 rfl 30 rfl ?_
            refine z_getR F zc9 dX10_isSo_30 rfl 7 (by decide) (by decide) (.inl m_937) rfl (by decide) 33 rfl ?_
            refine z_bipush F dX10_isSo_33 24 (by decide) 35 rfl ?_
            refine z_iload_n F dX10_isSo_35 1 rfl 36 rfl ?_
            refine z_imul F dX10_isSo_36 37 rfl ?_
            refine z_iload F dX10_isSo_37 4 rfl 39 rfl ?_
            refine z_iadd F dX10_isSo_39 40 rfl ?_
            rw [ix24]
            refine z_iald F dX10_isSo_40 rfl (vp_in_nI (by omega) (by decide)) 41 rfl ?_
            rw [nI_clamp (by omega), e7]
            refine z_aload_n F dX10_isSo_41 0 rfl 42 rfl ?_
            refine z_iload_n F dX10_isSo_42 2 rfl 43 rfl ?_
            refine z_iload F dX10_isSo_43 4 rfl 45 rfl ?_
            refine z_callVi F dX10_isSo_45 m_1104 iX10_veils jX10_veils rfl zc9 rfl (kX10_veils τ (by rw [e1]; exact hn) (by rw [e1]; exact hC) (i := i) (j := k) (by rw [e1]; exact hi) (by rw [e1]; exact hkn)) rfl (by decide) (Nat.le_of_ble_eq_true rfl) 48 rfl (fun r45 s45 c45 => ?_)
            obtain ⟨rfl, m45⟩ := c45
            rw [e1]
            refine z_icmp_ne F dX10_isSo_48 55 (by decide) 51 rfl (fun h48 => ?_) (fun h48 => ?_)
            · skip
              refine z_iconst F dX10_isSo_55 0 (by decide) 56 rfl ?_
              refine z_istore_n F dX10_isSo_56 [(0, _), (1, _), (2, _), (3, _), (4, _)] rfl (by decide) 57 rfl ?_
              refine z_iinc F dX10_isSo_57 4 rfl 1 (by decide) [(0, _), (1, _), (2, _), (3, _), (4, _)] rfl (by decide) 60 rfl ?_
              refine z_goto F dX10_isSo_60 5 (by decide) ?_
              have L := ih (k + 1) s45 (by omega) (by omega) (hs.tr m45)
              rw [bI_f (show ¬ allB (fun k => decide (k < nP (σ 1)) && decide (σ 7 (24 * s + k) = veilS (σ 1) i k)) (k + 1) = true from fun z => by
                have z2 : (allB (fun k => decide (k < nP (σ 1)) && decide (σ 7 (24 * s + k) = veilS (σ 1) i k)) k && (fun k => decide (k < nP (σ 1)) && decide (σ 7 (24 * s + k) = veilS (σ 1) i k)) k) = true := z
                simp only [Bool.and_eq_true, decide_eq_true_eq] at z2
                exact h48 z2.2.2)] at L
              rw [nI_1]
              exact L
            · skip
              refine z_iconst F dX10_isSo_51 1 (by decide) 52 rfl ?_
              refine z_goto F dX10_isSo_52 56 (by decide) ?_
              refine z_istore_n F dX10_isSo_56 [(0, _), (1, _), (2, _), (3, _), (4, _)] rfl (by decide) 57 rfl ?_
              refine z_iinc F dX10_isSo_57 4 rfl 1 (by decide) [(0, _), (1, _), (2, _), (3, _), (4, _)] rfl (by decide) 60 rfl ?_
              refine z_goto F dX10_isSo_60 5 (by decide) ?_
              have L := ih (k + 1) s45 (by omega) (by omega) (hs.tr m45)
              rw [bI_t (show allB (fun k => decide (k < nP (σ 1)) && decide (σ 7 (24 * s + k) = veilS (σ 1) i k)) (k + 1) = true from by
                show (allB (fun k => decide (k < nP (σ 1)) && decide (σ 7 (24 * s + k) = veilS (σ 1) i k)) k && (fun k => decide (k < nP (σ 1)) && decide (σ 7 (24 * s + k) = veilS (σ 1) i k)) k) = true
                rw [h17]; simp only [Bool.true_and, Bool.and_eq_true, decide_eq_true_eq]; exact ⟨hkn, h48⟩)] at L
              rw [nI_1]
              exact L
  refine z_iconst F dX10_isSo_0 1 (by decide) 1 rfl ?_
  refine z_istore_n F dX10_isSo_1 [(0, _), (1, _), (2, _), (3, _)] rfl (by decide) 2 rfl ?_
  refine z_iconst F dX10_isSo_2 0 (by decide) 3 rfl ?_
  refine z_istore F dX10_isSo_3 [(0, _), (1, _), (2, _), (3, _), (4, _)] rfl (by decide) 5 rfl ?_
  exact loop5 26 0 σ (by omega) (by omega) MS.rf
set_option maxHeartbeats 1000000 in
set_option maxRecDepth 10000 in
theorem kX10_fits {l : Launch} {E : z_E} (σ : z_M) {τ0 : z_M} (hR : Rel τ0 σ) (sh : Int32) (x : Int32) (w : Int32)  : z_C l E shM 6 yX10_fits cX10_fits 6 (some FieldType.int) [.ref (z_ad E 0), .int sh, .int x, .int w] σ (z_Pi (fun rv μ' => rv = (aFits σ sh x w).1 ∧ MO (aFits σ sh x w).2 μ')) := by
  refine z_intro iX10_fits (Nat.le_of_ble_eq_true rfl) (fun K F => ?_)
  have hn : σ 1 2 = nI (nP (σ 1)) := hR.2.1.1.1
  have h8 : nP (σ 1) ≤ 8 := hR.n8
  have hN : σ 1 2 = nI (nP (σ 1)) ∧ nP (σ 1) ≤ 8 := ⟨hn, h8⟩
  refine z_iload_n F dX10_fits_0 1 rfl 1 rfl ?_
  refine z_callSp F dX10_fits_1 m_1273 iX10_isSheet m_1274 rfl (kX10_isSheet σ _) rfl (by decide) (Nat.le_of_ble_eq_true rfl) 4 rfl ?_
  refine z_if_eq F dX10_fits_4 24 (by decide) 7 rfl (fun h4 => ?_) (fun h4 => ?_)
  · skip
    have h4 := bI0.mp h4
    refine z_aload_n F dX10_fits_24 0 rfl 25 rfl ?_
    refine z_ldc F dX10_fits_25 m_1001 27 rfl ?_
    rw [lo1]
    refine z_callVi F dX10_fits_27 m_1002 iX10_error jX10_error rfl zc9 rfl (kX10_error σ (k := 1) (by decide) (by decide)) rfl (by decide) (Nat.le_of_ble_eq_true rfl) 30 rfl (fun r27 s27 c27 => ?_)
    refine z_ri F dX10_fits_30 ?_
    obtain ⟨rfl, rfl⟩ := c27
    exact finM (by
      unfold aFits
      (repeat' split) <;> first | rfl | contradiction | (exfalso; simp only [Int32.lt_iff_toInt_lt, Int32.le_iff_toInt_le, ← Int32.toInt_inj, Int32.reduceToInt] at *; omega)) MO.rf
  · skip
    have h4 := bI1.mp h4
    refine z_aload_n F dX10_fits_7 0 rfl 8 rfl ?_
    refine z_iload_n F dX10_fits_8 2 rfl 9 rfl ?_
    refine z_callVp F dX10_fits_9 m_1016 iX10_isPerson jX10_isPerson rfl zc9 rfl (kX10_isPerson σ hN _) rfl (by decide) (Nat.le_of_ble_eq_true rfl) 12 rfl ?_
    refine z_if_eq F dX10_fits_12 24 (by decide) 15 rfl (fun h12 => ?_) (fun h12 => ?_)
    · skip
      have h12 := bI0.mp h12
      refine z_aload_n F dX10_fits_24 0 rfl 25 rfl ?_
      refine z_ldc F dX10_fits_25 m_1001 27 rfl ?_
      rw [lo1]
      refine z_callVi F dX10_fits_27 m_1002 iX10_error jX10_error rfl zc9 rfl (kX10_error σ (k := 1) (by decide) (by decide)) rfl (by decide) (Nat.le_of_ble_eq_true rfl) 30 rfl (fun r27 s27 c27 => ?_)
      refine z_ri F dX10_fits_30 ?_
      obtain ⟨rfl, rfl⟩ := c27
      exact finM (by
        unfold aFits
        (repeat' split) <;> first | rfl | contradiction | (exfalso; simp only [Int32.lt_iff_toInt_lt, Int32.le_iff_toInt_le, ← Int32.toInt_inj, Int32.reduceToInt] at *; omega)) MO.rf
    · skip
      have h12 := bI1.mp h12
      refine z_iload_n F dX10_fits_15 3 rfl 16 rfl ?_
      refine z_iconst F dX10_fits_16 0 (by decide) 17 rfl ?_
      refine z_iconst F dX10_fits_17 1 (by decide) 18 rfl ?_
      refine z_callSp F dX10_fits_18 m_998 iX10_in m_999 rfl (kX10_in σ _ _ _) rfl (by decide) (Nat.le_of_ble_eq_true rfl) 21 rfl ?_
      refine z_if_ne F dX10_fits_21 31 (by decide) 24 rfl (fun h21 => ?_) (fun h21 => ?_)
      · skip
        have h21 := bI1.mp h21
        obtain ⟨i, hi, rfl⟩ := isP_of (n := nP (σ 1)) (hn ▸ h12) (by omega)
        have i31 : i < 2 ^ 31 := by omega
        obtain ⟨s, hs4, rfl⟩ : ∃ s, s < 4 ∧ sh = nI s := isP_of (n := 4) ⟨h4.1, by show sh < 4; simp only [Int32.lt_iff_toInt_lt, Int32.le_iff_toInt_le, ← Int32.toInt_inj, Int32.reduceToInt] at *; omega⟩ (by decide)
        have s31 : s < 2 ^ 31 := by omega
        have s4 : nI s < 4 := nI_lt (b := 4) hs4 (by decide)
        obtain ⟨⟨q, hq24, eq⟩, -⟩ := hR.shq s hs4
        have q31 : q < 2 ^ 31 := by omega
        refine z_aload_n F dX10_fits_31 0 rfl 32 rfl ?_
        refine z_getR F zc9 dX10_fits_32 rfl 5 (by decide) (by decide) (.inl m_935) rfl (by decide) 35 rfl ?_
        refine z_iload_n F dX10_fits_35 1 rfl 36 rfl ?_
        refine z_iald F dX10_fits_36 rfl (vp_in_nI (by omega) (by decide)) 37 rfl ?_
        rw [nI_clamp s31]
        refine z_if_ne F dX10_fits_37 47 (by decide) 40 rfl (fun h37 => ?_) (fun h37 => ?_)
        · skip
          refine z_aload_n F dX10_fits_47 0 rfl 48 rfl ?_
          refine z_callVu F dX10_fits_48 m_1222 iX10_thinks jX10_thinks rfl zc9 rfl (kX10_thinks σ) rfl (by decide) (Nat.le_of_ble_eq_true rfl) 51 rfl ?_
          have loop57 : ∀ (f : Nat) (j : Nat) (τ : z_M) (_ : 8 < j + f) (_ : j ≤ i) (_ : MS [1, 3, 10, 11] σ τ) (_ : τ 3 = σ 1) (_ : ∀ v, pU (τ 1) i 2 v = pU (σ 1) i 2 v), z_X l K E shM 6 6 (z_Pi (fun rv μ' => rv = (aFits σ (nI s) (nI i) w).1 ∧ MO (aFits σ (nI s) (nI i) w).2 μ')) 57 [(0, .ref (z_ad E 0)), (1, .int (nI s)), (2, .int (nI i)), (3, .int w), (4, .int (nI (setOf (fun j => soB (pU (σ 1) i 2 (nI j)) i (fun k => σ 7 (24 * s + k)) q) j))), (5, .int (nI j))] [] τ := by
            intro f
            induction f with
            | zero =>
              intro j τ hf hj hs h3 hp
              omega
            | succ f ih =>
              intro j τ hf hj hs h3 hp
              refine z_iload F dX10_fits_57 5 rfl 59 rfl ?_
              refine z_iload_n F dX10_fits_59 2 rfl 60 rfl ?_
              refine z_icmp_ge F dX10_fits_60 99 (by decide) 63 rfl (fun h60 => ?_) (fun h60 => ?_)
              · skip
                refine z_aload_n F dX10_fits_99 0 rfl 100 rfl ?_
                refine z_callVu F dX10_fits_100 m_1229 iX10_putsBack jX10_putsBack rfl zc9 rfl (kX10_putsBack τ) rfl (by decide) (Nat.le_of_ble_eq_true rfl) 103 rfl ?_
                refine z_iload_n F dX10_fits_103 3 rfl 104 rfl ?_
                refine z_if_ne F dX10_fits_104 112 (by decide) 107 rfl (fun h104 => ?_) (fun h104 => ?_)
                · skip
                  refine z_iload F dX10_fits_112 4 rfl 114 rfl ?_
                  refine z_callSp F dX10_fits_114 m_1044 iX10_bits m_1045 rfl (kX10_bits _ (s := setOf (fun j => soB (pU (σ 1) i 2 (nI j)) i (fun k => σ 7 (24 * s + k)) q) j) (Nat.lt_of_lt_of_le (setOf_lt _ _) (show 2 ^ j ≤ 2 ^ 8 from Nat.pow_le_pow_right (by decide) (by omega)))) rfl (by decide) (Nat.le_of_ble_eq_true rfl) 117 rfl ?_
                  refine z_ri F dX10_fits_117 ?_
                  have hje : j = i := by have := le_nI h60 (by omega) (by omega); omega
                  subst hje
                  refine finM (m := σ) ?_ (MO.back hs h3)
                  unfold aFits
                  rw [if_pos ⟨⟨h4.1, s4⟩, h12, h21⟩, nI_clamp s31, if_neg h37, nI_clamp i31, eq, nI_clamp q31, if_neg h104]; rfl
                · skip
                  refine z_iload F dX10_fits_107 4 rfl 109 rfl ?_
                  refine z_goto F dX10_fits_109 117 (by decide) ?_
                  refine z_ri F dX10_fits_117 ?_
                  have hje : j = i := by have := le_nI h60 (by omega) (by omega); omega
                  subst hje
                  refine finM (m := σ) ?_ (MO.back hs h3)
                  unfold aFits
                  rw [if_pos ⟨⟨h4.1, s4⟩, h12, h21⟩, nI_clamp s31, if_neg h37, nI_clamp i31, eq, nI_clamp q31, if_pos h104]; rfl
              · skip
                have hji : j < i := nle_nI h60 (by omega) (by omega)
                refine z_aload_n F dX10_fits_63 0 rfl 64 rfl ?_
                refine z_iload_n F dX10_fits_64 2 rfl 65 rfl ?_
                refine z_iconst F dX10_fits_65 2 (by decide) 66 rfl ?_
                refine z_iload F dX10_fits_66 5 rfl 68 rfl ?_
                refine z_callVu F dX10_fits_68 m_1008 iX10_puts jX10_puts rfl zc9 rfl (kX10_puts τ (p := i) (w := 2) (by omega) (by decide) _) rfl (by decide) (Nat.le_of_ble_eq_true rfl) 71 rfl ?_
                rw [hp]
                generalize hm : z_up τ 1 (pU (σ 1) i 2 (nI j)) = m1
                have em1 : m1 1 = pU (σ 1) i 2 (nI j) := by rw [← hm, up_same]
                have sm : MS [1, 3, 10, 11] σ m1 := hm ▸ hs.up (by decide)
                have em3 : m1 3 = σ 1 := by rw [← hm, up_o (by decide)]; exact h3
                have hn1 : m1 1 2 = nI (nP (m1 1)) ∧ nP (m1 1) ≤ 8 := by rw [em1, nP_pU, pU_lo (by decide)]; exact hN
                have hC1 : VC (m1 1) 0 := by rw [em1]; exact vcE (fun k hk => pU_19 (by omega) (by decide) (Or.inr (by omega))) hR.2.1.2.1
                have hi1 : i < nP (m1 1) := by rw [em1, nP_pU]; exact hi
                have eq1 : m1 6 s = nI q := by rw [sm 6 (by decide)]; exact eq
                have eso : soB (m1 1) i (fun k => m1 7 (24 * s + k)) q = (fun j => soB (pU (σ 1) i 2 (nI j)) i (fun k => σ 7 (24 * s + k)) q) j := by rw [em1, sm 7 (by decide)]
                refine z_iload F dX10_fits_71 4 rfl 73 rfl ?_
                refine z_aload_n F dX10_fits_73 0 rfl 74 rfl ?_
                refine z_iload_n F dX10_fits_74 1 rfl 75 rfl ?_
                refine z_iload_n F dX10_fits_75 2 rfl 76 rfl ?_
                refine z_callVi F dX10_fits_76 m_1276 iX10_isSo jX10_isSo rfl zc9 rfl (kX10_isSo m1 hn1 hC1 hi1 (s := s) hs4 hq24 eq1) rfl (by decide) (Nat.le_of_ble_eq_true rfl) 79 rfl (fun r76 s76 c76 => ?_)
                obtain ⟨rfl, m76⟩ := c76
                rw [eso]
                refine z_if_eq F dX10_fits_79 89 (by decide) 82 rfl (fun h79 => ?_) (fun h79 => ?_)
                · skip
                  have h79 := bI0.mp h79
                  refine z_iconst F dX10_fits_89 0 (by decide) 90 rfl ?_
                  refine z_ior F dX10_fits_90 91 rfl ?_
                  rw [or0_I]
                  refine z_istore F dX10_fits_91 [(0, _), (1, _), (2, _), (3, _), (4, _), (5, _)] rfl (by decide) 93 rfl ?_
                  refine z_iinc F dX10_fits_93 5 rfl 1 (by decide) [(0, _), (1, _), (2, _), (3, _), (4, _), (5, _)] rfl (by decide) 96 rfl ?_
                  refine z_goto F dX10_fits_96 57 (by decide) ?_
                  have L := ih (j + 1) s76 (by omega) (by omega) (sm.tr (m76.sub (by decide))) ((m76 3 (by decide)).trans em3) (fun v => by rw [m76 1 (by decide), em1, pU_pU])
                  rw [setOf_f (f := (fun j => soB (pU (σ 1) i 2 (nI j)) i (fun k => σ 7 (24 * s + k)) q)) (Bool.eq_false_iff.mpr h79)] at L
                  rw [nI_1]
                  exact L
                · skip
                  have h79 := bI1.mp h79
                  refine z_iconst F dX10_fits_82 1 (by decide) 83 rfl ?_
                  refine z_iload F dX10_fits_83 5 rfl 85 rfl ?_
                  refine z_ishl F dX10_fits_85 86 rfl ?_
                  rw [shl_nI j (by omega)]
                  refine z_goto F dX10_fits_86 90 (by decide) ?_
                  refine z_ior F dX10_fits_90 91 rfl ?_
                  rw [or_nI]
                  refine z_istore F dX10_fits_91 [(0, _), (1, _), (2, _), (3, _), (4, _), (5, _)] rfl (by decide) 93 rfl ?_
                  refine z_iinc F dX10_fits_93 5 rfl 1 (by decide) [(0, _), (1, _), (2, _), (3, _), (4, _), (5, _)] rfl (by decide) 96 rfl ?_
                  refine z_goto F dX10_fits_96 57 (by decide) ?_
                  have L := ih (j + 1) s76 (by omega) (by omega) (sm.tr (m76.sub (by decide))) ((m76 3 (by decide)).trans em3) (fun v => by rw [m76 1 (by decide), em1, pU_pU])
                  rw [setOf_t (f := (fun j => soB (pU (σ 1) i 2 (nI j)) i (fun k => σ 7 (24 * s + k)) q)) h79] at L
                  rw [nI_1]
                  exact L
          refine z_iconst F dX10_fits_51 0 (by decide) 52 rfl ?_
          refine z_istore F dX10_fits_52 [(0, _), (1, _), (2, _), (3, _), (4, _)] rfl (by decide) 54 rfl ?_
          refine z_iconst F dX10_fits_54 0 (by decide) 55 rfl ?_
          refine z_istore F dX10_fits_55 [(0, _), (1, _), (2, _), (3, _), (4, _), (5, _)] rfl (by decide) 57 rfl ?_
          exact loop57 9 0 _ (by omega) (by omega) (MS.rf.up (by decide)) up_same (fun v => by rw [up_o (show (1 : Nat) ≠ 3 by decide)])
        · skip
          refine z_aload_n F dX10_fits_40 0 rfl 41 rfl ?_
          refine z_ldc F dX10_fits_41 m_1091 43 rfl ?_
          rw [lo2]
          refine z_callVi F dX10_fits_43 m_1002 iX10_error jX10_error rfl zc9 rfl (kX10_error σ (k := 2) (by decide) (by decide)) rfl (by decide) (Nat.le_of_ble_eq_true rfl) 46 rfl (fun r43 s43 c43 => ?_)
          refine z_ri F dX10_fits_46 ?_
          obtain ⟨rfl, rfl⟩ := c43
          exact finM (by
            unfold aFits
            rw [if_pos ⟨⟨h4.1, s4⟩, h12, h21⟩, nI_clamp s31, if_pos h37]) MO.rf
      · skip
        have h21 := bI0.mp h21
        refine z_aload_n F dX10_fits_24 0 rfl 25 rfl ?_
        refine z_ldc F dX10_fits_25 m_1001 27 rfl ?_
        rw [lo1]
        refine z_callVi F dX10_fits_27 m_1002 iX10_error jX10_error rfl zc9 rfl (kX10_error σ (k := 1) (by decide) (by decide)) rfl (by decide) (Nat.le_of_ble_eq_true rfl) 30 rfl (fun r27 s27 c27 => ?_)
        refine z_ri F dX10_fits_30 ?_
        obtain ⟨rfl, rfl⟩ := c27
        exact finM (by
          unfold aFits
          (repeat' split) <;> first | rfl | contradiction | (exfalso; simp only [Int32.lt_iff_toInt_lt, Int32.le_iff_toInt_le, ← Int32.toInt_inj, Int32.reduceToInt] at *; omega)) MO.rf
