set_option maxHeartbeats 400000 in
set_option maxRecDepth 10000 in
theorem kX9_descends {l : Launch} {E : z_E} (σ : z_M) {μ : z_M} (hR : Rel σ μ) (x : Int32) (par : Int32)  : z_C l E shC 4 yX9_descends cX9_descends 4 (some FieldType.int) [.ref (z_ad E 0), .int x, .int par] σ (z_Pi (fun rv σ' => rv = (aDescends μ x par).1 ∧ Rel σ' (aDescends μ x par).2)) := by
  refine z_intro iX9_descends (Nat.le_of_ble_eq_true rfl) (fun K F => ?_)
  have hc : σ 2 0 = μ 1 2 := hR.1.1.1
  have hn : μ 1 2 = nI (nP (μ 1)) := hR.2.1.1.1
  have h8 : nP (μ 1) ≤ 8 := hR.n8
  refine z_aload_n F dX9_descends_0 0 rfl 1 rfl ?_
  refine z_getR F zc8 dX9_descends_1 rfl 0 (by decide) (by decide) (.inl m_302) rfl (by decide) 4 rfl ?_
  refine z_getR F zc7 dX9_descends_4 rfl 0 (by decide) (by decide) (.inr ⟨_, m_200⟩) rfl (by decide) 7 rfl ?_
  refine z_iload_n F dX9_descends_7 1 rfl 8 rfl ?_
  refine z_callVp F dX9_descends_8 m_370 iX1_has jX1_has rfl zc1 rfl (kX1_has σ _) rfl (by decide) (Nat.le_of_ble_eq_true rfl) 11 rfl ?_
  refine z_if_eq F dX9_descends_11 24 (by decide) 14 rfl (fun h11 => ?_) (fun h11 => ?_)
  · skip
    have h11 := bI0.mp h11
    refine z_aload_n F dX9_descends_24 0 rfl 25 rfl ?_
    refine z_iconst F dX9_descends_25 1 (by decide) 26 rfl ?_
    refine z_callVi F dX9_descends_26 m_334 iX9_fail jX9_fail rfl zc8 rfl (kX9_fail σ (k := 1) (by decide) (by decide)) rfl (by decide) (Nat.le_of_ble_eq_true rfl) 29 rfl (fun r26 s26 c26 => ?_)
    refine z_ri F dX9_descends_29 ?_
    obtain ⟨rfl, rfl⟩ := c26
    exact fin (by
      unfold aDescends
      (repeat' split) <;> first | rfl | contradiction | (exfalso; simp only [Int32.lt_iff_toInt_lt, Int32.le_iff_toInt_le, ← Int32.toInt_inj, Int32.reduceToInt] at *; omega)) (hR.fail (by decide) (by decide))
  · skip
    have h11 := bI1.mp h11
    refine z_iload_n F dX9_descends_14 2 rfl 15 rfl ?_
    refine z_iconst F dX9_descends_15 (-1) (by decide) 16 rfl ?_
    refine z_icmp_lt F dX9_descends_16 24 (by decide) 19 rfl (fun h16 => ?_) (fun h16 => ?_)
    · skip
      refine z_aload_n F dX9_descends_24 0 rfl 25 rfl ?_
      refine z_iconst F dX9_descends_25 1 (by decide) 26 rfl ?_
      refine z_callVi F dX9_descends_26 m_334 iX9_fail jX9_fail rfl zc8 rfl (kX9_fail σ (k := 1) (by decide) (by decide)) rfl (by decide) (Nat.le_of_ble_eq_true rfl) 29 rfl (fun r26 s26 c26 => ?_)
      refine z_ri F dX9_descends_29 ?_
      obtain ⟨rfl, rfl⟩ := c26
      exact fin (by
        unfold aDescends
        (repeat' split) <;> first | rfl | contradiction | (exfalso; simp only [Int32.lt_iff_toInt_lt, Int32.le_iff_toInt_le, ← Int32.toInt_inj, Int32.reduceToInt] at *; omega)) (hR.fail (by decide) (by decide))
    · skip
      refine z_iload_n F dX9_descends_19 2 rfl 20 rfl ?_
      refine z_iload_n F dX9_descends_20 1 rfl 21 rfl ?_
      refine z_icmp_lt F dX9_descends_21 30 (by decide) 24 rfl (fun h21 => ?_) (fun h21 => ?_)
      · skip
        have h16' : -1 ≤ par := by simp only [Int32.lt_iff_toInt_lt, Int32.le_iff_toInt_le, ← Int32.toInt_inj, Int32.reduceToInt] at *; omega
        obtain ⟨i, hi, rfl⟩ := isP_of (n := nP (μ 1)) (hn ▸ hc ▸ h11) (by omega)
        have i31 : i < 2 ^ 31 := by omega
        have hx : par = -1 ∨ ∃ j, j < i ∧ par = nI j := par_of h16' h21 i31
        refine z_aload_n F dX9_descends_30 0 rfl 31 rfl ?_
        refine z_getR F zc8 dX9_descends_31 rfl 0 (by decide) (by decide) (.inl m_302) rfl (by decide) 34 rfl ?_
        refine z_getR F zc7 dX9_descends_34 rfl 0 (by decide) (by decide) (.inr ⟨_, m_200⟩) rfl (by decide) 37 rfl ?_
        refine z_getR F zc1 dX9_descends_37 rfl 3 (by decide) (by decide) (.inr ⟨_, m_119⟩) rfl (by decide) 40 rfl ?_
        refine z_iload_n F dX9_descends_40 1 rfl 41 rfl ?_
        refine z_iald F dX9_descends_41 rfl (vp_in_nI (by omega) (by decide)) 42 rfl ?_
        rw [nI_clamp i31]
        refine z_istore_n F dX9_descends_42 [(0, _), (1, _), (2, _), (3, _)] rfl (by decide) 43 rfl ?_
        refine z_aload_n F dX9_descends_43 0 rfl 44 rfl ?_
        refine z_getR F zc8 dX9_descends_44 rfl 0 (by decide) (by decide) (.inl m_302) rfl (by decide) 47 rfl ?_
        refine z_getR F zc7 dX9_descends_47 rfl 0 (by decide) (by decide) (.inr ⟨_, m_200⟩) rfl (by decide) 50 rfl ?_
        refine z_iload_n F dX9_descends_50 1 rfl 51 rfl ?_
        refine z_iload_n F dX9_descends_51 2 rfl 52 rfl ?_
        refine z_callVv F dX9_descends_52 m_434 iX1_giveParent jX1_giveParent rfl zc1 rfl (kX1_giveParent σ (r := μ 1) hR.1.1 hR.vk hi hx) rfl (by decide) (Nat.le_of_ble_eq_true rfl) 55 rfl (fun s52 c52 => ?_)
        refine z_iload_n F dX9_descends_55 3 rfl 56 rfl ?_
        refine z_ri F dX9_descends_56 ?_
        rw [show σ 5 i = pO (μ 1) i 2 from ((kin1.mp hR.1.1).2 i hi).2.2.1]
        exact fin (by
          unfold aDescends
          simp only [nI_clamp i31]
          (repeat' split) <;> first | rfl | contradiction | (exfalso; simp only [Int32.lt_iff_toInt_lt, Int32.le_iff_toInt_le, ← Int32.toInt_inj, Int32.reduceToInt] at *; omega)) (hR.kin (c52.1.sub (by decide)) c52.2.1 c52.2.2 (hR.vk.kid hi hx) (fun k a _ => pU_lo a) (fun k a => pU_19 (by omega) (by decide) (Or.inr a)) (by rw [nP_pU]; exact Nat.le_refl _) (fun j hj => by rw [nP_pU] at hj; rw [pO_pU (by decide) (by decide), if_neg (fun z => absurd z.2 (by decide)), if_pos hj]))
      · skip
        refine z_aload_n F dX9_descends_24 0 rfl 25 rfl ?_
        refine z_iconst F dX9_descends_25 1 (by decide) 26 rfl ?_
        refine z_callVi F dX9_descends_26 m_334 iX9_fail jX9_fail rfl zc8 rfl (kX9_fail σ (k := 1) (by decide) (by decide)) rfl (by decide) (Nat.le_of_ble_eq_true rfl) 29 rfl (fun r26 s26 c26 => ?_)
        refine z_ri F dX9_descends_29 ?_
        obtain ⟨rfl, rfl⟩ := c26
        exact fin (by
          unfold aDescends
          (repeat' split) <;> first | rfl | contradiction | (exfalso; simp only [Int32.lt_iff_toInt_lt, Int32.le_iff_toInt_le, ← Int32.toInt_inj, Int32.reduceToInt] at *; omega)) (hR.fail (by decide) (by decide))
set_option maxHeartbeats 400000 in
set_option maxRecDepth 10000 in
theorem kX9_marries {l : Launch} {E : z_E} (σ : z_M) {μ : z_M} (hR : Rel σ μ) (x : Int32) (y : Int32)  : z_C l E shC 4 yX9_marries cX9_marries 3 (some FieldType.int) [.ref (z_ad E 0), .int x, .int y] σ (z_Pi (fun rv σ' => rv = (aMarries μ x y).1 ∧ Rel σ' (aMarries μ x y).2)) := by
  refine z_intro iX9_marries (Nat.le_of_ble_eq_true rfl) (fun K F => ?_)
  have hc : σ 2 0 = μ 1 2 := hR.1.1.1
  have hn : μ 1 2 = nI (nP (μ 1)) := hR.2.1.1.1
  have h8 : nP (μ 1) ≤ 8 := hR.n8
  refine z_aload_n F dX9_marries_0 0 rfl 1 rfl ?_
  refine z_getR F zc8 dX9_marries_1 rfl 0 (by decide) (by decide) (.inl m_302) rfl (by decide) 4 rfl ?_
  refine z_getR F zc7 dX9_marries_4 rfl 0 (by decide) (by decide) (.inr ⟨_, m_200⟩) rfl (by decide) 7 rfl ?_
  refine z_iload_n F dX9_marries_7 1 rfl 8 rfl ?_
  refine z_callVp F dX9_marries_8 m_370 iX1_has jX1_has rfl zc1 rfl (kX1_has σ _) rfl (by decide) (Nat.le_of_ble_eq_true rfl) 11 rfl ?_
  refine z_if_eq F dX9_marries_11 33 (by decide) 14 rfl (fun h11 => ?_) (fun h11 => ?_)
  · skip
    have h11 := bI0.mp h11
    refine z_aload_n F dX9_marries_33 0 rfl 34 rfl ?_
    refine z_iconst F dX9_marries_34 1 (by decide) 35 rfl ?_
    refine z_callVi F dX9_marries_35 m_334 iX9_fail jX9_fail rfl zc8 rfl (kX9_fail σ (k := 1) (by decide) (by decide)) rfl (by decide) (Nat.le_of_ble_eq_true rfl) 38 rfl (fun r35 s35 c35 => ?_)
    refine z_ri F dX9_marries_38 ?_
    obtain ⟨rfl, rfl⟩ := c35
    exact fin (by
      unfold aMarries
      (repeat' split) <;> first | rfl | contradiction | (exfalso; simp only [Int32.lt_iff_toInt_lt, Int32.le_iff_toInt_le, ← Int32.toInt_inj, Int32.reduceToInt] at *; omega)) (hR.fail (by decide) (by decide))
  · skip
    have h11 := bI1.mp h11
    refine z_aload_n F dX9_marries_14 0 rfl 15 rfl ?_
    refine z_getR F zc8 dX9_marries_15 rfl 0 (by decide) (by decide) (.inl m_302) rfl (by decide) 18 rfl ?_
    refine z_getR F zc7 dX9_marries_18 rfl 0 (by decide) (by decide) (.inr ⟨_, m_200⟩) rfl (by decide) 21 rfl ?_
    refine z_iload_n F dX9_marries_21 2 rfl 22 rfl ?_
    refine z_callVp F dX9_marries_22 m_370 iX1_has jX1_has rfl zc1 rfl (kX1_has σ _) rfl (by decide) (Nat.le_of_ble_eq_true rfl) 25 rfl ?_
    refine z_if_eq F dX9_marries_25 33 (by decide) 28 rfl (fun h25 => ?_) (fun h25 => ?_)
    · skip
      have h25 := bI0.mp h25
      refine z_aload_n F dX9_marries_33 0 rfl 34 rfl ?_
      refine z_iconst F dX9_marries_34 1 (by decide) 35 rfl ?_
      refine z_callVi F dX9_marries_35 m_334 iX9_fail jX9_fail rfl zc8 rfl (kX9_fail σ (k := 1) (by decide) (by decide)) rfl (by decide) (Nat.le_of_ble_eq_true rfl) 38 rfl (fun r35 s35 c35 => ?_)
      refine z_ri F dX9_marries_38 ?_
      obtain ⟨rfl, rfl⟩ := c35
      exact fin (by
        unfold aMarries
        (repeat' split) <;> first | rfl | contradiction | (exfalso; simp only [Int32.lt_iff_toInt_lt, Int32.le_iff_toInt_le, ← Int32.toInt_inj, Int32.reduceToInt] at *; omega)) (hR.fail (by decide) (by decide))
    · skip
      have h25 := bI1.mp h25
      refine z_iload_n F dX9_marries_28 1 rfl 29 rfl ?_
      refine z_iload_n F dX9_marries_29 2 rfl 30 rfl ?_
      refine z_icmp_ne F dX9_marries_30 39 (by decide) 33 rfl (fun h30 => ?_) (fun h30 => ?_)
      · skip
        obtain ⟨i, hi, rfl⟩ := isP_of (n := nP (μ 1)) (hn ▸ hc ▸ h11) (by omega)
        have i31 : i < 2 ^ 31 := by omega
        obtain ⟨j, hj, rfl⟩ := isP_of (n := nP (μ 1)) (hn ▸ hc ▸ h25) (by omega)
        have j31 : j < 2 ^ 31 := by omega
        have hij : ¬ i = j := fun z => h30 (by rw [z])
        refine z_aload_n F dX9_marries_39 0 rfl 40 rfl ?_
        refine z_getR F zc8 dX9_marries_40 rfl 0 (by decide) (by decide) (.inl m_302) rfl (by decide) 43 rfl ?_
        refine z_getR F zc7 dX9_marries_43 rfl 0 (by decide) (by decide) (.inr ⟨_, m_200⟩) rfl (by decide) 46 rfl ?_
        refine z_iload_n F dX9_marries_46 1 rfl 47 rfl ?_
        refine z_callVp F dX9_marries_47 m_442 iX1_isFree jX1_isFree rfl zc1 rfl (kX1_isFree σ (j := i) (by omega)) rfl (by decide) (Nat.le_of_ble_eq_true rfl) 50 rfl ?_
        rw [show σ 6 i = pO (μ 1) i 3 from ((kin1.mp hR.1.1).2 i hi).2.2.2]
        refine z_if_eq F dX9_marries_50 67 (by decide) 53 rfl (fun h50 => ?_) (fun h50 => ?_)
        · skip
          have h50 := bI0.mp h50
          refine z_aload_n F dX9_marries_67 0 rfl 68 rfl ?_
          refine z_iconst F dX9_marries_68 3 (by decide) 69 rfl ?_
          refine z_callVi F dX9_marries_69 m_334 iX9_fail jX9_fail rfl zc8 rfl (kX9_fail σ (k := 3) (by decide) (by decide)) rfl (by decide) (Nat.le_of_ble_eq_true rfl) 72 rfl (fun r69 s69 c69 => ?_)
          refine z_ri F dX9_marries_72 ?_
          obtain ⟨rfl, rfl⟩ := c69
          exact fin (by
            unfold aMarries
            simp only [nI_clamp i31, nI_clamp j31]
            (repeat' split) <;> first | rfl | contradiction | (exfalso; simp only [Int32.lt_iff_toInt_lt, Int32.le_iff_toInt_le, ← Int32.toInt_inj, Int32.reduceToInt] at *; omega)) (hR.fail (by decide) (by decide))
        · skip
          have h50 := bI1.mp h50
          refine z_aload_n F dX9_marries_53 0 rfl 54 rfl ?_
          refine z_getR F zc8 dX9_marries_54 rfl 0 (by decide) (by decide) (.inl m_302) rfl (by decide) 57 rfl ?_
          refine z_getR F zc7 dX9_marries_57 rfl 0 (by decide) (by decide) (.inr ⟨_, m_200⟩) rfl (by decide) 60 rfl ?_
          refine z_iload_n F dX9_marries_60 2 rfl 61 rfl ?_
          refine z_callVp F dX9_marries_61 m_442 iX1_isFree jX1_isFree rfl zc1 rfl (kX1_isFree σ (j := j) (by omega)) rfl (by decide) (Nat.le_of_ble_eq_true rfl) 64 rfl ?_
          rw [show σ 6 j = pO (μ 1) j 3 from ((kin1.mp hR.1.1).2 j hj).2.2.2]
          refine z_if_ne F dX9_marries_64 73 (by decide) 67 rfl (fun h64 => ?_) (fun h64 => ?_)
          · skip
            have h64 := bI1.mp h64
            refine z_aload_n F dX9_marries_73 0 rfl 74 rfl ?_
            refine z_getR F zc8 dX9_marries_74 rfl 0 (by decide) (by decide) (.inl m_302) rfl (by decide) 77 rfl ?_
            refine z_getR F zc7 dX9_marries_77 rfl 0 (by decide) (by decide) (.inr ⟨_, m_200⟩) rfl (by decide) 80 rfl ?_
            refine z_iload_n F dX9_marries_80 1 rfl 81 rfl ?_
            refine z_iload_n F dX9_marries_81 2 rfl 82 rfl ?_
            refine z_callVv F dX9_marries_82 m_446 iX1_join jX1_join rfl zc1 rfl (kX1_join σ (r := μ 1) hR.1.1 hR.vk hi hj hij h50 h64) rfl (by decide) (Nat.le_of_ble_eq_true rfl) 85 rfl (fun s82 c82 => ?_)
            have hv2 := hR.vk.wed hi hj hij h50 h64
            have hi2 : i < nP (wedR (μ 1) i j) := by rw [nP_wed]; exact hi
            refine z_aload_n F dX9_marries_85 0 rfl 86 rfl ?_
            refine z_getR F zc8 dX9_marries_86 rfl 0 (by decide) (by decide) (.inl m_302) rfl (by decide) 89 rfl ?_
            refine z_getR F zc7 dX9_marries_89 rfl 0 (by decide) (by decide) (.inr ⟨_, m_200⟩) rfl (by decide) 92 rfl ?_
            refine z_iload_n F dX9_marries_92 1 rfl 93 rfl ?_
            refine z_callVp F dX9_marries_93 m_450 iX1_nearTo jX1_nearTo rfl zc1 rfl (kX1_nearTo s82 (r := wedR (μ 1) i j) c82.2.1 hv2 c82.2.2 hi2) rfl (by decide) (Nat.le_of_ble_eq_true rfl) 96 rfl ?_
            refine z_ri F dX9_marries_96 ?_
            exact fin (by
              unfold aMarries
              simp only [nI_clamp i31, nI_clamp j31]
              (repeat' split) <;> first | rfl | contradiction | (exfalso; simp only [Int32.lt_iff_toInt_lt, Int32.le_iff_toInt_le, ← Int32.toInt_inj, Int32.reduceToInt] at *; omega)) (hR.kin (c82.1.sub (by decide)) c82.2.1 c82.2.2 hv2 (fun k a _ => by unfold wedR; rw [pU_lo a, pU_lo a]) (fun k a => by unfold wedR; rw [pU_19 (by omega) (by decide) (Or.inr a), pU_19 (by omega) (by decide) (Or.inr a)]) (by rw [nP_wed]; exact Nat.le_refl _) (fun k hk => by rw [nP_wed] at hk; rw [pO_wed (by decide), if_neg (fun z => absurd z.2 (by decide)), if_neg (fun z => absurd z.2 (by decide)), if_pos hk]))
          · skip
            have h64 := bI0.mp h64
            refine z_aload_n F dX9_marries_67 0 rfl 68 rfl ?_
            refine z_iconst F dX9_marries_68 3 (by decide) 69 rfl ?_
            refine z_callVi F dX9_marries_69 m_334 iX9_fail jX9_fail rfl zc8 rfl (kX9_fail σ (k := 3) (by decide) (by decide)) rfl (by decide) (Nat.le_of_ble_eq_true rfl) 72 rfl (fun r69 s69 c69 => ?_)
            refine z_ri F dX9_marries_72 ?_
            obtain ⟨rfl, rfl⟩ := c69
            exact fin (by
              unfold aMarries
              simp only [nI_clamp i31, nI_clamp j31]
              (repeat' split) <;> first | rfl | contradiction | (exfalso; simp only [Int32.lt_iff_toInt_lt, Int32.le_iff_toInt_le, ← Int32.toInt_inj, Int32.reduceToInt] at *; omega)) (hR.fail (by decide) (by decide))
      · skip
        refine z_aload_n F dX9_marries_33 0 rfl 34 rfl ?_
        refine z_iconst F dX9_marries_34 1 (by decide) 35 rfl ?_
        refine z_callVi F dX9_marries_35 m_334 iX9_fail jX9_fail rfl zc8 rfl (kX9_fail σ (k := 1) (by decide) (by decide)) rfl (by decide) (Nat.le_of_ble_eq_true rfl) 38 rfl (fun r35 s35 c35 => ?_)
        refine z_ri F dX9_marries_38 ?_
        obtain ⟨rfl, rfl⟩ := c35
        exact fin (by
          unfold aMarries
          (repeat' split) <;> first | rfl | contradiction | (exfalso; simp only [Int32.lt_iff_toInt_lt, Int32.le_iff_toInt_le, ← Int32.toInt_inj, Int32.reduceToInt] at *; omega)) (hR.fail (by decide) (by decide))
set_option maxHeartbeats 400000 in
set_option maxRecDepth 10000 in
theorem kX9_parts {l : Launch} {E : z_E} (σ : z_M) {μ : z_M} (hR : Rel σ μ) (x : Int32)  : z_C l E shC 4 yX9_parts cX9_parts 3 (some FieldType.int) [.ref (z_ad E 0), .int x] σ (z_Pi (fun rv σ' => rv = (aParts μ x).1 ∧ Rel σ' (aParts μ x).2)) := by
  refine z_intro iX9_parts (Nat.le_of_ble_eq_true rfl) (fun K F => ?_)
  have hc : σ 2 0 = μ 1 2 := hR.1.1.1
  have hn : μ 1 2 = nI (nP (μ 1)) := hR.2.1.1.1
  have h8 : nP (μ 1) ≤ 8 := hR.n8
  refine z_aload_n F dX9_parts_0 0 rfl 1 rfl ?_
  refine z_getR F zc8 dX9_parts_1 rfl 0 (by decide) (by decide) (.inl m_302) rfl (by decide) 4 rfl ?_
  refine z_getR F zc7 dX9_parts_4 rfl 0 (by decide) (by decide) (.inr ⟨_, m_200⟩) rfl (by decide) 7 rfl ?_
  refine z_iload_n F dX9_parts_7 1 rfl 8 rfl ?_
  refine z_callVp F dX9_parts_8 m_370 iX1_has jX1_has rfl zc1 rfl (kX1_has σ _) rfl (by decide) (Nat.le_of_ble_eq_true rfl) 11 rfl ?_
  refine z_if_ne F dX9_parts_11 20 (by decide) 14 rfl (fun h11 => ?_) (fun h11 => ?_)
  · skip
    have h11 := bI1.mp h11
    obtain ⟨i, hi, rfl⟩ := isP_of (n := nP (μ 1)) (hn ▸ hc ▸ h11) (by omega)
    have i31 : i < 2 ^ 31 := by omega
    refine z_aload_n F dX9_parts_20 0 rfl 21 rfl ?_
    refine z_getR F zc8 dX9_parts_21 rfl 0 (by decide) (by decide) (.inl m_302) rfl (by decide) 24 rfl ?_
    refine z_getR F zc7 dX9_parts_24 rfl 0 (by decide) (by decide) (.inr ⟨_, m_200⟩) rfl (by decide) 27 rfl ?_
    refine z_iload_n F dX9_parts_27 1 rfl 28 rfl ?_
    refine z_callVp F dX9_parts_28 m_442 iX1_isFree jX1_isFree rfl zc1 rfl (kX1_isFree σ (j := i) (by omega)) rfl (by decide) (Nat.le_of_ble_eq_true rfl) 31 rfl ?_
    rw [show σ 6 i = pO (μ 1) i 3 from ((kin1.mp hR.1.1).2 i hi).2.2.2]
    refine z_if_eq F dX9_parts_31 40 (by decide) 34 rfl (fun h31 => ?_) (fun h31 => ?_)
    · skip
      have h31 := bI0.mp h31
      refine z_aload_n F dX9_parts_40 0 rfl 41 rfl ?_
      refine z_getR F zc8 dX9_parts_41 rfl 0 (by decide) (by decide) (.inl m_302) rfl (by decide) 44 rfl ?_
      refine z_getR F zc7 dX9_parts_44 rfl 0 (by decide) (by decide) (.inr ⟨_, m_200⟩) rfl (by decide) 47 rfl ?_
      refine z_getR F zc1 dX9_parts_47 rfl 4 (by decide) (by decide) (.inr ⟨_, m_122⟩) rfl (by decide) 50 rfl ?_
      refine z_iload_n F dX9_parts_50 1 rfl 51 rfl ?_
      refine z_iald F dX9_parts_51 rfl (vp_in_nI (by omega) (by decide)) 52 rfl ?_
      rw [nI_clamp i31, show σ 6 i = pO (μ 1) i 3 from ((kin1.mp hR.1.1).2 i hi).2.2.2]
      obtain ⟨j, hj, hji, ej, ej2⟩ : ∃ j, j < nP (μ 1) ∧ j ≠ i ∧ pO (μ 1) i 3 = nI j ∧ pO (μ 1) j 3 = nI i := by
        rcases (hR.vk.2.2 i hi).2.2.2 with z | z
        · exact absurd (by rw [z]; decide) h31
        · exact z
      have j31 : j < 2 ^ 31 := by omega
      rw [ej]
      refine z_istore_n F dX9_parts_52 [(0, _), (1, _), (2, _)] rfl (by decide) 53 rfl ?_
      refine z_aload_n F dX9_parts_53 0 rfl 54 rfl ?_
      refine z_getR F zc8 dX9_parts_54 rfl 0 (by decide) (by decide) (.inl m_302) rfl (by decide) 57 rfl ?_
      refine z_getR F zc7 dX9_parts_57 rfl 0 (by decide) (by decide) (.inr ⟨_, m_200⟩) rfl (by decide) 60 rfl ?_
      refine z_iload_n F dX9_parts_60 1 rfl 61 rfl ?_
      refine z_iload_n F dX9_parts_61 2 rfl 62 rfl ?_
      refine z_callVv F dX9_parts_62 m_455 iX1_part jX1_part rfl zc1 rfl (kX1_part σ (r := μ 1) hR.1.1 hR.vk hi hj ej) rfl (by decide) (Nat.le_of_ble_eq_true rfl) 65 rfl (fun s62 c62 => ?_)
      refine z_iload_n F dX9_parts_65 2 rfl 66 rfl ?_
      refine z_ri F dX9_parts_66 ?_
      refine fin (m := z_up μ 1 (parR (μ 1) i j)) ?_ (hR.kin (c62.1.sub (by decide)) c62.2.1 c62.2.2 (hR.vk.prt hi hj ej) (fun k a _ => by unfold parR; rw [pU_lo a, pU_lo a]) (fun k a => by unfold parR; rw [pU_19 (by omega) (by decide) (Or.inr a), pU_19 (by omega) (by decide) (Or.inr a)]) (by rw [nP_par]; exact Nat.le_refl _) (fun k hk => by rw [nP_par] at hk; rw [pO_par (by decide), if_neg (fun z => absurd z.2 (by decide)), if_neg (fun z => absurd z.2 (by decide)), if_pos hk]))
      unfold aParts
      rw [nI_clamp i31, if_pos ⟨h11.1, by rw [← hc]; exact h11.2⟩, if_neg h31, ej, nI_clamp j31]
    · skip
      have h31 := bI1.mp h31
      refine z_aload_n F dX9_parts_34 0 rfl 35 rfl ?_
      refine z_iconst F dX9_parts_35 2 (by decide) 36 rfl ?_
      refine z_callVi F dX9_parts_36 m_334 iX9_fail jX9_fail rfl zc8 rfl (kX9_fail σ (k := 2) (by decide) (by decide)) rfl (by decide) (Nat.le_of_ble_eq_true rfl) 39 rfl (fun r36 s36 c36 => ?_)
      refine z_ri F dX9_parts_39 ?_
      obtain ⟨rfl, rfl⟩ := c36
      exact fin (by
        unfold aParts
        simp only [nI_clamp i31]
        (repeat' split) <;> first | rfl | contradiction | (exfalso; simp only [Int32.lt_iff_toInt_lt, Int32.le_iff_toInt_le, ← Int32.toInt_inj, Int32.reduceToInt] at *; omega)) (hR.fail (by decide) (by decide))
  · skip
    have h11 := bI0.mp h11
    refine z_aload_n F dX9_parts_14 0 rfl 15 rfl ?_
    refine z_iconst F dX9_parts_15 1 (by decide) 16 rfl ?_
    refine z_callVi F dX9_parts_16 m_334 iX9_fail jX9_fail rfl zc8 rfl (kX9_fail σ (k := 1) (by decide) (by decide)) rfl (by decide) (Nat.le_of_ble_eq_true rfl) 19 rfl (fun r16 s16 c16 => ?_)
    refine z_ri F dX9_parts_19 ?_
    obtain ⟨rfl, rfl⟩ := c16
    exact fin (by
      unfold aParts
      (repeat' split) <;> first | rfl | contradiction | (exfalso; simp only [Int32.lt_iff_toInt_lt, Int32.le_iff_toInt_le, ← Int32.toInt_inj, Int32.reduceToInt] at *; omega)) (hR.fail (by decide) (by decide))
set_option maxHeartbeats 400000 in
set_option maxRecDepth 10000 in
theorem kX9_meets {l : Launch} {E : z_E} (σ : z_M) {μ : z_M} (hR : Rel σ μ) (pl : Int32) (x : Int32) (y : Int32)  : z_C l E shC 1 yX9_meets cX9_meets 5 (some FieldType.int) [.ref (z_ad E 0), .int pl, .int x, .int y] σ (z_Pi (fun rv σ' => rv = (aMeets μ pl x y).1 ∧ Rel σ' (aMeets μ pl x y).2)) := by
  refine z_intro iX9_meets (Nat.le_of_ble_eq_true rfl) (fun K F => ?_)
  have hc : σ 2 0 = μ 1 2 := hR.1.1.1
  have hn : μ 1 2 = nI (nP (μ 1)) := hR.2.1.1.1
  have h8 : nP (μ 1) ≤ 8 := hR.n8
  refine z_iload_n F dX9_meets_0 1 rfl 1 rfl ?_
  refine z_if_lt F dX9_meets_1 24 (by decide) 4 rfl (fun h1 => ?_) (fun h1 => ?_)
  · skip
    refine z_aload_n F dX9_meets_24 0 rfl 25 rfl ?_
    refine z_iconst F dX9_meets_25 1 (by decide) 26 rfl ?_
    refine z_callVi F dX9_meets_26 m_334 iX9_fail jX9_fail rfl zc8 rfl (kX9_fail σ (k := 1) (by decide) (by decide)) rfl (by decide) (Nat.le_of_ble_eq_true rfl) 29 rfl (fun r26 s26 c26 => ?_)
    refine z_ri F dX9_meets_29 ?_
    obtain ⟨rfl, rfl⟩ := c26
    exact fin (by
      unfold aMeets
      (repeat' split) <;> first | rfl | contradiction | (exfalso; simp only [Int32.lt_iff_toInt_lt, Int32.le_iff_toInt_le, ← Int32.toInt_inj, Int32.reduceToInt] at *; omega)) (hR.fail (by decide) (by decide))
  · skip
    refine z_iload_n F dX9_meets_4 1 rfl 5 rfl ?_
    refine z_bipush F dX9_meets_5 6 (by decide) 7 rfl ?_
    refine z_icmp_ge F dX9_meets_7 24 (by decide) 10 rfl (fun h7 => ?_) (fun h7 => ?_)
    · skip
      refine z_aload_n F dX9_meets_24 0 rfl 25 rfl ?_
      refine z_iconst F dX9_meets_25 1 (by decide) 26 rfl ?_
      refine z_callVi F dX9_meets_26 m_334 iX9_fail jX9_fail rfl zc8 rfl (kX9_fail σ (k := 1) (by decide) (by decide)) rfl (by decide) (Nat.le_of_ble_eq_true rfl) 29 rfl (fun r26 s26 c26 => ?_)
      refine z_ri F dX9_meets_29 ?_
      obtain ⟨rfl, rfl⟩ := c26
      exact fin (by
        unfold aMeets
        (repeat' split) <;> first | rfl | contradiction | (exfalso; simp only [Int32.lt_iff_toInt_lt, Int32.le_iff_toInt_le, ← Int32.toInt_inj, Int32.reduceToInt] at *; omega)) (hR.fail (by decide) (by decide))
    · skip
      refine z_iload_n F dX9_meets_10 2 rfl 11 rfl ?_
      refine z_callSp F dX9_meets_11 m_484 iX9_isNumber m_485 rfl (kX9_isNumber σ _) rfl (by decide) (Nat.le_of_ble_eq_true rfl) 14 rfl ?_
      refine z_if_eq F dX9_meets_14 24 (by decide) 17 rfl (fun h14 => ?_) (fun h14 => ?_)
      · skip
        have h14 := bI0.mp h14
        refine z_aload_n F dX9_meets_24 0 rfl 25 rfl ?_
        refine z_iconst F dX9_meets_25 1 (by decide) 26 rfl ?_
        refine z_callVi F dX9_meets_26 m_334 iX9_fail jX9_fail rfl zc8 rfl (kX9_fail σ (k := 1) (by decide) (by decide)) rfl (by decide) (Nat.le_of_ble_eq_true rfl) 29 rfl (fun r26 s26 c26 => ?_)
        refine z_ri F dX9_meets_29 ?_
        obtain ⟨rfl, rfl⟩ := c26
        exact fin (by
          unfold aMeets
          (repeat' split) <;> first | rfl | contradiction | (exfalso; simp only [Int32.lt_iff_toInt_lt, Int32.le_iff_toInt_le, ← Int32.toInt_inj, Int32.reduceToInt] at *; omega)) (hR.fail (by decide) (by decide))
      · skip
        have h14 := bI1.mp h14
        refine z_iload_n F dX9_meets_17 3 rfl 18 rfl ?_
        refine z_callSp F dX9_meets_18 m_484 iX9_isNumber m_485 rfl (kX9_isNumber σ _) rfl (by decide) (Nat.le_of_ble_eq_true rfl) 21 rfl ?_
        refine z_if_ne F dX9_meets_21 30 (by decide) 24 rfl (fun h21 => ?_) (fun h21 => ?_)
        · skip
          have h21 := bI1.mp h21
          obtain ⟨q, hq, rfl⟩ : ∃ q, q < 6 ∧ pl = nI q := isP_of (n := 6) ⟨by show 0 ≤ pl; simp only [Int32.lt_iff_toInt_lt, Int32.le_iff_toInt_le, ← Int32.toInt_inj, Int32.reduceToInt] at *; omega, by show pl < 6; simp only [Int32.lt_iff_toInt_lt, Int32.le_iff_toInt_le, ← Int32.toInt_inj, Int32.reduceToInt] at *; omega⟩ (by decide)
          obtain ⟨a, ha, rfl⟩ : ∃ a, a < 8 ∧ x = nI a := isP_of (n := 8) h14 (by decide)
          obtain ⟨b, hb, rfl⟩ : ∃ b, b < 8 ∧ y = nI b := isP_of (n := 8) h21 (by decide)
          have q31 : q < 2 ^ 31 := by omega
          have hm := hR.1.2.2.2.2.1
          refine z_aload_n F dX9_meets_30 0 rfl 31 rfl ?_
          refine z_getR F zc8 dX9_meets_31 rfl 0 (by decide) (by decide) (.inl m_302) rfl (by decide) 34 rfl ?_
          refine z_getR F zc7 dX9_meets_34 rfl 2 (by decide) (by decide) (.inr ⟨_, m_204⟩) rfl (by decide) 37 rfl ?_
          refine z_iload_n F dX9_meets_37 1 rfl 38 rfl ?_
          refine z_iald F dX9_meets_38 rfl (vp_in_nI (by omega) (by decide)) 39 rfl ?_
          rw [nI_clamp q31]
          refine z_bipush F dX9_meets_39 10 (by decide) 41 rfl ?_
          refine z_imul F dX9_meets_41 42 rfl ?_
          refine z_aload_n F dX9_meets_42 0 rfl 43 rfl ?_
          refine z_getR F zc8 dX9_meets_43 rfl 0 (by decide) (by decide) (.inl m_302) rfl (by decide) 46 rfl ?_
          refine z_getR F zc7 dX9_meets_46 rfl 3 (by decide) (by decide) (.inr ⟨_, m_206⟩) rfl (by decide) 49 rfl ?_
          refine z_iload_n F dX9_meets_49 1 rfl 50 rfl ?_
          refine z_iald F dX9_meets_50 rfl (vp_in_nI (by omega) (by decide)) 51 rfl ?_
          rw [nI_clamp q31]
          refine z_iadd F dX9_meets_51 52 rfl ?_
          refine z_istore F dX9_meets_52 [(0, _), (1, _), (2, _), (3, _), (4, _)] rfl (by decide) 54 rfl ?_
          refine z_aload_n F dX9_meets_54 0 rfl 55 rfl ?_
          refine z_getR F zc8 dX9_meets_55 rfl 0 (by decide) (by decide) (.inl m_302) rfl (by decide) 58 rfl ?_
          refine z_getR F zc7 dX9_meets_58 rfl 2 (by decide) (by decide) (.inr ⟨_, m_204⟩) rfl (by decide) 61 rfl ?_
          refine z_iload_n F dX9_meets_61 1 rfl 62 rfl ?_
          refine z_iload_n F dX9_meets_62 2 rfl 63 rfl ?_
          refine z_iast F dX9_meets_63 rfl (vp_in_nI (by omega) (by decide)) 64 rfl ?_
          rw [nI_clamp q31]
          refine z_aload_n F dX9_meets_64 0 rfl 65 rfl ?_
          refine z_getR F zc8 dX9_meets_65 rfl 0 (by decide) (by decide) (.inl m_302) rfl (by decide) 68 rfl ?_
          refine z_getR F zc7 dX9_meets_68 rfl 3 (by decide) (by decide) (.inr ⟨_, m_206⟩) rfl (by decide) 71 rfl ?_
          refine z_iload_n F dX9_meets_71 1 rfl 72 rfl ?_
          refine z_iload_n F dX9_meets_72 3 rfl 73 rfl ?_
          refine z_iast F dX9_meets_73 rfl (vp_in_nI (by omega) (by decide)) 74 rfl ?_
          rw [nI_clamp q31]
          refine z_iload F dX9_meets_74 4 rfl 76 rfl ?_
          refine z_ri F dX9_meets_76 ?_
          rw [show σ 10 q = μ 1 (7 + 2 * q) from (hm q hq).1, show σ 11 q = μ 1 (8 + 2 * q) from (hm q hq).2]
          refine fin (m := z_up μ 1 (upd (upd (μ 1) (7 + 2 * q) (nI a)) (8 + 2 * q) (nI b))) (by
            unfold aMeets
            simp only [nI_clamp q31]
            (repeat' split) <;> first | rfl | contradiction | (exfalso; simp only [Int32.lt_iff_toInt_lt, Int32.le_iff_toInt_le, ← Int32.toInt_inj, Int32.reduceToInt] at *; omega)) (hR.meet ((MS.rf.u2 (by decide)).u2 (by decide)) (fun k hk => by rw [upd_at, upd_at, if_neg (by omega), if_neg (by omega)]) ⟨fun k hk => ?_, fun k hk => ?_⟩)
          · show z_u2 (z_u2 σ 10 q (nI a)) 11 q (nI b) 10 k = _ ∧ z_u2 (z_u2 σ 10 q (nI a)) 11 q (nI b) 11 k = _
            rw [u2_o (by decide), u2_at, u2_at, u2_o (by decide), upd_at, upd_at, upd_at, upd_at]
            by_cases z : k = q
            · subst z; simp
            · rw [if_neg (by omega), if_neg (by omega), if_neg (by omega), if_neg (by omega), if_neg (by omega), if_neg (by omega)]; exact hm k hk
          · rw [upd_at, upd_at, upd_at, upd_at]
            by_cases z : k = q
            · subst z; simp; exact ⟨⟨a, ha, rfl⟩, b, hb, rfl⟩
            · rw [if_neg (by omega), if_neg (by omega), if_neg (by omega), if_neg (by omega)]; exact hR.2.1.2.2.2.1 k hk
        · skip
          have h21 := bI0.mp h21
          refine z_aload_n F dX9_meets_24 0 rfl 25 rfl ?_
          refine z_iconst F dX9_meets_25 1 (by decide) 26 rfl ?_
          refine z_callVi F dX9_meets_26 m_334 iX9_fail jX9_fail rfl zc8 rfl (kX9_fail σ (k := 1) (by decide) (by decide)) rfl (by decide) (Nat.le_of_ble_eq_true rfl) 29 rfl (fun r26 s26 c26 => ?_)
          refine z_ri F dX9_meets_29 ?_
          obtain ⟨rfl, rfl⟩ := c26
          exact fin (by
            unfold aMeets
            (repeat' split) <;> first | rfl | contradiction | (exfalso; simp only [Int32.lt_iff_toInt_lt, Int32.le_iff_toInt_le, ← Int32.toInt_inj, Int32.reduceToInt] at *; omega)) (hR.fail (by decide) (by decide))
set_option maxHeartbeats 400000 in
set_option maxRecDepth 10000 in
theorem kX9_trade {l : Launch} {E : z_E} (σ : z_M) {μ : z_M} (hR : Rel σ μ) (w : Int32) (v : Int32)  : z_C l E shC 1 yX9_trade cX9_trade 4 (some FieldType.int) [.ref (z_ad E 0), .int w, .int v] σ (z_Pi (fun rv σ' => rv = (aTrade μ w v).1 ∧ Rel σ' (aTrade μ w v).2)) := by
  refine z_intro iX9_trade (Nat.le_of_ble_eq_true rfl) (fun K F => ?_)
  have hc : σ 2 0 = μ 1 2 := hR.1.1.1
  have hn : μ 1 2 = nI (nP (μ 1)) := hR.2.1.1.1
  have h8 : nP (μ 1) ≤ 8 := hR.n8
  refine z_iload_n F dX9_trade_0 1 rfl 1 rfl ?_
  refine z_if_lt F dX9_trade_1 29 (by decide) 4 rfl (fun h1 => ?_) (fun h1 => ?_)
  · skip
    refine z_aload_n F dX9_trade_29 0 rfl 30 rfl ?_
    refine z_iconst F dX9_trade_30 1 (by decide) 31 rfl ?_
    refine z_callVi F dX9_trade_31 m_334 iX9_fail jX9_fail rfl zc8 rfl (kX9_fail σ (k := 1) (by decide) (by decide)) rfl (by decide) (Nat.le_of_ble_eq_true rfl) 34 rfl (fun r31 s31 c31 => ?_)
    refine z_ri F dX9_trade_34 ?_
    obtain ⟨rfl, rfl⟩ := c31
    exact fin (by
      unfold aTrade
      (repeat' split) <;> first | rfl | contradiction | (exfalso; simp only [Int32.lt_iff_toInt_lt, Int32.le_iff_toInt_le, ← Int32.toInt_inj, Int32.reduceToInt] at *; omega)) (hR.fail (by decide) (by decide))
  · skip
    refine z_iload_n F dX9_trade_4 1 rfl 5 rfl ?_
    refine z_iconst F dX9_trade_5 1 (by decide) 6 rfl ?_
    refine z_icmp_gt F dX9_trade_6 29 (by decide) 9 rfl (fun h6 => ?_) (fun h6 => ?_)
    · skip
      refine z_aload_n F dX9_trade_29 0 rfl 30 rfl ?_
      refine z_iconst F dX9_trade_30 1 (by decide) 31 rfl ?_
      refine z_callVi F dX9_trade_31 m_334 iX9_fail jX9_fail rfl zc8 rfl (kX9_fail σ (k := 1) (by decide) (by decide)) rfl (by decide) (Nat.le_of_ble_eq_true rfl) 34 rfl (fun r31 s31 c31 => ?_)
      refine z_ri F dX9_trade_34 ?_
      obtain ⟨rfl, rfl⟩ := c31
      exact fin (by
        unfold aTrade
        (repeat' split) <;> first | rfl | contradiction | (exfalso; simp only [Int32.lt_iff_toInt_lt, Int32.le_iff_toInt_le, ← Int32.toInt_inj, Int32.reduceToInt] at *; omega)) (hR.fail (by decide) (by decide))
    · skip
      refine z_iload_n F dX9_trade_9 2 rfl 10 rfl ?_
      refine z_if_lt F dX9_trade_10 29 (by decide) 13 rfl (fun h10 => ?_) (fun h10 => ?_)
      · skip
        refine z_aload_n F dX9_trade_29 0 rfl 30 rfl ?_
        refine z_iconst F dX9_trade_30 1 (by decide) 31 rfl ?_
        refine z_callVi F dX9_trade_31 m_334 iX9_fail jX9_fail rfl zc8 rfl (kX9_fail σ (k := 1) (by decide) (by decide)) rfl (by decide) (Nat.le_of_ble_eq_true rfl) 34 rfl (fun r31 s31 c31 => ?_)
        refine z_ri F dX9_trade_34 ?_
        obtain ⟨rfl, rfl⟩ := c31
        exact fin (by
          unfold aTrade
          (repeat' split) <;> first | rfl | contradiction | (exfalso; simp only [Int32.lt_iff_toInt_lt, Int32.le_iff_toInt_le, ← Int32.toInt_inj, Int32.reduceToInt] at *; omega)) (hR.fail (by decide) (by decide))
      · skip
        refine z_iload_n F dX9_trade_13 2 rfl 14 rfl ?_
        refine z_iload_n F dX9_trade_14 1 rfl 15 rfl ?_
        refine z_if_ne F dX9_trade_15 24 (by decide) 18 rfl (fun h15 => ?_) (fun h15 => ?_)
        · skip
          refine z_bipush F dX9_trade_24 40 (by decide) 26 rfl ?_
          refine z_icmp_le F dX9_trade_26 35 (by decide) 29 rfl (fun h26 => ?_) (fun h26 => ?_)
          · skip
            refine z_iload_n F dX9_trade_35 1 rfl 36 rfl ?_
            refine z_if_ne F dX9_trade_36 52 (by decide) 39 rfl (fun h36 => ?_) (fun h36 => ?_)
            · skip
              refine z_aload_n F dX9_trade_52 0 rfl 53 rfl ?_
              refine z_getR F zc8 dX9_trade_53 rfl 0 (by decide) (by decide) (.inl m_302) rfl (by decide) 56 rfl ?_
              refine z_getR F zc7 dX9_trade_56 rfl 1 (by decide) (by decide) (.inr ⟨_, m_202⟩) rfl (by decide) 59 rfl ?_
              refine z_getI F zc0 dX9_trade_59 rfl 2 (by decide) (by decide) (.inr ⟨_, m_152⟩) rfl 62 rfl ?_
              refine z_istore_n F dX9_trade_62 [(0, _), (1, _), (2, _), (3, _)] rfl (by decide) 63 rfl ?_
              refine z_iload_n F dX9_trade_63 1 rfl 64 rfl ?_
              refine z_if_ne F dX9_trade_64 81 (by decide) 67 rfl (fun h64 => ?_) (fun h64 => ?_)
              · skip
                refine z_aload_n F dX9_trade_81 0 rfl 82 rfl ?_
                refine z_getR F zc8 dX9_trade_82 rfl 0 (by decide) (by decide) (.inl m_302) rfl (by decide) 85 rfl ?_
                refine z_getR F zc7 dX9_trade_85 rfl 1 (by decide) (by decide) (.inr ⟨_, m_202⟩) rfl (by decide) 88 rfl ?_
                refine z_iload_n F dX9_trade_88 2 rfl 89 rfl ?_
                refine z_putI F zc0 dX9_trade_89 rfl 2 (by decide) (by decide) (.inr ⟨_, m_152⟩) rfl rfl z_pI 92 rfl ?_
                refine z_iload_n F dX9_trade_92 3 rfl 93 rfl ?_
                refine z_ri F dX9_trade_93 ?_
                have hq : ∃ q, q < 41 ∧ v = nI q := isP_of (n := 41) ⟨by show 0 ≤ v; simp only [Int32.lt_iff_toInt_lt, Int32.le_iff_toInt_le, ← Int32.toInt_inj, Int32.reduceToInt] at *; omega, by show v < 41; simp only [Int32.lt_iff_toInt_lt, Int32.le_iff_toInt_le, ← Int32.toInt_inj, Int32.reduceToInt] at *; omega⟩ (by decide)
                rw [hR.crs.2.2.1]
                have hms : MS [8, 9, 16, 20] σ (z_u2 σ 8 2 v) := MS.rf.u2 (by decide)
                have ht := hR.vt
                have hcr := hR.crs
                refine fin (m := z_up μ 1 (upd (μ 1) 4 v)) ?_ (hR.yrs hms (eqC.up (by decide)) ⟨?_, ?_, ?_, fun p hp => ?_⟩ ⟨?_, ?_, ?_, fun p hp => ?_⟩)
                · exact (by
                  unfold aTrade
                  (repeat' split) <;> first | rfl | contradiction | (exfalso; simp only [Int32.lt_iff_toInt_lt, Int32.le_iff_toInt_le, ← Int32.toInt_inj, Int32.reduceToInt] at *; omega))
                · rw [upd_at]; rw [if_neg (by decide), u2_k (by decide)]; exact hcr.1
                · rw [upd_at]; rw [if_neg (by decide), u2_k (by decide)]; exact hcr.2.1
                · rw [upd_at]; exact u2_same
                · rw [u2_o (by decide), show nP (upd (μ 1) 4 v) = nP (μ 1) from rfl, pO_hi (Or.inl (by decide)) hp (by decide)]; exact hcr.2.2.2 p hp
                · exact ht.1
                · exact ht.2.1
                · exact (by obtain ⟨q, hq, e⟩ := hq; exact ⟨q, by omega, by rw [upd_at]; exact e⟩)
                · rw [show nP (upd (μ 1) 4 v) = nP (μ 1) from rfl] at hp ⊢
                  rw [pO_hi (Or.inl (by decide)) (by omega) (by decide)]; exact ht.2.2.2 p hp
              · skip
                refine z_aload_n F dX9_trade_67 0 rfl 68 rfl ?_
                refine z_getR F zc8 dX9_trade_68 rfl 0 (by decide) (by decide) (.inl m_302) rfl (by decide) 71 rfl ?_
                refine z_getR F zc7 dX9_trade_71 rfl 1 (by decide) (by decide) (.inr ⟨_, m_202⟩) rfl (by decide) 74 rfl ?_
                refine z_iload_n F dX9_trade_74 2 rfl 75 rfl ?_
                refine z_putI F zc0 dX9_trade_75 rfl 1 (by decide) (by decide) (.inr ⟨_, m_149⟩) rfl rfl z_pI 78 rfl ?_
                refine z_goto F dX9_trade_78 92 (by decide) ?_
                refine z_iload_n F dX9_trade_92 3 rfl 93 rfl ?_
                refine z_ri F dX9_trade_93 ?_
                exact absurd h64 h36
            · skip
              refine z_aload_n F dX9_trade_39 0 rfl 40 rfl ?_
              refine z_getR F zc8 dX9_trade_40 rfl 0 (by decide) (by decide) (.inl m_302) rfl (by decide) 43 rfl ?_
              refine z_getR F zc7 dX9_trade_43 rfl 1 (by decide) (by decide) (.inr ⟨_, m_202⟩) rfl (by decide) 46 rfl ?_
              refine z_getI F zc0 dX9_trade_46 rfl 1 (by decide) (by decide) (.inr ⟨_, m_149⟩) rfl 49 rfl ?_
              refine z_goto F dX9_trade_49 62 (by decide) ?_
              refine z_istore_n F dX9_trade_62 [(0, _), (1, _), (2, _), (3, _)] rfl (by decide) 63 rfl ?_
              refine z_iload_n F dX9_trade_63 1 rfl 64 rfl ?_
              refine z_if_ne F dX9_trade_64 81 (by decide) 67 rfl (fun h64 => ?_) (fun h64 => ?_)
              · skip
                refine z_aload_n F dX9_trade_81 0 rfl 82 rfl ?_
                refine z_getR F zc8 dX9_trade_82 rfl 0 (by decide) (by decide) (.inl m_302) rfl (by decide) 85 rfl ?_
                refine z_getR F zc7 dX9_trade_85 rfl 1 (by decide) (by decide) (.inr ⟨_, m_202⟩) rfl (by decide) 88 rfl ?_
                refine z_iload_n F dX9_trade_88 2 rfl 89 rfl ?_
                refine z_putI F zc0 dX9_trade_89 rfl 2 (by decide) (by decide) (.inr ⟨_, m_152⟩) rfl rfl z_pI 92 rfl ?_
                refine z_iload_n F dX9_trade_92 3 rfl 93 rfl ?_
                refine z_ri F dX9_trade_93 ?_
                exact absurd h36 h64
              · skip
                refine z_aload_n F dX9_trade_67 0 rfl 68 rfl ?_
                refine z_getR F zc8 dX9_trade_68 rfl 0 (by decide) (by decide) (.inl m_302) rfl (by decide) 71 rfl ?_
                refine z_getR F zc7 dX9_trade_71 rfl 1 (by decide) (by decide) (.inr ⟨_, m_202⟩) rfl (by decide) 74 rfl ?_
                refine z_iload_n F dX9_trade_74 2 rfl 75 rfl ?_
                refine z_putI F zc0 dX9_trade_75 rfl 1 (by decide) (by decide) (.inr ⟨_, m_149⟩) rfl rfl z_pI 78 rfl ?_
                refine z_goto F dX9_trade_78 92 (by decide) ?_
                refine z_iload_n F dX9_trade_92 3 rfl 93 rfl ?_
                refine z_ri F dX9_trade_93 ?_
                have hq : ∃ q, q < 1000 ∧ v = nI q := isP_of (n := 1000) ⟨by show 0 ≤ v; simp only [Int32.lt_iff_toInt_lt, Int32.le_iff_toInt_le, ← Int32.toInt_inj, Int32.reduceToInt] at *; omega, by show v < 1000; simp only [Int32.lt_iff_toInt_lt, Int32.le_iff_toInt_le, ← Int32.toInt_inj, Int32.reduceToInt] at *; omega⟩ (by decide)
                rw [hR.crs.2.1]
                have hms : MS [8, 9, 16, 20] σ (z_u2 σ 8 1 v) := MS.rf.u2 (by decide)
                have ht := hR.vt
                have hcr := hR.crs
                refine fin (m := z_up μ 1 (upd (μ 1) 3 v)) ?_ (hR.yrs hms (eqC.up (by decide)) ⟨?_, ?_, ?_, fun p hp => ?_⟩ ⟨?_, ?_, ?_, fun p hp => ?_⟩)
                · exact (by
                  unfold aTrade
                  (repeat' split) <;> first | rfl | contradiction | (exfalso; simp only [Int32.lt_iff_toInt_lt, Int32.le_iff_toInt_le, ← Int32.toInt_inj, Int32.reduceToInt] at *; omega))
                · rw [upd_at]; rw [if_neg (by decide), u2_k (by decide)]; exact hcr.1
                · rw [upd_at]; exact u2_same
                · rw [upd_at]; rw [if_neg (by decide), u2_k (by decide)]; exact hcr.2.2.1
                · rw [u2_o (by decide), show nP (upd (μ 1) 3 v) = nP (μ 1) from rfl, pO_hi (Or.inl (by decide)) hp (by decide)]; exact hcr.2.2.2 p hp
                · exact ht.1
                · exact (by obtain ⟨q, hq, e⟩ := hq; exact ⟨q, by omega, by rw [upd_at]; exact e⟩)
                · exact ht.2.2.1
                · rw [show nP (upd (μ 1) 3 v) = nP (μ 1) from rfl] at hp ⊢
                  rw [pO_hi (Or.inl (by decide)) (by omega) (by decide)]; exact ht.2.2.2 p hp
          · skip
            refine z_aload_n F dX9_trade_29 0 rfl 30 rfl ?_
            refine z_iconst F dX9_trade_30 1 (by decide) 31 rfl ?_
            refine z_callVi F dX9_trade_31 m_334 iX9_fail jX9_fail rfl zc8 rfl (kX9_fail σ (k := 1) (by decide) (by decide)) rfl (by decide) (Nat.le_of_ble_eq_true rfl) 34 rfl (fun r31 s31 c31 => ?_)
            refine z_ri F dX9_trade_34 ?_
            obtain ⟨rfl, rfl⟩ := c31
            exact fin (by
              unfold aTrade
              (repeat' split) <;> first | rfl | contradiction | (exfalso; simp only [Int32.lt_iff_toInt_lt, Int32.le_iff_toInt_le, ← Int32.toInt_inj, Int32.reduceToInt] at *; omega)) (hR.fail (by decide) (by decide))
        · skip
          refine z_sipush F dX9_trade_18 999 (by decide) 21 rfl ?_
          refine z_goto F dX9_trade_21 26 (by decide) ?_
          refine z_icmp_le F dX9_trade_26 35 (by decide) 29 rfl (fun h26 => ?_) (fun h26 => ?_)
          · skip
            refine z_iload_n F dX9_trade_35 1 rfl 36 rfl ?_
            refine z_if_ne F dX9_trade_36 52 (by decide) 39 rfl (fun h36 => ?_) (fun h36 => ?_)
            · skip
              refine z_aload_n F dX9_trade_52 0 rfl 53 rfl ?_
              refine z_getR F zc8 dX9_trade_53 rfl 0 (by decide) (by decide) (.inl m_302) rfl (by decide) 56 rfl ?_
              refine z_getR F zc7 dX9_trade_56 rfl 1 (by decide) (by decide) (.inr ⟨_, m_202⟩) rfl (by decide) 59 rfl ?_
              refine z_getI F zc0 dX9_trade_59 rfl 2 (by decide) (by decide) (.inr ⟨_, m_152⟩) rfl 62 rfl ?_
              refine z_istore_n F dX9_trade_62 [(0, _), (1, _), (2, _), (3, _)] rfl (by decide) 63 rfl ?_
              refine z_iload_n F dX9_trade_63 1 rfl 64 rfl ?_
              refine z_if_ne F dX9_trade_64 81 (by decide) 67 rfl (fun h64 => ?_) (fun h64 => ?_)
              · skip
                refine z_aload_n F dX9_trade_81 0 rfl 82 rfl ?_
                refine z_getR F zc8 dX9_trade_82 rfl 0 (by decide) (by decide) (.inl m_302) rfl (by decide) 85 rfl ?_
                refine z_getR F zc7 dX9_trade_85 rfl 1 (by decide) (by decide) (.inr ⟨_, m_202⟩) rfl (by decide) 88 rfl ?_
                refine z_iload_n F dX9_trade_88 2 rfl 89 rfl ?_
                refine z_putI F zc0 dX9_trade_89 rfl 2 (by decide) (by decide) (.inr ⟨_, m_152⟩) rfl rfl z_pI 92 rfl ?_
                refine z_iload_n F dX9_trade_92 3 rfl 93 rfl ?_
                refine z_ri F dX9_trade_93 ?_
                have hq : ∃ q, q < 41 ∧ v = nI q := isP_of (n := 41) ⟨by show 0 ≤ v; simp only [Int32.lt_iff_toInt_lt, Int32.le_iff_toInt_le, ← Int32.toInt_inj, Int32.reduceToInt] at *; omega, by show v < 41; simp only [Int32.lt_iff_toInt_lt, Int32.le_iff_toInt_le, ← Int32.toInt_inj, Int32.reduceToInt] at *; omega⟩ (by decide)
                rw [hR.crs.2.2.1]
                have hms : MS [8, 9, 16, 20] σ (z_u2 σ 8 2 v) := MS.rf.u2 (by decide)
                have ht := hR.vt
                have hcr := hR.crs
                refine fin (m := z_up μ 1 (upd (μ 1) 4 v)) ?_ (hR.yrs hms (eqC.up (by decide)) ⟨?_, ?_, ?_, fun p hp => ?_⟩ ⟨?_, ?_, ?_, fun p hp => ?_⟩)
                · exact (by
                  unfold aTrade
                  (repeat' split) <;> first | rfl | contradiction | (exfalso; simp only [Int32.lt_iff_toInt_lt, Int32.le_iff_toInt_le, ← Int32.toInt_inj, Int32.reduceToInt] at *; omega))
                · rw [upd_at]; rw [if_neg (by decide), u2_k (by decide)]; exact hcr.1
                · rw [upd_at]; rw [if_neg (by decide), u2_k (by decide)]; exact hcr.2.1
                · rw [upd_at]; exact u2_same
                · rw [u2_o (by decide), show nP (upd (μ 1) 4 v) = nP (μ 1) from rfl, pO_hi (Or.inl (by decide)) hp (by decide)]; exact hcr.2.2.2 p hp
                · exact ht.1
                · exact ht.2.1
                · exact (by obtain ⟨q, hq, e⟩ := hq; exact ⟨q, by omega, by rw [upd_at]; exact e⟩)
                · rw [show nP (upd (μ 1) 4 v) = nP (μ 1) from rfl] at hp ⊢
                  rw [pO_hi (Or.inl (by decide)) (by omega) (by decide)]; exact ht.2.2.2 p hp
              · skip
                refine z_aload_n F dX9_trade_67 0 rfl 68 rfl ?_
                refine z_getR F zc8 dX9_trade_68 rfl 0 (by decide) (by decide) (.inl m_302) rfl (by decide) 71 rfl ?_
                refine z_getR F zc7 dX9_trade_71 rfl 1 (by decide) (by decide) (.inr ⟨_, m_202⟩) rfl (by decide) 74 rfl ?_
                refine z_iload_n F dX9_trade_74 2 rfl 75 rfl ?_
                refine z_putI F zc0 dX9_trade_75 rfl 1 (by decide) (by decide) (.inr ⟨_, m_149⟩) rfl rfl z_pI 78 rfl ?_
                refine z_goto F dX9_trade_78 92 (by decide) ?_
                refine z_iload_n F dX9_trade_92 3 rfl 93 rfl ?_
                refine z_ri F dX9_trade_93 ?_
                exact absurd h64 h36
            · skip
              refine z_aload_n F dX9_trade_39 0 rfl 40 rfl ?_
              refine z_getR F zc8 dX9_trade_40 rfl 0 (by decide) (by decide) (.inl m_302) rfl (by decide) 43 rfl ?_
              refine z_getR F zc7 dX9_trade_43 rfl 1 (by decide) (by decide) (.inr ⟨_, m_202⟩) rfl (by decide) 46 rfl ?_
              refine z_getI F zc0 dX9_trade_46 rfl 1 (by decide) (by decide) (.inr ⟨_, m_149⟩) rfl 49 rfl ?_
              refine z_goto F dX9_trade_49 62 (by decide) ?_
              refine z_istore_n F dX9_trade_62 [(0, _), (1, _), (2, _), (3, _)] rfl (by decide) 63 rfl ?_
              refine z_iload_n F dX9_trade_63 1 rfl 64 rfl ?_
              refine z_if_ne F dX9_trade_64 81 (by decide) 67 rfl (fun h64 => ?_) (fun h64 => ?_)
              · skip
                refine z_aload_n F dX9_trade_81 0 rfl 82 rfl ?_
                refine z_getR F zc8 dX9_trade_82 rfl 0 (by decide) (by decide) (.inl m_302) rfl (by decide) 85 rfl ?_
                refine z_getR F zc7 dX9_trade_85 rfl 1 (by decide) (by decide) (.inr ⟨_, m_202⟩) rfl (by decide) 88 rfl ?_
                refine z_iload_n F dX9_trade_88 2 rfl 89 rfl ?_
                refine z_putI F zc0 dX9_trade_89 rfl 2 (by decide) (by decide) (.inr ⟨_, m_152⟩) rfl rfl z_pI 92 rfl ?_
                refine z_iload_n F dX9_trade_92 3 rfl 93 rfl ?_
                refine z_ri F dX9_trade_93 ?_
                exact absurd h36 h64
              · skip
                refine z_aload_n F dX9_trade_67 0 rfl 68 rfl ?_
                refine z_getR F zc8 dX9_trade_68 rfl 0 (by decide) (by decide) (.inl m_302) rfl (by decide) 71 rfl ?_
                refine z_getR F zc7 dX9_trade_71 rfl 1 (by decide) (by decide) (.inr ⟨_, m_202⟩) rfl (by decide) 74 rfl ?_
                refine z_iload_n F dX9_trade_74 2 rfl 75 rfl ?_
                refine z_putI F zc0 dX9_trade_75 rfl 1 (by decide) (by decide) (.inr ⟨_, m_149⟩) rfl rfl z_pI 78 rfl ?_
                refine z_goto F dX9_trade_78 92 (by decide) ?_
                refine z_iload_n F dX9_trade_92 3 rfl 93 rfl ?_
                refine z_ri F dX9_trade_93 ?_
                have hq : ∃ q, q < 1000 ∧ v = nI q := isP_of (n := 1000) ⟨by show 0 ≤ v; simp only [Int32.lt_iff_toInt_lt, Int32.le_iff_toInt_le, ← Int32.toInt_inj, Int32.reduceToInt] at *; omega, by show v < 1000; simp only [Int32.lt_iff_toInt_lt, Int32.le_iff_toInt_le, ← Int32.toInt_inj, Int32.reduceToInt] at *; omega⟩ (by decide)
                rw [hR.crs.2.1]
                have hms : MS [8, 9, 16, 20] σ (z_u2 σ 8 1 v) := MS.rf.u2 (by decide)
                have ht := hR.vt
                have hcr := hR.crs
                refine fin (m := z_up μ 1 (upd (μ 1) 3 v)) ?_ (hR.yrs hms (eqC.up (by decide)) ⟨?_, ?_, ?_, fun p hp => ?_⟩ ⟨?_, ?_, ?_, fun p hp => ?_⟩)
                · exact (by
                  unfold aTrade
                  (repeat' split) <;> first | rfl | contradiction | (exfalso; simp only [Int32.lt_iff_toInt_lt, Int32.le_iff_toInt_le, ← Int32.toInt_inj, Int32.reduceToInt] at *; omega))
                · rw [upd_at]; rw [if_neg (by decide), u2_k (by decide)]; exact hcr.1
                · rw [upd_at]; exact u2_same
                · rw [upd_at]; rw [if_neg (by decide), u2_k (by decide)]; exact hcr.2.2.1
                · rw [u2_o (by decide), show nP (upd (μ 1) 3 v) = nP (μ 1) from rfl, pO_hi (Or.inl (by decide)) hp (by decide)]; exact hcr.2.2.2 p hp
                · exact ht.1
                · exact (by obtain ⟨q, hq, e⟩ := hq; exact ⟨q, by omega, by rw [upd_at]; exact e⟩)
                · exact ht.2.2.1
                · rw [show nP (upd (μ 1) 3 v) = nP (μ 1) from rfl] at hp ⊢
                  rw [pO_hi (Or.inl (by decide)) (by omega) (by decide)]; exact ht.2.2.2 p hp
          · skip
            refine z_aload_n F dX9_trade_29 0 rfl 30 rfl ?_
            refine z_iconst F dX9_trade_30 1 (by decide) 31 rfl ?_
            refine z_callVi F dX9_trade_31 m_334 iX9_fail jX9_fail rfl zc8 rfl (kX9_fail σ (k := 1) (by decide) (by decide)) rfl (by decide) (Nat.le_of_ble_eq_true rfl) 34 rfl (fun r31 s31 c31 => ?_)
            refine z_ri F dX9_trade_34 ?_
            obtain ⟨rfl, rfl⟩ := c31
            exact fin (by
              unfold aTrade
              (repeat' split) <;> first | rfl | contradiction | (exfalso; simp only [Int32.lt_iff_toInt_lt, Int32.le_iff_toInt_le, ← Int32.toInt_inj, Int32.reduceToInt] at *; omega)) (hR.fail (by decide) (by decide))
set_option maxHeartbeats 400000 in
set_option maxRecDepth 10000 in
theorem kX9_year {l : Launch} {E : z_E} (σ : z_M) {μ : z_M} (hR : Rel σ μ) (v : Int32)  : z_C l E shC 1 yX9_year cX9_year 3 (some FieldType.int) [.ref (z_ad E 0), .int v] σ (z_Pi (fun rv σ' => rv = (aYear μ v).1 ∧ Rel σ' (aYear μ v).2)) := by
  refine z_intro iX9_year (Nat.le_of_ble_eq_true rfl) (fun K F => ?_)
  have hc : σ 2 0 = μ 1 2 := hR.1.1.1
  have hn : μ 1 2 = nI (nP (μ 1)) := hR.2.1.1.1
  have h8 : nP (μ 1) ≤ 8 := hR.n8
  refine z_iload_n F dX9_year_0 1 rfl 1 rfl ?_
  refine z_if_lt F dX9_year_1 11 (by decide) 4 rfl (fun h1 => ?_) (fun h1 => ?_)
  · skip
    refine z_aload_n F dX9_year_11 0 rfl 12 rfl ?_
    refine z_iconst F dX9_year_12 1 (by decide) 13 rfl ?_
    refine z_callVi F dX9_year_13 m_334 iX9_fail jX9_fail rfl zc8 rfl (kX9_fail σ (k := 1) (by decide) (by decide)) rfl (by decide) (Nat.le_of_ble_eq_true rfl) 16 rfl (fun r13 s13 c13 => ?_)
    refine z_ri F dX9_year_16 ?_
    obtain ⟨rfl, rfl⟩ := c13
    exact fin (by
      unfold aYear
      (repeat' split) <;> first | rfl | contradiction | (exfalso; simp only [Int32.lt_iff_toInt_lt, Int32.le_iff_toInt_le, ← Int32.toInt_inj, Int32.reduceToInt] at *; omega)) (hR.fail (by decide) (by decide))
  · skip
    refine z_iload_n F dX9_year_4 1 rfl 5 rfl ?_
    refine z_sipush F dX9_year_5 9999 (by decide) 8 rfl ?_
    refine z_icmp_le F dX9_year_8 17 (by decide) 11 rfl (fun h8 => ?_) (fun h8 => ?_)
    · skip
      refine z_aload_n F dX9_year_17 0 rfl 18 rfl ?_
      refine z_getR F zc8 dX9_year_18 rfl 0 (by decide) (by decide) (.inl m_302) rfl (by decide) 21 rfl ?_
      refine z_getR F zc7 dX9_year_21 rfl 1 (by decide) (by decide) (.inr ⟨_, m_202⟩) rfl (by decide) 24 rfl ?_
      refine z_getI F zc0 dX9_year_24 rfl 0 (by decide) (by decide) (.inr ⟨_, m_146⟩) rfl 27 rfl ?_
      refine z_istore_n F dX9_year_27 [(0, _), (1, _), (2, _)] rfl (by decide) 28 rfl ?_
      refine z_aload_n F dX9_year_28 0 rfl 29 rfl ?_
      refine z_getR F zc8 dX9_year_29 rfl 0 (by decide) (by decide) (.inl m_302) rfl (by decide) 32 rfl ?_
      refine z_getR F zc7 dX9_year_32 rfl 1 (by decide) (by decide) (.inr ⟨_, m_202⟩) rfl (by decide) 35 rfl ?_
      refine z_iload_n F dX9_year_35 1 rfl 36 rfl ?_
      refine z_putI F zc0 dX9_year_36 rfl 0 (by decide) (by decide) (.inr ⟨_, m_146⟩) rfl rfl z_pI 39 rfl ?_
      refine z_iload_n F dX9_year_39 2 rfl 40 rfl ?_
      refine z_ri F dX9_year_40 ?_
      have hq : ∃ q, q < 10000 ∧ v = nI q := isP_of (n := 10000) ⟨by show 0 ≤ v; simp only [Int32.lt_iff_toInt_lt, Int32.le_iff_toInt_le, ← Int32.toInt_inj, Int32.reduceToInt] at *; omega, by show v < 10000; simp only [Int32.lt_iff_toInt_lt, Int32.le_iff_toInt_le, ← Int32.toInt_inj, Int32.reduceToInt] at *; omega⟩ (by decide)
      rw [hR.crs.1]
      have hms : MS [8, 9, 16, 20] σ (z_u2 σ 8 0 v) := MS.rf.u2 (by decide)
      have ht := hR.vt
      have hcr := hR.crs
      refine fin (m := z_up μ 1 (upd (μ 1) 0 v)) ?_ (hR.yrs hms (eqC.up (by decide)) ⟨?_, ?_, ?_, fun p hp => ?_⟩ ⟨?_, ?_, ?_, fun p hp => ?_⟩)
      · exact (by
        unfold aYear
        (repeat' split) <;> first | rfl | contradiction | (exfalso; simp only [Int32.lt_iff_toInt_lt, Int32.le_iff_toInt_le, ← Int32.toInt_inj, Int32.reduceToInt] at *; omega))
      · rw [upd_at]; exact u2_same
      · rw [upd_at]; rw [if_neg (by decide), u2_k (by decide)]; exact hcr.2.1
      · rw [upd_at]; rw [if_neg (by decide), u2_k (by decide)]; exact hcr.2.2.1
      · rw [u2_o (by decide), show nP (upd (μ 1) 0 v) = nP (μ 1) from rfl, pO_hi (Or.inl (by decide)) hp (by decide)]; exact hcr.2.2.2 p hp
      · exact (by obtain ⟨q, hq, e⟩ := hq; exact ⟨q, by omega, by rw [upd_at]; exact e⟩)
      · exact ht.2.1
      · exact ht.2.2.1
      · rw [show nP (upd (μ 1) 0 v) = nP (μ 1) from rfl] at hp ⊢
        rw [pO_hi (Or.inl (by decide)) (by omega) (by decide)]; exact ht.2.2.2 p hp
    · skip
      refine z_aload_n F dX9_year_11 0 rfl 12 rfl ?_
      refine z_iconst F dX9_year_12 1 (by decide) 13 rfl ?_
      refine z_callVi F dX9_year_13 m_334 iX9_fail jX9_fail rfl zc8 rfl (kX9_fail σ (k := 1) (by decide) (by decide)) rfl (by decide) (Nat.le_of_ble_eq_true rfl) 16 rfl (fun r13 s13 c13 => ?_)
      refine z_ri F dX9_year_16 ?_
      obtain ⟨rfl, rfl⟩ := c13
      exact fin (by
        unfold aYear
        (repeat' split) <;> first | rfl | contradiction | (exfalso; simp only [Int32.lt_iff_toInt_lt, Int32.le_iff_toInt_le, ← Int32.toInt_inj, Int32.reduceToInt] at *; omega)) (hR.fail (by decide) (by decide))
set_option maxHeartbeats 400000 in
set_option maxRecDepth 10000 in
theorem kX9_seed {l : Launch} {E : z_E} (σ : z_M) {μ : z_M} (hR : Rel σ μ) (v : Int32)  : z_C l E shC 0 yX9_seed cX9_seed 3 (some FieldType.int) [.ref (z_ad E 0), .int v] σ (z_Pi (fun rv σ' => rv = (aSeed μ v).1 ∧ Rel σ' (aSeed μ v).2)) := by
  refine z_intro iX9_seed (Nat.le_of_ble_eq_true rfl) (fun K F => ?_)
  have hc : σ 2 0 = μ 1 2 := hR.1.1.1
  have hn : μ 1 2 = nI (nP (μ 1)) := hR.2.1.1.1
  have h8 : nP (μ 1) ≤ 8 := hR.n8
  refine z_aload_n F dX9_seed_0 0 rfl 1 rfl ?_
  refine z_getR F zc8 dX9_seed_1 rfl 0 (by decide) (by decide) (.inl m_302) rfl (by decide) 4 rfl ?_
  refine z_getI F zc7 dX9_seed_4 rfl 7 (by decide) (by decide) (.inr ⟨_, m_214⟩) rfl 7 rfl ?_
  refine z_istore_n F dX9_seed_7 [(0, _), (1, _), (2, _)] rfl (by decide) 8 rfl ?_
  refine z_aload_n F dX9_seed_8 0 rfl 9 rfl ?_
  refine z_getR F zc8 dX9_seed_9 rfl 0 (by decide) (by decide) (.inl m_302) rfl (by decide) 12 rfl ?_
  refine z_iload_n F dX9_seed_12 1 rfl 13 rfl ?_
  refine z_putI F zc7 dX9_seed_13 rfl 7 (by decide) (by decide) (.inr ⟨_, m_214⟩) rfl rfl z_pI 16 rfl ?_
  refine z_iload_n F dX9_seed_16 2 rfl 17 rfl ?_
  refine z_ri F dX9_seed_17 ?_
  rw [show σ 1 7 = μ 1 1 from hR.1.2.2.2.2.2.2.2.2]
  exact fin rfl (hR.z v)
set_option maxHeartbeats 400000 in
set_option maxRecDepth 10000 in
theorem kX9_untell {l : Launch} {E : z_E} (σ : z_M) {μ : z_M} (hR : Rel σ μ) (u : Int32)  : z_C l E shC 2 yX9_untell cX9_untell 3 (some FieldType.int) [.ref (z_ad E 0), .int u] σ (z_Pi (fun rv σ' => rv = (aUntell μ u).1 ∧ Rel σ' (aUntell μ u).2)) := by
  refine z_intro iX9_untell (Nat.le_of_ble_eq_true rfl) (fun K F => ?_)
  have hc : σ 2 0 = μ 1 2 := hR.1.1.1
  have hn : μ 1 2 = nI (nP (μ 1)) := hR.2.1.1.1
  have h8 : nP (μ 1) ≤ 8 := hR.n8
  refine z_iload_n F dX9_untell_0 1 rfl 1 rfl ?_
  refine z_callSp F dX9_untell_1 m_508 iX9_isUse m_509 rfl (kX9_isUse σ u) rfl (by decide) (Nat.le_of_ble_eq_true rfl) 4 rfl ?_
  refine z_if_ne F dX9_untell_4 13 (by decide) 7 rfl (fun h4 => ?_) (fun h4 => ?_)
  · skip
    have h4 := bI1.mp h4
    obtain ⟨q, hq, rfl⟩ : ∃ q, q < 2 ∧ u = nI q := isP_of (n := 2) h4 (by decide)
    rcases (show q = 0 ∨ q = 1 by omega) with rfl | rfl
    · skip
      refine z_aload_n F dX9_untell_13 0 rfl 14 rfl ?_
      refine z_getR F zc8 dX9_untell_14 rfl 0 (by decide) (by decide) (.inl m_302) rfl (by decide) 17 rfl ?_
      refine z_getR F zc7 dX9_untell_17 rfl 4 (by decide) (by decide) (.inr ⟨_, m_208⟩) rfl (by decide) 20 rfl ?_
      refine z_iload_n F dX9_untell_20 1 rfl 21 rfl ?_
      refine z_aaldT F dX9_untell_21 rfl (show vp_in (nI 0) 2 from vp_in_nI (by decide) (by decide)) rfl 22 rfl ?_
      refine z_callVp F dX9_untell_22 m_644 iX6_isGiven jX6_isGiven rfl zc5 rfl (kX6_isGivenA σ (r := μ 1) hR.1.2.2.1 hR.2.1.2.1) rfl (by decide) (Nat.le_of_ble_eq_true rfl) 25 rfl ?_
      refine z_if_eq F dX9_untell_25 32 (by decide) 28 rfl (fun h25 => ?_) (fun h25 => ?_)
      · skip
        have h25 := bI0.mp h25
        refine z_iconst F dX9_untell_32 0 (by decide) 33 rfl ?_
        refine z_istore_n F dX9_untell_33 [(0, _), (1, _), (2, _)] rfl (by decide) 34 rfl ?_
        refine z_aload_n F dX9_untell_34 0 rfl 35 rfl ?_
        refine z_getR F zc8 dX9_untell_35 rfl 0 (by decide) (by decide) (.inl m_302) rfl (by decide) 38 rfl ?_
        refine z_getR F zc7 dX9_untell_38 rfl 4 (by decide) (by decide) (.inr ⟨_, m_208⟩) rfl (by decide) 41 rfl ?_
        refine z_iload_n F dX9_untell_41 1 rfl 42 rfl ?_
        refine z_aaldT F dX9_untell_42 rfl (show vp_in (nI 0) 2 from vp_in_nI (by decide) (by decide)) rfl 43 rfl ?_
        refine z_getR F zc5 dX9_untell_43 rfl 0 (by decide) (by decide) (.inr ⟨_, m_190⟩) rfl (by decide) 46 rfl ?_
        refine z_callVu F dX9_untell_46 m_631 iX4_clear jX4_clear rfl zc3 rfl (kX4_clear _ (S := shC) (r := 14) (a := 15) (cap := 60) rfl rfl (by decide)) rfl (by decide) (Nat.le_of_ble_eq_true rfl) 49 rfl ?_
        refine z_iload_n F dX9_untell_49 2 rfl 50 rfl ?_
        refine z_ri F dX9_untell_50 ?_
        have hT := hR.1.2.2.1
        have hV := hR.2.1.2.1
        have e3 : (0 < μ 1 143) = (0 < cL (μ 1) 0) := by
          rw [show μ 1 143 = nI (cL (μ 1) 0) from hV.1]
          exact propext ⟨fun z => (nI_ltI (a := 0) (by decide) (by have := hV.2.1; omega)).mp z, fun z => nI_lt (a := 0) z (by have := hV.2.1; omega)⟩
        have hms : MS [14] σ (z_u2 σ 14 1 0) := MS.rf.u2 (by decide)
        have e5 : cL (upd (μ 1) 143 0) 0 = 0 := rfl
        refine fin (m := z_up μ 1 (upd (μ 1) 143 0)) ?_ (hR.txt hms (by decide) (fun k hk => by rw [upd_at, if_neg (by omega)]) ⟨⟨?_, fun k hk => ?_⟩, ?_, ?_, fun k hk => ?_, fun hk => ?_⟩ (hR.ktx1 hms (by decide) (by decide) (fun k a b => by rw [upd_at, if_neg (by omega)])))
        · show aUntell μ (nI 0) = _
          unfold aUntell
          rw [if_pos (by decide), show (nI 0).toNatClampNeg = 0 from nI_clamp (by decide)]
          show (if 0 < μ 1 143 then (1 : Int32) else 0, _) = _
          rw [if_neg (fun z => h25 (e3 ▸ z))]
        · exact u2_same
        · rw [e5] at hk; omega
        · exact rfl
        · rw [e5]; decide
        · rw [e5] at hk; omega
        · rw [e5] at hk; omega
      · skip
        have h25 := bI1.mp h25
        refine z_iconst F dX9_untell_28 1 (by decide) 29 rfl ?_
        refine z_goto F dX9_untell_29 33 (by decide) ?_
        refine z_istore_n F dX9_untell_33 [(0, _), (1, _), (2, _)] rfl (by decide) 34 rfl ?_
        refine z_aload_n F dX9_untell_34 0 rfl 35 rfl ?_
        refine z_getR F zc8 dX9_untell_35 rfl 0 (by decide) (by decide) (.inl m_302) rfl (by decide) 38 rfl ?_
        refine z_getR F zc7 dX9_untell_38 rfl 4 (by decide) (by decide) (.inr ⟨_, m_208⟩) rfl (by decide) 41 rfl ?_
        refine z_iload_n F dX9_untell_41 1 rfl 42 rfl ?_
        refine z_aaldT F dX9_untell_42 rfl (show vp_in (nI 0) 2 from vp_in_nI (by decide) (by decide)) rfl 43 rfl ?_
        refine z_getR F zc5 dX9_untell_43 rfl 0 (by decide) (by decide) (.inr ⟨_, m_190⟩) rfl (by decide) 46 rfl ?_
        refine z_callVu F dX9_untell_46 m_631 iX4_clear jX4_clear rfl zc3 rfl (kX4_clear _ (S := shC) (r := 14) (a := 15) (cap := 60) rfl rfl (by decide)) rfl (by decide) (Nat.le_of_ble_eq_true rfl) 49 rfl ?_
        refine z_iload_n F dX9_untell_49 2 rfl 50 rfl ?_
        refine z_ri F dX9_untell_50 ?_
        have hT := hR.1.2.2.1
        have hV := hR.2.1.2.1
        have e3 : (0 < μ 1 143) = (0 < cL (μ 1) 0) := by
          rw [show μ 1 143 = nI (cL (μ 1) 0) from hV.1]
          exact propext ⟨fun z => (nI_ltI (a := 0) (by decide) (by have := hV.2.1; omega)).mp z, fun z => nI_lt (a := 0) z (by have := hV.2.1; omega)⟩
        have hms : MS [14] σ (z_u2 σ 14 1 0) := MS.rf.u2 (by decide)
        have e5 : cL (upd (μ 1) 143 0) 0 = 0 := rfl
        refine fin (m := z_up μ 1 (upd (μ 1) 143 0)) ?_ (hR.txt hms (by decide) (fun k hk => by rw [upd_at, if_neg (by omega)]) ⟨⟨?_, fun k hk => ?_⟩, ?_, ?_, fun k hk => ?_, fun hk => ?_⟩ (hR.ktx1 hms (by decide) (by decide) (fun k a b => by rw [upd_at, if_neg (by omega)])))
        · show aUntell μ (nI 0) = _
          unfold aUntell
          rw [if_pos (by decide), show (nI 0).toNatClampNeg = 0 from nI_clamp (by decide)]
          show (if 0 < μ 1 143 then (1 : Int32) else 0, _) = _
          rw [if_pos (e3 ▸ h25)]
        · exact u2_same
        · rw [e5] at hk; omega
        · exact rfl
        · rw [e5]; decide
        · rw [e5] at hk; omega
        · rw [e5] at hk; omega
    · skip
      refine z_aload_n F dX9_untell_13 0 rfl 14 rfl ?_
      refine z_getR F zc8 dX9_untell_14 rfl 0 (by decide) (by decide) (.inl m_302) rfl (by decide) 17 rfl ?_
      refine z_getR F zc7 dX9_untell_17 rfl 4 (by decide) (by decide) (.inr ⟨_, m_208⟩) rfl (by decide) 20 rfl ?_
      refine z_iload_n F dX9_untell_20 1 rfl 21 rfl ?_
      refine z_aaldT F dX9_untell_21 rfl (show vp_in (nI 1) 2 from vp_in_nI (by decide) (by decide)) rfl 22 rfl ?_
      refine z_callVp F dX9_untell_22 m_644 iX6_isGiven jX6_isGiven rfl zc5 rfl (kX6_isGivenB σ (r := μ 1) hR.1.2.2.2.1 hR.2.1.2.2.1) rfl (by decide) (Nat.le_of_ble_eq_true rfl) 25 rfl ?_
      refine z_if_eq F dX9_untell_25 32 (by decide) 28 rfl (fun h25 => ?_) (fun h25 => ?_)
      · skip
        have h25 := bI0.mp h25
        refine z_iconst F dX9_untell_32 0 (by decide) 33 rfl ?_
        refine z_istore_n F dX9_untell_33 [(0, _), (1, _), (2, _)] rfl (by decide) 34 rfl ?_
        refine z_aload_n F dX9_untell_34 0 rfl 35 rfl ?_
        refine z_getR F zc8 dX9_untell_35 rfl 0 (by decide) (by decide) (.inl m_302) rfl (by decide) 38 rfl ?_
        refine z_getR F zc7 dX9_untell_38 rfl 4 (by decide) (by decide) (.inr ⟨_, m_208⟩) rfl (by decide) 41 rfl ?_
        refine z_iload_n F dX9_untell_41 1 rfl 42 rfl ?_
        refine z_aaldT F dX9_untell_42 rfl (show vp_in (nI 1) 2 from vp_in_nI (by decide) (by decide)) rfl 43 rfl ?_
        refine z_getR F zc5 dX9_untell_43 rfl 0 (by decide) (by decide) (.inr ⟨_, m_190⟩) rfl (by decide) 46 rfl ?_
        refine z_callVu F dX9_untell_46 m_631 iX4_clear jX4_clear rfl zc3 rfl (kX4_clear _ (S := shC) (r := 18) (a := 19) (cap := 60) rfl rfl (by decide)) rfl (by decide) (Nat.le_of_ble_eq_true rfl) 49 rfl ?_
        refine z_iload_n F dX9_untell_49 2 rfl 50 rfl ?_
        refine z_ri F dX9_untell_50 ?_
        have hT := hR.1.2.2.2.1
        have hV := hR.2.1.2.2.1
        have e3 : (0 < μ 1 264) = (0 < cL (μ 1) 1) := by
          rw [show μ 1 264 = nI (cL (μ 1) 1) from hV.1]
          exact propext ⟨fun z => (nI_ltI (a := 0) (by decide) (by have := hV.2.1; omega)).mp z, fun z => nI_lt (a := 0) z (by have := hV.2.1; omega)⟩
        have hms : MS [18] σ (z_u2 σ 18 1 0) := MS.rf.u2 (by decide)
        have e5 : cL (upd (μ 1) 264 0) 1 = 0 := rfl
        refine fin (m := z_up μ 1 (upd (μ 1) 264 0)) ?_ (hR.txt hms (by decide) (fun k hk => by rw [upd_at, if_neg (by omega)]) (hR.ktx0 hms (by decide) (by decide) (fun k a b => by rw [upd_at, if_neg (by omega)])) ⟨⟨?_, fun k hk => ?_⟩, ?_, ?_, fun k hk => ?_, fun hk => ?_⟩)
        · show aUntell μ (nI 1) = _
          unfold aUntell
          rw [if_pos (by decide), show (nI 1).toNatClampNeg = 1 from nI_clamp (by decide)]
          show (if 0 < μ 1 264 then (1 : Int32) else 0, _) = _
          rw [if_neg (fun z => h25 (e3 ▸ z))]
        · exact u2_same
        · rw [e5] at hk; omega
        · exact rfl
        · rw [e5]; decide
        · rw [e5] at hk; omega
        · rw [e5] at hk; omega
      · skip
        have h25 := bI1.mp h25
        refine z_iconst F dX9_untell_28 1 (by decide) 29 rfl ?_
        refine z_goto F dX9_untell_29 33 (by decide) ?_
        refine z_istore_n F dX9_untell_33 [(0, _), (1, _), (2, _)] rfl (by decide) 34 rfl ?_
        refine z_aload_n F dX9_untell_34 0 rfl 35 rfl ?_
        refine z_getR F zc8 dX9_untell_35 rfl 0 (by decide) (by decide) (.inl m_302) rfl (by decide) 38 rfl ?_
        refine z_getR F zc7 dX9_untell_38 rfl 4 (by decide) (by decide) (.inr ⟨_, m_208⟩) rfl (by decide) 41 rfl ?_
        refine z_iload_n F dX9_untell_41 1 rfl 42 rfl ?_
        refine z_aaldT F dX9_untell_42 rfl (show vp_in (nI 1) 2 from vp_in_nI (by decide) (by decide)) rfl 43 rfl ?_
        refine z_getR F zc5 dX9_untell_43 rfl 0 (by decide) (by decide) (.inr ⟨_, m_190⟩) rfl (by decide) 46 rfl ?_
        refine z_callVu F dX9_untell_46 m_631 iX4_clear jX4_clear rfl zc3 rfl (kX4_clear _ (S := shC) (r := 18) (a := 19) (cap := 60) rfl rfl (by decide)) rfl (by decide) (Nat.le_of_ble_eq_true rfl) 49 rfl ?_
        refine z_iload_n F dX9_untell_49 2 rfl 50 rfl ?_
        refine z_ri F dX9_untell_50 ?_
        have hT := hR.1.2.2.2.1
        have hV := hR.2.1.2.2.1
        have e3 : (0 < μ 1 264) = (0 < cL (μ 1) 1) := by
          rw [show μ 1 264 = nI (cL (μ 1) 1) from hV.1]
          exact propext ⟨fun z => (nI_ltI (a := 0) (by decide) (by have := hV.2.1; omega)).mp z, fun z => nI_lt (a := 0) z (by have := hV.2.1; omega)⟩
        have hms : MS [18] σ (z_u2 σ 18 1 0) := MS.rf.u2 (by decide)
        have e5 : cL (upd (μ 1) 264 0) 1 = 0 := rfl
        refine fin (m := z_up μ 1 (upd (μ 1) 264 0)) ?_ (hR.txt hms (by decide) (fun k hk => by rw [upd_at, if_neg (by omega)]) (hR.ktx0 hms (by decide) (by decide) (fun k a b => by rw [upd_at, if_neg (by omega)])) ⟨⟨?_, fun k hk => ?_⟩, ?_, ?_, fun k hk => ?_, fun hk => ?_⟩)
        · show aUntell μ (nI 1) = _
          unfold aUntell
          rw [if_pos (by decide), show (nI 1).toNatClampNeg = 1 from nI_clamp (by decide)]
          show (if 0 < μ 1 264 then (1 : Int32) else 0, _) = _
          rw [if_pos (e3 ▸ h25)]
        · exact u2_same
        · rw [e5] at hk; omega
        · exact rfl
        · rw [e5]; decide
        · rw [e5] at hk; omega
        · rw [e5] at hk; omega
  · skip
    have h4 := bI0.mp h4
    refine z_aload_n F dX9_untell_7 0 rfl 8 rfl ?_
    refine z_iconst F dX9_untell_8 1 (by decide) 9 rfl ?_
    refine z_callVi F dX9_untell_9 m_334 iX9_fail jX9_fail rfl zc8 rfl (kX9_fail σ (k := 1) (by decide) (by decide)) rfl (by decide) (Nat.le_of_ble_eq_true rfl) 12 rfl (fun r9 s9 c9 => ?_)
    refine z_ri F dX9_untell_12 ?_
    obtain ⟨rfl, rfl⟩ := c9
    exact fin (by
      unfold aUntell
      (repeat' split) <;> first | rfl | contradiction | (exfalso; simp only [Int32.lt_iff_toInt_lt, Int32.le_iff_toInt_le, ← Int32.toInt_inj, Int32.reduceToInt] at *; omega)) (hR.fail (by decide) (by decide))
set_option maxHeartbeats 400000 in
set_option maxRecDepth 10000 in
theorem kX9_law {l : Launch} {E : z_E} (σ : z_M) {μ : z_M} (hR : Rel σ μ) (u : Int32) (x : Int32) (y : Int32) (z : Int32)  : z_C l E shC 3 yX9_law cX9_law 5 (some FieldType.int) [.ref (z_ad E 0), .int u, .int x, .int y, .int z] σ (z_Pi (fun rv σ' => rv = (aLaw μ u x y z).1 ∧ Rel σ' (aLaw μ u x y z).2)) := by
  refine z_intro iX9_law (Nat.le_of_ble_eq_true rfl) (fun K F => ?_)
  have hc : σ 2 0 = μ 1 2 := hR.1.1.1
  have hn : μ 1 2 = nI (nP (μ 1)) := hR.2.1.1.1
  have h8 : nP (μ 1) ≤ 8 := hR.n8
  refine z_iload_n F dX9_law_0 1 rfl 1 rfl ?_
  refine z_callSp F dX9_law_1 m_508 iX9_isUse m_509 rfl (kX9_isUse σ u) rfl (by decide) (Nat.le_of_ble_eq_true rfl) 4 rfl ?_
  refine z_if_ne F dX9_law_4 13 (by decide) 7 rfl (fun h4 => ?_) (fun h4 => ?_)
  · skip
    have h4 := bI1.mp h4
    obtain ⟨q, hq, rfl⟩ : ∃ q, q < 2 ∧ u = nI q := isP_of (n := 2) h4 (by decide)
    rcases (show q = 0 ∨ q = 1 by omega) with rfl | rfl
    · skip
      refine z_aload_n F dX9_law_13 0 rfl 14 rfl ?_
      refine z_getR F zc8 dX9_law_14 rfl 0 (by decide) (by decide) (.inl m_302) rfl (by decide) 17 rfl ?_
      refine z_iload_n F dX9_law_17 1 rfl 18 rfl ?_
      refine z_iload_n F dX9_law_18 2 rfl 19 rfl ?_
      refine z_iload_n F dX9_law_19 3 rfl 20 rfl ?_
      refine z_iload F dX9_law_20 4 rfl 22 rfl ?_
      refine z_callVi F dX9_law_22 m_649 iX8_gives jX8_gives rfl zc7 rfl (kX8_givesA σ (r := μ 1) hR.1.2.2.1 hR.2.1.2.1 x y z) rfl (by decide) (Nat.le_of_ble_eq_true rfl) 25 rfl (fun r22 s22 c22 => ?_)
      refine z_ri F dX9_law_25 ?_
      obtain ⟨rfl, m22⟩ := c22
      refine fin (m := μ) ?_ (hR.gar m22 (by decide) (by decide))
      show aLaw μ (nI 0) x y z = _
      unfold aLaw
      rw [if_pos (by decide), show (nI 0).toNatClampNeg = 0 from nI_clamp (by decide)]
    · skip
      refine z_aload_n F dX9_law_13 0 rfl 14 rfl ?_
      refine z_getR F zc8 dX9_law_14 rfl 0 (by decide) (by decide) (.inl m_302) rfl (by decide) 17 rfl ?_
      refine z_iload_n F dX9_law_17 1 rfl 18 rfl ?_
      refine z_iload_n F dX9_law_18 2 rfl 19 rfl ?_
      refine z_iload_n F dX9_law_19 3 rfl 20 rfl ?_
      refine z_iload F dX9_law_20 4 rfl 22 rfl ?_
      refine z_callVi F dX9_law_22 m_649 iX8_gives jX8_gives rfl zc7 rfl (kX8_givesB σ (r := μ 1) hR.1.2.2.2.1 hR.2.1.2.2.1 x y z) rfl (by decide) (Nat.le_of_ble_eq_true rfl) 25 rfl (fun r22 s22 c22 => ?_)
      refine z_ri F dX9_law_25 ?_
      obtain ⟨rfl, m22⟩ := c22
      refine fin (m := μ) ?_ (hR.gar m22 (by decide) (by decide))
      show aLaw μ (nI 1) x y z = _
      unfold aLaw
      rw [if_pos (by decide), show (nI 1).toNatClampNeg = 1 from nI_clamp (by decide)]
  · skip
    have h4 := bI0.mp h4
    refine z_aload_n F dX9_law_7 0 rfl 8 rfl ?_
    refine z_iconst F dX9_law_8 1 (by decide) 9 rfl ?_
    refine z_callVi F dX9_law_9 m_334 iX9_fail jX9_fail rfl zc8 rfl (kX9_fail σ (k := 1) (by decide) (by decide)) rfl (by decide) (Nat.le_of_ble_eq_true rfl) 12 rfl (fun r9 s9 c9 => ?_)
    refine z_ri F dX9_law_12 ?_
    obtain ⟨rfl, rfl⟩ := c9
    exact fin (by
      unfold aLaw
      (repeat' split) <;> first | rfl | contradiction | (exfalso; simp only [Int32.lt_iff_toInt_lt, Int32.le_iff_toInt_le, ← Int32.toInt_inj, Int32.reduceToInt] at *; omega)) (hR.fail (by decide) (by decide))
