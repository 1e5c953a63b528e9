/-! the reference: what is let down, what is looked through -/
theorem tn_5 : (5 : Int32).toNatClampNeg = 5 := by decide
theorem tn_6 : (6 : Int32).toNatClampNeg = 6 := by decide
theorem at_u (u : Nat) : (143 : Int32) + 121 * nI u = nI (143 + 121 * u) := by
  rw [show (121 : Int32) = nI 121 from rfl, pk_mul, show (143 : Int32) = nI 143 from rfl, nI_add]
set_option maxHeartbeats 2000000 in
set_option maxRecDepth 10000 in
theorem kX10_letsBy {l : Launch} {E : z_E} (σ : z_M) {q : Nat} (hq : q < 8) (s : Int32) : z_C l E shM 1 yX10_letsBy cX10_letsBy 4 (some FieldType.int) [.ref (z_ad E 0), .int (nI q), .int s] σ (z_Pp (letS (pO (σ 1) q 0) (pO (σ 1) q 1) s) σ) := by
  refine z_intro iX10_letsBy (Nat.le_of_ble_eq_true rfl) (fun K F => ?_)
  refine z_iload_n F dX10_letsBy_0 2 rfl 1 rfl ?_
  refine z_iconst F dX10_letsBy_1 2 (by decide) 2 rfl ?_
  refine z_irem F dX10_letsBy_2 (by decide) 3 rfl ?_
  refine z_if_ne F dX10_letsBy_3 10 (by decide) 6 rfl (fun h3 => ?_) (fun h3 => ?_)
  · skip
    refine z_iload_n F dX10_letsBy_10 2 rfl 11 rfl ?_
    refine z_iconst F dX10_letsBy_11 3 (by decide) 12 rfl ?_
    refine z_idiv F dX10_letsBy_12 (by decide) 13 rfl ?_
    refine z_istore_n F dX10_letsBy_13 [(0, _), (1, _), (2, _), (3, _)] rfl (by decide) 14 rfl ?_
    refine z_aload_n F dX10_letsBy_14 0 rfl 15 rfl ?_
    refine z_iload_n F dX10_letsBy_15 1 rfl 16 rfl ?_
    refine z_iconst F dX10_letsBy_16 0 (by decide) 17 rfl ?_
    refine z_callVp F dX10_letsBy_17 m_1020 iX10_of jX10_of rfl zc9 rfl (kX10_of σ (p := q) (w := 0) hq (by decide)) rfl (by decide) (Nat.le_of_ble_eq_true rfl) 20 rfl ?_
    by_cases e20_1 : (pO (σ 1) q 0) = 1
    · skip
      refine z_tableIn F dX10_letsBy_20 (by rw [e20_1]; decide) (by rw [e20_1]; decide) (by rw [e20_1]; rfl) 60 (by decide) ?_
      refine z_iload_n F dX10_letsBy_60 2 rfl 61 rfl ?_
      refine z_iconst F dX10_letsBy_61 2 (by decide) 62 rfl ?_
      refine z_idiv F dX10_letsBy_62 (by decide) 63 rfl ?_
      refine z_rp F dX10_letsBy_63 ?_ rfl
      unfold letS judS
      (repeat' split) <;> first | rfl | exact Int32.mul_comm _ _ | contradiction | (exfalso; simp only [Int32.lt_iff_toInt_lt, Int32.le_iff_toInt_le, ← Int32.toInt_inj, Int32.reduceToInt] at *; omega)
    by_cases e20_2 : (pO (σ 1) q 0) = 2
    · skip
      refine z_tableIn F dX10_letsBy_20 (by rw [e20_2]; decide) (by rw [e20_2]; decide) (by rw [e20_2]; rfl) 64 (by decide) ?_
      refine z_iload_n F dX10_letsBy_64 3 rfl 65 rfl ?_
      refine z_rp F dX10_letsBy_65 ?_ rfl
      unfold letS judS
      (repeat' split) <;> first | rfl | exact Int32.mul_comm _ _ | contradiction | (exfalso; simp only [Int32.lt_iff_toInt_lt, Int32.le_iff_toInt_le, ← Int32.toInt_inj, Int32.reduceToInt] at *; omega)
    by_cases e20_3 : (pO (σ 1) q 0) = 3
    · skip
      refine z_tableIn F dX10_letsBy_20 (by rw [e20_3]; decide) (by rw [e20_3]; decide) (by rw [e20_3]; rfl) 66 (by decide) ?_
      refine z_iconst F dX10_letsBy_66 2 (by decide) 67 rfl ?_
      refine z_iload_n F dX10_letsBy_67 2 rfl 68 rfl ?_
      refine z_imul F dX10_letsBy_68 69 rfl ?_
      refine z_rp F dX10_letsBy_69 ?_ rfl
      unfold letS judS
      (repeat' split) <;> first | rfl | exact Int32.mul_comm _ _ | contradiction | (exfalso; simp only [Int32.lt_iff_toInt_lt, Int32.le_iff_toInt_le, ← Int32.toInt_inj, Int32.reduceToInt] at *; omega)
    by_cases e20_4 : (pO (σ 1) q 0) = 4
    · skip
      refine z_tableIn F dX10_letsBy_20 (by rw [e20_4]; decide) (by rw [e20_4]; decide) (by rw [e20_4]; rfl) 70 (by decide) ?_
      refine z_iload_n F dX10_letsBy_70 2 rfl 71 rfl ?_
      refine z_iconst F dX10_letsBy_71 2 (by decide) 72 rfl ?_
      refine z_idiv F dX10_letsBy_72 (by decide) 73 rfl ?_
      refine z_aload_n F dX10_letsBy_73 0 rfl 74 rfl ?_
      refine z_iload_n F dX10_letsBy_74 1 rfl 75 rfl ?_
      refine z_iconst F dX10_letsBy_75 1 (by decide) 76 rfl ?_
      refine z_callVp F dX10_letsBy_76 m_1020 iX10_of jX10_of rfl zc9 rfl (kX10_of σ (p := q) (w := 1) hq (by decide)) rfl (by decide) (Nat.le_of_ble_eq_true rfl) 79 rfl ?_
      refine z_iadd F dX10_letsBy_79 80 rfl ?_
      refine z_rp F dX10_letsBy_80 ?_ rfl
      unfold letS judS
      (repeat' split) <;> first | rfl | exact Int32.mul_comm _ _ | contradiction | (exfalso; simp only [Int32.lt_iff_toInt_lt, Int32.le_iff_toInt_le, ← Int32.toInt_inj, Int32.reduceToInt] at *; omega)
    by_cases e20_5 : (pO (σ 1) q 0) = 5
    · skip
      refine z_tableIn F dX10_letsBy_20 (by rw [e20_5]; decide) (by rw [e20_5]; decide) (by rw [e20_5]; rfl) 81 (by decide) ?_
      refine z_iload_n F dX10_letsBy_81 3 rfl 82 rfl ?_
      refine z_iconst F dX10_letsBy_82 4 (by decide) 83 rfl ?_
      refine z_icmp_le F dX10_letsBy_83 90 (by decide) 86 rfl (fun h83 => ?_) (fun h83 => ?_)
      · skip
        refine z_iload_n F dX10_letsBy_90 3 rfl 91 rfl ?_
        refine z_rp F dX10_letsBy_91 ?_ rfl
        unfold letS judS
        (repeat' split) <;> first | rfl | exact Int32.mul_comm _ _ | contradiction | (exfalso; simp only [Int32.lt_iff_toInt_lt, Int32.le_iff_toInt_le, ← Int32.toInt_inj, Int32.reduceToInt] at *; omega)
      · skip
        refine z_iconst F dX10_letsBy_86 4 (by decide) 87 rfl ?_
        refine z_goto F dX10_letsBy_87 91 (by decide) ?_
        refine z_rp F dX10_letsBy_91 ?_ rfl
        unfold letS judS
        (repeat' split) <;> first | rfl | exact Int32.mul_comm _ _ | contradiction | (exfalso; simp only [Int32.lt_iff_toInt_lt, Int32.le_iff_toInt_le, ← Int32.toInt_inj, Int32.reduceToInt] at *; omega)
    by_cases e20_6 : (pO (σ 1) q 0) = 6
    · skip
      refine z_tableIn F dX10_letsBy_20 (by rw [e20_6]; decide) (by rw [e20_6]; decide) (by rw [e20_6]; rfl) 92 (by decide) ?_
      refine z_iload_n F dX10_letsBy_92 2 rfl 93 rfl ?_
      refine z_iconst F dX10_letsBy_93 2 (by decide) 94 rfl ?_
      refine z_icmp_le F dX10_letsBy_94 102 (by decide) 97 rfl (fun h94 => ?_) (fun h94 => ?_)
      · skip
        refine z_iload_n F dX10_letsBy_102 2 rfl 103 rfl ?_
        refine z_iconst F dX10_letsBy_103 1 (by decide) 104 rfl ?_
        refine z_iadd F dX10_letsBy_104 105 rfl ?_
        refine z_rp F dX10_letsBy_105 ?_ rfl
        unfold letS judS
        (repeat' split) <;> first | rfl | exact Int32.mul_comm _ _ | contradiction | (exfalso; simp only [Int32.lt_iff_toInt_lt, Int32.le_iff_toInt_le, ← Int32.toInt_inj, Int32.reduceToInt] at *; omega)
      · skip
        refine z_bipush F dX10_letsBy_97 40 (by decide) 99 rfl ?_
        refine z_goto F dX10_letsBy_99 105 (by decide) ?_
        refine z_rp F dX10_letsBy_105 ?_ rfl
        unfold letS judS
        (repeat' split) <;> first | rfl | exact Int32.mul_comm _ _ | contradiction | (exfalso; simp only [Int32.lt_iff_toInt_lt, Int32.le_iff_toInt_le, ← Int32.toInt_inj, Int32.reduceToInt] at *; omega)
    refine z_tableOut F dX10_letsBy_20 (by have t0 := (pO (σ 1) q 0).toInt; have t1 := lv_neT e20_1 (a := 1) rfl; have t2 := lv_neT e20_2 (a := 2) rfl; have t3 := lv_neT e20_3 (a := 3) rfl; have t4 := lv_neT e20_4 (a := 4) rfl; have t5 := lv_neT e20_5 (a := 5) rfl; have t6 := lv_neT e20_6 (a := 6) rfl; omega) 106 (by decide) ?_
    refine z_iload_n F dX10_letsBy_106 2 rfl 107 rfl ?_
    refine z_rp F dX10_letsBy_107 ?_ rfl
    unfold letS judS
    (repeat' split) <;> first | rfl | exact Int32.mul_comm _ _ | contradiction | (exfalso; simp only [Int32.lt_iff_toInt_lt, Int32.le_iff_toInt_le, ← Int32.toInt_inj, Int32.reduceToInt] at *; omega)
  · skip
    refine z_iload_n F dX10_letsBy_6 2 rfl 7 rfl ?_
    refine z_goto F dX10_letsBy_7 13 (by decide) ?_
    refine z_istore_n F dX10_letsBy_13 [(0, _), (1, _), (2, _), (3, _)] rfl (by decide) 14 rfl ?_
    refine z_aload_n F dX10_letsBy_14 0 rfl 15 rfl ?_
    refine z_iload_n F dX10_letsBy_15 1 rfl 16 rfl ?_
    refine z_iconst F dX10_letsBy_16 0 (by decide) 17 rfl ?_
    refine z_callVp F dX10_letsBy_17 m_1020 iX10_of jX10_of rfl zc9 rfl (kX10_of σ (p := q) (w := 0) hq (by decide)) rfl (by decide) (Nat.le_of_ble_eq_true rfl) 20 rfl ?_
    by_cases e20_1 : (pO (σ 1) q 0) = 1
    · skip
      refine z_tableIn F dX10_letsBy_20 (by rw [e20_1]; decide) (by rw [e20_1]; decide) (by rw [e20_1]; rfl) 60 (by decide) ?_
      refine z_iload_n F dX10_letsBy_60 2 rfl 61 rfl ?_
      refine z_iconst F dX10_letsBy_61 2 (by decide) 62 rfl ?_
      refine z_idiv F dX10_letsBy_62 (by decide) 63 rfl ?_
      refine z_rp F dX10_letsBy_63 ?_ rfl
      unfold letS judS
      (repeat' split) <;> first | rfl | exact Int32.mul_comm _ _ | contradiction | (exfalso; simp only [Int32.lt_iff_toInt_lt, Int32.le_iff_toInt_le, ← Int32.toInt_inj, Int32.reduceToInt] at *; omega)
    by_cases e20_2 : (pO (σ 1) q 0) = 2
    · skip
      refine z_tableIn F dX10_letsBy_20 (by rw [e20_2]; decide) (by rw [e20_2]; decide) (by rw [e20_2]; rfl) 64 (by decide) ?_
      refine z_iload_n F dX10_letsBy_64 3 rfl 65 rfl ?_
      refine z_rp F dX10_letsBy_65 ?_ rfl
      unfold letS judS
      (repeat' split) <;> first | rfl | exact Int32.mul_comm _ _ | contradiction | (exfalso; simp only [Int32.lt_iff_toInt_lt, Int32.le_iff_toInt_le, ← Int32.toInt_inj, Int32.reduceToInt] at *; omega)
    by_cases e20_3 : (pO (σ 1) q 0) = 3
    · skip
      refine z_tableIn F dX10_letsBy_20 (by rw [e20_3]; decide) (by rw [e20_3]; decide) (by rw [e20_3]; rfl) 66 (by decide) ?_
      refine z_iconst F dX10_letsBy_66 2 (by decide) 67 rfl ?_
      refine z_iload_n F dX10_letsBy_67 2 rfl 68 rfl ?_
      refine z_imul F dX10_letsBy_68 69 rfl ?_
      refine z_rp F dX10_letsBy_69 ?_ rfl
      unfold letS judS
      (repeat' split) <;> first | rfl | exact Int32.mul_comm _ _ | contradiction | (exfalso; simp only [Int32.lt_iff_toInt_lt, Int32.le_iff_toInt_le, ← Int32.toInt_inj, Int32.reduceToInt] at *; omega)
    by_cases e20_4 : (pO (σ 1) q 0) = 4
    · skip
      refine z_tableIn F dX10_letsBy_20 (by rw [e20_4]; decide) (by rw [e20_4]; decide) (by rw [e20_4]; rfl) 70 (by decide) ?_
      refine z_iload_n F dX10_letsBy_70 2 rfl 71 rfl ?_
      refine z_iconst F dX10_letsBy_71 2 (by decide) 72 rfl ?_
      refine z_idiv F dX10_letsBy_72 (by decide) 73 rfl ?_
      refine z_aload_n F dX10_letsBy_73 0 rfl 74 rfl ?_
      refine z_iload_n F dX10_letsBy_74 1 rfl 75 rfl ?_
      refine z_iconst F dX10_letsBy_75 1 (by decide) 76 rfl ?_
      refine z_callVp F dX10_letsBy_76 m_1020 iX10_of jX10_of rfl zc9 rfl (kX10_of σ (p := q) (w := 1) hq (by decide)) rfl (by decide) (Nat.le_of_ble_eq_true rfl) 79 rfl ?_
      refine z_iadd F dX10_letsBy_79 80 rfl ?_
      refine z_rp F dX10_letsBy_80 ?_ rfl
      unfold letS judS
      (repeat' split) <;> first | rfl | exact Int32.mul_comm _ _ | contradiction | (exfalso; simp only [Int32.lt_iff_toInt_lt, Int32.le_iff_toInt_le, ← Int32.toInt_inj, Int32.reduceToInt] at *; omega)
    by_cases e20_5 : (pO (σ 1) q 0) = 5
    · skip
      refine z_tableIn F dX10_letsBy_20 (by rw [e20_5]; decide) (by rw [e20_5]; decide) (by rw [e20_5]; rfl) 81 (by decide) ?_
      refine z_iload_n F dX10_letsBy_81 3 rfl 82 rfl ?_
      refine z_iconst F dX10_letsBy_82 4 (by decide) 83 rfl ?_
      refine z_icmp_le F dX10_letsBy_83 90 (by decide) 86 rfl (fun h83 => ?_) (fun h83 => ?_)
      · skip
        refine z_iload_n F dX10_letsBy_90 3 rfl 91 rfl ?_
        refine z_rp F dX10_letsBy_91 ?_ rfl
        unfold letS judS
        (repeat' split) <;> first | rfl | exact Int32.mul_comm _ _ | contradiction | (exfalso; simp only [Int32.lt_iff_toInt_lt, Int32.le_iff_toInt_le, ← Int32.toInt_inj, Int32.reduceToInt] at *; omega)
      · skip
        refine z_iconst F dX10_letsBy_86 4 (by decide) 87 rfl ?_
        refine z_goto F dX10_letsBy_87 91 (by decide) ?_
        refine z_rp F dX10_letsBy_91 ?_ rfl
        unfold letS judS
        (repeat' split) <;> first | rfl | exact Int32.mul_comm _ _ | contradiction | (exfalso; simp only [Int32.lt_iff_toInt_lt, Int32.le_iff_toInt_le, ← Int32.toInt_inj, Int32.reduceToInt] at *; omega)
    by_cases e20_6 : (pO (σ 1) q 0) = 6
    · skip
      refine z_tableIn F dX10_letsBy_20 (by rw [e20_6]; decide) (by rw [e20_6]; decide) (by rw [e20_6]; rfl) 92 (by decide) ?_
      refine z_iload_n F dX10_letsBy_92 2 rfl 93 rfl ?_
      refine z_iconst F dX10_letsBy_93 2 (by decide) 94 rfl ?_
      refine z_icmp_le F dX10_letsBy_94 102 (by decide) 97 rfl (fun h94 => ?_) (fun h94 => ?_)
      · skip
        refine z_iload_n F dX10_letsBy_102 2 rfl 103 rfl ?_
        refine z_iconst F dX10_letsBy_103 1 (by decide) 104 rfl ?_
        refine z_iadd F dX10_letsBy_104 105 rfl ?_
        refine z_rp F dX10_letsBy_105 ?_ rfl
        unfold letS judS
        (repeat' split) <;> first | rfl | exact Int32.mul_comm _ _ | contradiction | (exfalso; simp only [Int32.lt_iff_toInt_lt, Int32.le_iff_toInt_le, ← Int32.toInt_inj, Int32.reduceToInt] at *; omega)
      · skip
        refine z_bipush F dX10_letsBy_97 40 (by decide) 99 rfl ?_
        refine z_goto F dX10_letsBy_99 105 (by decide) ?_
        refine z_rp F dX10_letsBy_105 ?_ rfl
        unfold letS judS
        (repeat' split) <;> first | rfl | exact Int32.mul_comm _ _ | contradiction | (exfalso; simp only [Int32.lt_iff_toInt_lt, Int32.le_iff_toInt_le, ← Int32.toInt_inj, Int32.reduceToInt] at *; omega)
    refine z_tableOut F dX10_letsBy_20 (by have t0 := (pO (σ 1) q 0).toInt; have t1 := lv_neT e20_1 (a := 1) rfl; have t2 := lv_neT e20_2 (a := 2) rfl; have t3 := lv_neT e20_3 (a := 3) rfl; have t4 := lv_neT e20_4 (a := 4) rfl; have t5 := lv_neT e20_5 (a := 5) rfl; have t6 := lv_neT e20_6 (a := 6) rfl; omega) 106 (by decide) ?_
    refine z_iload_n F dX10_letsBy_106 2 rfl 107 rfl ?_
    refine z_rp F dX10_letsBy_107 ?_ rfl
    unfold letS judS
    (repeat' split) <;> first | rfl | exact Int32.mul_comm _ _ | contradiction | (exfalso; simp only [Int32.lt_iff_toInt_lt, Int32.le_iff_toInt_le, ← Int32.toInt_inj, Int32.reduceToInt] at *; omega)
set_option maxHeartbeats 2000000 in
set_option maxRecDepth 10000 in
theorem kX10_eyes {l : Launch} {E : z_E} (σ : z_M) (hn : σ 1 2 = nI (nP (σ 1)) ∧ nP (σ 1) ≤ 8) {q : Nat} (hq : q < nP (σ 1)) : z_C l E shM 4 yX10_eyes cX10_eyes 2 (some FieldType.int) [.ref (z_ad E 0), .int (nI q)] σ (z_Pp (eyeS (pO (σ 1) q 0) (pO (σ 1) q 1) (nI (nearN (σ 1) q)) (σ 1 0)) σ) := by
  refine z_intro iX10_eyes (Nat.le_of_ble_eq_true rfl) (fun K F => ?_)
  refine z_aload_n F dX10_eyes_0 0 rfl 1 rfl ?_
  refine z_iload_n F dX10_eyes_1 1 rfl 2 rfl ?_
  refine z_iconst F dX10_eyes_2 0 (by decide) 3 rfl ?_
  refine z_callVp F dX10_eyes_3 m_1020 iX10_of jX10_of rfl zc9 rfl (kX10_of σ (p := q) (w := 0) (by omega) (by decide)) rfl (by decide) (Nat.le_of_ble_eq_true rfl) 6 rfl ?_
  by_cases e6_1 : (pO (σ 1) q 0) = 1
  · skip
    refine z_tableIn F dX10_eyes_6 (by rw [e6_1]; decide) (by rw [e6_1]; decide) (by rw [e6_1]; rfl) 44 (by decide) ?_
    refine z_iconst F dX10_eyes_44 2 (by decide) 45 rfl ?_
    refine z_aload_n F dX10_eyes_45 0 rfl 46 rfl ?_
    refine z_iload_n F dX10_eyes_46 1 rfl 47 rfl ?_
    refine z_callVp F dX10_eyes_47 m_1032 iX10_relatives jX10_relatives rfl zc9 rfl (kX10_relatives σ hn hq) rfl (by decide) (Nat.le_of_ble_eq_true rfl) 50 rfl ?_
    refine z_iadd F dX10_eyes_50 51 rfl ?_
    refine z_rp F dX10_eyes_51 ?_ rfl
    unfold eyeS
    (repeat' split) <;> first | rfl | contradiction | (exfalso; simp only [Int32.lt_iff_toInt_lt, Int32.le_iff_toInt_le, ← Int32.toInt_inj, Int32.reduceToInt] at *; omega)
  by_cases e6_2 : (pO (σ 1) q 0) = 2
  · skip
    refine z_tableIn F dX10_eyes_6 (by rw [e6_2]; decide) (by rw [e6_2]; decide) (by rw [e6_2]; rfl) 52 (by decide) ?_
    refine z_iconst F dX10_eyes_52 5 (by decide) 53 rfl ?_
    refine z_rp F dX10_eyes_53 ?_ rfl
    unfold eyeS
    (repeat' split) <;> first | rfl | contradiction | (exfalso; simp only [Int32.lt_iff_toInt_lt, Int32.le_iff_toInt_le, ← Int32.toInt_inj, Int32.reduceToInt] at *; omega)
  by_cases e6_3 : (pO (σ 1) q 0) = 3
  · skip
    refine z_tableIn F dX10_eyes_6 (by rw [e6_3]; decide) (by rw [e6_3]; decide) (by rw [e6_3]; rfl) 54 (by decide) ?_
    refine z_iconst F dX10_eyes_54 1 (by decide) 55 rfl ?_
    refine z_rp F dX10_eyes_55 ?_ rfl
    unfold eyeS
    (repeat' split) <;> first | rfl | contradiction | (exfalso; simp only [Int32.lt_iff_toInt_lt, Int32.le_iff_toInt_le, ← Int32.toInt_inj, Int32.reduceToInt] at *; omega)
  by_cases e6_4 : (pO (σ 1) q 0) = 4
  · skip
    refine z_tableIn F dX10_eyes_6 (by rw [e6_4]; decide) (by rw [e6_4]; decide) (by rw [e6_4]; rfl) 56 (by decide) ?_
    refine z_iconst F dX10_eyes_56 2 (by decide) 57 rfl ?_
    refine z_aload_n F dX10_eyes_57 0 rfl 58 rfl ?_
    refine z_iload_n F dX10_eyes_58 1 rfl 59 rfl ?_
    refine z_callVp F dX10_eyes_59 m_1032 iX10_relatives jX10_relatives rfl zc9 rfl (kX10_relatives σ hn hq) rfl (by decide) (Nat.le_of_ble_eq_true rfl) 62 rfl ?_
    refine z_iadd F dX10_eyes_62 63 rfl ?_
    refine z_aload_n F dX10_eyes_63 0 rfl 64 rfl ?_
    refine z_iload_n F dX10_eyes_64 1 rfl 65 rfl ?_
    refine z_iconst F dX10_eyes_65 1 (by decide) 66 rfl ?_
    refine z_callVp F dX10_eyes_66 m_1020 iX10_of jX10_of rfl zc9 rfl (kX10_of σ (p := q) (w := 1) (by omega) (by decide)) rfl (by decide) (Nat.le_of_ble_eq_true rfl) 69 rfl ?_
    refine z_iadd F dX10_eyes_69 70 rfl ?_
    refine z_rp F dX10_eyes_70 ?_ rfl
    unfold eyeS
    (repeat' split) <;> first | rfl | contradiction | (exfalso; simp only [Int32.lt_iff_toInt_lt, Int32.le_iff_toInt_le, ← Int32.toInt_inj, Int32.reduceToInt] at *; omega)
  by_cases e6_5 : (pO (σ 1) q 0) = 5
  · skip
    refine z_tableIn F dX10_eyes_6 (by rw [e6_5]; decide) (by rw [e6_5]; decide) (by rw [e6_5]; rfl) 71 (by decide) ?_
    refine z_aload_n F dX10_eyes_71 0 rfl 72 rfl ?_
    refine z_getR F zc9 dX10_eyes_72 rfl 0 (by decide) (by decide) (.inl m_930) rfl (by decide) 75 rfl ?_
    refine z_iconst F dX10_eyes_75 0 (by decide) 76 rfl ?_
    refine z_iald F dX10_eyes_76 rfl (show vp_in (nI 0) 385 from vp_in_nI (by decide) (by decide)) 77 rfl ?_
    rw [tn_0]
    refine z_iconst F dX10_eyes_77 2 (by decide) 78 rfl ?_
    refine z_irem F dX10_eyes_78 (by decide) 79 rfl ?_
    refine z_if_ne F dX10_eyes_79 93 (by decide) 82 rfl (fun h79 => ?_) (fun h79 => ?_)
    · skip
      refine z_iconst F dX10_eyes_93 5 (by decide) 94 rfl ?_
      refine z_rp F dX10_eyes_94 ?_ rfl
      unfold eyeS
      (repeat' split) <;> first | rfl | contradiction | (exfalso; simp only [Int32.lt_iff_toInt_lt, Int32.le_iff_toInt_le, ← Int32.toInt_inj, Int32.reduceToInt] at *; omega)
    · skip
      refine z_iconst F dX10_eyes_82 5 (by decide) 83 rfl ?_
      refine z_aload_n F dX10_eyes_83 0 rfl 84 rfl ?_
      refine z_iload_n F dX10_eyes_84 1 rfl 85 rfl ?_
      refine z_iconst F dX10_eyes_85 1 (by decide) 86 rfl ?_
      refine z_callVp F dX10_eyes_86 m_1020 iX10_of jX10_of rfl zc9 rfl (kX10_of σ (p := q) (w := 1) (by omega) (by decide)) rfl (by decide) (Nat.le_of_ble_eq_true rfl) 89 rfl ?_
      refine z_iadd F dX10_eyes_89 90 rfl ?_
      refine z_goto F dX10_eyes_90 94 (by decide) ?_
      refine z_rp F dX10_eyes_94 ?_ rfl
      unfold eyeS
      (repeat' split) <;> first | rfl | contradiction | (exfalso; simp only [Int32.lt_iff_toInt_lt, Int32.le_iff_toInt_le, ← Int32.toInt_inj, Int32.reduceToInt] at *; omega)
  by_cases e6_6 : (pO (σ 1) q 0) = 6
  · skip
    refine z_tableIn F dX10_eyes_6 (by rw [e6_6]; decide) (by rw [e6_6]; decide) (by rw [e6_6]; rfl) 95 (by decide) ?_
    refine z_aload_n F dX10_eyes_95 0 rfl 96 rfl ?_
    refine z_iload_n F dX10_eyes_96 1 rfl 97 rfl ?_
    refine z_iconst F dX10_eyes_97 1 (by decide) 98 rfl ?_
    refine z_callVp F dX10_eyes_98 m_1020 iX10_of jX10_of rfl zc9 rfl (kX10_of σ (p := q) (w := 1) (by omega) (by decide)) rfl (by decide) (Nat.le_of_ble_eq_true rfl) 101 rfl ?_
    refine z_rp F dX10_eyes_101 ?_ rfl
    unfold eyeS
    (repeat' split) <;> first | rfl | contradiction | (exfalso; simp only [Int32.lt_iff_toInt_lt, Int32.le_iff_toInt_le, ← Int32.toInt_inj, Int32.reduceToInt] at *; omega)
  refine z_tableOut F dX10_eyes_6 (by have t0 := (pO (σ 1) q 0).toInt; have t1 := lv_neT e6_1 (a := 1) rfl; have t2 := lv_neT e6_2 (a := 2) rfl; have t3 := lv_neT e6_3 (a := 3) rfl; have t4 := lv_neT e6_4 (a := 4) rfl; have t5 := lv_neT e6_5 (a := 5) rfl; have t6 := lv_neT e6_6 (a := 6) rfl; omega) 102 (by decide) ?_
  refine z_iconst F dX10_eyes_102 2 (by decide) 103 rfl ?_
  refine z_rp F dX10_eyes_103 ?_ rfl
  unfold eyeS
  (repeat' split) <;> first | rfl | contradiction | (exfalso; simp only [Int32.lt_iff_toInt_lt, Int32.le_iff_toInt_le, ← Int32.toInt_inj, Int32.reduceToInt] at *; omega)
set_option maxHeartbeats 2000000 in
set_option maxRecDepth 10000 in
theorem kX10_works {l : Launch} {E : z_E} (σ : z_M) {r : Rw} (hr : σ 1 = r) {u : Nat} (hu : u < 2) (hC : VC r u) (hpos : 0 < cL r u) {a b c : Int32} (hfa : ∀ j, j < 3 → σ 10 j = fa3 a b c j) : z_C l E shM 1 yX10_works cX10_works 5 (some FieldType.int) [.ref (z_ad E 0), .int (nI (143 + 121 * u))] σ (z_Pi (fun rv σ' => rv = (evR r (143 + 121 * u) (fa3 a b c) (cL r u)).getLastD 0 ∧ MS [11] σ σ')) := by
  refine z_intro iX10_works (Nat.le_of_ble_eq_true rfl) (fun K F => ?_)
  have hL : r (143 + 121 * u) = nI (cL r u) := hC.1
  have hL60 := hC.2.1
  have hlen : ∀ i, i ≤ cL r u → (evR r (143 + 121 * u) (fa3 a b c) i).length = dpR r (143 + 121 * u) i := fun i hi => ev_len (fun j hj => hC.2.2.1 j (by omega))
  have hop0 : ∀ k, k < cL r u → opOk (r (143 + 121 * u + 1 + k)) (r (143 + 121 * u + 61 + k)) (dpR r (143 + 121 * u) k) := hC.2.2.1
  have hlast := hC.2.2.2 hpos
  have h264 : 143 + 121 * u ≤ 264 := by omega
  clear hC
  generalize 143 + 121 * u = at0 at *
  generalize cL r u = L at *
  have loop4 : ∀ (f : Nat) (k : Nat) (τ : z_M) (st : List Int32) (_ : 60 < k + f) (_ : k ≤ L) (_ : st = evR r at0 (fa3 a b c) k) (_ : MS [11] σ τ) (_ : PileIs (τ 11) st), z_X l K E shM 1 5 (z_Pi (fun rv σ' => rv = (evR r at0 (fa3 a b c) L).getLastD 0 ∧ MS [11] σ σ')) 4 [(0, .ref (z_ad E 0)), (1, .int (nI at0)), (2, .int (nI st.length)), (3, .int (nI k))] [] τ := by
    intro f
    induction f with
    | zero =>
      intro k τ st hf hk hst hs hp
      omega
    | succ f ih =>
      intro k τ st hf hk hst hs hp
      have eR : τ 1 = r := (hs 1 (by decide)).trans hr
      have eF : τ 10 = σ 10 := hs 10 (by decide)
      have hl := hlen k hk
      rw [← hst] at hl
      have hd := dpR_le r at0 k
      refine z_iload_n F dX10_works_4 3 rfl 5 rfl ?_
      refine z_aload_n F dX10_works_5 0 rfl 6 rfl ?_
      refine z_getR F zc9 dX10_works_6 rfl 0 (by decide) (by decide) (.inl m_930) rfl (by decide) 9 rfl ?_
      refine z_iload_n F dX10_works_9 1 rfl 10 rfl ?_
      refine z_iald F dX10_works_10 rfl (vp_in_nI (by omega) (by decide)) 11 rfl ?_
      rw [nI_clamp (by omega), eR, hL]
      refine z_icmp_ge F dX10_works_11 155 (by decide) 14 rfl (fun h11 => ?_) (fun h11 => ?_)
      · skip
        refine z_aload_n F dX10_works_155 0 rfl 156 rfl ?_
        refine z_getR F zc9 dX10_works_156 rfl 11 (by decide) (by decide) (.inl m_941) rfl (by decide) 159 rfl ?_
        refine z_iconst F dX10_works_159 0 (by decide) 160 rfl ?_
        refine z_iald F dX10_works_160 rfl (vp_in_nI (n := 0) (by decide) (by decide)) 161 rfl ?_
        refine z_ri F dX10_works_161 ?_
        have hkL : k = L := by have := le_nI h11 (by omega) (by omega); omega
        subst hkL
        refine ⟨?_, hs⟩
        show τ 11 0 = _
        rw [← hst]
        exact hp.last (by rw [hl]; exact hlast)
      · skip
        have hkL : k < L := nle_nI h11 (by omega) (by omega)
        have hop := hop0 k hkL
        have hev : evR r at0 (fa3 a b c) (k + 1) = evS (fa3 a b c) (r (at0 + 1 + k)) (r (at0 + 61 + k)) st := by rw [hst]; rfl
        refine z_aload_n F dX10_works_14 0 rfl 15 rfl ?_
        refine z_getR F zc9 dX10_works_15 rfl 0 (by decide) (by decide) (.inl m_930) rfl (by decide) 18 rfl ?_
        refine z_iload_n F dX10_works_18 1 rfl 19 rfl ?_
        refine z_iconst F dX10_works_19 1 (by decide) 20 rfl ?_
        refine z_iadd F dX10_works_20 21 rfl ?_
        refine z_iload_n F dX10_works_21 3 rfl 22 rfl ?_
        refine z_iadd F dX10_works_22 23 rfl ?_
        rw [nI_1, nI_add]
        refine z_iald F dX10_works_23 rfl (vp_in_nI (by omega) (by decide)) 24 rfl ?_
        rw [nI_clamp (by omega), eR]
        generalize hw : r (at0 + 1 + k) = w at hop hev ⊢
        generalize hv : r (at0 + 61 + k) = v at hop hev ⊢
        refine z_istore F dX10_works_24 [(0, _), (1, _), (2, _), (3, _), (4, _)] rfl (by decide) 26 rfl ?_
        refine z_iload F dX10_works_26 4 rfl 28 rfl ?_
        refine z_iconst F dX10_works_28 1 (by decide) 29 rfl ?_
        refine z_icmp_eq F dX10_works_29 38 (by decide) 32 rfl (fun h29 => ?_) (fun h29 => ?_)
        · skip
          have hw1 : w = 1 := h29
          refine z_aload_n F dX10_works_38 0 rfl 39 rfl ?_
          refine z_getR F zc9 dX10_works_39 rfl 11 (by decide) (by decide) (.inl m_941) rfl (by decide) 42 rfl ?_
          refine z_iload_n F dX10_works_42 2 rfl 43 rfl ?_
          refine z_iload F dX10_works_43 4 rfl 45 rfl ?_
          refine z_iconst F dX10_works_45 1 (by decide) 46 rfl ?_
          refine z_icmp_ne F dX10_works_46 63 (by decide) 49 rfl (fun h46 => ?_) (fun h46 => ?_)
          · skip
            exact absurd h29 h46
          · skip
            refine z_aload_n F dX10_works_49 0 rfl 50 rfl ?_
            refine z_getR F zc9 dX10_works_50 rfl 0 (by decide) (by decide) (.inl m_930) rfl (by decide) 53 rfl ?_
            refine z_iload_n F dX10_works_53 1 rfl 54 rfl ?_
            refine z_bipush F dX10_works_54 61 (by decide) 56 rfl ?_
            refine z_iadd F dX10_works_56 57 rfl ?_
            refine z_iload_n F dX10_works_57 3 rfl 58 rfl ?_
            refine z_iadd F dX10_works_58 59 rfl ?_
            rw [show (61 : Int32) = nI 61 from rfl, nI_add, nI_add]
            refine z_iald F dX10_works_59 rfl (vp_in_nI (by omega) (by decide)) 60 rfl ?_
            rw [nI_clamp (by omega), eR, hv]
            refine z_goto F dX10_works_60 79 (by decide) ?_
            refine z_iast F dX10_works_79 rfl (vp_in_nI (by omega) (by decide)) 80 rfl ?_
            rw [nI_clamp (by omega)]
            refine z_iinc F dX10_works_80 2 rfl 1 (by decide) [(0, _), (1, _), (2, _), (3, _), (4, _)] rfl (by decide) 83 rfl ?_
            refine z_goto F dX10_works_83 149 (by decide) ?_
            refine z_iinc F dX10_works_149 3 rfl 1 (by decide) [(0, _), (1, _), (2, _), (3, _), (4, _)] rfl (by decide) 152 rfl ?_
            refine z_goto F dX10_works_152 4 (by decide) ?_
            simp only [nI_1]
            have hfin : evR r at0 (fa3 a b c) (k + 1) = v :: st := by
              rw [hev]; unfold evS
              rw [hw1]; rfl
            refine z_sub [0, 1, 2, 3] rfl (ih (k + 1) _ (v :: st) (by omega) (by omega) hfin.symm (hs.u2 (by decide)) ?_)
            rw [z_u2, up_same]
            exact ⟨by rw [upd_at, if_pos rfl], hp.upd (Nat.le_refl _)⟩
        · skip
          refine z_iload F dX10_works_32 4 rfl 34 rfl ?_
          refine z_iconst F dX10_works_34 2 (by decide) 35 rfl ?_
          refine z_icmp_ne F dX10_works_35 86 (by decide) 38 rfl (fun h35 => ?_) (fun h35 => ?_)
          · skip
            refine z_iload F dX10_works_86 4 rfl 88 rfl ?_
            refine z_iconst F dX10_works_88 3 (by decide) 89 rfl ?_
            refine z_icmp_ne F dX10_works_89 119 (by decide) 92 rfl (fun h89 => ?_) (fun h89 => ?_)
            · skip
              have hsg : sgn w ∧ 2 ≤ dpR r at0 k := by
                rcases hop with ⟨e, -⟩ | ⟨e, -⟩ | ⟨e, -⟩ | e
                · exact absurd e h29
                · exact absurd e h35
                · exact absurd e h89
                · exact e
              obtain ⟨hsg, hd2⟩ := hsg
              obtain ⟨y, x, st2, hst2⟩ : ∃ y x t, st = y :: x :: t := by
                match st with
                | [] => simp at hl; omega
                | [x] => simp at hl; omega
                | y :: x :: t => exact ⟨y, x, t, rfl⟩
              have hsl : nI st.length = nI (st2.length + 2) := by rw [hst2]; rfl
              have hl2 : st2.length + 2 = dpR r at0 k := by rw [hst2] at hl; exact hl
              rw [hst2] at hp
              rw [hst2] at hev
              rw [hsl]
              refine z_iinc F dX10_works_119 2 rfl (-1) (by decide) [(0, _), (1, _), (2, _), (3, _), (4, _)] rfl (by decide) 122 rfl ?_
              rw [show nI (st2.length + 2) + (-1) = nI (st2.length + 1) from pk_m1 _]
              refine z_aload_n F dX10_works_122 0 rfl 123 rfl ?_
              refine z_getR F zc9 dX10_works_123 rfl 11 (by decide) (by decide) (.inl m_941) rfl (by decide) 126 rfl ?_
              refine z_iload_n F dX10_works_126 2 rfl 127 rfl ?_
              refine z_iconst F dX10_works_127 1 (by decide) 128 rfl ?_
              refine z_isub F dX10_works_128 129 rfl ?_
              rw [nI_pred]
              refine z_iload F dX10_works_129 4 rfl 131 rfl ?_
              refine z_aload_n F dX10_works_131 0 rfl 132 rfl ?_
              refine z_getR F zc9 dX10_works_132 rfl 11 (by decide) (by decide) (.inl m_941) rfl (by decide) 135 rfl ?_
              refine z_iload_n F dX10_works_135 2 rfl 136 rfl ?_
              refine z_iconst F dX10_works_136 1 (by decide) 137 rfl ?_
              refine z_isub F dX10_works_137 138 rfl ?_
              rw [nI_pred]
              refine z_iald F dX10_works_138 rfl (vp_in_nI (by omega) (by decide)) 139 rfl ?_
              rw [nI_clamp (by omega), hp.2.1]
              refine z_aload_n F dX10_works_139 0 rfl 140 rfl ?_
              refine z_getR F zc9 dX10_works_140 rfl 11 (by decide) (by decide) (.inl m_941) rfl (by decide) 143 rfl ?_
              refine z_iload_n F dX10_works_143 2 rfl 144 rfl ?_
              refine z_iald F dX10_works_144 rfl (vp_in_nI (by omega) (by decide)) 145 rfl ?_
              rw [nI_clamp (by omega), show τ 11 (st2.length + 1) = y from hp.1]
              refine z_callSp F dX10_works_145 m_1055 iX10_twoOf m_1056 rfl (kX10_twoOf τ w x y) rfl (by decide) (Nat.le_of_ble_eq_true rfl) 148 rfl ?_
              refine z_iast F dX10_works_148 rfl (vp_in_nI (by omega) (by decide)) 149 rfl ?_
              rw [nI_clamp (by omega)]
              refine z_iinc F dX10_works_149 3 rfl 1 (by decide) [(0, _), (1, _), (2, _), (3, _), (4, _)] rfl (by decide) 152 rfl ?_
              refine z_goto F dX10_works_152 4 (by decide) ?_
              simp only [nI_1]
              have hfin : evR r at0 (fa3 a b c) (k + 1) = twoS w x y :: st2 := by
                rw [hev]; unfold evS
                obtain ⟨n1, n2, n3, -⟩ := sgn_ne hsg
                simp only [n1, n2, n3, if_false]
              refine z_sub [0, 1, 2, 3] rfl (ih (k + 1) _ (twoS w x y :: st2) (by omega) (by omega) hfin.symm (hs.u2 (by decide)) ?_)
              rw [z_u2, up_same]
              exact ⟨by rw [upd_at, if_pos rfl], (hp.2.2).upd (Nat.le_refl _)⟩
            · skip
              have hw3 : w = 3 := h89
              have hd1 : 1 ≤ dpR r at0 k := by
                rcases hop with ⟨e, -⟩ | ⟨e, -⟩ | ⟨-, e⟩ | ⟨e, -⟩
                · rw [hw3] at e; exact absurd e (by decide)
                · rw [hw3] at e; exact absurd e (by decide)
                · exact e
                · exact absurd hw3 (sgn_ne e).2.2.1
              obtain ⟨x, st2, hst2⟩ : ∃ x t, st = x :: t := by
                cases hq : st with
                | nil => rw [hq] at hl; simp at hl; omega
                | cons x t => exact ⟨x, t, rfl⟩
              have hsl : nI st.length = nI (st2.length + 1) := by rw [hst2]; rfl
              have hl2 : st2.length + 1 = dpR r at0 k := by rw [hst2] at hl; exact hl
              rw [hst2] at hp
              rw [hst2, hw3] at hev
              rw [hsl]
              refine z_aload_n F dX10_works_92 0 rfl 93 rfl ?_
              refine z_getR F zc9 dX10_works_93 rfl 11 (by decide) (by decide) (.inl m_941) rfl (by decide) 96 rfl ?_
              refine z_iload_n F dX10_works_96 2 rfl 97 rfl ?_
              refine z_iconst F dX10_works_97 1 (by decide) 98 rfl ?_
              refine z_isub F dX10_works_98 99 rfl ?_
              rw [nI_pred]
              refine z_aload_n F dX10_works_99 0 rfl 100 rfl ?_
              refine z_getR F zc9 dX10_works_100 rfl 11 (by decide) (by decide) (.inl m_941) rfl (by decide) 103 rfl ?_
              refine z_iload_n F dX10_works_103 2 rfl 104 rfl ?_
              refine z_iconst F dX10_works_104 1 (by decide) 105 rfl ?_
              refine z_isub F dX10_works_105 106 rfl ?_
              rw [nI_pred]
              refine z_iald F dX10_works_106 rfl (vp_in_nI (by omega) (by decide)) 107 rfl ?_
              rw [nI_clamp (by omega), hp.1]
              refine z_if_ne F dX10_works_107 114 (by decide) 110 rfl (fun h107 => ?_) (fun h107 => ?_)
              · skip
                refine z_iconst F dX10_works_114 0 (by decide) 115 rfl ?_
                refine z_iast F dX10_works_115 rfl (vp_in_nI (by omega) (by decide)) 116 rfl ?_
                rw [nI_clamp (by omega)]
                refine z_goto F dX10_works_116 149 (by decide) ?_
                refine z_iinc F dX10_works_149 3 rfl 1 (by decide) [(0, _), (1, _), (2, _), (3, _), (4, _)] rfl (by decide) 152 rfl ?_
                refine z_goto F dX10_works_152 4 (by decide) ?_
                simp only [nI_1]
                have hfin : evR r at0 (fa3 a b c) (k + 1) = bI (x = 0) :: st2 := by
                  rw [hev]; unfold evS
                  simp only [show ¬ (3 : Int32) = 1 by decide, show ¬ (3 : Int32) = 2 by decide, if_false, if_true]
                refine z_sub [0, 1, 2, 3] rfl (ih (k + 1) _ (bI (x = 0) :: st2) (by omega) (by omega) hfin.symm (hs.u2 (by decide)) ?_)
                rw [z_u2, up_same]
                exact ⟨by rw [upd_at, if_pos rfl]; exact (bI_f h107).symm, hp.2.upd (Nat.le_refl _)⟩
              · skip
                refine z_iconst F dX10_works_110 1 (by decide) 111 rfl ?_
                refine z_goto F dX10_works_111 115 (by decide) ?_
                refine z_iast F dX10_works_115 rfl (vp_in_nI (by omega) (by decide)) 116 rfl ?_
                rw [nI_clamp (by omega)]
                refine z_goto F dX10_works_116 149 (by decide) ?_
                refine z_iinc F dX10_works_149 3 rfl 1 (by decide) [(0, _), (1, _), (2, _), (3, _), (4, _)] rfl (by decide) 152 rfl ?_
                refine z_goto F dX10_works_152 4 (by decide) ?_
                simp only [nI_1]
                have hfin : evR r at0 (fa3 a b c) (k + 1) = bI (x = 0) :: st2 := by
                  rw [hev]; unfold evS
                  simp only [show ¬ (3 : Int32) = 1 by decide, show ¬ (3 : Int32) = 2 by decide, if_false, if_true]
                refine z_sub [0, 1, 2, 3] rfl (ih (k + 1) _ (bI (x = 0) :: st2) (by omega) (by omega) hfin.symm (hs.u2 (by decide)) ?_)
                rw [z_u2, up_same]
                exact ⟨by rw [upd_at, if_pos rfl]; exact (bI_t h107).symm, hp.2.upd (Nat.le_refl _)⟩
          · skip
            have hw2 : w = 2 := h35
            have hv2 : v = 0 ∨ v = 1 ∨ v = 2 := by
              rcases hop with ⟨e, -⟩ | ⟨-, e⟩ | ⟨e, -⟩ | ⟨e, -⟩
              · rw [hw2] at e; exact absurd e (by decide)
              · exact e
              · rw [hw2] at e; exact absurd e (by decide)
              · exact absurd hw2 (sgn_ne e).2.1
            have hfv : τ 10 v.toNatClampNeg = fa3 a b c v.toNatClampNeg := by
              rw [eF]; rcases hv2 with e | e | e <;> (rw [e]; exact hfa _ (by decide))
            refine z_aload_n F dX10_works_38 0 rfl 39 rfl ?_
            refine z_getR F zc9 dX10_works_39 rfl 11 (by decide) (by decide) (.inl m_941) rfl (by decide) 42 rfl ?_
            refine z_iload_n F dX10_works_42 2 rfl 43 rfl ?_
            refine z_iload F dX10_works_43 4 rfl 45 rfl ?_
            refine z_iconst F dX10_works_45 1 (by decide) 46 rfl ?_
            refine z_icmp_ne F dX10_works_46 63 (by decide) 49 rfl (fun h46 => ?_) (fun h46 => ?_)
            · skip
              refine z_aload_n F dX10_works_63 0 rfl 64 rfl ?_
              refine z_getR F zc9 dX10_works_64 rfl 10 (by decide) (by decide) (.inl m_940) rfl (by decide) 67 rfl ?_
              refine z_aload_n F dX10_works_67 0 rfl 68 rfl ?_
              refine z_getR F zc9 dX10_works_68 rfl 0 (by decide) (by decide) (.inl m_930) rfl (by decide) 71 rfl ?_
              refine z_iload_n F dX10_works_71 1 rfl 72 rfl ?_
              refine z_bipush F dX10_works_72 61 (by decide) 74 rfl ?_
              refine z_iadd F dX10_works_74 75 rfl ?_
              refine z_iload_n F dX10_works_75 3 rfl 76 rfl ?_
              refine z_iadd F dX10_works_76 77 rfl ?_
              rw [show (61 : Int32) = nI 61 from rfl, nI_add, nI_add]
              refine z_iald F dX10_works_77 rfl (vp_in_nI (by omega) (by decide)) 78 rfl ?_
              rw [nI_clamp (by omega), eR, hv]
              refine z_iald F dX10_works_78 rfl (by rcases hv2 with e | e | e <;> rw [e] <;> first | exact vp_in_nI (n := 0) (by decide) (by decide) | exact vp_in_nI (n := 1) (by decide) (by decide) | exact vp_in_nI (n := 2) (by decide) (by decide)) 79 rfl ?_
              rw [hfv]
              refine z_iast F dX10_works_79 rfl (vp_in_nI (by omega) (by decide)) 80 rfl ?_
              rw [nI_clamp (by omega)]
              refine z_iinc F dX10_works_80 2 rfl 1 (by decide) [(0, _), (1, _), (2, _), (3, _), (4, _)] rfl (by decide) 83 rfl ?_
              refine z_goto F dX10_works_83 149 (by decide) ?_
              refine z_iinc F dX10_works_149 3 rfl 1 (by decide) [(0, _), (1, _), (2, _), (3, _), (4, _)] rfl (by decide) 152 rfl ?_
              refine z_goto F dX10_works_152 4 (by decide) ?_
              simp only [nI_1]
              have hfin : evR r at0 (fa3 a b c) (k + 1) = fa3 a b c v.toNatClampNeg :: st := by
                rw [hev]; unfold evS
                rw [hw2]; rfl
              refine z_sub [0, 1, 2, 3] rfl (ih (k + 1) _ (fa3 a b c v.toNatClampNeg :: st) (by omega) (by omega) hfin.symm (hs.u2 (by decide)) ?_)
              rw [z_u2, up_same]
              exact ⟨by rw [upd_at, if_pos rfl], hp.upd (Nat.le_refl _)⟩
            · skip
              exact absurd (h35.symm.trans h46) (by decide)
  refine z_iconst F dX10_works_0 0 (by decide) 1 rfl ?_
  refine z_istore_n F dX10_works_1 [(0, _), (1, _), (2, _)] rfl (by decide) 2 rfl ?_
  refine z_iconst F dX10_works_2 0 (by decide) 3 rfl ?_
  refine z_istore_n F dX10_works_3 [(0, _), (1, _), (2, _), (3, _)] rfl (by decide) 4 rfl ?_
  exact loop4 61 0 σ [] (by omega) (by omega) rfl MS.rf trivial
set_option maxHeartbeats 1000000 in
set_option maxRecDepth 10000 in
theorem kX10_gives {l : Launch} {E : z_E} (σ : z_M) {u : Nat} (hu : u < 2) (hC : VC (σ 1) u) (a b c : Int32) : z_C l E shM 2 yX10_gives cX10_gives 6 (some FieldType.int) [.ref (z_ad E 0), .int (nI u), .int a, .int b, .int c] σ (z_Pi (fun rv σ' => rv = givS (σ 1) u a b c ∧ MS [10, 11] σ σ')) := by
  refine z_intro iX10_gives (Nat.le_of_ble_eq_true rfl) (fun K F => ?_)
  refine z_sipush F dX10_gives_0 143 (by decide) 3 rfl ?_
  refine z_bipush F dX10_gives_3 121 (by decide) 5 rfl ?_
  refine z_iload_n F dX10_gives_5 1 rfl 6 rfl ?_
  refine z_imul F dX10_gives_6 7 rfl ?_
  refine z_iadd F dX10_gives_7 8 rfl ?_
  rw [at_u]
  refine z_istore F dX10_gives_8 [(0, _), (1, _), (2, _), (3, _), (4, _), (5, _)] rfl (by decide) 10 rfl ?_
  refine z_aload_n F dX10_gives_10 0 rfl 11 rfl ?_
  refine z_getR F zc9 dX10_gives_11 rfl 10 (by decide) (by decide) (.inl m_940) rfl (by decide) 14 rfl ?_
  refine z_iconst F dX10_gives_14 0 (by decide) 15 rfl ?_
  refine z_iload_n F dX10_gives_15 2 rfl 16 rfl ?_
  refine z_iast F dX10_gives_16 rfl (show vp_in (nI 0) 3 from vp_in_nI (by decide) (by decide)) 17 rfl ?_
  rw [tn_0]
  refine z_aload_n F dX10_gives_17 0 rfl 18 rfl ?_
  refine z_getR F zc9 dX10_gives_18 rfl 10 (by decide) (by decide) (.inl m_940) rfl (by decide) 21 rfl ?_
  refine z_iconst F dX10_gives_21 1 (by decide) 22 rfl ?_
  refine z_iload_n F dX10_gives_22 3 rfl 23 rfl ?_
  refine z_iast F dX10_gives_23 rfl (show vp_in (nI 1) 3 from vp_in_nI (by decide) (by decide)) 24 rfl ?_
  rw [tn_1]
  refine z_aload_n F dX10_gives_24 0 rfl 25 rfl ?_
  refine z_getR F zc9 dX10_gives_25 rfl 10 (by decide) (by decide) (.inl m_940) rfl (by decide) 28 rfl ?_
  refine z_iconst F dX10_gives_28 2 (by decide) 29 rfl ?_
  refine z_iload F dX10_gives_29 4 rfl 31 rfl ?_
  refine z_iast F dX10_gives_31 rfl (show vp_in (nI 2) 3 from vp_in_nI (by decide) (by decide)) 32 rfl ?_
  rw [tn_2]
  generalize hτ : z_u2 (z_u2 (z_u2 σ 10 0 a) 10 1 b) 10 2 c = τ
  have hs : MS [10] σ τ := hτ ▸ ((MS.rf.u2 (by decide)).u2 (by decide)).u2 (by decide)
  have eR : τ 1 = σ 1 := hs 1 (by decide)
  have hfa : ∀ j, j < 3 → τ 10 j = fa3 a b c j := fun j hj => by
    rw [← hτ, u2_at, u2_at, u2_at]
    rcases (show j = 0 ∨ j = 1 ∨ j = 2 by omega) with rfl | rfl | rfl <;> rfl
  refine z_aload_n F dX10_gives_32 0 rfl 33 rfl ?_
  refine z_getR F zc9 dX10_gives_33 rfl 0 (by decide) (by decide) (.inl m_930) rfl (by decide) 36 rfl ?_
  refine z_iload F dX10_gives_36 5 rfl 38 rfl ?_
  refine z_iald F dX10_gives_38 rfl (vp_in_nI (by omega) (by decide)) 39 rfl ?_
  rw [nI_clamp (by omega), eR, hC.1]
  refine z_if_le F dX10_gives_39 51 (by decide) 42 rfl (fun h39 => ?_) (fun h39 => ?_)
  · skip
    refine z_iload_n F dX10_gives_51 2 rfl 52 rfl ?_
    refine z_iconst F dX10_gives_52 0 (by decide) 53 rfl ?_
    refine z_bipush F dX10_gives_53 40 (by decide) 55 rfl ?_
    refine z_callSp F dX10_gives_55 m_1058 iX10_held m_1059 rfl (kX10_held _ _ _ _) rfl (by decide) (Nat.le_of_ble_eq_true rfl) 58 rfl ?_
    refine z_ri F dX10_gives_58 ?_
    refine ⟨?_, hs.sub (by decide)⟩
    unfold givS
    have hnp : ¬ 0 < cL (σ 1) u := fun z => absurd (le_nI (b := 0) h39 (by have := hC.2.1; omega) (by decide)) (by omega)
    rw [if_neg hnp]; rfl
  · skip
    have hpos : 0 < cL (σ 1) u := nle_nI (b := 0) h39 (by have := hC.2.1; omega) (by decide)
    refine z_aload_n F dX10_gives_42 0 rfl 43 rfl ?_
    refine z_iload F dX10_gives_43 5 rfl 45 rfl ?_
    refine z_callVi F dX10_gives_45 m_1051 iX10_works jX10_works rfl zc9 rfl (kX10_works τ eR hu hC hpos hfa) rfl (by decide) (Nat.le_of_ble_eq_true rfl) 48 rfl (fun r45 s45 c45 => ?_)
    refine z_goto F dX10_gives_48 52 (by decide) ?_
    refine z_iconst F dX10_gives_52 0 (by decide) 53 rfl ?_
    refine z_bipush F dX10_gives_53 40 (by decide) 55 rfl ?_
    refine z_callSp F dX10_gives_55 m_1058 iX10_held m_1059 rfl (kX10_held _ _ _ _) rfl (by decide) (Nat.le_of_ble_eq_true rfl) 58 rfl ?_
    refine z_ri F dX10_gives_58 ?_
    obtain ⟨rfl, m45⟩ := c45
    refine ⟨?_, (hs.sub (by decide)).tr (m45.sub (by decide))⟩
    unfold givS
    rw [if_pos hpos]; rfl
set_option maxHeartbeats 400000 in
set_option maxRecDepth 10000 in
theorem kX10_veils {l : Launch} {E : z_E} (σ : z_M) (hn : σ 1 2 = nI (nP (σ 1)) ∧ nP (σ 1) ≤ 8) (hC : VC (σ 1) 0) {i j : Nat} (hi : i < nP (σ 1)) (hj : j < nP (σ 1)) : z_C l E shM 4 yX10_veils cX10_veils 4 (some FieldType.int) [.ref (z_ad E 0), .int (nI i), .int (nI j)] σ (z_Pi (fun rv σ' => rv = veilS (σ 1) i j ∧ MS [10, 11] σ σ')) := by
  refine z_intro iX10_veils (Nat.le_of_ble_eq_true rfl) (fun K F => ?_)
  refine z_aload_n F dX10_veils_0 0 rfl 1 rfl ?_
  refine z_iload_n F dX10_veils_1 1 rfl 2 rfl ?_
  refine z_iload_n F dX10_veils_2 2 rfl 3 rfl ?_
  refine z_callVp F dX10_veils_3 m_1096 iX10_stepsBy jX10_stepsBy rfl zc9 rfl (kX10_stepsBy σ hn hi hj) rfl (by decide) (Nat.le_of_ble_eq_true rfl) 6 rfl ?_
  refine z_istore_n F dX10_veils_6 [(0, _), (1, _), (2, _), (3, _)] rfl (by decide) 7 rfl ?_
  refine z_aload_n F dX10_veils_7 0 rfl 8 rfl ?_
  refine z_iconst F dX10_veils_8 0 (by decide) 9 rfl ?_
  refine z_aload_n F dX10_veils_9 0 rfl 10 rfl ?_
  refine z_iload_n F dX10_veils_10 1 rfl 11 rfl ?_
  refine z_iload_n F dX10_veils_11 3 rfl 12 rfl ?_
  refine z_callVp F dX10_veils_12 m_1108 iX10_letsBy jX10_letsBy rfl zc9 rfl (kX10_letsBy σ (q := i) (by omega) _) rfl (by decide) (Nat.le_of_ble_eq_true rfl) 15 rfl ?_
  refine z_iload_n F dX10_veils_15 3 rfl 16 rfl ?_
  refine z_aload_n F dX10_veils_16 0 rfl 17 rfl ?_
  refine z_getR F zc9 dX10_veils_17 rfl 0 (by decide) (by decide) (.inl m_930) rfl (by decide) 20 rfl ?_
  refine z_iconst F dX10_veils_20 0 (by decide) 21 rfl ?_
  refine z_iald F dX10_veils_21 rfl (show vp_in (nI 0) 385 from vp_in_nI (by decide) (by decide)) 22 rfl ?_
  rw [tn_0]
  refine z_bipush F dX10_veils_22 8 (by decide) 24 rfl ?_
  refine z_irem F dX10_veils_24 (by decide) 25 rfl ?_
  refine z_callVi F dX10_veils_25 m_1047 iX10_gives jX10_gives rfl zc9 rfl (kX10_gives σ (u := 0) (by decide) hC _ _ _) rfl (by decide) (Nat.le_of_ble_eq_true rfl) 28 rfl (fun r25 s25 c25 => ?_)
  refine z_ri F dX10_veils_28 ?_
  obtain ⟨rfl, m25⟩ := c25
  exact ⟨rfl, m25⟩
set_option maxHeartbeats 400000 in
set_option maxRecDepth 10000 in
theorem kX10_sight {l : Launch} {E : z_E} (σ : z_M) (hn : σ 1 2 = nI (nP (σ 1)) ∧ nP (σ 1) ≤ 8) (hC : VC (σ 1) 1) {i : Nat} (hi : i < nP (σ 1)) : z_C l E shM 5 yX10_sight cX10_sight 2 (some FieldType.int) [.ref (z_ad E 0), .int (nI i)] σ (z_Pi (fun rv σ' => rv = sightS (σ 1) i ∧ MS [10, 11] σ σ')) := by
  refine z_intro iX10_sight (Nat.le_of_ble_eq_true rfl) (fun K F => ?_)
  refine z_aload_n F dX10_sight_0 0 rfl 1 rfl ?_
  refine z_iconst F dX10_sight_1 1 (by decide) 2 rfl ?_
  refine z_aload_n F dX10_sight_2 0 rfl 3 rfl ?_
  refine z_iload_n F dX10_sight_3 1 rfl 4 rfl ?_
  refine z_callVp F dX10_sight_4 m_1028 iX10_eyes jX10_eyes rfl zc9 rfl (kX10_eyes σ hn hi) rfl (by decide) (Nat.le_of_ble_eq_true rfl) 7 rfl ?_
  refine z_aload_n F dX10_sight_7 0 rfl 8 rfl ?_
  refine z_getR F zc9 dX10_sight_8 rfl 0 (by decide) (by decide) (.inl m_930) rfl (by decide) 11 rfl ?_
  refine z_iconst F dX10_sight_11 0 (by decide) 12 rfl ?_
  refine z_iald F dX10_sight_12 rfl (show vp_in (nI 0) 385 from vp_in_nI (by decide) (by decide)) 13 rfl ?_
  rw [tn_0]
  refine z_bipush F dX10_sight_13 8 (by decide) 15 rfl ?_
  refine z_irem F dX10_sight_15 (by decide) 16 rfl ?_
  refine z_aload_n F dX10_sight_16 0 rfl 17 rfl ?_
  refine z_getR F zc9 dX10_sight_17 rfl 0 (by decide) (by decide) (.inl m_930) rfl (by decide) 20 rfl ?_
  refine z_iconst F dX10_sight_20 3 (by decide) 21 rfl ?_
  refine z_iald F dX10_sight_21 rfl (show vp_in (nI 3) 385 from vp_in_nI (by decide) (by decide)) 22 rfl ?_
  rw [tn_3]
  refine z_bipush F dX10_sight_22 10 (by decide) 24 rfl ?_
  refine z_idiv F dX10_sight_24 (by decide) 25 rfl ?_
  refine z_callVi F dX10_sight_25 m_1047 iX10_gives jX10_gives rfl zc9 rfl (kX10_gives σ (u := 1) (by decide) hC _ _ _) rfl (by decide) (Nat.le_of_ble_eq_true rfl) 28 rfl (fun r25 s25 c25 => ?_)
  refine z_ri F dX10_sight_28 ?_
  obtain ⟨rfl, m25⟩ := c25
  exact ⟨rfl, m25⟩
