/-! the reference: besides, steps -/
set_option maxHeartbeats 400000 in
set_option maxRecDepth 10000 in
theorem kX10_copyAll {l : Launch} {E : z_E} (σ : z_M) {o o2 : Nat} (h1 : shM[o]? = some (0, 385, [])) (h2 : shM[o2]? = some (0, 385, [])) (hne : o ≠ o2) : z_C l E shM 0 yX10_copyAll cX10_copyAll 3 none [.ref (z_ad E o), .ref (z_ad E o2)] σ (z_Pu (z_up σ o2 (σ o))) := by
  refine z_intro iX10_copyAll (Nat.le_of_ble_eq_true rfl) (fun K F => ?_)
  have loop2 : ∀ (f : Nat) (j : Nat) (τ : z_M) (_ : 385 < j + f) (_ : j ≤ 385) (_ : ∀ q, q ≠ o2 → τ q = σ q) (_ : ∀ k, k < j → τ o2 k = σ o k), z_X l K E shM 0 3 (z_Pu (z_up σ o2 (σ o))) 2 [(0, .ref (z_ad E o)), (1, .ref (z_ad E o2)), (2, .int (nI j))] [] τ := by
    intro f
    induction f with
    | zero =>
      intro j τ hf hj hs hd
      omega
    | succ f ih =>
      intro j τ hf hj hs hd
      refine z_iload_n F dX10_copyAll_2 2 rfl 3 rfl ?_
      refine z_sipush F dX10_copyAll_3 385 (by decide) 6 rfl ?_
      refine z_icmp_ge F dX10_copyAll_6 21 (by decide) 9 rfl (fun h6 => ?_) (fun h6 => ?_)
      · skip
        have hj2 : j = 385 := by have := le_nI (a := 385) h6 (by decide) (by omega); omega
        subst hj2
        refine z_cut h2 (σ o) (fun k hk => (hd k hk).symm) ?_
        refine z_ru F dX10_copyAll_21 ?_
        funext q
        unfold z_up
        by_cases z : q = o2
        · rw [if_pos z, if_pos z]
        · rw [if_neg z, if_neg z]; exact hs q z
      · skip
        have hj2 : j < 385 := nle_nI h6 (by omega) (by omega)
        refine z_aload_n F dX10_copyAll_9 1 rfl 10 rfl ?_
        refine z_iload_n F dX10_copyAll_10 2 rfl 11 rfl ?_
        refine z_aload_n F dX10_copyAll_11 0 rfl 12 rfl ?_
        refine z_iload_n F dX10_copyAll_12 2 rfl 13 rfl ?_
        refine z_iald F dX10_copyAll_13 h1 (vp_in_nI hj2 (by decide)) 14 rfl ?_
        refine z_iast F dX10_copyAll_14 h2 (vp_in_nI hj2 (by decide)) 15 rfl ?_
        rw [nI_clamp (show j < 2 ^ 31 by omega)]
        refine z_iinc F dX10_copyAll_15 2 rfl 1 (by decide) [(0, _), (1, _), (2, _)] rfl (by decide) 18 rfl ?_
        refine z_goto F dX10_copyAll_18 2 (by decide) ?_
        rw [nI_1]
        refine ih (j + 1) _ (by omega) (by omega) (fun q hq => by rw [u2_o hq]; exact hs q hq) (fun k hk => ?_)
        rw [u2_at, hs o hne]
        by_cases z : k = j
        · rw [if_pos ⟨rfl, z⟩, z]
        · rw [if_neg (fun y => z y.2)]; exact hd k (by omega)
  refine z_iconst F dX10_copyAll_0 0 (by decide) 1 rfl ?_
  refine z_istore_n F dX10_copyAll_1 [(0, _), (1, _), (2, _)] rfl (by decide) 2 rfl ?_
  exact loop2 386 0 σ (by omega) (by omega) (fun q hq => rfl) (fun k hk => by omega)
set_option maxHeartbeats 400000 in
set_option maxRecDepth 10000 in
theorem kX10_thinks {l : Launch} {E : z_E} (σ : z_M)  : z_C l E shM 1 yX10_thinks cX10_thinks 1 none [.ref (z_ad E 0)] σ (z_Pu (z_up σ 3 (σ 1))) := by
  refine z_intro iX10_thinks (Nat.le_of_ble_eq_true rfl) (fun K F => ?_)
  refine z_aload_n F dX10_thinks_0 0 rfl 1 rfl ?_
  refine z_getR F zc9 dX10_thinks_1 rfl 0 (by decide) (by decide) (.inl m_930) rfl (by decide) 4 rfl ?_
  refine z_aload_n F dX10_thinks_4 0 rfl 5 rfl ?_
  refine z_getR F zc9 dX10_thinks_5 rfl 2 (by decide) (by decide) (.inl m_932) rfl (by decide) 8 rfl ?_
  refine z_callSu F dX10_thinks_8 m_1226 iX10_copyAll m_1227 rfl (kX10_copyAll σ (o := 1) (o2 := 3) rfl rfl (by decide)) rfl (by decide) (Nat.le_of_ble_eq_true rfl) 11 rfl ?_
  refine z_ru F dX10_thinks_11 ?_
  rfl
set_option maxHeartbeats 400000 in
set_option maxRecDepth 10000 in
theorem kX10_putsBack {l : Launch} {E : z_E} (σ : z_M)  : z_C l E shM 1 yX10_putsBack cX10_putsBack 1 none [.ref (z_ad E 0)] σ (z_Pu (z_up σ 1 (σ 3))) := by
  refine z_intro iX10_putsBack (Nat.le_of_ble_eq_true rfl) (fun K F => ?_)
  refine z_aload_n F dX10_putsBack_0 0 rfl 1 rfl ?_
  refine z_getR F zc9 dX10_putsBack_1 rfl 2 (by decide) (by decide) (.inl m_932) rfl (by decide) 4 rfl ?_
  refine z_aload_n F dX10_putsBack_4 0 rfl 5 rfl ?_
  refine z_getR F zc9 dX10_putsBack_5 rfl 0 (by decide) (by decide) (.inl m_930) rfl (by decide) 8 rfl ?_
  refine z_callSu F dX10_putsBack_8 m_1226 iX10_copyAll m_1227 rfl (kX10_copyAll σ (o := 3) (o2 := 1) rfl rfl (by decide)) rfl (by decide) (Nat.le_of_ble_eq_true rfl) 11 rfl ?_
  refine z_ru F dX10_putsBack_11 ?_
  rfl
set_option maxHeartbeats 4000000 in
set_option maxRecDepth 10000 in
theorem kX10_twoOf {l : Launch} {E : z_E} (σ : z_M) {S : z_Sh} (x a b : Int32) : z_C l E S 0 yX10_twoOf cX10_twoOf 3 (some FieldType.int) [.int x, .int a, .int b] σ (z_Pp (twoS x a b) σ) := by
  refine z_intro iX10_twoOf (Nat.le_of_ble_eq_true rfl) (fun K F => ?_)
  refine z_iload_n F dX10_twoOf_0 0 rfl 1 rfl ?_
  by_cases e1_37 : x = 37
  · skip
    refine z_tableIn F dX10_twoOf_1 (by rw [e1_37]; decide) (by rw [e1_37]; decide) (by rw [e1_37]; rfl) 144 (by decide) ?_
    refine z_iload_n F dX10_twoOf_144 2 rfl 145 rfl ?_
    refine z_if_ne F dX10_twoOf_145 152 (by decide) 148 rfl (fun h145 => ?_) (fun h145 => ?_)
    · skip
      refine z_iload_n F dX10_twoOf_152 1 rfl 153 rfl ?_
      refine z_iload_n F dX10_twoOf_153 2 rfl 154 rfl ?_
      refine z_irem F dX10_twoOf_154 h145 155 rfl ?_
      refine z_rp F dX10_twoOf_155 ?_ rfl
      first
        | (simp [twoS, bI, *]; done)
        | (unfold twoS bI; (repeat' split) <;> first | rfl | (exfalso; simp only [Int32.lt_iff_toInt_lt, Int32.le_iff_toInt_le, ← Int32.toInt_inj, Int32.reduceToInt] at *; omega))
    · skip
      refine z_iconst F dX10_twoOf_148 0 (by decide) 149 rfl ?_
      refine z_goto F dX10_twoOf_149 155 (by decide) ?_
      refine z_rp F dX10_twoOf_155 ?_ rfl
      first
        | (simp [twoS, bI, *]; done)
        | (unfold twoS bI; (repeat' split) <;> first | rfl | (exfalso; simp only [Int32.lt_iff_toInt_lt, Int32.le_iff_toInt_le, ← Int32.toInt_inj, Int32.reduceToInt] at *; omega))
  by_cases e1_38 : x = 38
  · skip
    refine z_tableIn F dX10_twoOf_1 (by rw [e1_38]; decide) (by rw [e1_38]; decide) (by rw [e1_38]; rfl) 189 (by decide) ?_
    refine z_iload_n F dX10_twoOf_189 1 rfl 190 rfl ?_
    refine z_if_eq F dX10_twoOf_190 201 (by decide) 193 rfl (fun h190 => ?_) (fun h190 => ?_)
    · skip
      refine z_iconst F dX10_twoOf_201 0 (by decide) 202 rfl ?_
      refine z_rp F dX10_twoOf_202 ?_ rfl
      first
        | (simp [twoS, bI, *]; done)
        | (unfold twoS bI; (repeat' split) <;> first | rfl | (exfalso; simp only [Int32.lt_iff_toInt_lt, Int32.le_iff_toInt_le, ← Int32.toInt_inj, Int32.reduceToInt] at *; omega))
    · skip
      refine z_iload_n F dX10_twoOf_193 2 rfl 194 rfl ?_
      refine z_if_eq F dX10_twoOf_194 201 (by decide) 197 rfl (fun h194 => ?_) (fun h194 => ?_)
      · skip
        refine z_iconst F dX10_twoOf_201 0 (by decide) 202 rfl ?_
        refine z_rp F dX10_twoOf_202 ?_ rfl
        first
          | (simp [twoS, bI, *]; done)
          | (unfold twoS bI; (repeat' split) <;> first | rfl | (exfalso; simp only [Int32.lt_iff_toInt_lt, Int32.le_iff_toInt_le, ← Int32.toInt_inj, Int32.reduceToInt] at *; omega))
      · skip
        refine z_iconst F dX10_twoOf_197 1 (by decide) 198 rfl ?_
        refine z_goto F dX10_twoOf_198 202 (by decide) ?_
        refine z_rp F dX10_twoOf_202 ?_ rfl
        first
          | (simp [twoS, bI, *]; done)
          | (unfold twoS bI; (repeat' split) <;> first | rfl | (exfalso; simp only [Int32.lt_iff_toInt_lt, Int32.le_iff_toInt_le, ← Int32.toInt_inj, Int32.reduceToInt] at *; omega))
  by_cases e1_39 : x = 39
  · skip
    refine z_tableIn F dX10_twoOf_1 (by rw [e1_39]; decide) (by rw [e1_39]; decide) (by rw [e1_39]; rfl) 203 (by decide) ?_
    refine z_iload_n F dX10_twoOf_203 1 rfl 204 rfl ?_
    refine z_if_ne F dX10_twoOf_204 211 (by decide) 207 rfl (fun h204 => ?_) (fun h204 => ?_)
    · skip
      refine z_iconst F dX10_twoOf_211 1 (by decide) 212 rfl ?_
      refine z_goto F dX10_twoOf_212 216 (by decide) ?_
      refine z_rp F dX10_twoOf_216 ?_ rfl
      first
        | (simp [twoS, bI, *]; done)
        | (unfold twoS bI; (repeat' split) <;> first | rfl | (exfalso; simp only [Int32.lt_iff_toInt_lt, Int32.le_iff_toInt_le, ← Int32.toInt_inj, Int32.reduceToInt] at *; omega))
    · skip
      refine z_iload_n F dX10_twoOf_207 2 rfl 208 rfl ?_
      refine z_if_eq F dX10_twoOf_208 215 (by decide) 211 rfl (fun h208 => ?_) (fun h208 => ?_)
      · skip
        refine z_iconst F dX10_twoOf_215 0 (by decide) 216 rfl ?_
        refine z_rp F dX10_twoOf_216 ?_ rfl
        first
          | (simp [twoS, bI, *]; done)
          | (unfold twoS bI; (repeat' split) <;> first | rfl | (exfalso; simp only [Int32.lt_iff_toInt_lt, Int32.le_iff_toInt_le, ← Int32.toInt_inj, Int32.reduceToInt] at *; omega))
      · skip
        refine z_iconst F dX10_twoOf_211 1 (by decide) 212 rfl ?_
        refine z_goto F dX10_twoOf_212 216 (by decide) ?_
        refine z_rp F dX10_twoOf_216 ?_ rfl
        first
          | (simp [twoS, bI, *]; done)
          | (unfold twoS bI; (repeat' split) <;> first | rfl | (exfalso; simp only [Int32.lt_iff_toInt_lt, Int32.le_iff_toInt_le, ← Int32.toInt_inj, Int32.reduceToInt] at *; omega))
  by_cases e1_40 : x = 40
  · skip
    refine z_tableIn F dX10_twoOf_1 (by rw [e1_40]; decide) (by rw [e1_40]; decide) (by rw [e1_40]; rfl) 203 (by decide) ?_
    refine z_iload_n F dX10_twoOf_203 1 rfl 204 rfl ?_
    refine z_if_ne F dX10_twoOf_204 211 (by decide) 207 rfl (fun h204 => ?_) (fun h204 => ?_)
    · skip
      refine z_iconst F dX10_twoOf_211 1 (by decide) 212 rfl ?_
      refine z_goto F dX10_twoOf_212 216 (by decide) ?_
      refine z_rp F dX10_twoOf_216 ?_ rfl
      first
        | (simp [twoS, bI, *]; done)
        | (unfold twoS bI; (repeat' split) <;> first | rfl | (exfalso; simp only [Int32.lt_iff_toInt_lt, Int32.le_iff_toInt_le, ← Int32.toInt_inj, Int32.reduceToInt] at *; omega))
    · skip
      refine z_iload_n F dX10_twoOf_207 2 rfl 208 rfl ?_
      refine z_if_eq F dX10_twoOf_208 215 (by decide) 211 rfl (fun h208 => ?_) (fun h208 => ?_)
      · skip
        refine z_iconst F dX10_twoOf_215 0 (by decide) 216 rfl ?_
        refine z_rp F dX10_twoOf_216 ?_ rfl
        first
          | (simp [twoS, bI, *]; done)
          | (unfold twoS bI; (repeat' split) <;> first | rfl | (exfalso; simp only [Int32.lt_iff_toInt_lt, Int32.le_iff_toInt_le, ← Int32.toInt_inj, Int32.reduceToInt] at *; omega))
      · skip
        refine z_iconst F dX10_twoOf_211 1 (by decide) 212 rfl ?_
        refine z_goto F dX10_twoOf_212 216 (by decide) ?_
        refine z_rp F dX10_twoOf_216 ?_ rfl
        first
          | (simp [twoS, bI, *]; done)
          | (unfold twoS bI; (repeat' split) <;> first | rfl | (exfalso; simp only [Int32.lt_iff_toInt_lt, Int32.le_iff_toInt_le, ← Int32.toInt_inj, Int32.reduceToInt] at *; omega))
  by_cases e1_41 : x = 41
  · skip
    refine z_tableIn F dX10_twoOf_1 (by rw [e1_41]; decide) (by rw [e1_41]; decide) (by rw [e1_41]; rfl) 203 (by decide) ?_
    refine z_iload_n F dX10_twoOf_203 1 rfl 204 rfl ?_
    refine z_if_ne F dX10_twoOf_204 211 (by decide) 207 rfl (fun h204 => ?_) (fun h204 => ?_)
    · skip
      refine z_iconst F dX10_twoOf_211 1 (by decide) 212 rfl ?_
      refine z_goto F dX10_twoOf_212 216 (by decide) ?_
      refine z_rp F dX10_twoOf_216 ?_ rfl
      first
        | (simp [twoS, bI, *]; done)
        | (unfold twoS bI; (repeat' split) <;> first | rfl | (exfalso; simp only [Int32.lt_iff_toInt_lt, Int32.le_iff_toInt_le, ← Int32.toInt_inj, Int32.reduceToInt] at *; omega))
    · skip
      refine z_iload_n F dX10_twoOf_207 2 rfl 208 rfl ?_
      refine z_if_eq F dX10_twoOf_208 215 (by decide) 211 rfl (fun h208 => ?_) (fun h208 => ?_)
      · skip
        refine z_iconst F dX10_twoOf_215 0 (by decide) 216 rfl ?_
        refine z_rp F dX10_twoOf_216 ?_ rfl
        first
          | (simp [twoS, bI, *]; done)
          | (unfold twoS bI; (repeat' split) <;> first | rfl | (exfalso; simp only [Int32.lt_iff_toInt_lt, Int32.le_iff_toInt_le, ← Int32.toInt_inj, Int32.reduceToInt] at *; omega))
      · skip
        refine z_iconst F dX10_twoOf_211 1 (by decide) 212 rfl ?_
        refine z_goto F dX10_twoOf_212 216 (by decide) ?_
        refine z_rp F dX10_twoOf_216 ?_ rfl
        first
          | (simp [twoS, bI, *]; done)
          | (unfold twoS bI; (repeat' split) <;> first | rfl | (exfalso; simp only [Int32.lt_iff_toInt_lt, Int32.le_iff_toInt_le, ← Int32.toInt_inj, Int32.reduceToInt] at *; omega))
  by_cases e1_42 : x = 42
  · skip
    refine z_tableIn F dX10_twoOf_1 (by rw [e1_42]; decide) (by rw [e1_42]; decide) (by rw [e1_42]; rfl) 128 (by decide) ?_
    refine z_iload_n F dX10_twoOf_128 1 rfl 129 rfl ?_
    refine z_iload_n F dX10_twoOf_129 2 rfl 130 rfl ?_
    refine z_imul F dX10_twoOf_130 131 rfl ?_
    refine z_rp F dX10_twoOf_131 ?_ rfl
    first
      | (simp [twoS, bI, *]; done)
      | (unfold twoS bI; (repeat' split) <;> first | rfl | (exfalso; simp only [Int32.lt_iff_toInt_lt, Int32.le_iff_toInt_le, ← Int32.toInt_inj, Int32.reduceToInt] at *; omega))
  by_cases e1_43 : x = 43
  · skip
    refine z_tableIn F dX10_twoOf_1 (by rw [e1_43]; decide) (by rw [e1_43]; decide) (by rw [e1_43]; rfl) 120 (by decide) ?_
    refine z_iload_n F dX10_twoOf_120 1 rfl 121 rfl ?_
    refine z_iload_n F dX10_twoOf_121 2 rfl 122 rfl ?_
    refine z_iadd F dX10_twoOf_122 123 rfl ?_
    refine z_rp F dX10_twoOf_123 ?_ rfl
    first
      | (simp [twoS, bI, *]; done)
      | (unfold twoS bI; (repeat' split) <;> first | rfl | (exfalso; simp only [Int32.lt_iff_toInt_lt, Int32.le_iff_toInt_le, ← Int32.toInt_inj, Int32.reduceToInt] at *; omega))
  by_cases e1_44 : x = 44
  · skip
    refine z_tableIn F dX10_twoOf_1 (by rw [e1_44]; decide) (by rw [e1_44]; decide) (by rw [e1_44]; rfl) 203 (by decide) ?_
    refine z_iload_n F dX10_twoOf_203 1 rfl 204 rfl ?_
    refine z_if_ne F dX10_twoOf_204 211 (by decide) 207 rfl (fun h204 => ?_) (fun h204 => ?_)
    · skip
      refine z_iconst F dX10_twoOf_211 1 (by decide) 212 rfl ?_
      refine z_goto F dX10_twoOf_212 216 (by decide) ?_
      refine z_rp F dX10_twoOf_216 ?_ rfl
      first
        | (simp [twoS, bI, *]; done)
        | (unfold twoS bI; (repeat' split) <;> first | rfl | (exfalso; simp only [Int32.lt_iff_toInt_lt, Int32.le_iff_toInt_le, ← Int32.toInt_inj, Int32.reduceToInt] at *; omega))
    · skip
      refine z_iload_n F dX10_twoOf_207 2 rfl 208 rfl ?_
      refine z_if_eq F dX10_twoOf_208 215 (by decide) 211 rfl (fun h208 => ?_) (fun h208 => ?_)
      · skip
        refine z_iconst F dX10_twoOf_215 0 (by decide) 216 rfl ?_
        refine z_rp F dX10_twoOf_216 ?_ rfl
        first
          | (simp [twoS, bI, *]; done)
          | (unfold twoS bI; (repeat' split) <;> first | rfl | (exfalso; simp only [Int32.lt_iff_toInt_lt, Int32.le_iff_toInt_le, ← Int32.toInt_inj, Int32.reduceToInt] at *; omega))
      · skip
        refine z_iconst F dX10_twoOf_211 1 (by decide) 212 rfl ?_
        refine z_goto F dX10_twoOf_212 216 (by decide) ?_
        refine z_rp F dX10_twoOf_216 ?_ rfl
        first
          | (simp [twoS, bI, *]; done)
          | (unfold twoS bI; (repeat' split) <;> first | rfl | (exfalso; simp only [Int32.lt_iff_toInt_lt, Int32.le_iff_toInt_le, ← Int32.toInt_inj, Int32.reduceToInt] at *; omega))
  by_cases e1_45 : x = 45
  · skip
    refine z_tableIn F dX10_twoOf_1 (by rw [e1_45]; decide) (by rw [e1_45]; decide) (by rw [e1_45]; rfl) 124 (by decide) ?_
    refine z_iload_n F dX10_twoOf_124 1 rfl 125 rfl ?_
    refine z_iload_n F dX10_twoOf_125 2 rfl 126 rfl ?_
    refine z_isub F dX10_twoOf_126 127 rfl ?_
    refine z_rp F dX10_twoOf_127 ?_ rfl
    first
      | (simp [twoS, bI, *]; done)
      | (unfold twoS bI; (repeat' split) <;> first | rfl | (exfalso; simp only [Int32.lt_iff_toInt_lt, Int32.le_iff_toInt_le, ← Int32.toInt_inj, Int32.reduceToInt] at *; omega))
  by_cases e1_46 : x = 46
  · skip
    refine z_tableIn F dX10_twoOf_1 (by rw [e1_46]; decide) (by rw [e1_46]; decide) (by rw [e1_46]; rfl) 203 (by decide) ?_
    refine z_iload_n F dX10_twoOf_203 1 rfl 204 rfl ?_
    refine z_if_ne F dX10_twoOf_204 211 (by decide) 207 rfl (fun h204 => ?_) (fun h204 => ?_)
    · skip
      refine z_iconst F dX10_twoOf_211 1 (by decide) 212 rfl ?_
      refine z_goto F dX10_twoOf_212 216 (by decide) ?_
      refine z_rp F dX10_twoOf_216 ?_ rfl
      first
        | (simp [twoS, bI, *]; done)
        | (unfold twoS bI; (repeat' split) <;> first | rfl | (exfalso; simp only [Int32.lt_iff_toInt_lt, Int32.le_iff_toInt_le, ← Int32.toInt_inj, Int32.reduceToInt] at *; omega))
    · skip
      refine z_iload_n F dX10_twoOf_207 2 rfl 208 rfl ?_
      refine z_if_eq F dX10_twoOf_208 215 (by decide) 211 rfl (fun h208 => ?_) (fun h208 => ?_)
      · skip
        refine z_iconst F dX10_twoOf_215 0 (by decide) 216 rfl ?_
        refine z_rp F dX10_twoOf_216 ?_ rfl
        first
          | (simp [twoS, bI, *]; done)
          | (unfold twoS bI; (repeat' split) <;> first | rfl | (exfalso; simp only [Int32.lt_iff_toInt_lt, Int32.le_iff_toInt_le, ← Int32.toInt_inj, Int32.reduceToInt] at *; omega))
      · skip
        refine z_iconst F dX10_twoOf_211 1 (by decide) 212 rfl ?_
        refine z_goto F dX10_twoOf_212 216 (by decide) ?_
        refine z_rp F dX10_twoOf_216 ?_ rfl
        first
          | (simp [twoS, bI, *]; done)
          | (unfold twoS bI; (repeat' split) <;> first | rfl | (exfalso; simp only [Int32.lt_iff_toInt_lt, Int32.le_iff_toInt_le, ← Int32.toInt_inj, Int32.reduceToInt] at *; omega))
  by_cases e1_47 : x = 47
  · skip
    refine z_tableIn F dX10_twoOf_1 (by rw [e1_47]; decide) (by rw [e1_47]; decide) (by rw [e1_47]; rfl) 132 (by decide) ?_
    refine z_iload_n F dX10_twoOf_132 2 rfl 133 rfl ?_
    refine z_if_ne F dX10_twoOf_133 140 (by decide) 136 rfl (fun h133 => ?_) (fun h133 => ?_)
    · skip
      refine z_iload_n F dX10_twoOf_140 1 rfl 141 rfl ?_
      refine z_iload_n F dX10_twoOf_141 2 rfl 142 rfl ?_
      refine z_idiv F dX10_twoOf_142 h133 143 rfl ?_
      refine z_rp F dX10_twoOf_143 ?_ rfl
      first
        | (simp [twoS, bI, *]; done)
        | (unfold twoS bI; (repeat' split) <;> first | rfl | (exfalso; simp only [Int32.lt_iff_toInt_lt, Int32.le_iff_toInt_le, ← Int32.toInt_inj, Int32.reduceToInt] at *; omega))
    · skip
      refine z_iconst F dX10_twoOf_136 0 (by decide) 137 rfl ?_
      refine z_goto F dX10_twoOf_137 143 (by decide) ?_
      refine z_rp F dX10_twoOf_143 ?_ rfl
      first
        | (simp [twoS, bI, *]; done)
        | (unfold twoS bI; (repeat' split) <;> first | rfl | (exfalso; simp only [Int32.lt_iff_toInt_lt, Int32.le_iff_toInt_le, ← Int32.toInt_inj, Int32.reduceToInt] at *; omega))
  by_cases e1_48 : x = 48
  · skip
    refine z_tableIn F dX10_twoOf_1 (by rw [e1_48]; decide) (by rw [e1_48]; decide) (by rw [e1_48]; rfl) 203 (by decide) ?_
    refine z_iload_n F dX10_twoOf_203 1 rfl 204 rfl ?_
    refine z_if_ne F dX10_twoOf_204 211 (by decide) 207 rfl (fun h204 => ?_) (fun h204 => ?_)
    · skip
      refine z_iconst F dX10_twoOf_211 1 (by decide) 212 rfl ?_
      refine z_goto F dX10_twoOf_212 216 (by decide) ?_
      refine z_rp F dX10_twoOf_216 ?_ rfl
      first
        | (simp [twoS, bI, *]; done)
        | (unfold twoS bI; (repeat' split) <;> first | rfl | (exfalso; simp only [Int32.lt_iff_toInt_lt, Int32.le_iff_toInt_le, ← Int32.toInt_inj, Int32.reduceToInt] at *; omega))
    · skip
      refine z_iload_n F dX10_twoOf_207 2 rfl 208 rfl ?_
      refine z_if_eq F dX10_twoOf_208 215 (by decide) 211 rfl (fun h208 => ?_) (fun h208 => ?_)
      · skip
        refine z_iconst F dX10_twoOf_215 0 (by decide) 216 rfl ?_
        refine z_rp F dX10_twoOf_216 ?_ rfl
        first
          | (simp [twoS, bI, *]; done)
          | (unfold twoS bI; (repeat' split) <;> first | rfl | (exfalso; simp only [Int32.lt_iff_toInt_lt, Int32.le_iff_toInt_le, ← Int32.toInt_inj, Int32.reduceToInt] at *; omega))
      · skip
        refine z_iconst F dX10_twoOf_211 1 (by decide) 212 rfl ?_
        refine z_goto F dX10_twoOf_212 216 (by decide) ?_
        refine z_rp F dX10_twoOf_216 ?_ rfl
        first
          | (simp [twoS, bI, *]; done)
          | (unfold twoS bI; (repeat' split) <;> first | rfl | (exfalso; simp only [Int32.lt_iff_toInt_lt, Int32.le_iff_toInt_le, ← Int32.toInt_inj, Int32.reduceToInt] at *; omega))
  by_cases e1_49 : x = 49
  · skip
    refine z_tableIn F dX10_twoOf_1 (by rw [e1_49]; decide) (by rw [e1_49]; decide) (by rw [e1_49]; rfl) 203 (by decide) ?_
    refine z_iload_n F dX10_twoOf_203 1 rfl 204 rfl ?_
    refine z_if_ne F dX10_twoOf_204 211 (by decide) 207 rfl (fun h204 => ?_) (fun h204 => ?_)
    · skip
      refine z_iconst F dX10_twoOf_211 1 (by decide) 212 rfl ?_
      refine z_goto F dX10_twoOf_212 216 (by decide) ?_
      refine z_rp F dX10_twoOf_216 ?_ rfl
      first
        | (simp [twoS, bI, *]; done)
        | (unfold twoS bI; (repeat' split) <;> first | rfl | (exfalso; simp only [Int32.lt_iff_toInt_lt, Int32.le_iff_toInt_le, ← Int32.toInt_inj, Int32.reduceToInt] at *; omega))
    · skip
      refine z_iload_n F dX10_twoOf_207 2 rfl 208 rfl ?_
      refine z_if_eq F dX10_twoOf_208 215 (by decide) 211 rfl (fun h208 => ?_) (fun h208 => ?_)
      · skip
        refine z_iconst F dX10_twoOf_215 0 (by decide) 216 rfl ?_
        refine z_rp F dX10_twoOf_216 ?_ rfl
        first
          | (simp [twoS, bI, *]; done)
          | (unfold twoS bI; (repeat' split) <;> first | rfl | (exfalso; simp only [Int32.lt_iff_toInt_lt, Int32.le_iff_toInt_le, ← Int32.toInt_inj, Int32.reduceToInt] at *; omega))
      · skip
        refine z_iconst F dX10_twoOf_211 1 (by decide) 212 rfl ?_
        refine z_goto F dX10_twoOf_212 216 (by decide) ?_
        refine z_rp F dX10_twoOf_216 ?_ rfl
        first
          | (simp [twoS, bI, *]; done)
          | (unfold twoS bI; (repeat' split) <;> first | rfl | (exfalso; simp only [Int32.lt_iff_toInt_lt, Int32.le_iff_toInt_le, ← Int32.toInt_inj, Int32.reduceToInt] at *; omega))
  by_cases e1_50 : x = 50
  · skip
    refine z_tableIn F dX10_twoOf_1 (by rw [e1_50]; decide) (by rw [e1_50]; decide) (by rw [e1_50]; rfl) 203 (by decide) ?_
    refine z_iload_n F dX10_twoOf_203 1 rfl 204 rfl ?_
    refine z_if_ne F dX10_twoOf_204 211 (by decide) 207 rfl (fun h204 => ?_) (fun h204 => ?_)
    · skip
      refine z_iconst F dX10_twoOf_211 1 (by decide) 212 rfl ?_
      refine z_goto F dX10_twoOf_212 216 (by decide) ?_
      refine z_rp F dX10_twoOf_216 ?_ rfl
      first
        | (simp [twoS, bI, *]; done)
        | (unfold twoS bI; (repeat' split) <;> first | rfl | (exfalso; simp only [Int32.lt_iff_toInt_lt, Int32.le_iff_toInt_le, ← Int32.toInt_inj, Int32.reduceToInt] at *; omega))
    · skip
      refine z_iload_n F dX10_twoOf_207 2 rfl 208 rfl ?_
      refine z_if_eq F dX10_twoOf_208 215 (by decide) 211 rfl (fun h208 => ?_) (fun h208 => ?_)
      · skip
        refine z_iconst F dX10_twoOf_215 0 (by decide) 216 rfl ?_
        refine z_rp F dX10_twoOf_216 ?_ rfl
        first
          | (simp [twoS, bI, *]; done)
          | (unfold twoS bI; (repeat' split) <;> first | rfl | (exfalso; simp only [Int32.lt_iff_toInt_lt, Int32.le_iff_toInt_le, ← Int32.toInt_inj, Int32.reduceToInt] at *; omega))
      · skip
        refine z_iconst F dX10_twoOf_211 1 (by decide) 212 rfl ?_
        refine z_goto F dX10_twoOf_212 216 (by decide) ?_
        refine z_rp F dX10_twoOf_216 ?_ rfl
        first
          | (simp [twoS, bI, *]; done)
          | (unfold twoS bI; (repeat' split) <;> first | rfl | (exfalso; simp only [Int32.lt_iff_toInt_lt, Int32.le_iff_toInt_le, ← Int32.toInt_inj, Int32.reduceToInt] at *; omega))
  by_cases e1_51 : x = 51
  · skip
    refine z_tableIn F dX10_twoOf_1 (by rw [e1_51]; decide) (by rw [e1_51]; decide) (by rw [e1_51]; rfl) 203 (by decide) ?_
    refine z_iload_n F dX10_twoOf_203 1 rfl 204 rfl ?_
    refine z_if_ne F dX10_twoOf_204 211 (by decide) 207 rfl (fun h204 => ?_) (fun h204 => ?_)
    · skip
      refine z_iconst F dX10_twoOf_211 1 (by decide) 212 rfl ?_
      refine z_goto F dX10_twoOf_212 216 (by decide) ?_
      refine z_rp F dX10_twoOf_216 ?_ rfl
      first
        | (simp [twoS, bI, *]; done)
        | (unfold twoS bI; (repeat' split) <;> first | rfl | (exfalso; simp only [Int32.lt_iff_toInt_lt, Int32.le_iff_toInt_le, ← Int32.toInt_inj, Int32.reduceToInt] at *; omega))
    · skip
      refine z_iload_n F dX10_twoOf_207 2 rfl 208 rfl ?_
      refine z_if_eq F dX10_twoOf_208 215 (by decide) 211 rfl (fun h208 => ?_) (fun h208 => ?_)
      · skip
        refine z_iconst F dX10_twoOf_215 0 (by decide) 216 rfl ?_
        refine z_rp F dX10_twoOf_216 ?_ rfl
        first
          | (simp [twoS, bI, *]; done)
          | (unfold twoS bI; (repeat' split) <;> first | rfl | (exfalso; simp only [Int32.lt_iff_toInt_lt, Int32.le_iff_toInt_le, ← Int32.toInt_inj, Int32.reduceToInt] at *; omega))
      · skip
        refine z_iconst F dX10_twoOf_211 1 (by decide) 212 rfl ?_
        refine z_goto F dX10_twoOf_212 216 (by decide) ?_
        refine z_rp F dX10_twoOf_216 ?_ rfl
        first
          | (simp [twoS, bI, *]; done)
          | (unfold twoS bI; (repeat' split) <;> first | rfl | (exfalso; simp only [Int32.lt_iff_toInt_lt, Int32.le_iff_toInt_le, ← Int32.toInt_inj, Int32.reduceToInt] at *; omega))
  by_cases e1_52 : x = 52
  · skip
    refine z_tableIn F dX10_twoOf_1 (by rw [e1_52]; decide) (by rw [e1_52]; decide) (by rw [e1_52]; rfl) 203 (by decide) ?_
    refine z_iload_n F dX10_twoOf_203 1 rfl 204 rfl ?_
    refine z_if_ne F dX10_twoOf_204 211 (by decide) 207 rfl (fun h204 => ?_) (fun h204 => ?_)
    · skip
      refine z_iconst F dX10_twoOf_211 1 (by decide) 212 rfl ?_
      refine z_goto F dX10_twoOf_212 216 (by decide) ?_
      refine z_rp F dX10_twoOf_216 ?_ rfl
      first
        | (simp [twoS, bI, *]; done)
        | (unfold twoS bI; (repeat' split) <;> first | rfl | (exfalso; simp only [Int32.lt_iff_toInt_lt, Int32.le_iff_toInt_le, ← Int32.toInt_inj, Int32.reduceToInt] at *; omega))
    · skip
      refine z_iload_n F dX10_twoOf_207 2 rfl 208 rfl ?_
      refine z_if_eq F dX10_twoOf_208 215 (by decide) 211 rfl (fun h208 => ?_) (fun h208 => ?_)
      · skip
        refine z_iconst F dX10_twoOf_215 0 (by decide) 216 rfl ?_
        refine z_rp F dX10_twoOf_216 ?_ rfl
        first
          | (simp [twoS, bI, *]; done)
          | (unfold twoS bI; (repeat' split) <;> first | rfl | (exfalso; simp only [Int32.lt_iff_toInt_lt, Int32.le_iff_toInt_le, ← Int32.toInt_inj, Int32.reduceToInt] at *; omega))
      · skip
        refine z_iconst F dX10_twoOf_211 1 (by decide) 212 rfl ?_
        refine z_goto F dX10_twoOf_212 216 (by decide) ?_
        refine z_rp F dX10_twoOf_216 ?_ rfl
        first
          | (simp [twoS, bI, *]; done)
          | (unfold twoS bI; (repeat' split) <;> first | rfl | (exfalso; simp only [Int32.lt_iff_toInt_lt, Int32.le_iff_toInt_le, ← Int32.toInt_inj, Int32.reduceToInt] at *; omega))
  by_cases e1_53 : x = 53
  · skip
    refine z_tableIn F dX10_twoOf_1 (by rw [e1_53]; decide) (by rw [e1_53]; decide) (by rw [e1_53]; rfl) 203 (by decide) ?_
    refine z_iload_n F dX10_twoOf_203 1 rfl 204 rfl ?_
    refine z_if_ne F dX10_twoOf_204 211 (by decide) 207 rfl (fun h204 => ?_) (fun h204 => ?_)
    · skip
      refine z_iconst F dX10_twoOf_211 1 (by decide) 212 rfl ?_
      refine z_goto F dX10_twoOf_212 216 (by decide) ?_
      refine z_rp F dX10_twoOf_216 ?_ rfl
      first
        | (simp [twoS, bI, *]; done)
        | (unfold twoS bI; (repeat' split) <;> first | rfl | (exfalso; simp only [Int32.lt_iff_toInt_lt, Int32.le_iff_toInt_le, ← Int32.toInt_inj, Int32.reduceToInt] at *; omega))
    · skip
      refine z_iload_n F dX10_twoOf_207 2 rfl 208 rfl ?_
      refine z_if_eq F dX10_twoOf_208 215 (by decide) 211 rfl (fun h208 => ?_) (fun h208 => ?_)
      · skip
        refine z_iconst F dX10_twoOf_215 0 (by decide) 216 rfl ?_
        refine z_rp F dX10_twoOf_216 ?_ rfl
        first
          | (simp [twoS, bI, *]; done)
          | (unfold twoS bI; (repeat' split) <;> first | rfl | (exfalso; simp only [Int32.lt_iff_toInt_lt, Int32.le_iff_toInt_le, ← Int32.toInt_inj, Int32.reduceToInt] at *; omega))
      · skip
        refine z_iconst F dX10_twoOf_211 1 (by decide) 212 rfl ?_
        refine z_goto F dX10_twoOf_212 216 (by decide) ?_
        refine z_rp F dX10_twoOf_216 ?_ rfl
        first
          | (simp [twoS, bI, *]; done)
          | (unfold twoS bI; (repeat' split) <;> first | rfl | (exfalso; simp only [Int32.lt_iff_toInt_lt, Int32.le_iff_toInt_le, ← Int32.toInt_inj, Int32.reduceToInt] at *; omega))
  by_cases e1_54 : x = 54
  · skip
    refine z_tableIn F dX10_twoOf_1 (by rw [e1_54]; decide) (by rw [e1_54]; decide) (by rw [e1_54]; rfl) 203 (by decide) ?_
    refine z_iload_n F dX10_twoOf_203 1 rfl 204 rfl ?_
    refine z_if_ne F dX10_twoOf_204 211 (by decide) 207 rfl (fun h204 => ?_) (fun h204 => ?_)
    · skip
      refine z_iconst F dX10_twoOf_211 1 (by decide) 212 rfl ?_
      refine z_goto F dX10_twoOf_212 216 (by decide) ?_
      refine z_rp F dX10_twoOf_216 ?_ rfl
      first
        | (simp [twoS, bI, *]; done)
        | (unfold twoS bI; (repeat' split) <;> first | rfl | (exfalso; simp only [Int32.lt_iff_toInt_lt, Int32.le_iff_toInt_le, ← Int32.toInt_inj, Int32.reduceToInt] at *; omega))
    · skip
      refine z_iload_n F dX10_twoOf_207 2 rfl 208 rfl ?_
      refine z_if_eq F dX10_twoOf_208 215 (by decide) 211 rfl (fun h208 => ?_) (fun h208 => ?_)
      · skip
        refine z_iconst F dX10_twoOf_215 0 (by decide) 216 rfl ?_
        refine z_rp F dX10_twoOf_216 ?_ rfl
        first
          | (simp [twoS, bI, *]; done)
          | (unfold twoS bI; (repeat' split) <;> first | rfl | (exfalso; simp only [Int32.lt_iff_toInt_lt, Int32.le_iff_toInt_le, ← Int32.toInt_inj, Int32.reduceToInt] at *; omega))
      · skip
        refine z_iconst F dX10_twoOf_211 1 (by decide) 212 rfl ?_
        refine z_goto F dX10_twoOf_212 216 (by decide) ?_
        refine z_rp F dX10_twoOf_216 ?_ rfl
        first
          | (simp [twoS, bI, *]; done)
          | (unfold twoS bI; (repeat' split) <;> first | rfl | (exfalso; simp only [Int32.lt_iff_toInt_lt, Int32.le_iff_toInt_le, ← Int32.toInt_inj, Int32.reduceToInt] at *; omega))
  by_cases e1_55 : x = 55
  · skip
    refine z_tableIn F dX10_twoOf_1 (by rw [e1_55]; decide) (by rw [e1_55]; decide) (by rw [e1_55]; rfl) 203 (by decide) ?_
    refine z_iload_n F dX10_twoOf_203 1 rfl 204 rfl ?_
    refine z_if_ne F dX10_twoOf_204 211 (by decide) 207 rfl (fun h204 => ?_) (fun h204 => ?_)
    · skip
      refine z_iconst F dX10_twoOf_211 1 (by decide) 212 rfl ?_
      refine z_goto F dX10_twoOf_212 216 (by decide) ?_
      refine z_rp F dX10_twoOf_216 ?_ rfl
      first
        | (simp [twoS, bI, *]; done)
        | (unfold twoS bI; (repeat' split) <;> first | rfl | (exfalso; simp only [Int32.lt_iff_toInt_lt, Int32.le_iff_toInt_le, ← Int32.toInt_inj, Int32.reduceToInt] at *; omega))
    · skip
      refine z_iload_n F dX10_twoOf_207 2 rfl 208 rfl ?_
      refine z_if_eq F dX10_twoOf_208 215 (by decide) 211 rfl (fun h208 => ?_) (fun h208 => ?_)
      · skip
        refine z_iconst F dX10_twoOf_215 0 (by decide) 216 rfl ?_
        refine z_rp F dX10_twoOf_216 ?_ rfl
        first
          | (simp [twoS, bI, *]; done)
          | (unfold twoS bI; (repeat' split) <;> first | rfl | (exfalso; simp only [Int32.lt_iff_toInt_lt, Int32.le_iff_toInt_le, ← Int32.toInt_inj, Int32.reduceToInt] at *; omega))
      · skip
        refine z_iconst F dX10_twoOf_211 1 (by decide) 212 rfl ?_
        refine z_goto F dX10_twoOf_212 216 (by decide) ?_
        refine z_rp F dX10_twoOf_216 ?_ rfl
        first
          | (simp [twoS, bI, *]; done)
          | (unfold twoS bI; (repeat' split) <;> first | rfl | (exfalso; simp only [Int32.lt_iff_toInt_lt, Int32.le_iff_toInt_le, ← Int32.toInt_inj, Int32.reduceToInt] at *; omega))
  by_cases e1_56 : x = 56
  · skip
    refine z_tableIn F dX10_twoOf_1 (by rw [e1_56]; decide) (by rw [e1_56]; decide) (by rw [e1_56]; rfl) 203 (by decide) ?_
    refine z_iload_n F dX10_twoOf_203 1 rfl 204 rfl ?_
    refine z_if_ne F dX10_twoOf_204 211 (by decide) 207 rfl (fun h204 => ?_) (fun h204 => ?_)
    · skip
      refine z_iconst F dX10_twoOf_211 1 (by decide) 212 rfl ?_
      refine z_goto F dX10_twoOf_212 216 (by decide) ?_
      refine z_rp F dX10_twoOf_216 ?_ rfl
      first
        | (simp [twoS, bI, *]; done)
        | (unfold twoS bI; (repeat' split) <;> first | rfl | (exfalso; simp only [Int32.lt_iff_toInt_lt, Int32.le_iff_toInt_le, ← Int32.toInt_inj, Int32.reduceToInt] at *; omega))
    · skip
      refine z_iload_n F dX10_twoOf_207 2 rfl 208 rfl ?_
      refine z_if_eq F dX10_twoOf_208 215 (by decide) 211 rfl (fun h208 => ?_) (fun h208 => ?_)
      · skip
        refine z_iconst F dX10_twoOf_215 0 (by decide) 216 rfl ?_
        refine z_rp F dX10_twoOf_216 ?_ rfl
        first
          | (simp [twoS, bI, *]; done)
          | (unfold twoS bI; (repeat' split) <;> first | rfl | (exfalso; simp only [Int32.lt_iff_toInt_lt, Int32.le_iff_toInt_le, ← Int32.toInt_inj, Int32.reduceToInt] at *; omega))
      · skip
        refine z_iconst F dX10_twoOf_211 1 (by decide) 212 rfl ?_
        refine z_goto F dX10_twoOf_212 216 (by decide) ?_
        refine z_rp F dX10_twoOf_216 ?_ rfl
        first
          | (simp [twoS, bI, *]; done)
          | (unfold twoS bI; (repeat' split) <;> first | rfl | (exfalso; simp only [Int32.lt_iff_toInt_lt, Int32.le_iff_toInt_le, ← Int32.toInt_inj, Int32.reduceToInt] at *; omega))
  by_cases e1_57 : x = 57
  · skip
    refine z_tableIn F dX10_twoOf_1 (by rw [e1_57]; decide) (by rw [e1_57]; decide) (by rw [e1_57]; rfl) 203 (by decide) ?_
    refine z_iload_n F dX10_twoOf_203 1 rfl 204 rfl ?_
    refine z_if_ne F dX10_twoOf_204 211 (by decide) 207 rfl (fun h204 => ?_) (fun h204 => ?_)
    · skip
      refine z_iconst F dX10_twoOf_211 1 (by decide) 212 rfl ?_
      refine z_goto F dX10_twoOf_212 216 (by decide) ?_
      refine z_rp F dX10_twoOf_216 ?_ rfl
      first
        | (simp [twoS, bI, *]; done)
        | (unfold twoS bI; (repeat' split) <;> first | rfl | (exfalso; simp only [Int32.lt_iff_toInt_lt, Int32.le_iff_toInt_le, ← Int32.toInt_inj, Int32.reduceToInt] at *; omega))
    · skip
      refine z_iload_n F dX10_twoOf_207 2 rfl 208 rfl ?_
      refine z_if_eq F dX10_twoOf_208 215 (by decide) 211 rfl (fun h208 => ?_) (fun h208 => ?_)
      · skip
        refine z_iconst F dX10_twoOf_215 0 (by decide) 216 rfl ?_
        refine z_rp F dX10_twoOf_216 ?_ rfl
        first
          | (simp [twoS, bI, *]; done)
          | (unfold twoS bI; (repeat' split) <;> first | rfl | (exfalso; simp only [Int32.lt_iff_toInt_lt, Int32.le_iff_toInt_le, ← Int32.toInt_inj, Int32.reduceToInt] at *; omega))
      · skip
        refine z_iconst F dX10_twoOf_211 1 (by decide) 212 rfl ?_
        refine z_goto F dX10_twoOf_212 216 (by decide) ?_
        refine z_rp F dX10_twoOf_216 ?_ rfl
        first
          | (simp [twoS, bI, *]; done)
          | (unfold twoS bI; (repeat' split) <;> first | rfl | (exfalso; simp only [Int32.lt_iff_toInt_lt, Int32.le_iff_toInt_le, ← Int32.toInt_inj, Int32.reduceToInt] at *; omega))
  by_cases e1_58 : x = 58
  · skip
    refine z_tableIn F dX10_twoOf_1 (by rw [e1_58]; decide) (by rw [e1_58]; decide) (by rw [e1_58]; rfl) 203 (by decide) ?_
    refine z_iload_n F dX10_twoOf_203 1 rfl 204 rfl ?_
    refine z_if_ne F dX10_twoOf_204 211 (by decide) 207 rfl (fun h204 => ?_) (fun h204 => ?_)
    · skip
      refine z_iconst F dX10_twoOf_211 1 (by decide) 212 rfl ?_
      refine z_goto F dX10_twoOf_212 216 (by decide) ?_
      refine z_rp F dX10_twoOf_216 ?_ rfl
      first
        | (simp [twoS, bI, *]; done)
        | (unfold twoS bI; (repeat' split) <;> first | rfl | (exfalso; simp only [Int32.lt_iff_toInt_lt, Int32.le_iff_toInt_le, ← Int32.toInt_inj, Int32.reduceToInt] at *; omega))
    · skip
      refine z_iload_n F dX10_twoOf_207 2 rfl 208 rfl ?_
      refine z_if_eq F dX10_twoOf_208 215 (by decide) 211 rfl (fun h208 => ?_) (fun h208 => ?_)
      · skip
        refine z_iconst F dX10_twoOf_215 0 (by decide) 216 rfl ?_
        refine z_rp F dX10_twoOf_216 ?_ rfl
        first
          | (simp [twoS, bI, *]; done)
          | (unfold twoS bI; (repeat' split) <;> first | rfl | (exfalso; simp only [Int32.lt_iff_toInt_lt, Int32.le_iff_toInt_le, ← Int32.toInt_inj, Int32.reduceToInt] at *; omega))
      · skip
        refine z_iconst F dX10_twoOf_211 1 (by decide) 212 rfl ?_
        refine z_goto F dX10_twoOf_212 216 (by decide) ?_
        refine z_rp F dX10_twoOf_216 ?_ rfl
        first
          | (simp [twoS, bI, *]; done)
          | (unfold twoS bI; (repeat' split) <;> first | rfl | (exfalso; simp only [Int32.lt_iff_toInt_lt, Int32.le_iff_toInt_le, ← Int32.toInt_inj, Int32.reduceToInt] at *; omega))
  by_cases e1_59 : x = 59
  · skip
    refine z_tableIn F dX10_twoOf_1 (by rw [e1_59]; decide) (by rw [e1_59]; decide) (by rw [e1_59]; rfl) 203 (by decide) ?_
    refine z_iload_n F dX10_twoOf_203 1 rfl 204 rfl ?_
    refine z_if_ne F dX10_twoOf_204 211 (by decide) 207 rfl (fun h204 => ?_) (fun h204 => ?_)
    · skip
      refine z_iconst F dX10_twoOf_211 1 (by decide) 212 rfl ?_
      refine z_goto F dX10_twoOf_212 216 (by decide) ?_
      refine z_rp F dX10_twoOf_216 ?_ rfl
      first
        | (simp [twoS, bI, *]; done)
        | (unfold twoS bI; (repeat' split) <;> first | rfl | (exfalso; simp only [Int32.lt_iff_toInt_lt, Int32.le_iff_toInt_le, ← Int32.toInt_inj, Int32.reduceToInt] at *; omega))
    · skip
      refine z_iload_n F dX10_twoOf_207 2 rfl 208 rfl ?_
      refine z_if_eq F dX10_twoOf_208 215 (by decide) 211 rfl (fun h208 => ?_) (fun h208 => ?_)
      · skip
        refine z_iconst F dX10_twoOf_215 0 (by decide) 216 rfl ?_
        refine z_rp F dX10_twoOf_216 ?_ rfl
        first
          | (simp [twoS, bI, *]; done)
          | (unfold twoS bI; (repeat' split) <;> first | rfl | (exfalso; simp only [Int32.lt_iff_toInt_lt, Int32.le_iff_toInt_le, ← Int32.toInt_inj, Int32.reduceToInt] at *; omega))
      · skip
        refine z_iconst F dX10_twoOf_211 1 (by decide) 212 rfl ?_
        refine z_goto F dX10_twoOf_212 216 (by decide) ?_
        refine z_rp F dX10_twoOf_216 ?_ rfl
        first
          | (simp [twoS, bI, *]; done)
          | (unfold twoS bI; (repeat' split) <;> first | rfl | (exfalso; simp only [Int32.lt_iff_toInt_lt, Int32.le_iff_toInt_le, ← Int32.toInt_inj, Int32.reduceToInt] at *; omega))
  by_cases e1_60 : x = 60
  · skip
    refine z_tableIn F dX10_twoOf_1 (by rw [e1_60]; decide) (by rw [e1_60]; decide) (by rw [e1_60]; rfl) 156 (by decide) ?_
    refine z_iload_n F dX10_twoOf_156 1 rfl 157 rfl ?_
    refine z_iload_n F dX10_twoOf_157 2 rfl 158 rfl ?_
    refine z_icmp_ge F dX10_twoOf_158 165 (by decide) 161 rfl (fun h158 => ?_) (fun h158 => ?_)
    · skip
      refine z_iconst F dX10_twoOf_165 0 (by decide) 166 rfl ?_
      refine z_rp F dX10_twoOf_166 ?_ rfl
      first
        | (simp [twoS, bI, *]; done)
        | (unfold twoS bI; (repeat' split) <;> first | rfl | (exfalso; simp only [Int32.lt_iff_toInt_lt, Int32.le_iff_toInt_le, ← Int32.toInt_inj, Int32.reduceToInt] at *; omega))
    · skip
      refine z_iconst F dX10_twoOf_161 1 (by decide) 162 rfl ?_
      refine z_goto F dX10_twoOf_162 166 (by decide) ?_
      refine z_rp F dX10_twoOf_166 ?_ rfl
      first
        | (simp [twoS, bI, *]; done)
        | (unfold twoS bI; (repeat' split) <;> first | rfl | (exfalso; simp only [Int32.lt_iff_toInt_lt, Int32.le_iff_toInt_le, ← Int32.toInt_inj, Int32.reduceToInt] at *; omega))
  by_cases e1_61 : x = 61
  · skip
    refine z_tableIn F dX10_twoOf_1 (by rw [e1_61]; decide) (by rw [e1_61]; decide) (by rw [e1_61]; rfl) 167 (by decide) ?_
    refine z_iload_n F dX10_twoOf_167 1 rfl 168 rfl ?_
    refine z_iload_n F dX10_twoOf_168 2 rfl 169 rfl ?_
    refine z_icmp_ne F dX10_twoOf_169 176 (by decide) 172 rfl (fun h169 => ?_) (fun h169 => ?_)
    · skip
      refine z_iconst F dX10_twoOf_176 0 (by decide) 177 rfl ?_
      refine z_rp F dX10_twoOf_177 ?_ rfl
      first
        | (simp [twoS, bI, *]; done)
        | (unfold twoS bI; (repeat' split) <;> first | rfl | (exfalso; simp only [Int32.lt_iff_toInt_lt, Int32.le_iff_toInt_le, ← Int32.toInt_inj, Int32.reduceToInt] at *; omega))
    · skip
      refine z_iconst F dX10_twoOf_172 1 (by decide) 173 rfl ?_
      refine z_goto F dX10_twoOf_173 177 (by decide) ?_
      refine z_rp F dX10_twoOf_177 ?_ rfl
      first
        | (simp [twoS, bI, *]; done)
        | (unfold twoS bI; (repeat' split) <;> first | rfl | (exfalso; simp only [Int32.lt_iff_toInt_lt, Int32.le_iff_toInt_le, ← Int32.toInt_inj, Int32.reduceToInt] at *; omega))
  by_cases e1_62 : x = 62
  · skip
    refine z_tableIn F dX10_twoOf_1 (by rw [e1_62]; decide) (by rw [e1_62]; decide) (by rw [e1_62]; rfl) 178 (by decide) ?_
    refine z_iload_n F dX10_twoOf_178 1 rfl 179 rfl ?_
    refine z_iload_n F dX10_twoOf_179 2 rfl 180 rfl ?_
    refine z_icmp_le F dX10_twoOf_180 187 (by decide) 183 rfl (fun h180 => ?_) (fun h180 => ?_)
    · skip
      refine z_iconst F dX10_twoOf_187 0 (by decide) 188 rfl ?_
      refine z_rp F dX10_twoOf_188 ?_ rfl
      first
        | (simp [twoS, bI, *]; done)
        | (unfold twoS bI; (repeat' split) <;> first | rfl | (exfalso; simp only [Int32.lt_iff_toInt_lt, Int32.le_iff_toInt_le, ← Int32.toInt_inj, Int32.reduceToInt] at *; omega))
    · skip
      refine z_iconst F dX10_twoOf_183 1 (by decide) 184 rfl ?_
      refine z_goto F dX10_twoOf_184 188 (by decide) ?_
      refine z_rp F dX10_twoOf_188 ?_ rfl
      first
        | (simp [twoS, bI, *]; done)
        | (unfold twoS bI; (repeat' split) <;> first | rfl | (exfalso; simp only [Int32.lt_iff_toInt_lt, Int32.le_iff_toInt_le, ← Int32.toInt_inj, Int32.reduceToInt] at *; omega))
  refine z_tableOut F dX10_twoOf_1 (by have t0 := x.toInt; have t1 := lv_neT e1_37 (a := 37) rfl; have t2 := lv_neT e1_38 (a := 38) rfl; have t3 := lv_neT e1_39 (a := 39) rfl; have t4 := lv_neT e1_40 (a := 40) rfl; have t5 := lv_neT e1_41 (a := 41) rfl; have t6 := lv_neT e1_42 (a := 42) rfl; have t7 := lv_neT e1_43 (a := 43) rfl; have t8 := lv_neT e1_44 (a := 44) rfl; have t9 := lv_neT e1_45 (a := 45) rfl; have t10 := lv_neT e1_46 (a := 46) rfl; have t11 := lv_neT e1_47 (a := 47) rfl; have t12 := lv_neT e1_48 (a := 48) rfl; have t13 := lv_neT e1_49 (a := 49) rfl; have t14 := lv_neT e1_50 (a := 50) rfl; have t15 := lv_neT e1_51 (a := 51) rfl; have t16 := lv_neT e1_52 (a := 52) rfl; have t17 := lv_neT e1_53 (a := 53) rfl; have t18 := lv_neT e1_54 (a := 54) rfl; have t19 := lv_neT e1_55 (a := 55) rfl; have t20 := lv_neT e1_56 (a := 56) rfl; have t21 := lv_neT e1_57 (a := 57) rfl; have t22 := lv_neT e1_58 (a := 58) rfl; have t23 := lv_neT e1_59 (a := 59) rfl; have t24 := lv_neT e1_60 (a := 60) rfl; have t25 := lv_neT e1_61 (a := 61) rfl; have t26 := lv_neT e1_62 (a := 62) rfl; omega) 203 (by decide) ?_
  refine z_iload_n F dX10_twoOf_203 1 rfl 204 rfl ?_
  refine z_if_ne F dX10_twoOf_204 211 (by decide) 207 rfl (fun h204 => ?_) (fun h204 => ?_)
  · skip
    refine z_iconst F dX10_twoOf_211 1 (by decide) 212 rfl ?_
    refine z_goto F dX10_twoOf_212 216 (by decide) ?_
    refine z_rp F dX10_twoOf_216 ?_ rfl
    first
      | (simp [twoS, bI, *]; done)
      | (unfold twoS bI; (repeat' split) <;> first | rfl | (exfalso; simp only [Int32.lt_iff_toInt_lt, Int32.le_iff_toInt_le, ← Int32.toInt_inj, Int32.reduceToInt] at *; omega))
  · skip
    refine z_iload_n F dX10_twoOf_207 2 rfl 208 rfl ?_
    refine z_if_eq F dX10_twoOf_208 215 (by decide) 211 rfl (fun h208 => ?_) (fun h208 => ?_)
    · skip
      refine z_iconst F dX10_twoOf_215 0 (by decide) 216 rfl ?_
      refine z_rp F dX10_twoOf_216 ?_ rfl
      first
        | (simp [twoS, bI, *]; done)
        | (unfold twoS bI; (repeat' split) <;> first | rfl | (exfalso; simp only [Int32.lt_iff_toInt_lt, Int32.le_iff_toInt_le, ← Int32.toInt_inj, Int32.reduceToInt] at *; omega))
    · skip
      refine z_iconst F dX10_twoOf_211 1 (by decide) 212 rfl ?_
      refine z_goto F dX10_twoOf_212 216 (by decide) ?_
      refine z_rp F dX10_twoOf_216 ?_ rfl
      first
        | (simp [twoS, bI, *]; done)
        | (unfold twoS bI; (repeat' split) <;> first | rfl | (exfalso; simp only [Int32.lt_iff_toInt_lt, Int32.le_iff_toInt_le, ← Int32.toInt_inj, Int32.reduceToInt] at *; omega))
