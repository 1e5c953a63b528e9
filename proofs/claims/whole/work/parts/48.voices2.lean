/-! the reference: voices -/
theorem trM_add {ρ : z_M} {L : List Int32} {b : Int32} : z_u2 (z_u2 (trM ρ L) 12 L.length b) 0 18 (nI (L.length + 1)) = trM ρ (L ++ [b]) := by
  unfold trM
  funext q j
  rw [u2_at, u2_at, u2_at, u2_at]
  by_cases z : q = 0 ∧ j = 18
  · rw [if_pos z, if_pos z]; simp
  · rw [if_neg z, if_neg z, if_neg z]
    by_cases z2 : q = 12
    · subst z2
      rw [up_same, up_same]
      by_cases z3 : j = L.length
      · subst z3; simp
      · rw [if_neg (fun w => z3 w.2)]
        by_cases z4 : j < L.length
        · have : j < (L ++ [b]).length := by simp; omega
          rw [if_pos z4, if_pos this]
          simp [List.getD_eq_getElem?_getD, List.getElem?_append, z4]
        · have : ¬ j < (L ++ [b]).length := by simp; omega
          rw [if_neg z4, if_neg this]
    · rw [if_neg (fun w => z2 w.1), up_o z2, up_o z2]
theorem trM_19 {ρ : z_M} {L : List Int32} {v : Int32} : z_u2 (trM ρ L) 0 19 v = trM (z_u2 ρ 0 19 v) L := by
  unfold trM
  funext q j
  rw [u2_at, u2_at, u2_at]
  by_cases z : q = 0 ∧ j = 19
  · obtain ⟨rfl, rfl⟩ := z
    rw [if_pos ⟨rfl, rfl⟩, if_neg (by omega), up_o (by decide), u2_same]
  · rw [if_neg z]
    by_cases z1 : q = 0 ∧ j = 18
    · rw [if_pos z1, if_pos z1]
    · rw [if_neg z1, if_neg z1]
      by_cases z2 : q = 12
      · subst z2; rw [up_same, up_same, u2_o (by decide)]
      · rw [up_o z2, up_o z2, u2_at, if_neg z]
theorem trM_nil {ρ : z_M} : z_u2 (z_u2 ρ 0 18 0) 0 19 0 = trM (z_u2 ρ 0 19 0) [] := by
  unfold trM
  funext q j
  rw [u2_at, u2_at, u2_at]
  by_cases z : q = 0 ∧ j = 19
  · obtain ⟨rfl, rfl⟩ := z
    rw [if_pos ⟨rfl, rfl⟩, if_neg (by omega), up_o (by decide), u2_same]
  · rw [if_neg z]
    by_cases z1 : q = 0 ∧ j = 18
    · rw [if_pos z1, if_pos z1]; rfl
    · rw [if_neg z1, if_neg z1]
      by_cases z2 : q = 12
      · subst z2; rw [up_same, u2_o (by decide)]; simp
      · rw [up_o z2, u2_at, if_neg z]
theorem trM_MO {ρ : z_M} {L : List Int32} {v : Int32} : MO (trM ρ L) (trM (z_u2 ρ 0 19 v) L) := by
  rw [← trM_19]
  refine ⟨fun o ho => ?_, ?_, ?_⟩
  · rw [u2_o (fun z => by subst z; simp at ho)]
  · rw [u2_k (by decide)]
  · rw [u2_k (by decide)]
theorem trM_MO2 {ρ : z_M} {L : List Int32} {v w : Int32} : MO (trM ρ L) (trM (z_u2 (z_u2 ρ 0 19 v) 0 19 w) L) := trM_MO.tr trM_MO
theorem trM_18 {ρ : z_M} {L : List Int32} : trM ρ L 0 18 = nI L.length := u2_same
theorem trM_1 {ρ : z_M} {L : List Int32} : trM ρ L 1 = ρ 1 := by unfold trM; rw [u2_o (by decide), up_o (by decide)]
theorem trM_019 {ρ : z_M} {L : List Int32} : trM ρ L 0 19 = ρ 0 19 := by unfold trM; rw [u2_k (by decide), up_o (by decide)]
set_option maxHeartbeats 400000 in
set_option maxRecDepth 10000 in
theorem kX10_begins {l : Launch} {E : z_E} (σ : z_M) {ρ : z_M} {L : List Int32} (hσ : σ = trM ρ L) (hL : L.length < 30) (b : Int32) : z_C l E shM 0 yX10_begins cX10_begins 2 none [.ref (z_ad E 0), .int b] σ (z_Pu (trM ρ (L ++ [b]))) := by
  refine z_intro iX10_begins (Nat.le_of_ble_eq_true rfl) (fun K F => ?_)
  have e18 : σ 0 18 = nI L.length := by rw [hσ, trM_18]
  refine z_aload_n F dX10_begins_0 0 rfl 1 rfl ?_
  refine z_getI F zc9 dX10_begins_1 rfl 18 (by decide) (by decide) (.inl m_948) rfl 4 rfl ?_
  rw [e18]
  refine z_bipush F dX10_begins_4 30 (by decide) 6 rfl ?_
  refine z_icmp_ge F dX10_begins_6 29 (by decide) 9 rfl (fun h6 => ?_) (fun h6 => ?_)
  · skip
    exact absurd h6 (nI_ge (b := 30) hL (by decide))
  · skip
    refine z_aload_n F dX10_begins_9 0 rfl 10 rfl ?_
    refine z_getR F zc9 dX10_begins_10 rfl 17 (by decide) (by decide) (.inl m_947) rfl (by decide) 13 rfl ?_
    refine z_aload_n F dX10_begins_13 0 rfl 14 rfl ?_
    refine z_getI F zc9 dX10_begins_14 rfl 18 (by decide) (by decide) (.inl m_948) rfl 17 rfl ?_
    rw [e18]
    refine z_iload_n F dX10_begins_17 1 rfl 18 rfl ?_
    refine z_iast F dX10_begins_18 rfl (vp_in_nI (by omega) (by decide)) 19 rfl ?_
    rw [nI_clamp (by omega)]
    refine z_aload_n F dX10_begins_19 0 rfl 20 rfl ?_
    refine z_dup F dX10_begins_20 rfl 21 rfl ?_
    refine z_getI F zc9 dX10_begins_21 rfl 18 (by decide) (by decide) (.inl m_948) rfl 24 rfl ?_
    rw [u2_o (show (0 : Nat) ≠ 12 by decide), e18]
    refine z_iconst F dX10_begins_24 1 (by decide) 25 rfl ?_
    refine z_iadd F dX10_begins_25 26 rfl ?_
    rw [nI_1]
    refine z_putI F zc9 dX10_begins_26 rfl 18 (by decide) (by decide) (.inl m_948) rfl rfl z_pI 29 rfl ?_
    refine z_ru F dX10_begins_29 ?_
    rw [hσ]; exact trM_add
set_option maxHeartbeats 400000 in
set_option maxRecDepth 10000 in
theorem kX10_plainLowers {l : Launch} {E : z_E} (σ : z_M) {ρ : z_M} {L : List Int32} (hσ : σ = trM ρ L) (hL : L.length ≤ 29) {t : Nat} (ht : t < 8) {kd : Nat} (hk6 : kd ≤ 6) (hk : pO (ρ 1) t 0 = nI kd) {m : Int32} (hm : pO (ρ 1) t 1 = m) (x : Int32) : z_C l E shM 1 yX10_plainLowers cX10_plainLowers 3 (some FieldType.int) [.ref (z_ad E 0), .int (nI t), .int x] σ (z_Pp (x + nI t) (trM ρ (L ++ [10]))) := by
  refine z_intro iX10_plainLowers (Nat.le_of_ble_eq_true rfl) (fun K F => ?_)
  have e1 : σ 1 = ρ 1 := by rw [hσ, trM_1]
  refine z_aload_n F dX10_plainLowers_0 0 rfl 1 rfl ?_
  refine z_bipush F dX10_plainLowers_1 10 (by decide) 3 rfl ?_
  refine z_callVu F dX10_plainLowers_3 m_1292 iX10_begins jX10_begins rfl zc9 rfl (kX10_begins σ hσ (by omega) 10) rfl (by decide) (Nat.le_of_ble_eq_true rfl) 6 rfl ?_
  refine z_iload_n F dX10_plainLowers_6 2 rfl 7 rfl ?_
  refine z_iload_n F dX10_plainLowers_7 1 rfl 8 rfl ?_
  refine z_iadd F dX10_plainLowers_8 9 rfl ?_
  refine z_rp F dX10_plainLowers_9 ?_ ?_
  · rfl
  · rfl
set_option maxHeartbeats 400000 in
set_option maxRecDepth 10000 in
theorem kX10_heiressLowers {l : Launch} {E : z_E} (σ : z_M) {ρ : z_M} {L : List Int32} (hσ : σ = trM ρ L) (hL : L.length ≤ 28) {t : Nat} (ht : t < 8) {kd : Nat} (hk6 : kd ≤ 6) (hk : pO (ρ 1) t 0 = nI kd) {m : Int32} (hm : pO (ρ 1) t 1 = m) (x : Int32) : z_C l E shM 2 yX10_heiressLowers cX10_heiressLowers 3 (some FieldType.int) [.ref (z_ad E 0), .int (nI t), .int x] σ (z_Pp (x + nI t - 4) (trM ρ (L ++ [20, 10]))) := by
  refine z_intro iX10_heiressLowers (Nat.le_of_ble_eq_true rfl) (fun K F => ?_)
  have e1 : σ 1 = ρ 1 := by rw [hσ, trM_1]
  refine z_aload_n F dX10_heiressLowers_0 0 rfl 1 rfl ?_
  refine z_bipush F dX10_heiressLowers_1 20 (by decide) 3 rfl ?_
  refine z_callVu F dX10_heiressLowers_3 m_1292 iX10_begins jX10_begins rfl zc9 rfl (kX10_begins σ hσ (by omega) 20) rfl (by decide) (Nat.le_of_ble_eq_true rfl) 6 rfl ?_
  refine z_aload_n F dX10_heiressLowers_6 0 rfl 7 rfl ?_
  refine z_iload_n F dX10_heiressLowers_7 1 rfl 8 rfl ?_
  refine z_iload_n F dX10_heiressLowers_8 2 rfl 9 rfl ?_
  refine z_callVp F dX10_heiressLowers_9 m_1296 iX10_plainLowers jX10_plainLowers rfl zc9 rfl (kX10_plainLowers _ (ρ := ρ) (L := L ++ [20]) rfl (by simp; omega) ht hk6 hk hm _) rfl (by decide) (Nat.le_of_ble_eq_true rfl) 12 rfl ?_
  refine z_iconst F dX10_heiressLowers_12 4 (by decide) 13 rfl ?_
  refine z_isub F dX10_heiressLowers_13 14 rfl ?_
  refine z_rp F dX10_heiressLowers_14 ?_ ?_
  · rfl
  · rw [List.append_assoc]; rfl
set_option maxHeartbeats 400000 in
set_option maxRecDepth 10000 in
theorem kX10_lowers {l : Launch} {E : z_E} (σ : z_M) {ρ : z_M} {L : List Int32} (hσ : σ = trM ρ L) (hL : L.length ≤ 27) {t : Nat} (ht : t < 8) {kd : Nat} (hk6 : kd ≤ 6) (hk : pO (ρ 1) t 0 = nI kd) {m : Int32} (hm : pO (ρ 1) t 1 = m) (x : Int32) : z_C l E shM 3 yX10_lowers cX10_lowers 3 (some FieldType.int) [.ref (z_ad E 0), .int (nI t), .int x] σ (z_Pp (lowV kd (nI t) x) (trM ρ (L ++ lowB kd))) := by
  refine z_intro iX10_lowers (Nat.le_of_ble_eq_true rfl) (fun K F => ?_)
  have e1 : σ 1 = ρ 1 := by rw [hσ, trM_1]
  refine z_aload_n F dX10_lowers_0 0 rfl 1 rfl ?_
  refine z_iload_n F dX10_lowers_1 1 rfl 2 rfl ?_
  refine z_iconst F dX10_lowers_2 0 (by decide) 3 rfl ?_
  refine z_callVp F dX10_lowers_3 m_1020 iX10_of jX10_of rfl zc9 rfl (kX10_of σ (p := t) (w := 0) ht (by decide)) rfl (by decide) (Nat.le_of_ble_eq_true rfl) 6 rfl ?_
  rw [e1, hk]
  by_cases e6_1 : (nI kd) = 1
  · skip
    refine z_lookup F dX10_lowers_6 (by decide +kernel) (by rw [e6_1]; first | done | decide +kernel) 40 (by decide) ?_
    refine z_aload_n F dX10_lowers_40 0 rfl 41 rfl ?_
    refine z_iload_n F dX10_lowers_41 1 rfl 42 rfl ?_
    refine z_iload_n F dX10_lowers_42 2 rfl 43 rfl ?_
    refine z_callVp F dX10_lowers_43 m_1288 iX10_heiressLowers jX10_heiressLowers rfl zc9 rfl (kX10_heiressLowers σ hσ (by omega) ht hk6 hk hm _) rfl (by decide) (Nat.le_of_ble_eq_true rfl) 46 rfl ?_
    refine z_rp F dX10_lowers_46 ?_ ?_
    all_goals (have ek : kd = 1 := eq_nI (b := 1) e6_1 (by omega) (by decide))
    all_goals subst ek
    · rfl
    · rfl
  by_cases e6_4 : (nI kd) = 4
  · skip
    refine z_lookup F dX10_lowers_6 (by decide +kernel) (by rw [e6_4]; first | done | decide +kernel) 47 (by decide) ?_
    refine z_aload_n F dX10_lowers_47 0 rfl 48 rfl ?_
    refine z_bipush F dX10_lowers_48 50 (by decide) 50 rfl ?_
    refine z_callVu F dX10_lowers_50 m_1292 iX10_begins jX10_begins rfl zc9 rfl (kX10_begins σ hσ (by omega) 50) rfl (by decide) (Nat.le_of_ble_eq_true rfl) 53 rfl ?_
    refine z_aload_n F dX10_lowers_53 0 rfl 54 rfl ?_
    refine z_iload_n F dX10_lowers_54 1 rfl 55 rfl ?_
    refine z_iload_n F dX10_lowers_55 2 rfl 56 rfl ?_
    refine z_callVp F dX10_lowers_56 m_1288 iX10_heiressLowers jX10_heiressLowers rfl zc9 rfl (kX10_heiressLowers _ (ρ := ρ) (L := L ++ [50]) rfl (by simp; omega) ht hk6 hk hm _) rfl (by decide) (Nat.le_of_ble_eq_true rfl) 59 rfl ?_
    refine z_iconst F dX10_lowers_59 3 (by decide) 60 rfl ?_
    refine z_imul F dX10_lowers_60 61 rfl ?_
    refine z_rp F dX10_lowers_61 ?_ ?_
    all_goals (have ek : kd = 4 := eq_nI (b := 4) e6_4 (by omega) (by decide))
    all_goals subst ek
    · rfl
    · rw [List.append_assoc]; rfl
  by_cases e6_6 : (nI kd) = 6
  · skip
    refine z_lookup F dX10_lowers_6 (by decide +kernel) (by rw [e6_6]; first | done | decide +kernel) 62 (by decide) ?_
    refine z_aload_n F dX10_lowers_62 0 rfl 63 rfl ?_
    refine z_bipush F dX10_lowers_63 70 (by decide) 65 rfl ?_
    refine z_callVu F dX10_lowers_65 m_1292 iX10_begins jX10_begins rfl zc9 rfl (kX10_begins σ hσ (by omega) 70) rfl (by decide) (Nat.le_of_ble_eq_true rfl) 68 rfl ?_
    refine z_bipush F dX10_lowers_68 9 (by decide) 70 rfl ?_
    refine z_rp F dX10_lowers_70 ?_ ?_
    all_goals (have ek : kd = 6 := eq_nI (b := 6) e6_6 (by omega) (by decide))
    all_goals subst ek
    · rfl
    · rfl
  refine z_lookup F dX10_lowers_6 (by decide +kernel) (by show Op.lookupswitch.offset [(1, 34), (4, 41), (6, 56)] _ _ = 65; rw [lv_osw (a := 1) e6_1 (by decide), lv_osw (a := 4) e6_4 (by decide), lv_osw (a := 6) e6_6 (by decide)]; rfl) 71 (by decide) ?_
  refine z_aload_n F dX10_lowers_71 0 rfl 72 rfl ?_
  refine z_iload_n F dX10_lowers_72 1 rfl 73 rfl ?_
  refine z_iload_n F dX10_lowers_73 2 rfl 74 rfl ?_
  refine z_callVp F dX10_lowers_74 m_1296 iX10_plainLowers jX10_plainLowers rfl zc9 rfl (kX10_plainLowers σ hσ (by omega) ht hk6 hk hm _) rfl (by decide) (Nat.le_of_ble_eq_true rfl) 77 rfl ?_
  refine z_rp F dX10_lowers_77 ?_ ?_
  all_goals (have n1 : ¬ kd = 1 := fun z => by (subst z; first | exact e6_1 rfl | exact absurd e6_3 (by decide) | exact absurd e6_4 (by decide)))
  all_goals (have n4 : ¬ kd = 4 := fun z => by (subst z; first | exact e6_4 rfl | exact absurd e6_3 (by decide) | exact absurd e6_4 (by decide)))
  all_goals (have n6 : ¬ kd = 6 := fun z => by (subst z; first | exact e6_6 rfl | exact absurd e6_3 (by decide) | exact absurd e6_4 (by decide)))
  · unfold lowV; simp only [n1, n4, n6, if_false]
  · unfold lowB; simp only [n1, n4, n6, if_false]
set_option maxHeartbeats 400000 in
set_option maxRecDepth 10000 in
theorem kX10_plainLifts {l : Launch} {E : z_E} (σ : z_M) {ρ : z_M} {L : List Int32} (hσ : σ = trM ρ L) (hL : L.length ≤ 26) {t : Nat} (ht : t < 8) {kd : Nat} (hk6 : kd ≤ 6) (hk : pO (ρ 1) t 0 = nI kd) {m : Int32} (hm : pO (ρ 1) t 1 = m) (x : Int32) : z_C l E shM 4 yX10_plainLifts cX10_plainLifts 3 (some FieldType.int) [.ref (z_ad E 0), .int (nI t), .int x] σ (z_Pp (lowV kd (nI t) x * 2) (trM ρ (L ++ 11 :: lowB kd))) := by
  refine z_intro iX10_plainLifts (Nat.le_of_ble_eq_true rfl) (fun K F => ?_)
  have e1 : σ 1 = ρ 1 := by rw [hσ, trM_1]
  refine z_aload_n F dX10_plainLifts_0 0 rfl 1 rfl ?_
  refine z_bipush F dX10_plainLifts_1 11 (by decide) 3 rfl ?_
  refine z_callVu F dX10_plainLifts_3 m_1292 iX10_begins jX10_begins rfl zc9 rfl (kX10_begins σ hσ (by omega) 11) rfl (by decide) (Nat.le_of_ble_eq_true rfl) 6 rfl ?_
  refine z_aload_n F dX10_plainLifts_6 0 rfl 7 rfl ?_
  refine z_iload_n F dX10_plainLifts_7 1 rfl 8 rfl ?_
  refine z_iload_n F dX10_plainLifts_8 2 rfl 9 rfl ?_
  refine z_callVp F dX10_plainLifts_9 m_1284 iX10_lowers jX10_lowers rfl zc9 rfl (kX10_lowers _ (ρ := ρ) (L := L ++ [11]) rfl (by simp; omega) ht hk6 hk hm _) rfl (by decide) (Nat.le_of_ble_eq_true rfl) 12 rfl ?_
  refine z_iconst F dX10_plainLifts_12 2 (by decide) 13 rfl ?_
  refine z_imul F dX10_plainLifts_13 14 rfl ?_
  refine z_rp F dX10_plainLifts_14 ?_ ?_
  · rfl
  · rw [List.append_assoc]; rfl
set_option maxHeartbeats 400000 in
set_option maxRecDepth 10000 in
theorem kX10_judgeLifts {l : Launch} {E : z_E} (σ : z_M) {ρ : z_M} {L : List Int32} (hσ : σ = trM ρ L) (hL : L.length ≤ 25) {t : Nat} (ht : t < 8) {kd : Nat} (hk6 : kd ≤ 6) (hk : pO (ρ 1) t 0 = nI kd) {m : Int32} (hm : pO (ρ 1) t 1 = m) (x : Int32) : z_C l E shM 5 yX10_judgeLifts cX10_judgeLifts 3 (some FieldType.int) [.ref (z_ad E 0), .int (nI t), .int x] σ (z_Pp (0 - lowV kd (nI t) x * 2) (trM ρ (L ++ 30 :: 11 :: lowB kd))) := by
  refine z_intro iX10_judgeLifts (Nat.le_of_ble_eq_true rfl) (fun K F => ?_)
  have e1 : σ 1 = ρ 1 := by rw [hσ, trM_1]
  refine z_aload_n F dX10_judgeLifts_0 0 rfl 1 rfl ?_
  refine z_bipush F dX10_judgeLifts_1 30 (by decide) 3 rfl ?_
  refine z_callVu F dX10_judgeLifts_3 m_1292 iX10_begins jX10_begins rfl zc9 rfl (kX10_begins σ hσ (by omega) 30) rfl (by decide) (Nat.le_of_ble_eq_true rfl) 6 rfl ?_
  refine z_aload_n F dX10_judgeLifts_6 0 rfl 7 rfl ?_
  refine z_iload_n F dX10_judgeLifts_7 1 rfl 8 rfl ?_
  refine z_iload_n F dX10_judgeLifts_8 2 rfl 9 rfl ?_
  refine z_callVp F dX10_judgeLifts_9 m_1308 iX10_plainLifts jX10_plainLifts rfl zc9 rfl (kX10_plainLifts _ (ρ := ρ) (L := L ++ [30]) rfl (by simp; omega) ht hk6 hk hm _) rfl (by decide) (Nat.le_of_ble_eq_true rfl) 12 rfl ?_
  refine z_ineg F dX10_judgeLifts_12 13 rfl ?_
  refine z_rp F dX10_judgeLifts_13 ?_ ?_
  · exact (Int32.zero_sub _).symm
  · rw [List.append_assoc]; rfl
set_option maxHeartbeats 400000 in
set_option maxRecDepth 10000 in
theorem kX10_lifts {l : Launch} {E : z_E} (σ : z_M) {ρ : z_M} {L : List Int32} (hσ : σ = trM ρ L) (hL : L.length ≤ 24) {t : Nat} (ht : t < 8) {kd : Nat} (hk6 : kd ≤ 6) (hk : pO (ρ 1) t 0 = nI kd) {m : Int32} (hm : pO (ρ 1) t 1 = m) (x : Int32) : z_C l E shM 6 yX10_lifts cX10_lifts 3 (some FieldType.int) [.ref (z_ad E 0), .int (nI t), .int x] σ (z_Pp (lifV kd (nI t) m x) (trM ρ (L ++ lifB kd))) := by
  refine z_intro iX10_lifts (Nat.le_of_ble_eq_true rfl) (fun K F => ?_)
  have e1 : σ 1 = ρ 1 := by rw [hσ, trM_1]
  refine z_aload_n F dX10_lifts_0 0 rfl 1 rfl ?_
  refine z_iload_n F dX10_lifts_1 1 rfl 2 rfl ?_
  refine z_iconst F dX10_lifts_2 0 (by decide) 3 rfl ?_
  refine z_callVp F dX10_lifts_3 m_1020 iX10_of jX10_of rfl zc9 rfl (kX10_of σ (p := t) (w := 0) ht (by decide)) rfl (by decide) (Nat.le_of_ble_eq_true rfl) 6 rfl ?_
  rw [e1, hk]
  by_cases e6_2 : (nI kd) = 2
  · skip
    refine z_tableIn F dX10_lifts_6 (by rw [e6_2]; decide) (by rw [e6_2]; decide) (by rw [e6_2]; rfl) 40 (by decide) ?_
    refine z_aload_n F dX10_lifts_40 0 rfl 41 rfl ?_
    refine z_iload_n F dX10_lifts_41 1 rfl 42 rfl ?_
    refine z_iload_n F dX10_lifts_42 2 rfl 43 rfl ?_
    refine z_callVp F dX10_lifts_43 m_1304 iX10_judgeLifts jX10_judgeLifts rfl zc9 rfl (kX10_judgeLifts σ hσ (by omega) ht hk6 hk hm _) rfl (by decide) (Nat.le_of_ble_eq_true rfl) 46 rfl ?_
    refine z_rp F dX10_lifts_46 ?_ ?_
    all_goals (have ek : kd = 2 := eq_nI (b := 2) e6_2 (by omega) (by decide))
    all_goals subst ek
    · rfl
    · rfl
  by_cases e6_3 : (nI kd) = 3
  · skip
    refine z_tableIn F dX10_lifts_6 (by rw [e6_3]; decide) (by rw [e6_3]; decide) (by rw [e6_3]; rfl) 82 (by decide) ?_
    refine z_aload_n F dX10_lifts_82 0 rfl 83 rfl ?_
    refine z_iload_n F dX10_lifts_83 1 rfl 84 rfl ?_
    refine z_iload_n F dX10_lifts_84 2 rfl 85 rfl ?_
    refine z_callVp F dX10_lifts_85 m_1308 iX10_plainLifts jX10_plainLifts rfl zc9 rfl (kX10_plainLifts σ hσ (by omega) ht hk6 hk hm _) rfl (by decide) (Nat.le_of_ble_eq_true rfl) 88 rfl ?_
    refine z_rp F dX10_lifts_88 ?_ ?_
    all_goals (have n2 : ¬ kd = 2 := fun z => by (subst z; first | exact e6_2 rfl | exact absurd e6_3 (by decide) | exact absurd e6_4 (by decide)))
    all_goals (have n5 : ¬ kd = 5 := fun z => by (subst z; first | exact e6_5 rfl | exact absurd e6_3 (by decide) | exact absurd e6_4 (by decide)))
    all_goals (have n6 : ¬ kd = 6 := fun z => by (subst z; first | exact e6_6 rfl | exact absurd e6_3 (by decide) | exact absurd e6_4 (by decide)))
    · unfold lifV; simp only [n2, n5, n6, if_false]
    · unfold lifB; simp only [n2, n5, n6, if_false]
  by_cases e6_4 : (nI kd) = 4
  · skip
    refine z_tableIn F dX10_lifts_6 (by rw [e6_4]; decide) (by rw [e6_4]; decide) (by rw [e6_4]; rfl) 82 (by decide) ?_
    refine z_aload_n F dX10_lifts_82 0 rfl 83 rfl ?_
    refine z_iload_n F dX10_lifts_83 1 rfl 84 rfl ?_
    refine z_iload_n F dX10_lifts_84 2 rfl 85 rfl ?_
    refine z_callVp F dX10_lifts_85 m_1308 iX10_plainLifts jX10_plainLifts rfl zc9 rfl (kX10_plainLifts σ hσ (by omega) ht hk6 hk hm _) rfl (by decide) (Nat.le_of_ble_eq_true rfl) 88 rfl ?_
    refine z_rp F dX10_lifts_88 ?_ ?_
    all_goals (have n2 : ¬ kd = 2 := fun z => by (subst z; first | exact e6_2 rfl | exact absurd e6_3 (by decide) | exact absurd e6_4 (by decide)))
    all_goals (have n5 : ¬ kd = 5 := fun z => by (subst z; first | exact e6_5 rfl | exact absurd e6_3 (by decide) | exact absurd e6_4 (by decide)))
    all_goals (have n6 : ¬ kd = 6 := fun z => by (subst z; first | exact e6_6 rfl | exact absurd e6_3 (by decide) | exact absurd e6_4 (by decide)))
    · unfold lifV; simp only [n2, n5, n6, if_false]
    · unfold lifB; simp only [n2, n5, n6, if_false]
  by_cases e6_5 : (nI kd) = 5
  · skip
    refine z_tableIn F dX10_lifts_6 (by rw [e6_5]; decide) (by rw [e6_5]; decide) (by rw [e6_5]; rfl) 47 (by decide) ?_
    refine z_aload_n F dX10_lifts_47 0 rfl 48 rfl ?_
    refine z_bipush F dX10_lifts_48 60 (by decide) 50 rfl ?_
    refine z_callVu F dX10_lifts_50 m_1292 iX10_begins jX10_begins rfl zc9 rfl (kX10_begins σ hσ (by omega) 60) rfl (by decide) (Nat.le_of_ble_eq_true rfl) 53 rfl ?_
    refine z_aload_n F dX10_lifts_53 0 rfl 54 rfl ?_
    refine z_iload_n F dX10_lifts_54 1 rfl 55 rfl ?_
    refine z_iload_n F dX10_lifts_55 2 rfl 56 rfl ?_
    refine z_iconst F dX10_lifts_56 1 (by decide) 57 rfl ?_
    refine z_iadd F dX10_lifts_57 58 rfl ?_
    refine z_callVp F dX10_lifts_58 m_1304 iX10_judgeLifts jX10_judgeLifts rfl zc9 rfl (kX10_judgeLifts _ (ρ := ρ) (L := L ++ [60]) rfl (by simp; omega) ht hk6 hk hm _) rfl (by decide) (Nat.le_of_ble_eq_true rfl) 61 rfl ?_
    refine z_rp F dX10_lifts_61 ?_ ?_
    all_goals (have ek : kd = 5 := eq_nI (b := 5) e6_5 (by omega) (by decide))
    all_goals subst ek
    · rfl
    · rw [List.append_assoc]; rfl
  by_cases e6_6 : (nI kd) = 6
  · skip
    refine z_tableIn F dX10_lifts_6 (by rw [e6_6]; decide) (by rw [e6_6]; decide) (by rw [e6_6]; rfl) 62 (by decide) ?_
    refine z_aload_n F dX10_lifts_62 0 rfl 63 rfl ?_
    refine z_bipush F dX10_lifts_63 71 (by decide) 65 rfl ?_
    refine z_callVu F dX10_lifts_65 m_1292 iX10_begins jX10_begins rfl zc9 rfl (kX10_begins σ hσ (by omega) 71) rfl (by decide) (Nat.le_of_ble_eq_true rfl) 68 rfl ?_
    refine z_aload_n F dX10_lifts_68 0 rfl 69 rfl ?_
    refine z_iload_n F dX10_lifts_69 1 rfl 70 rfl ?_
    refine z_iload_n F dX10_lifts_70 2 rfl 71 rfl ?_
    refine z_callVp F dX10_lifts_71 m_1308 iX10_plainLifts jX10_plainLifts rfl zc9 rfl (kX10_plainLifts _ (ρ := ρ) (L := L ++ [71]) rfl (by simp; omega) ht hk6 hk hm _) rfl (by decide) (Nat.le_of_ble_eq_true rfl) 74 rfl ?_
    refine z_aload_n F dX10_lifts_74 0 rfl 75 rfl ?_
    refine z_iload_n F dX10_lifts_75 1 rfl 76 rfl ?_
    refine z_iconst F dX10_lifts_76 1 (by decide) 77 rfl ?_
    refine z_callVp F dX10_lifts_77 m_1020 iX10_of jX10_of rfl zc9 rfl (kX10_of _ (p := t) (w := 1) ht (by decide)) rfl (by decide) (Nat.le_of_ble_eq_true rfl) 80 rfl ?_
    rw [trM_1, hm]
    refine z_iadd F dX10_lifts_80 81 rfl ?_
    refine z_rp F dX10_lifts_81 ?_ ?_
    all_goals (have ek : kd = 6 := eq_nI (b := 6) e6_6 (by omega) (by decide))
    all_goals subst ek
    · rfl
    · rw [List.append_assoc]; rfl
  refine z_tableOut F dX10_lifts_6 (by have t0 := (nI kd).toInt; have t1 := lv_neT e6_2 (a := 2) rfl; have t2 := lv_neT e6_3 (a := 3) rfl; have t3 := lv_neT e6_4 (a := 4) rfl; have t4 := lv_neT e6_5 (a := 5) rfl; have t5 := lv_neT e6_6 (a := 6) rfl; omega) 82 (by decide) ?_
  refine z_aload_n F dX10_lifts_82 0 rfl 83 rfl ?_
  refine z_iload_n F dX10_lifts_83 1 rfl 84 rfl ?_
  refine z_iload_n F dX10_lifts_84 2 rfl 85 rfl ?_
  refine z_callVp F dX10_lifts_85 m_1308 iX10_plainLifts jX10_plainLifts rfl zc9 rfl (kX10_plainLifts σ hσ (by omega) ht hk6 hk hm _) rfl (by decide) (Nat.le_of_ble_eq_true rfl) 88 rfl ?_
  refine z_rp F dX10_lifts_88 ?_ ?_
  all_goals (have n2 : ¬ kd = 2 := fun z => by (subst z; first | exact e6_2 rfl | exact absurd e6_3 (by decide) | exact absurd e6_4 (by decide)))
  all_goals (have n5 : ¬ kd = 5 := fun z => by (subst z; first | exact e6_5 rfl | exact absurd e6_3 (by decide) | exact absurd e6_4 (by decide)))
  all_goals (have n6 : ¬ kd = 6 := fun z => by (subst z; first | exact e6_6 rfl | exact absurd e6_3 (by decide) | exact absurd e6_4 (by decide)))
  · unfold lifV; simp only [n2, n5, n6, if_false]
  · unfold lifB; simp only [n2, n5, n6, if_false]
set_option maxHeartbeats 400000 in
set_option maxRecDepth 10000 in
theorem kX10_plainLooks {l : Launch} {E : z_E} (σ : z_M) {ρ : z_M} {L : List Int32} (hσ : σ = trM ρ L) (hL : L.length ≤ 23) {t : Nat} (ht : t < 8) {kd : Nat} (hk6 : kd ≤ 6) (hk : pO (ρ 1) t 0 = nI kd) {m : Int32} (hm : pO (ρ 1) t 1 = m) (x : Int32) : z_C l E shM 7 yX10_plainLooks cX10_plainLooks 3 (some FieldType.int) [.ref (z_ad E 0), .int (nI t), .int x] σ (z_Pp (lifV kd (nI t) m x - m) (trM ρ (L ++ 12 :: lifB kd))) := by
  refine z_intro iX10_plainLooks (Nat.le_of_ble_eq_true rfl) (fun K F => ?_)
  have e1 : σ 1 = ρ 1 := by rw [hσ, trM_1]
  refine z_aload_n F dX10_plainLooks_0 0 rfl 1 rfl ?_
  refine z_bipush F dX10_plainLooks_1 12 (by decide) 3 rfl ?_
  refine z_callVu F dX10_plainLooks_3 m_1292 iX10_begins jX10_begins rfl zc9 rfl (kX10_begins σ hσ (by omega) 12) rfl (by decide) (Nat.le_of_ble_eq_true rfl) 6 rfl ?_
  refine z_aload_n F dX10_plainLooks_6 0 rfl 7 rfl ?_
  refine z_iload_n F dX10_plainLooks_7 1 rfl 8 rfl ?_
  refine z_iload_n F dX10_plainLooks_8 2 rfl 9 rfl ?_
  refine z_callVp F dX10_plainLooks_9 m_1300 iX10_lifts jX10_lifts rfl zc9 rfl (kX10_lifts _ (ρ := ρ) (L := L ++ [12]) rfl (by simp; omega) ht hk6 hk hm _) rfl (by decide) (Nat.le_of_ble_eq_true rfl) 12 rfl ?_
  refine z_aload_n F dX10_plainLooks_12 0 rfl 13 rfl ?_
  refine z_iload_n F dX10_plainLooks_13 1 rfl 14 rfl ?_
  refine z_iconst F dX10_plainLooks_14 1 (by decide) 15 rfl ?_
  refine z_callVp F dX10_plainLooks_15 m_1020 iX10_of jX10_of rfl zc9 rfl (kX10_of _ (p := t) (w := 1) ht (by decide)) rfl (by decide) (Nat.le_of_ble_eq_true rfl) 18 rfl ?_
  rw [trM_1, hm]
  refine z_isub F dX10_plainLooks_18 19 rfl ?_
  refine z_rp F dX10_plainLooks_19 ?_ ?_
  · rfl
  · rw [List.append_assoc]; rfl
set_option maxHeartbeats 400000 in
set_option maxRecDepth 10000 in
theorem kX10_looksBy {l : Launch} {E : z_E} (σ : z_M) {ρ : z_M} {L : List Int32} (hσ : σ = trM ρ L) (hL : L.length ≤ 22) {t : Nat} (ht : t < 8) {kd : Nat} (hk6 : kd ≤ 6) (hk : pO (ρ 1) t 0 = nI kd) {m : Int32} (hm : pO (ρ 1) t 1 = m) (x : Int32) : z_C l E shM 8 yX10_looksBy cX10_looksBy 3 (some FieldType.int) [.ref (z_ad E 0), .int (nI t), .int x] σ (z_Pp (looV kd (nI t) m x) (trM ρ (L ++ looB kd))) := by
  refine z_intro iX10_looksBy (Nat.le_of_ble_eq_true rfl) (fun K F => ?_)
  have e1 : σ 1 = ρ 1 := by rw [hσ, trM_1]
  refine z_aload_n F dX10_looksBy_0 0 rfl 1 rfl ?_
  refine z_iload_n F dX10_looksBy_1 1 rfl 2 rfl ?_
  refine z_iconst F dX10_looksBy_2 0 (by decide) 3 rfl ?_
  refine z_callVp F dX10_looksBy_3 m_1020 iX10_of jX10_of rfl zc9 rfl (kX10_of σ (p := t) (w := 0) ht (by decide)) rfl (by decide) (Nat.le_of_ble_eq_true rfl) 6 rfl ?_
  rw [e1, hk]
  by_cases e6_3 : (nI kd) = 3
  · skip
    refine z_lookup F dX10_looksBy_6 (by decide +kernel) (by rw [e6_3]; first | done | decide +kernel) 32 (by decide) ?_
    refine z_aload_n F dX10_looksBy_32 0 rfl 33 rfl ?_
    refine z_bipush F dX10_looksBy_33 40 (by decide) 35 rfl ?_
    refine z_callVu F dX10_looksBy_35 m_1292 iX10_begins jX10_begins rfl zc9 rfl (kX10_begins σ hσ (by omega) 40) rfl (by decide) (Nat.le_of_ble_eq_true rfl) 38 rfl ?_
    refine z_aload_n F dX10_looksBy_38 0 rfl 39 rfl ?_
    refine z_iload_n F dX10_looksBy_39 1 rfl 40 rfl ?_
    refine z_iload_n F dX10_looksBy_40 2 rfl 41 rfl ?_
    refine z_iconst F dX10_looksBy_41 2 (by decide) 42 rfl ?_
    refine z_idiv F dX10_looksBy_42 (by decide) 43 rfl ?_
    refine z_callVp F dX10_looksBy_43 m_1316 iX10_plainLooks jX10_plainLooks rfl zc9 rfl (kX10_plainLooks _ (ρ := ρ) (L := L ++ [40]) rfl (by simp; omega) ht hk6 hk hm _) rfl (by decide) (Nat.le_of_ble_eq_true rfl) 46 rfl ?_
    refine z_rp F dX10_looksBy_46 ?_ ?_
    all_goals (have ek : kd = 3 := eq_nI (b := 3) e6_3 (by omega) (by decide))
    all_goals subst ek
    · rfl
    · rw [List.append_assoc]; rfl
  by_cases e6_4 : (nI kd) = 4
  · skip
    refine z_lookup F dX10_looksBy_6 (by decide +kernel) (by rw [e6_4]; first | done | decide +kernel) 47 (by decide) ?_
    refine z_aload_n F dX10_looksBy_47 0 rfl 48 rfl ?_
    refine z_bipush F dX10_looksBy_48 51 (by decide) 50 rfl ?_
    refine z_callVu F dX10_looksBy_50 m_1292 iX10_begins jX10_begins rfl zc9 rfl (kX10_begins σ hσ (by omega) 51) rfl (by decide) (Nat.le_of_ble_eq_true rfl) 53 rfl ?_
    refine z_aload_n F dX10_looksBy_53 0 rfl 54 rfl ?_
    refine z_iload_n F dX10_looksBy_54 1 rfl 55 rfl ?_
    refine z_iload_n F dX10_looksBy_55 2 rfl 56 rfl ?_
    refine z_callVp F dX10_looksBy_56 m_1316 iX10_plainLooks jX10_plainLooks rfl zc9 rfl (kX10_plainLooks _ (ρ := ρ) (L := L ++ [51]) rfl (by simp; omega) ht hk6 hk hm _) rfl (by decide) (Nat.le_of_ble_eq_true rfl) 59 rfl ?_
    refine z_iload_n F dX10_looksBy_59 1 rfl 60 rfl ?_
    refine z_ixor F dX10_looksBy_60 61 rfl ?_
    refine z_rp F dX10_looksBy_61 ?_ ?_
    all_goals (have ek : kd = 4 := eq_nI (b := 4) e6_4 (by omega) (by decide))
    all_goals subst ek
    · rfl
    · rw [List.append_assoc]; rfl
  refine z_lookup F dX10_looksBy_6 (by decide +kernel) (by show Op.lookupswitch.offset [(3, 26), (4, 41)] _ _ = 56; rw [lv_osw (a := 3) e6_3 (by decide), lv_osw (a := 4) e6_4 (by decide)]; rfl) 62 (by decide) ?_
  refine z_aload_n F dX10_looksBy_62 0 rfl 63 rfl ?_
  refine z_iload_n F dX10_looksBy_63 1 rfl 64 rfl ?_
  refine z_iload_n F dX10_looksBy_64 2 rfl 65 rfl ?_
  refine z_callVp F dX10_looksBy_65 m_1316 iX10_plainLooks jX10_plainLooks rfl zc9 rfl (kX10_plainLooks σ hσ (by omega) ht hk6 hk hm _) rfl (by decide) (Nat.le_of_ble_eq_true rfl) 68 rfl ?_
  refine z_rp F dX10_looksBy_68 ?_ ?_
  all_goals (have n3 : ¬ kd = 3 := fun z => by (subst z; first | exact e6_3 rfl | exact absurd e6_3 (by decide) | exact absurd e6_4 (by decide)))
  all_goals (have n4 : ¬ kd = 4 := fun z => by (subst z; first | exact e6_4 rfl | exact absurd e6_3 (by decide) | exact absurd e6_4 (by decide)))
  · unfold looV; simp only [n3, n4, if_false]
  · unfold looB; simp only [n3, n4, if_false]
set_option maxHeartbeats 400000 in
set_option maxRecDepth 10000 in
theorem kX10_plainParts {l : Launch} {E : z_E} (σ : z_M) {ρ : z_M} {L : List Int32} (hσ : σ = trM ρ L) (hL : L.length ≤ 22) {t : Nat} (ht : t < 8) {kd : Nat} (hk6 : kd ≤ 6) (hk : pO (ρ 1) t 0 = nI kd) {m : Int32} (hm : pO (ρ 1) t 1 = m) (x : Int32) : z_C l E shM 1 yX10_plainParts cX10_plainParts 4 (some FieldType.int) [.ref (z_ad E 0), .int (nI t), .int x] σ (z_Pp (if m - nI t = 0 then 0 else x / (m - nI t)) (trM (z_u2 ρ 0 19 (bI (m - nI t = 0))) (L ++ [13]))) := by
  refine z_intro iX10_plainParts (Nat.le_of_ble_eq_true rfl) (fun K F => ?_)
  have e1 : σ 1 = ρ 1 := by rw [hσ, trM_1]
  refine z_aload_n F dX10_plainParts_0 0 rfl 1 rfl ?_
  refine z_bipush F dX10_plainParts_1 13 (by decide) 3 rfl ?_
  refine z_callVu F dX10_plainParts_3 m_1292 iX10_begins jX10_begins rfl zc9 rfl (kX10_begins σ hσ (by omega) 13) rfl (by decide) (Nat.le_of_ble_eq_true rfl) 6 rfl ?_
  refine z_aload_n F dX10_plainParts_6 0 rfl 7 rfl ?_
  refine z_iload_n F dX10_plainParts_7 1 rfl 8 rfl ?_
  refine z_iconst F dX10_plainParts_8 1 (by decide) 9 rfl ?_
  refine z_callVp F dX10_plainParts_9 m_1020 iX10_of jX10_of rfl zc9 rfl (kX10_of _ (p := t) (w := 1) ht (by decide)) rfl (by decide) (Nat.le_of_ble_eq_true rfl) 12 rfl ?_
  rw [trM_1, hm]
  refine z_iload_n F dX10_plainParts_12 1 rfl 13 rfl ?_
  refine z_isub F dX10_plainParts_13 14 rfl ?_
  refine z_istore_n F dX10_plainParts_14 [(0, _), (1, _), (2, _), (3, _)] rfl (by decide) 15 rfl ?_
  refine z_aload_n F dX10_plainParts_15 0 rfl 16 rfl ?_
  refine z_iload_n F dX10_plainParts_16 3 rfl 17 rfl ?_
  refine z_if_ne F dX10_plainParts_17 24 (by decide) 20 rfl (fun h17 => ?_) (fun h17 => ?_)
  · skip
    refine z_iconst F dX10_plainParts_24 0 (by decide) 25 rfl ?_
    refine z_putZ F zc9 dX10_plainParts_25 rfl 19 (by decide) (by decide) (.inl m_949) rfl rfl z_pZ rfl rfl 28 rfl ?_
    refine z_aload_n F dX10_plainParts_28 0 rfl 29 rfl ?_
    refine z_getI F zc9 dX10_plainParts_29 rfl 19 (by decide) (by decide) (.inl m_949) rfl 32 rfl ?_
    rw [u2_same]
    refine z_if_eq F dX10_plainParts_32 39 (by decide) 35 rfl (fun h32 => ?_) (fun h32 => ?_)
    · skip
      refine z_iload_n F dX10_plainParts_39 2 rfl 40 rfl ?_
      refine z_iload_n F dX10_plainParts_40 3 rfl 41 rfl ?_
      refine z_idiv F dX10_plainParts_41 h17 42 rfl ?_
      refine z_rp F dX10_plainParts_42 ?_ ?_
      · exact (if_neg h17).symm
      · rw [trM_19, bI_f h17]
    · skip
      exact absurd rfl h32
  · skip
    refine z_iconst F dX10_plainParts_20 1 (by decide) 21 rfl ?_
    refine z_goto F dX10_plainParts_21 25 (by decide) ?_
    refine z_putZ F zc9 dX10_plainParts_25 rfl 19 (by decide) (by decide) (.inl m_949) rfl rfl z_pZ rfl rfl 28 rfl ?_
    refine z_aload_n F dX10_plainParts_28 0 rfl 29 rfl ?_
    refine z_getI F zc9 dX10_plainParts_29 rfl 19 (by decide) (by decide) (.inl m_949) rfl 32 rfl ?_
    rw [u2_same]
    refine z_if_eq F dX10_plainParts_32 39 (by decide) 35 rfl (fun h32 => ?_) (fun h32 => ?_)
    · skip
      exact absurd h32 (by decide)
    · skip
      refine z_iconst F dX10_plainParts_35 0 (by decide) 36 rfl ?_
      refine z_goto F dX10_plainParts_36 42 (by decide) ?_
      refine z_rp F dX10_plainParts_42 ?_ ?_
      · exact (if_pos h17).symm
      · rw [trM_19, bI_t h17]
set_option maxHeartbeats 400000 in
set_option maxRecDepth 10000 in
theorem kX10_partsBy {l : Launch} {E : z_E} (σ : z_M) {ρ : z_M} {L : List Int32} (hσ : σ = trM ρ L) (hL : L.length ≤ 21) {t : Nat} (ht : t < 8) {kd : Nat} (hk6 : kd ≤ 6) (hk : pO (ρ 1) t 0 = nI kd) {m : Int32} (hm : pO (ρ 1) t 1 = m) (x : Int32) : z_C l E shM 7 yX10_partsBy cX10_partsBy 4 (some FieldType.int) [.ref (z_ad E 0), .int (nI t), .int x] σ (z_Pp (parV kd (nI t) m x) (trM (z_u2 ρ 0 19 (bI (m - nI t = 0))) (L ++ parB kd (nI t) m))) := by
  refine z_intro iX10_partsBy (Nat.le_of_ble_eq_true rfl) (fun K F => ?_)
  have e1 : σ 1 = ρ 1 := by rw [hσ, trM_1]
  refine z_aload_n F dX10_partsBy_0 0 rfl 1 rfl ?_
  refine z_iload_n F dX10_partsBy_1 1 rfl 2 rfl ?_
  refine z_iconst F dX10_partsBy_2 0 (by decide) 3 rfl ?_
  refine z_callVp F dX10_partsBy_3 m_1020 iX10_of jX10_of rfl zc9 rfl (kX10_of σ (p := t) (w := 0) ht (by decide)) rfl (by decide) (Nat.le_of_ble_eq_true rfl) 6 rfl ?_
  rw [e1, hk]
  refine z_iconst F dX10_partsBy_6 1 (by decide) 7 rfl ?_
  refine z_icmp_eq F dX10_partsBy_7 20 (by decide) 10 rfl (fun h7 => ?_) (fun h7 => ?_)
  · skip
    have hkd : kd = 1 ∨ kd = 4 := Or.inl (eq_nI (b := 1) h7 (by omega) (by decide))
    refine z_aload_n F dX10_partsBy_20 0 rfl 21 rfl ?_
    refine z_bipush F dX10_partsBy_21 21 (by decide) 23 rfl ?_
    refine z_callVu F dX10_partsBy_23 m_1292 iX10_begins jX10_begins rfl zc9 rfl (kX10_begins σ hσ (by omega) 21) rfl (by decide) (Nat.le_of_ble_eq_true rfl) 26 rfl ?_
    refine z_aload_n F dX10_partsBy_26 0 rfl 27 rfl ?_
    refine z_iload_n F dX10_partsBy_27 1 rfl 28 rfl ?_
    refine z_iload_n F dX10_partsBy_28 2 rfl 29 rfl ?_
    refine z_callVp F dX10_partsBy_29 m_1324 iX10_plainParts jX10_plainParts rfl zc9 rfl (kX10_plainParts _ (ρ := ρ) (L := L ++ [21]) rfl (by simp; omega) ht hk6 hk hm _) rfl (by decide) (Nat.le_of_ble_eq_true rfl) 32 rfl ?_
    refine z_istore_n F dX10_partsBy_32 [(0, _), (1, _), (2, _), (3, _)] rfl (by decide) 33 rfl ?_
    refine z_aload_n F dX10_partsBy_33 0 rfl 34 rfl ?_
    refine z_getI F zc9 dX10_partsBy_34 rfl 19 (by decide) (by decide) (.inl m_949) rfl 37 rfl ?_
    rw [trM_019, u2_same]
    refine z_if_eq F dX10_partsBy_37 44 (by decide) 40 rfl (fun h37 => ?_) (fun h37 => ?_)
    · skip
      have hz : ¬ m - nI t = 0 := bI0.mp h37
      rw [if_neg hz]
      refine z_iload_n F dX10_partsBy_44 3 rfl 45 rfl ?_
      refine z_aload_n F dX10_partsBy_45 0 rfl 46 rfl ?_
      refine z_iload_n F dX10_partsBy_46 1 rfl 47 rfl ?_
      refine z_iconst F dX10_partsBy_47 1 (by decide) 48 rfl ?_
      refine z_callVp F dX10_partsBy_48 m_1300 iX10_lifts jX10_lifts rfl zc9 rfl (kX10_lifts _ (ρ := (z_u2 ρ 0 19 (bI (m - nI t = 0)))) (L := L ++ [21] ++ [13]) rfl (by simp; omega) ht hk6 (by rw [u2_o (by decide)]; exact hk) (m := m) (by rw [u2_o (by decide)]; exact hm) 1) rfl (by decide) (Nat.le_of_ble_eq_true rfl) 51 rfl ?_
      refine z_iadd F dX10_partsBy_51 52 rfl ?_
      refine z_rp F dX10_partsBy_52 ?_ ?_
      · unfold parV
        rw [if_neg hz, if_pos hkd]
      · unfold parB
        rw [if_pos hkd, if_neg hz, List.append_assoc, List.append_assoc]; rfl
    · skip
      have hz : m - nI t = 0 := Decidable.byContradiction (fun z => h37 (bI_f z))
      refine z_iconst F dX10_partsBy_40 0 (by decide) 41 rfl ?_
      refine z_goto F dX10_partsBy_41 52 (by decide) ?_
      refine z_rp F dX10_partsBy_52 ?_ ?_
      · unfold parV
        rw [if_pos hz]
      · unfold parB
        rw [if_pos hkd, if_pos hz, List.append_assoc]; rfl
  · skip
    refine z_aload_n F dX10_partsBy_10 0 rfl 11 rfl ?_
    refine z_iload_n F dX10_partsBy_11 1 rfl 12 rfl ?_
    refine z_iconst F dX10_partsBy_12 0 (by decide) 13 rfl ?_
    refine z_callVp F dX10_partsBy_13 m_1020 iX10_of jX10_of rfl zc9 rfl (kX10_of σ (p := t) (w := 0) ht (by decide)) rfl (by decide) (Nat.le_of_ble_eq_true rfl) 16 rfl ?_
    rw [e1, hk]
    refine z_iconst F dX10_partsBy_16 4 (by decide) 17 rfl ?_
    refine z_icmp_ne F dX10_partsBy_17 53 (by decide) 20 rfl (fun h17 => ?_) (fun h17 => ?_)
    · skip
      refine z_aload_n F dX10_partsBy_53 0 rfl 54 rfl ?_
      refine z_iload_n F dX10_partsBy_54 1 rfl 55 rfl ?_
      refine z_iload_n F dX10_partsBy_55 2 rfl 56 rfl ?_
      refine z_callVp F dX10_partsBy_56 m_1324 iX10_plainParts jX10_plainParts rfl zc9 rfl (kX10_plainParts σ hσ (by omega) ht hk6 hk hm _) rfl (by decide) (Nat.le_of_ble_eq_true rfl) 59 rfl ?_
      refine z_rp F dX10_partsBy_59 ?_ ?_
      all_goals (have hkd : ¬ (kd = 1 ∨ kd = 4) := fun z => z.elim (fun z => h7 (by rw [z]; rfl)) (fun z => h17 (by rw [z]; rfl)))
      · unfold parV; rw [if_neg hkd]
      · unfold parB; rw [if_neg hkd]
    · skip
      have hkd : kd = 1 ∨ kd = 4 := Or.inr (eq_nI (b := 4) h17 (by omega) (by decide))
      refine z_aload_n F dX10_partsBy_20 0 rfl 21 rfl ?_
      refine z_bipush F dX10_partsBy_21 21 (by decide) 23 rfl ?_
      refine z_callVu F dX10_partsBy_23 m_1292 iX10_begins jX10_begins rfl zc9 rfl (kX10_begins σ hσ (by omega) 21) rfl (by decide) (Nat.le_of_ble_eq_true rfl) 26 rfl ?_
      refine z_aload_n F dX10_partsBy_26 0 rfl 27 rfl ?_
      refine z_iload_n F dX10_partsBy_27 1 rfl 28 rfl ?_
      refine z_iload_n F dX10_partsBy_28 2 rfl 29 rfl ?_
      refine z_callVp F dX10_partsBy_29 m_1324 iX10_plainParts jX10_plainParts rfl zc9 rfl (kX10_plainParts _ (ρ := ρ) (L := L ++ [21]) rfl (by simp; omega) ht hk6 hk hm _) rfl (by decide) (Nat.le_of_ble_eq_true rfl) 32 rfl ?_
      refine z_istore_n F dX10_partsBy_32 [(0, _), (1, _), (2, _), (3, _)] rfl (by decide) 33 rfl ?_
      refine z_aload_n F dX10_partsBy_33 0 rfl 34 rfl ?_
      refine z_getI F zc9 dX10_partsBy_34 rfl 19 (by decide) (by decide) (.inl m_949) rfl 37 rfl ?_
      rw [trM_019, u2_same]
      refine z_if_eq F dX10_partsBy_37 44 (by decide) 40 rfl (fun h37 => ?_) (fun h37 => ?_)
      · skip
        have hz : ¬ m - nI t = 0 := bI0.mp h37
        rw [if_neg hz]
        refine z_iload_n F dX10_partsBy_44 3 rfl 45 rfl ?_
        refine z_aload_n F dX10_partsBy_45 0 rfl 46 rfl ?_
        refine z_iload_n F dX10_partsBy_46 1 rfl 47 rfl ?_
        refine z_iconst F dX10_partsBy_47 1 (by decide) 48 rfl ?_
        refine z_callVp F dX10_partsBy_48 m_1300 iX10_lifts jX10_lifts rfl zc9 rfl (kX10_lifts _ (ρ := (z_u2 ρ 0 19 (bI (m - nI t = 0)))) (L := L ++ [21] ++ [13]) rfl (by simp; omega) ht hk6 (by rw [u2_o (by decide)]; exact hk) (m := m) (by rw [u2_o (by decide)]; exact hm) 1) rfl (by decide) (Nat.le_of_ble_eq_true rfl) 51 rfl ?_
        refine z_iadd F dX10_partsBy_51 52 rfl ?_
        refine z_rp F dX10_partsBy_52 ?_ ?_
        · unfold parV
          rw [if_neg hz, if_pos hkd]
        · unfold parB
          rw [if_pos hkd, if_neg hz, List.append_assoc, List.append_assoc]; rfl
      · skip
        have hz : m - nI t = 0 := Decidable.byContradiction (fun z => h37 (bI_f z))
        refine z_iconst F dX10_partsBy_40 0 (by decide) 41 rfl ?_
        refine z_goto F dX10_partsBy_41 52 (by decide) ?_
        refine z_rp F dX10_partsBy_52 ?_ ?_
        · unfold parV
          rw [if_pos hz]
        · unfold parB
          rw [if_pos hkd, if_pos hz, List.append_assoc]; rfl
set_option maxHeartbeats 1000000 in
set_option maxRecDepth 10000 in
theorem kX10_voice {l : Launch} {E : z_E} (σ : z_M) {τ0 : z_M} (hR : Rel τ0 σ) (x : Int32) (v : Int32) (y : Int32)  : z_C l E shM 9 yX10_voice cX10_voice 5 (some FieldType.int) [.ref (z_ad E 0), .int x, .int v, .int y] σ (z_Pi (fun rv μ' => rv = (aVoice σ x v y).1 ∧ MO (aVoice σ x v y).2 μ')) := by
  refine z_intro iX10_voice (Nat.le_of_ble_eq_true rfl) (fun K F => ?_)
  have hn : σ 1 2 = nI (nP (σ 1)) := hR.2.1.1.1
  have h8 : nP (σ 1) ≤ 8 := hR.n8
  have hN : σ 1 2 = nI (nP (σ 1)) ∧ nP (σ 1) ≤ 8 := ⟨hn, h8⟩
  refine z_aload_n F dX10_voice_0 0 rfl 1 rfl ?_
  refine z_iload_n F dX10_voice_1 1 rfl 2 rfl ?_
  refine z_callVp F dX10_voice_2 m_1016 iX10_isPerson jX10_isPerson rfl zc9 rfl (kX10_isPerson σ hN _) rfl (by decide) (Nat.le_of_ble_eq_true rfl) 5 rfl ?_
  refine z_if_eq F dX10_voice_5 17 (by decide) 8 rfl (fun h5 => ?_) (fun h5 => ?_)
  · skip
    have h5 := bI0.mp h5
    refine z_aload_n F dX10_voice_17 0 rfl 18 rfl ?_
    refine z_ldc F dX10_voice_18 m_1001 20 rfl ?_
    rw [lo1]
    refine z_callVi F dX10_voice_20 m_1002 iX10_error jX10_error rfl zc9 rfl (kX10_error σ (k := 1) (by decide) (by decide)) rfl (by decide) (Nat.le_of_ble_eq_true rfl) 23 rfl (fun r20 s20 c20 => ?_)
    refine z_ri F dX10_voice_23 ?_
    obtain ⟨rfl, rfl⟩ := c20
    exact finM (by
      unfold aVoice
      (repeat' split) <;> first | rfl | contradiction | (exfalso; simp only [Int32.lt_iff_toInt_lt, Int32.le_iff_toInt_le, ← Int32.toInt_inj, Int32.reduceToInt] at *; omega)) MO.rf
  · skip
    have h5 := bI1.mp h5
    refine z_iload_n F dX10_voice_8 2 rfl 9 rfl ?_
    refine z_iconst F dX10_voice_9 0 (by decide) 10 rfl ?_
    refine z_iconst F dX10_voice_10 3 (by decide) 11 rfl ?_
    refine z_callSp F dX10_voice_11 m_998 iX10_in m_999 rfl (kX10_in σ _ _ _) rfl (by decide) (Nat.le_of_ble_eq_true rfl) 14 rfl ?_
    refine z_if_ne F dX10_voice_14 24 (by decide) 17 rfl (fun h14 => ?_) (fun h14 => ?_)
    · skip
      have h14 := bI1.mp h14
      obtain ⟨i, hi, rfl⟩ := isP_of (n := nP (σ 1)) (hn ▸ h5) (by omega)
      have i31 : i < 2 ^ 31 := by omega
      obtain ⟨kd, hk6, hk⟩ := (hR.vk.2.2 i hi).1
      have hv4 : 0 ≤ v ∧ v < 4 := ⟨h14.1, by simp only [Int32.lt_iff_toInt_lt, Int32.le_iff_toInt_le, ← Int32.toInt_inj, Int32.reduceToInt] at *; omega⟩
      refine z_aload_n F dX10_voice_24 0 rfl 25 rfl ?_
      refine z_iconst F dX10_voice_25 0 (by decide) 26 rfl ?_
      refine z_putI F zc9 dX10_voice_26 rfl 18 (by decide) (by decide) (.inl m_948) rfl rfl z_pI 29 rfl ?_
      refine z_aload_n F dX10_voice_29 0 rfl 30 rfl ?_
      refine z_iconst F dX10_voice_30 0 (by decide) 31 rfl ?_
      refine z_putZ F zc9 dX10_voice_31 rfl 19 (by decide) (by decide) (.inl m_949) rfl rfl z_pZ rfl rfl 34 rfl ?_
      rw [trM_nil]
      refine z_iload_n F dX10_voice_34 2 rfl 35 rfl ?_
      refine z_if_ne F dX10_voice_35 47 (by decide) 38 rfl (fun h35 => ?_) (fun h35 => ?_)
      · skip
        refine z_iload_n F dX10_voice_47 2 rfl 48 rfl ?_
        refine z_iconst F dX10_voice_48 1 (by decide) 49 rfl ?_
        refine z_icmp_ne F dX10_voice_49 61 (by decide) 52 rfl (fun h49 => ?_) (fun h49 => ?_)
        · skip
          refine z_iload_n F dX10_voice_61 2 rfl 62 rfl ?_
          refine z_iconst F dX10_voice_62 2 (by decide) 63 rfl ?_
          refine z_icmp_ne F dX10_voice_63 75 (by decide) 66 rfl (fun h63 => ?_) (fun h63 => ?_)
          · skip
            have hv3 : v = 3 := by simp only [Int32.lt_iff_toInt_lt, Int32.le_iff_toInt_le, ← Int32.toInt_inj, Int32.reduceToInt] at *; omega
            refine z_aload_n F dX10_voice_75 0 rfl 76 rfl ?_
            refine z_iload_n F dX10_voice_76 1 rfl 77 rfl ?_
            refine z_iload_n F dX10_voice_77 3 rfl 78 rfl ?_
            refine z_callVp F dX10_voice_78 m_1320 iX10_partsBy jX10_partsBy rfl zc9 rfl (kX10_partsBy _ (ρ := (z_u2 σ 0 19 0)) (L := []) rfl (by simp) (t := i) (by omega) hk6 (by rw [u2_o (by decide)]; exact hk) (m := pO (σ 1) i 1) (by rw [u2_o (by decide)]) _) rfl (by decide) (Nat.le_of_ble_eq_true rfl) 81 rfl ?_
            refine z_istore F dX10_voice_81 [(0, _), (1, _), (2, _), (3, _), (4, _)] rfl (by decide) 83 rfl ?_
            refine z_aload_n F dX10_voice_83 0 rfl 84 rfl ?_
            refine z_getI F zc9 dX10_voice_84 rfl 19 (by decide) (by decide) (.inl m_949) rfl 87 rfl ?_
            rw [trM_019, u2_same]
            refine z_if_eq F dX10_voice_87 100 (by decide) 90 rfl (fun h87 => ?_) (fun h87 => ?_)
            · skip
              have hz : ¬ pO (σ 1) i 1 - nI i = 0 := bI0.mp h87
              refine z_iload F dX10_voice_100 4 rfl 102 rfl ?_
              refine z_ri F dX10_voice_102 ?_
              have eV : v.toNatClampNeg = 3 := by rw [hv3]; rfl
              refine finM (m := trM σ (parB kd (nI i) (pO (σ 1) i 1))) ?_ trM_MO2
              unfold aVoice
              rw [if_pos ⟨h5, hv4⟩, nI_clamp i31, hk, nI_clamp (by omega), eV, if_neg (show ¬ voT (nI i) (pO (σ 1) i 1) 3 = true from fun z => hz (of_decide_eq_true z).2)]
              rfl
            · skip
              have hz : pO (σ 1) i 1 - nI i = 0 := Decidable.byContradiction (fun z => h87 (bI_f z))
              refine z_aload_n F dX10_voice_90 0 rfl 91 rfl ?_
              refine z_ldcw F dX10_voice_91 m_1328 94 rfl ?_
              rw [lo6]
              refine z_callVi F dX10_voice_94 m_1002 iX10_error jX10_error rfl zc9 rfl (kX10_error _ (k := 6) (by decide) (by decide)) rfl (by decide) (Nat.le_of_ble_eq_true rfl) 97 rfl (fun r94 s94 c94 => ?_)
              refine z_goto F dX10_voice_97 102 (by decide) ?_
              refine z_ri F dX10_voice_102 ?_
              have eV : v.toNatClampNeg = 3 := by rw [hv3]; rfl
              obtain ⟨rfl, rfl⟩ := c94
              refine finE (σ := trM σ (parB kd (nI i) (pO (σ 1) i 1))) ?_ trM_MO2
              unfold aVoice
              rw [if_pos ⟨h5, hv4⟩, nI_clamp i31, hk, nI_clamp (by omega), eV, if_pos (show voT (nI i) (pO (σ 1) i 1) 3 = true from decide_eq_true ⟨rfl, hz⟩)]
              rfl
          · skip
            have hv2 : v = 2 := h63
            refine z_aload_n F dX10_voice_66 0 rfl 67 rfl ?_
            refine z_iload_n F dX10_voice_67 1 rfl 68 rfl ?_
            refine z_iload_n F dX10_voice_68 3 rfl 69 rfl ?_
            refine z_callVp F dX10_voice_69 m_1312 iX10_looksBy jX10_looksBy rfl zc9 rfl (kX10_looksBy _ (ρ := (z_u2 σ 0 19 0)) (L := []) rfl (by simp) (t := i) (by omega) hk6 (by rw [u2_o (by decide)]; exact hk) (m := pO (σ 1) i 1) (by rw [u2_o (by decide)]) _) rfl (by decide) (Nat.le_of_ble_eq_true rfl) 72 rfl ?_
            refine z_goto F dX10_voice_72 81 (by decide) ?_
            refine z_istore F dX10_voice_81 [(0, _), (1, _), (2, _), (3, _), (4, _)] rfl (by decide) 83 rfl ?_
            refine z_aload_n F dX10_voice_83 0 rfl 84 rfl ?_
            refine z_getI F zc9 dX10_voice_84 rfl 19 (by decide) (by decide) (.inl m_949) rfl 87 rfl ?_
            rw [trM_019, u2_same]
            refine z_if_eq F dX10_voice_87 100 (by decide) 90 rfl (fun h87 => ?_) (fun h87 => ?_)
            · skip
              refine z_iload F dX10_voice_100 4 rfl 102 rfl ?_
              refine z_ri F dX10_voice_102 ?_
              have eV : v.toNatClampNeg = 2 := by rw [hv2]; rfl
              refine finM (m := trM σ (looB kd)) ?_ trM_MO
              unfold aVoice
              rw [if_pos ⟨h5, hv4⟩, nI_clamp i31, hk, nI_clamp (by omega), eV, if_neg (show ¬ voT (nI i) (pO (σ 1) i 1) 2 = true from fun z => absurd (of_decide_eq_true z).1 (by decide))]
              rfl
            · skip
              exact absurd rfl h87
        · skip
          have hv1 : v = 1 := h49
          refine z_aload_n F dX10_voice_52 0 rfl 53 rfl ?_
          refine z_iload_n F dX10_voice_53 1 rfl 54 rfl ?_
          refine z_iload_n F dX10_voice_54 3 rfl 55 rfl ?_
          refine z_callVp F dX10_voice_55 m_1300 iX10_lifts jX10_lifts rfl zc9 rfl (kX10_lifts _ (ρ := (z_u2 σ 0 19 0)) (L := []) rfl (by simp) (t := i) (by omega) hk6 (by rw [u2_o (by decide)]; exact hk) (m := pO (σ 1) i 1) (by rw [u2_o (by decide)]) _) rfl (by decide) (Nat.le_of_ble_eq_true rfl) 58 rfl ?_
          refine z_goto F dX10_voice_58 81 (by decide) ?_
          refine z_istore F dX10_voice_81 [(0, _), (1, _), (2, _), (3, _), (4, _)] rfl (by decide) 83 rfl ?_
          refine z_aload_n F dX10_voice_83 0 rfl 84 rfl ?_
          refine z_getI F zc9 dX10_voice_84 rfl 19 (by decide) (by decide) (.inl m_949) rfl 87 rfl ?_
          rw [trM_019, u2_same]
          refine z_if_eq F dX10_voice_87 100 (by decide) 90 rfl (fun h87 => ?_) (fun h87 => ?_)
          · skip
            refine z_iload F dX10_voice_100 4 rfl 102 rfl ?_
            refine z_ri F dX10_voice_102 ?_
            have eV : v.toNatClampNeg = 1 := by rw [hv1]; rfl
            refine finM (m := trM σ (lifB kd)) ?_ trM_MO
            unfold aVoice
            rw [if_pos ⟨h5, hv4⟩, nI_clamp i31, hk, nI_clamp (by omega), eV, if_neg (show ¬ voT (nI i) (pO (σ 1) i 1) 1 = true from fun z => absurd (of_decide_eq_true z).1 (by decide))]
            rfl
          · skip
            exact absurd rfl h87
      · skip
        have hv0 : v = 0 := h35
        refine z_aload_n F dX10_voice_38 0 rfl 39 rfl ?_
        refine z_iload_n F dX10_voice_39 1 rfl 40 rfl ?_
        refine z_iload_n F dX10_voice_40 3 rfl 41 rfl ?_
        refine z_callVp F dX10_voice_41 m_1284 iX10_lowers jX10_lowers rfl zc9 rfl (kX10_lowers _ (ρ := (z_u2 σ 0 19 0)) (L := []) rfl (by simp) (t := i) (by omega) hk6 (by rw [u2_o (by decide)]; exact hk) (m := pO (σ 1) i 1) (by rw [u2_o (by decide)]) _) rfl (by decide) (Nat.le_of_ble_eq_true rfl) 44 rfl ?_
        refine z_goto F dX10_voice_44 81 (by decide) ?_
        refine z_istore F dX10_voice_81 [(0, _), (1, _), (2, _), (3, _), (4, _)] rfl (by decide) 83 rfl ?_
        refine z_aload_n F dX10_voice_83 0 rfl 84 rfl ?_
        refine z_getI F zc9 dX10_voice_84 rfl 19 (by decide) (by decide) (.inl m_949) rfl 87 rfl ?_
        rw [trM_019, u2_same]
        refine z_if_eq F dX10_voice_87 100 (by decide) 90 rfl (fun h87 => ?_) (fun h87 => ?_)
        · skip
          refine z_iload F dX10_voice_100 4 rfl 102 rfl ?_
          refine z_ri F dX10_voice_102 ?_
          have eV : v.toNatClampNeg = 0 := by rw [hv0]; rfl
          refine finM (m := trM σ (lowB kd)) ?_ trM_MO
          unfold aVoice
          rw [if_pos ⟨h5, hv4⟩, nI_clamp i31, hk, nI_clamp (by omega), eV, if_neg (show ¬ voT (nI i) (pO (σ 1) i 1) 0 = true from fun z => absurd (of_decide_eq_true z).1 (by decide))]
          rfl
        · skip
          exact absurd rfl h87
    · skip
      have h14 := bI0.mp h14
      refine z_aload_n F dX10_voice_17 0 rfl 18 rfl ?_
      refine z_ldc F dX10_voice_18 m_1001 20 rfl ?_
      rw [lo1]
      refine z_callVi F dX10_voice_20 m_1002 iX10_error jX10_error rfl zc9 rfl (kX10_error σ (k := 1) (by decide) (by decide)) rfl (by decide) (Nat.le_of_ble_eq_true rfl) 23 rfl (fun r20 s20 c20 => ?_)
      refine z_ri F dX10_voice_23 ?_
      obtain ⟨rfl, rfl⟩ := c20
      exact finM (by
        unfold aVoice
        (repeat' split) <;> first | rfl | contradiction | (exfalso; simp only [Int32.lt_iff_toInt_lt, Int32.le_iff_toInt_le, ← Int32.toInt_inj, Int32.reduceToInt] at *; omega)) MO.rf
