/-! the reference: besides, steps -/
def besN (r : Rw) (s : Nat) : Nat := setOf (fun b => (List.range (nP r)).any (fun a => s.testBit a && a != b && adj r a b)) (nP r)
set_option maxHeartbeats 400000 in
set_option maxRecDepth 10000 in
theorem kX10_copyAll {l : Launch} {E : z_E} (σ : z_M) {o o2 : Nat} (h1 : shM[o]? = some (0, 385, [])) (h2 : shM[o2]? = some (0, 385, [])) (hne : o ≠ o2) : z_C l E shM 0 yX10_copyAll cX10_copyAll 3 none [.ref (z_ad E o), .ref (z_ad E o2)] σ (z_Pu (z_up σ o2 (σ o))) := by
  refine z_intro iX10_copyAll (Nat.le_of_ble_eq_true rfl) (fun K F => ?_)
  have loop2 : ∀ (f : Nat) (j : Nat) (τ : z_M) (_ : 385 < j + f) (_ : j ≤ 385) (_ : ∀ q, q ≠ o2 → τ q = σ q) (_ : ∀ k, k < j → τ o2 k = σ o k), z_X l K E shM 0 3 (z_Pu (z_up σ o2 (σ o))) 2 [(0, .ref (z_ad E o)), (1, .ref (z_ad E o2)), (2, .int (nI j))] [] τ := by
    intro f
    induction f with
    | zero =>
      intro j τ hf hj hs hd
      omega
    | succ f ih =>
      intro j τ hf hj hs hd
      refine z_iload_n F dX10_copyAll_2 2 rfl 3 rfl ?_
      refine z_sipush F dX10_copyAll_3 385 (by decide) 6 rfl ?_
      refine z_icmp_ge F dX10_copyAll_6 21 (by decide) 9 rfl (fun h6 => ?_) (fun h6 => ?_)
      · skip
        have hj2 : j = 385 := by have := le_nI (a := 385) h6 (by decide) (by omega); omega
        subst hj2
        refine z_cut h2 (σ o) (fun k hk => (hd k hk).symm) ?_
        refine z_ru F dX10_copyAll_21 ?_
        funext q
        unfold z_up
        by_cases z : q = o2
        · rw [if_pos z, if_pos z]
        · rw [if_neg z, if_neg z]; exact hs q z
      · skip
        have hj2 : j < 385 := nle_nI h6 (by omega) (by omega)
        refine z_aload_n F dX10_copyAll_9 1 rfl 10 rfl ?_
        refine z_iload_n F dX10_copyAll_10 2 rfl 11 rfl ?_
        refine z_aload_n F dX10_copyAll_11 0 rfl 12 rfl ?_
        refine z_iload_n F dX10_copyAll_12 2 rfl 13 rfl ?_
        refine z_iald F dX10_copyAll_13 h1 (vp_in_nI hj2 (by decide)) 14 rfl ?_
        refine z_iast F dX10_copyAll_14 h2 (vp_in_nI hj2 (by decide)) 15 rfl ?_
        rw [nI_clamp (show j < 2 ^ 31 by omega)]
        refine z_iinc F dX10_copyAll_15 2 rfl 1 (by decide) [(0, _), (1, _), (2, _)] rfl (by decide) 18 rfl ?_
        refine z_goto F dX10_copyAll_18 2 (by decide) ?_
        rw [nI_1]
        refine ih (j + 1) _ (by omega) (by omega) (fun q hq => by rw [u2_o hq]; exact hs q hq) (fun k hk => ?_)
        rw [u2_at, hs o hne]
        by_cases z : k = j
        · rw [if_pos ⟨rfl, z⟩, z]
        · rw [if_neg (fun y => z y.2)]; exact hd k (by omega)
  refine z_iconst F dX10_copyAll_0 0 (by decide) 1 rfl ?_
  refine z_istore_n F dX10_copyAll_1 [(0, _), (1, _), (2, _)] rfl (by decide) 2 rfl ?_
  exact loop2 386 0 σ (by omega) (by omega) (fun q hq => rfl) (fun k hk => by omega)
set_option maxHeartbeats 400000 in
set_option maxRecDepth 10000 in
theorem kX10_thinks {l : Launch} {E : z_E} (σ : z_M)  : z_C l E shM 1 yX10_thinks cX10_thinks 1 none [.ref (z_ad E 0)] σ (z_Pu (z_up σ 3 (σ 1))) := by
  refine z_intro iX10_thinks (Nat.le_of_ble_eq_true rfl) (fun K F => ?_)
  refine z_aload_n F dX10_thinks_0 0 rfl 1 rfl ?_
  refine z_getR F zc9 dX10_thinks_1 rfl 0 (by decide) (by decide) (.inl m_930) rfl (by decide) 4 rfl ?_
  refine z_aload_n F dX10_thinks_4 0 rfl 5 rfl ?_
  refine z_getR F zc9 dX10_thinks_5 rfl 2 (by decide) (by decide) (.inl m_932) rfl (by decide) 8 rfl ?_
  refine z_callSu F dX10_thinks_8 m_1226 iX10_copyAll m_1227 rfl (kX10_copyAll σ (o := 1) (o2 := 3) rfl rfl (by decide)) rfl (by decide) (Nat.le_of_ble_eq_true rfl) 11 rfl ?_
  refine z_ru F dX10_thinks_11 ?_
  rfl
set_option maxHeartbeats 400000 in
set_option maxRecDepth 10000 in
theorem kX10_putsBack {l : Launch} {E : z_E} (σ : z_M)  : z_C l E shM 1 yX10_putsBack cX10_putsBack 1 none [.ref (z_ad E 0)] σ (z_Pu (z_up σ 1 (σ 3))) := by
  refine z_intro iX10_putsBack (Nat.le_of_ble_eq_true rfl) (fun K F => ?_)
  refine z_aload_n F dX10_putsBack_0 0 rfl 1 rfl ?_
  refine z_getR F zc9 dX10_putsBack_1 rfl 2 (by decide) (by decide) (.inl m_932) rfl (by decide) 4 rfl ?_
  refine z_aload_n F dX10_putsBack_4 0 rfl 5 rfl ?_
  refine z_getR F zc9 dX10_putsBack_5 rfl 0 (by decide) (by decide) (.inl m_930) rfl (by decide) 8 rfl ?_
  refine z_callSu F dX10_putsBack_8 m_1226 iX10_copyAll m_1227 rfl (kX10_copyAll σ (o := 3) (o2 := 1) rfl rfl (by decide)) rfl (by decide) (Nat.le_of_ble_eq_true rfl) 11 rfl ?_
  refine z_ru F dX10_putsBack_11 ?_
  rfl
