/-! text -/
theorem kX3_lev {l : Launch} {E : z_E} {b : Nat → Int32} {n w : Nat} (hT : Tb b n) (hw : w < 2) {h : Nat} (hh : h ≤ 5) (hU : ∀ (i : Nat) (L : List (Int32 × Int32)) (τ : z_M) (_ : i ≤ n) (_ : L.length ≤ i) (_ : RdI τ b n w i L), z_C l E shC (8 + 8 * (h)) yX3_readsUnit cX3_readsUnit 4 (some FieldType.boolean) [.ref (z_ad E 51), .int (nI (5 - (h)))] τ (z_Pi (RdP τ b n w L (untP b w (h) i)))) : ∀ j, j ≤ 5 → ∀ (i : Nat) (L : List (Int32 × Int32)) (τ : z_M) (_ : i ≤ n) (_ : L.length ≤ i) (_ : RdI τ b n w i L), z_C l E shC (9 + 8 * (h) + (j)) yX3_readsLevel cX3_readsLevel 4 (some FieldType.boolean) [.ref (z_ad E 51), .int (nI (5 - (j))), .int (nI (5 - (h)))] τ (z_Pi (RdP τ b n w L (levP b (untP b w (h)) (j) i))) := by
  intro j
  induction j with
  | zero => intro _; exact kX3_lev0 hT hw hh hU
  | succ j ih => intro hj; exact kX3_levS hT hw hh (by omega) (ih (by omega))
theorem kX3_unit {l : Launch} {E : z_E} {b : Nat → Int32} {n w : Nat} (hT : Tb b n) (hw : w < 2) : ∀ h, h ≤ 5 → ∀ (i : Nat) (L : List (Int32 × Int32)) (τ : z_M) (_ : i ≤ n) (_ : L.length ≤ i) (_ : RdI τ b n w i L), z_C l E shC (8 + 8 * (h)) yX3_readsUnit cX3_readsUnit 4 (some FieldType.boolean) [.ref (z_ad E 51), .int (nI (5 - (h)))] τ (z_Pi (RdP τ b n w L (untP b w (h) i))) := by
  intro h
  induction h with
  | zero => intro _; exact kX3_unit0 hT hw
  | succ h ih =>
    intro hh
    have hU := ih (by omega)
    exact kX3_unitS hT hw (by omega) (kX3_denied hT hw hU) (kX3_closed hT hw (kX3_lev hT hw (by omega) hU 5 (by decide)))
theorem kX3_top {l : Launch} {E : z_E} {b : Nat → Int32} {n w : Nat} (hT : Tb b n) (hw : w < 2) : ∀ (i : Nat) (L : List (Int32 × Int32)) (τ : z_M) (_ : i ≤ n) (_ : L.length ≤ i) (_ : RdI τ b n w i L), z_C l E shC (9 + 8 * (5) + (5)) yX3_readsLevel cX3_readsLevel 4 (some FieldType.boolean) [.ref (z_ad E 51), .int (nI (5 - (5))), .int (nI (5 - (5)))] τ (z_Pi (RdP τ b n w L (levP b (untP b w (5)) (5) i))) := kX3_lev hT hw (by decide) (kX3_unit hT hw 5 (by decide)) 5 (by decide)
def topP (b : Nat → Int32) (u : Nat) : PR := levP b (untP b u 5) 5 0
set_option maxHeartbeats 1000000 in
set_option maxRecDepth 10000 in
theorem kX3_faultFor {l : Launch} {E : z_E} (σ : z_M) {b : Nat → Int32} {n u : Nat} (hT : Tb b n) (hw : u < 2) (h21 : σ 21 1 = nI n ∧ n ≤ 60 ∧ ∀ k, k < n → σ 22 k = b k) : z_C l E shC 55 yX3_faultFor cX3_faultFor 3 (some FieldType.int) [.ref (z_ad E 51), .int (nI u)] σ (z_Pi (fun rv σ' => rv = (if (topP b u).2.2 = true ∧ (topP b u).1 = n then -1 else nI (topP b u).1) ∧ MS [51, 52, 53] σ σ' ∧ ((topP b u).2.2 = true → RdI σ' b n u (topP b u).1 (topP b u).2.1))) := by
  refine z_intro iX3_faultFor (Nat.le_of_ble_eq_true rfl) (fun K F => ?_)
  refine z_aload_n F dX3_faultFor_0 0 rfl 1 rfl ?_
  refine z_iload_n F dX3_faultFor_1 1 rfl 2 rfl ?_
  refine z_if_ne F dX3_faultFor_2 10 (by decide) 5 rfl (fun h2 => ?_) (fun h2 => ?_)
  · skip
    refine z_ldc1 F dX3_faultFor_10 12 rfl ?_
    refine z_putS F zc2 dX3_faultFor_12 rfl 2 (by decide) (by decide) (.inl m_246) rfl rfl z_pS (by decide) 15 rfl ?_
    refine z_aload_n F dX3_faultFor_15 0 rfl 16 rfl ?_
    refine z_iconst F dX3_faultFor_16 0 (by decide) 17 rfl ?_
    refine z_putI F zc2 dX3_faultFor_17 rfl 3 (by decide) (by decide) (.inl m_247) rfl rfl z_pI 20 rfl ?_
    refine z_aload_n F dX3_faultFor_20 0 rfl 21 rfl ?_
    refine z_getR F zc2 dX3_faultFor_21 rfl 1 (by decide) (by decide) (.inl m_244) rfl (by decide) 24 rfl ?_
    refine z_callVu F dX3_faultFor_24 m_516 iX4_clear jX4_clear rfl zc3 rfl (kX4_clear _ (S := shC) (r := 52) (a := 53) (cap := 60) rfl rfl (by decide)) rfl (by decide) (Nat.le_of_ble_eq_true rfl) 27 rfl ?_
    have hu : u = 1 := by
      rcases (show u = 0 ∨ u = 1 by omega) with z | z; (subst z; exact absurd rfl h2); exact z
    have hm0 : MS [51, 52, 53] σ (z_u2 (z_u2 (z_u2 σ 51 2 (nI 1)) 51 3 0) 52 1 0) := ((MS.rf.u2 (by decide)).u2 (by decide)).u2 (by decide)
    have hI : RdI (z_u2 (z_u2 (z_u2 σ 51 2 (nI 1)) 51 3 0) 52 1 0) b n u 0 [] := by
      refine ⟨⟨?_, h21.2.1, ?_⟩, ?_, ?_, ?_, fun k hk => by simp at hk⟩
      · exact h21.1
      · exact h21.2.2
      · rfl
      · rw [hu]; rfl
      · rfl
    refine z_aload_n F dX3_faultFor_27 0 rfl 28 rfl ?_
    refine z_iconst F dX3_faultFor_28 0 (by decide) 29 rfl ?_
    refine z_iconst F dX3_faultFor_29 0 (by decide) 30 rfl ?_
    refine z_callVi F dX3_faultFor_30 m_520 iX3_readsLevel jX3_readsLevel rfl zc2 rfl (kX3_top hT hw 0 [] _ (by omega) (by simp) hI) rfl (by decide) (Nat.le_of_ble_eq_true rfl) 33 rfl (fun r30 s30 c30 => ?_)
    obtain ⟨rfl, m30, p30, f30⟩ := c30
    have p30 : (topP b u).2.2 = true → RdI s30 b n u (topP b u).1 (topP b u).2.1 := p30
    have f30 : ¬ (topP b u).2.2 = true → s30 51 3 = nI (topP b u).1 := f30
    have hg := lev_gd hT (unt_gd hT hw 5) 5 (by decide) 0 (by omega)
    have g2 : (topP b u).1 ≤ n := hg.2.1
    refine z_if_eq F dX3_faultFor_33 54 (by decide) 36 rfl (fun h33 => ?_) (fun h33 => ?_)
    · skip
      have h33 := bI0.mp h33
      refine z_iconst F dX3_faultFor_54 0 (by decide) 55 rfl ?_
      refine z_istore_n F dX3_faultFor_55 [(0, _), (1, _), (2, _)] rfl (by decide) 56 rfl ?_
      refine z_iload_n F dX3_faultFor_56 2 rfl 57 rfl ?_
      refine z_if_eq F dX3_faultFor_57 64 (by decide) 60 rfl (fun h57 => ?_) (fun h57 => ?_)
      · skip
        refine z_aload_n F dX3_faultFor_64 0 rfl 65 rfl ?_
        refine z_getI F zc2 dX3_faultFor_65 rfl 3 (by decide) (by decide) (.inl m_247) rfl 68 rfl ?_
        refine z_ri F dX3_faultFor_68 ?_
        rw [f30 h33, if_neg (fun z => h33 z.1)]
        exact ⟨rfl, hm0.tr m30, p30⟩
      · skip
        exact absurd rfl h57
    · skip
      have h33 := bI1.mp h33
      refine z_aload_n F dX3_faultFor_36 0 rfl 37 rfl ?_
      refine z_getI F zc2 dX3_faultFor_37 rfl 3 (by decide) (by decide) (.inl m_247) rfl 40 rfl ?_
      refine z_aload_n F dX3_faultFor_40 0 rfl 41 rfl ?_
      refine z_getR F zc2 dX3_faultFor_41 rfl 0 (by decide) (by decide) (.inl m_243) rfl (by decide) 44 rfl ?_
      refine z_callVp F dX3_faultFor_44 m_627 iX4_size jX4_size rfl zc3 rfl (kX4_size s30 (S := shC) (r := 21) (a := 22) (cap := 60) rfl rfl (by decide)) rfl (by decide) (Nat.le_of_ble_eq_true rfl) 47 rfl ?_
      rw [(p30 h33).2.1, (p30 h33).1.1]
      refine z_icmp_ne F dX3_faultFor_47 54 (by decide) 50 rfl (fun h47 => ?_) (fun h47 => ?_)
      · skip
        refine z_iconst F dX3_faultFor_54 0 (by decide) 55 rfl ?_
        refine z_istore_n F dX3_faultFor_55 [(0, _), (1, _), (2, _)] rfl (by decide) 56 rfl ?_
        refine z_iload_n F dX3_faultFor_56 2 rfl 57 rfl ?_
        refine z_if_eq F dX3_faultFor_57 64 (by decide) 60 rfl (fun h57 => ?_) (fun h57 => ?_)
        · skip
          refine z_aload_n F dX3_faultFor_64 0 rfl 65 rfl ?_
          refine z_getI F zc2 dX3_faultFor_65 rfl 3 (by decide) (by decide) (.inl m_247) rfl 68 rfl ?_
          refine z_ri F dX3_faultFor_68 ?_
          rw [(p30 h33).2.1]
          rw [if_neg (fun z => h47 (by rw [z.2]))]
          exact ⟨rfl, hm0.tr m30, p30⟩
        · skip
          exact absurd rfl h57
      · skip
        refine z_iconst F dX3_faultFor_50 1 (by decide) 51 rfl ?_
        refine z_goto F dX3_faultFor_51 55 (by decide) ?_
        refine z_istore_n F dX3_faultFor_55 [(0, _), (1, _), (2, _)] rfl (by decide) 56 rfl ?_
        refine z_iload_n F dX3_faultFor_56 2 rfl 57 rfl ?_
        refine z_if_eq F dX3_faultFor_57 64 (by decide) 60 rfl (fun h57 => ?_) (fun h57 => ?_)
        · skip
          exact absurd h57 (by decide)
        · skip
          refine z_iconst F dX3_faultFor_60 (-1) (by decide) 61 rfl ?_
          refine z_goto F dX3_faultFor_61 68 (by decide) ?_
          refine z_ri F dX3_faultFor_68 ?_
          have e : (topP b u).2.2 = true ∧ (topP b u).1 = n := ⟨h33, eq_nI h47 (by have := h21.2.1; omega) (by have := h21.2.1; omega)⟩
          rw [if_pos e]
          exact ⟨rfl, hm0.tr m30, p30⟩
  · skip
    refine z_ldc0 F dX3_faultFor_5 7 rfl ?_
    refine z_goto F dX3_faultFor_7 12 (by decide) ?_
    refine z_putS F zc2 dX3_faultFor_12 rfl 2 (by decide) (by decide) (.inl m_246) rfl rfl z_pS (by decide) 15 rfl ?_
    refine z_aload_n F dX3_faultFor_15 0 rfl 16 rfl ?_
    refine z_iconst F dX3_faultFor_16 0 (by decide) 17 rfl ?_
    refine z_putI F zc2 dX3_faultFor_17 rfl 3 (by decide) (by decide) (.inl m_247) rfl rfl z_pI 20 rfl ?_
    refine z_aload_n F dX3_faultFor_20 0 rfl 21 rfl ?_
    refine z_getR F zc2 dX3_faultFor_21 rfl 1 (by decide) (by decide) (.inl m_244) rfl (by decide) 24 rfl ?_
    refine z_callVu F dX3_faultFor_24 m_516 iX4_clear jX4_clear rfl zc3 rfl (kX4_clear _ (S := shC) (r := 52) (a := 53) (cap := 60) rfl rfl (by decide)) rfl (by decide) (Nat.le_of_ble_eq_true rfl) 27 rfl ?_
    have hu : u = 0 := by
      exact eq_nI (b := 0) h2 (by omega) (by decide)
    have hm0 : MS [51, 52, 53] σ (z_u2 (z_u2 (z_u2 σ 51 2 (nI 0)) 51 3 0) 52 1 0) := ((MS.rf.u2 (by decide)).u2 (by decide)).u2 (by decide)
    have hI : RdI (z_u2 (z_u2 (z_u2 σ 51 2 (nI 0)) 51 3 0) 52 1 0) b n u 0 [] := by
      refine ⟨⟨?_, h21.2.1, ?_⟩, ?_, ?_, ?_, fun k hk => by simp at hk⟩
      · exact h21.1
      · exact h21.2.2
      · rfl
      · rw [hu]; rfl
      · rfl
    refine z_aload_n F dX3_faultFor_27 0 rfl 28 rfl ?_
    refine z_iconst F dX3_faultFor_28 0 (by decide) 29 rfl ?_
    refine z_iconst F dX3_faultFor_29 0 (by decide) 30 rfl ?_
    refine z_callVi F dX3_faultFor_30 m_520 iX3_readsLevel jX3_readsLevel rfl zc2 rfl (kX3_top hT hw 0 [] _ (by omega) (by simp) hI) rfl (by decide) (Nat.le_of_ble_eq_true rfl) 33 rfl (fun r30 s30 c30 => ?_)
    obtain ⟨rfl, m30, p30, f30⟩ := c30
    have p30 : (topP b u).2.2 = true → RdI s30 b n u (topP b u).1 (topP b u).2.1 := p30
    have f30 : ¬ (topP b u).2.2 = true → s30 51 3 = nI (topP b u).1 := f30
    have hg := lev_gd hT (unt_gd hT hw 5) 5 (by decide) 0 (by omega)
    have g2 : (topP b u).1 ≤ n := hg.2.1
    refine z_if_eq F dX3_faultFor_33 54 (by decide) 36 rfl (fun h33 => ?_) (fun h33 => ?_)
    · skip
      have h33 := bI0.mp h33
      refine z_iconst F dX3_faultFor_54 0 (by decide) 55 rfl ?_
      refine z_istore_n F dX3_faultFor_55 [(0, _), (1, _), (2, _)] rfl (by decide) 56 rfl ?_
      refine z_iload_n F dX3_faultFor_56 2 rfl 57 rfl ?_
      refine z_if_eq F dX3_faultFor_57 64 (by decide) 60 rfl (fun h57 => ?_) (fun h57 => ?_)
      · skip
        refine z_aload_n F dX3_faultFor_64 0 rfl 65 rfl ?_
        refine z_getI F zc2 dX3_faultFor_65 rfl 3 (by decide) (by decide) (.inl m_247) rfl 68 rfl ?_
        refine z_ri F dX3_faultFor_68 ?_
        rw [f30 h33, if_neg (fun z => h33 z.1)]
        exact ⟨rfl, hm0.tr m30, p30⟩
      · skip
        exact absurd rfl h57
    · skip
      have h33 := bI1.mp h33
      refine z_aload_n F dX3_faultFor_36 0 rfl 37 rfl ?_
      refine z_getI F zc2 dX3_faultFor_37 rfl 3 (by decide) (by decide) (.inl m_247) rfl 40 rfl ?_
      refine z_aload_n F dX3_faultFor_40 0 rfl 41 rfl ?_
      refine z_getR F zc2 dX3_faultFor_41 rfl 0 (by decide) (by decide) (.inl m_243) rfl (by decide) 44 rfl ?_
      refine z_callVp F dX3_faultFor_44 m_627 iX4_size jX4_size rfl zc3 rfl (kX4_size s30 (S := shC) (r := 21) (a := 22) (cap := 60) rfl rfl (by decide)) rfl (by decide) (Nat.le_of_ble_eq_true rfl) 47 rfl ?_
      rw [(p30 h33).2.1, (p30 h33).1.1]
      refine z_icmp_ne F dX3_faultFor_47 54 (by decide) 50 rfl (fun h47 => ?_) (fun h47 => ?_)
      · skip
        refine z_iconst F dX3_faultFor_54 0 (by decide) 55 rfl ?_
        refine z_istore_n F dX3_faultFor_55 [(0, _), (1, _), (2, _)] rfl (by decide) 56 rfl ?_
        refine z_iload_n F dX3_faultFor_56 2 rfl 57 rfl ?_
        refine z_if_eq F dX3_faultFor_57 64 (by decide) 60 rfl (fun h57 => ?_) (fun h57 => ?_)
        · skip
          refine z_aload_n F dX3_faultFor_64 0 rfl 65 rfl ?_
          refine z_getI F zc2 dX3_faultFor_65 rfl 3 (by decide) (by decide) (.inl m_247) rfl 68 rfl ?_
          refine z_ri F dX3_faultFor_68 ?_
          rw [(p30 h33).2.1]
          rw [if_neg (fun z => h47 (by rw [z.2]))]
          exact ⟨rfl, hm0.tr m30, p30⟩
        · skip
          exact absurd rfl h57
      · skip
        refine z_iconst F dX3_faultFor_50 1 (by decide) 51 rfl ?_
        refine z_goto F dX3_faultFor_51 55 (by decide) ?_
        refine z_istore_n F dX3_faultFor_55 [(0, _), (1, _), (2, _)] rfl (by decide) 56 rfl ?_
        refine z_iload_n F dX3_faultFor_56 2 rfl 57 rfl ?_
        refine z_if_eq F dX3_faultFor_57 64 (by decide) 60 rfl (fun h57 => ?_) (fun h57 => ?_)
        · skip
          exact absurd h57 (by decide)
        · skip
          refine z_iconst F dX3_faultFor_60 (-1) (by decide) 61 rfl ?_
          refine z_goto F dX3_faultFor_61 68 (by decide) ?_
          refine z_ri F dX3_faultFor_68 ?_
          have e : (topP b u).2.2 = true ∧ (topP b u).1 = n := ⟨h33, eq_nI h47 (by have := h21.2.1; omega) (by have := h21.2.1; omega)⟩
          rw [if_pos e]
          exact ⟨rfl, hm0.tr m30, p30⟩
