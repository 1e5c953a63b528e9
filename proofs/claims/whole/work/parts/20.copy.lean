theorem cp0 {f g : Nat → Int32} {n k : Nat} (h : k < n) : va_cpy f g 0 0 n k = f k := by simp [pk_cpy_in, h]
set_option maxHeartbeats 2000000 in
set_option maxRecDepth 10000 in
theorem kX8_copyA {l : Launch} {E : z_E} (σ : z_M) {r : Rw} (hW : WorR σ 25 r) (hV : VW r) : z_C l E shC 3 yX8_copy cX8_copy 3 none [.ref (z_ad E 1), .ref (z_ad E 25)] σ (z_Pv (fun σ' => MS (wobj 1) σ σ' ∧ WorR σ' 1 r)) := by
  refine z_intro iX8_copy (Nat.le_of_ble_eq_true rfl) (fun K F => ?_)
  refine z_aload_n F dX8_copy_0 0 rfl 1 rfl ?_
  refine z_getR F zc7 dX8_copy_1 rfl 0 (by decide) (by decide) (.inl m_199) rfl (by decide) 4 rfl ?_
  refine z_aload_n F dX8_copy_4 1 rfl 5 rfl ?_
  refine z_getR F zc7 dX8_copy_5 rfl 0 (by decide) (by decide) (.inl m_199) rfl (by decide) 8 rfl ?_
  refine z_callVv F dX8_copy_8 m_896 iX1_copy jX1_copy rfl zc1 rfl (kX1_copyA σ) rfl (by decide) (Nat.le_of_ble_eq_true rfl) 11 rfl (fun s8 c8 => ?_)
  refine z_aload_n F dX8_copy_11 0 rfl 12 rfl ?_
  refine z_getR F zc7 dX8_copy_12 rfl 1 (by decide) (by decide) (.inl m_201) rfl (by decide) 15 rfl ?_
  refine z_aload_n F dX8_copy_15 1 rfl 16 rfl ?_
  refine z_getR F zc7 dX8_copy_16 rfl 1 (by decide) (by decide) (.inl m_201) rfl (by decide) 19 rfl ?_
  refine z_callVv F dX8_copy_19 m_901 iX0_copy jX0_copy rfl zc0 rfl (kX0_copyA s8) rfl (by decide) (Nat.le_of_ble_eq_true rfl) 22 rfl (fun s19 c19 => ?_)
  have hX := hV.2.2.2.2.2
  have hs : ∀ o, 25 ≤ o → s19 o = σ o := fun o ho => (c19.1 o (by simp; omega)).trans (c8.1 o (by simp; omega))
  have h8 : ∀ o, o ∉ [8, 9] → s19 o = s8 o := fun o ho => c19.1 o ho
  have hn8 := hV.1.2.1
  have hk1 : KinR s19 1 r := by
    refine ⟨by rw [h8 2 (by decide)]; exact c8.2.1.trans hW.1.1, fun p hp => ?_⟩
    obtain ⟨e1, e2, e3, e4⟩ := c8.2.2.1 p (by omega)
    rw [h8 3 (by decide), h8 4 (by decide), h8 5 (by decide), h8 6 (by decide), e1, e2, e3, e4]
    exact hW.1.2 p hp
  have hk2 : MeaR s19 1 r := fun i j hi hj => by
    rw [h8 7 (by decide), c8.2.2.2 (i * 8 + j) (by omega)]
    exact hW.2.1 i j hi hj
  have hk3 : CrsR s19 8 9 r := by
    have h9 : ∀ o, o ∉ [2, 3, 4, 5, 6, 7] → s8 o = σ o := fun o ho => c8.1 o ho
    obtain ⟨e0, e1, e2, e3⟩ := hW.2.2.2.2.2.1
    refine ⟨?_, ?_, ?_, fun p hp => ?_⟩
    · rw [c19.2.1 0 (by decide), h9 32 (by decide)]; exact e0
    · rw [c19.2.1 1 (by decide), h9 32 (by decide)]; exact e1
    · rw [c19.2.1 2 (by decide), h9 32 (by decide)]; exact e2
    · rw [c19.2.2 p hp, h9 33 (by decide)]; exact e3 p hp
  refine z_aload_n F dX8_copy_22 1 rfl 23 rfl ?_
  refine z_getR F zc7 dX8_copy_23 rfl 2 (by decide) (by decide) (.inl m_203) rfl (by decide) 26 rfl ?_
  refine z_iconst F dX8_copy_26 0 (by decide) 27 rfl ?_
  refine z_aload_n F dX8_copy_27 0 rfl 28 rfl ?_
  refine z_getR F zc7 dX8_copy_28 rfl 2 (by decide) (by decide) (.inl m_203) rfl (by decide) 31 rfl ?_
  refine z_iconst F dX8_copy_31 0 (by decide) 32 rfl ?_
  refine z_bipush F dX8_copy_32 6 (by decide) 34 rfl ?_
  refine z_copyi F dX8_copy_34 m_902 m_639 m_638 m_87 rfl rfl (by decide) (by decide) (by decide) (by decide) (by decide) (by decide) (Nat.le_of_ble_eq_true rfl) 37 rfl ?_
  refine z_aload_n F dX8_copy_37 1 rfl 38 rfl ?_
  refine z_getR F zc7 dX8_copy_38 rfl 3 (by decide) (by decide) (.inl m_205) rfl (by decide) 41 rfl ?_
  refine z_iconst F dX8_copy_41 0 (by decide) 42 rfl ?_
  refine z_aload_n F dX8_copy_42 0 rfl 43 rfl ?_
  refine z_getR F zc7 dX8_copy_43 rfl 3 (by decide) (by decide) (.inl m_205) rfl (by decide) 46 rfl ?_
  refine z_iconst F dX8_copy_46 0 (by decide) 47 rfl ?_
  refine z_bipush F dX8_copy_47 6 (by decide) 49 rfl ?_
  refine z_copyi F dX8_copy_49 m_902 m_639 m_638 m_87 rfl rfl (by decide) (by decide) (by decide) (by decide) (by decide) (by decide) (Nat.le_of_ble_eq_true rfl) 52 rfl ?_
  refine z_iconst F dX8_copy_52 0 (by decide) 53 rfl ?_
  refine z_istore_n F dX8_copy_53 [(0, _), (1, _), (2, _)] rfl (by decide) 54 rfl ?_
  refine z_iload_n F dX8_copy_54 2 rfl 55 rfl ?_
  refine z_iconst F dX8_copy_55 2 (by decide) 56 rfl ?_
  refine z_icmp_ge F dX8_copy_56 86 (by decide) 59 rfl (fun h56 => ?_) (fun h56 => ?_)
  · skip
    exact absurd h56 (by decide)
  · skip
    refine z_aload_n F dX8_copy_59 0 rfl 60 rfl ?_
    refine z_getR F zc7 dX8_copy_60 rfl 4 (by decide) (by decide) (.inl m_207) rfl (by decide) 63 rfl ?_
    refine z_iload_n F dX8_copy_63 2 rfl 64 rfl ?_
    refine z_aaldT F dX8_copy_64 rfl (show vp_in (nI 0) 2 from vp_in_nI (by decide) (by decide)) rfl 65 rfl ?_
    refine z_getR F zc5 dX8_copy_65 rfl 0 (by decide) (by decide) (.inr ⟨_, m_189⟩) rfl (by decide) 68 rfl ?_
    refine z_aload_n F dX8_copy_68 1 rfl 69 rfl ?_
    refine z_getR F zc7 dX8_copy_69 rfl 4 (by decide) (by decide) (.inl m_207) rfl (by decide) 72 rfl ?_
    refine z_iload_n F dX8_copy_72 2 rfl 73 rfl ?_
    refine z_aaldT F dX8_copy_73 rfl (show vp_in (nI 0) 2 from vp_in_nI (by decide) (by decide)) rfl 74 rfl ?_
    refine z_getR F zc5 dX8_copy_74 rfl 0 (by decide) (by decide) (.inr ⟨_, m_189⟩) rfl (by decide) 77 rfl ?_
    refine z_callVu F dX8_copy_77 m_903 iX4_copy jX4_copy rfl zc3 rfl (kX4_copy _ (S := shC) (r := 14) (a := 15) (cap := 60) rfl rfl (by decide) (r2 := 38) (a2 := 39) (cap2 := 60) rfl rfl (by decide) (n := cL r 0) (show s19 38 1 = _ from ((congrFun (hs 38 (by decide)) 1).trans hW.2.2.1.1).trans hV.2.1.1) hV.2.1.2.1 hV.2.1.2.1 (by decide)) rfl (by decide) (Nat.le_of_ble_eq_true rfl) 80 rfl ?_
    refine z_iinc F dX8_copy_80 2 rfl 1 (by decide) [(0, _), (1, _), (2, _)] rfl (by decide) 83 rfl ?_
    rw [show (0 : Int32) + 1 = 1 from rfl]
    refine z_goto F dX8_copy_83 54 (by decide) ?_
    refine z_iload_n F dX8_copy_54 2 rfl 55 rfl ?_
    refine z_iconst F dX8_copy_55 2 (by decide) 56 rfl ?_
    refine z_icmp_ge F dX8_copy_56 86 (by decide) 59 rfl (fun h56 => ?_) (fun h56 => ?_)
    · skip
      exact absurd h56 (by decide)
    · skip
      refine z_aload_n F dX8_copy_59 0 rfl 60 rfl ?_
      refine z_getR F zc7 dX8_copy_60 rfl 4 (by decide) (by decide) (.inl m_207) rfl (by decide) 63 rfl ?_
      refine z_iload_n F dX8_copy_63 2 rfl 64 rfl ?_
      refine z_aaldT F dX8_copy_64 rfl (show vp_in (nI 1) 2 from vp_in_nI (by decide) (by decide)) rfl 65 rfl ?_
      refine z_getR F zc5 dX8_copy_65 rfl 0 (by decide) (by decide) (.inr ⟨_, m_189⟩) rfl (by decide) 68 rfl ?_
      refine z_aload_n F dX8_copy_68 1 rfl 69 rfl ?_
      refine z_getR F zc7 dX8_copy_69 rfl 4 (by decide) (by decide) (.inl m_207) rfl (by decide) 72 rfl ?_
      refine z_iload_n F dX8_copy_72 2 rfl 73 rfl ?_
      refine z_aaldT F dX8_copy_73 rfl (show vp_in (nI 1) 2 from vp_in_nI (by decide) (by decide)) rfl 74 rfl ?_
      refine z_getR F zc5 dX8_copy_74 rfl 0 (by decide) (by decide) (.inr ⟨_, m_189⟩) rfl (by decide) 77 rfl ?_
      refine z_callVu F dX8_copy_77 m_903 iX4_copy jX4_copy rfl zc3 rfl (kX4_copy _ (S := shC) (r := 18) (a := 19) (cap := 60) rfl rfl (by decide) (r2 := 42) (a2 := 43) (cap2 := 60) rfl rfl (by decide) (n := cL r 1) (show s19 42 1 = _ from ((congrFun (hs 42 (by decide)) 1).trans hW.2.2.2.1.1).trans hV.2.2.1.1) hV.2.2.1.2.1 hV.2.2.1.2.1 (by decide)) rfl (by decide) (Nat.le_of_ble_eq_true rfl) 80 rfl ?_
      refine z_iinc F dX8_copy_80 2 rfl 1 (by decide) [(0, _), (1, _), (2, _)] rfl (by decide) 83 rfl ?_
      rw [show (1 : Int32) + 1 = 2 from rfl]
      refine z_goto F dX8_copy_83 54 (by decide) ?_
      refine z_iload_n F dX8_copy_54 2 rfl 55 rfl ?_
      refine z_iconst F dX8_copy_55 2 (by decide) 56 rfl ?_
      refine z_icmp_ge F dX8_copy_56 86 (by decide) 59 rfl (fun h56 => ?_) (fun h56 => ?_)
      · skip
        refine z_aload_n F dX8_copy_86 0 rfl 87 rfl ?_
        refine z_getR F zc7 dX8_copy_87 rfl 5 (by decide) (by decide) (.inl m_210) rfl (by decide) 90 rfl ?_
        refine z_aload_n F dX8_copy_90 1 rfl 91 rfl ?_
        refine z_getR F zc7 dX8_copy_91 rfl 5 (by decide) (by decide) (.inl m_210) rfl (by decide) 94 rfl ?_
        refine z_callVu F dX8_copy_94 m_903 iX4_copy jX4_copy rfl zc3 rfl (kX4_copy _ (S := shC) (r := 21) (a := 22) (cap := 60) rfl rfl (by decide) (r2 := 45) (a2 := 46) (cap2 := 60) rfl rfl (by decide) (n := tN r) (show s19 45 1 = _ from ((congrFun (hs 45 (by decide)) 1).trans hW.2.2.2.2.2.2.1.1).trans hX.1) hX.2.1 hX.2.1 (by decide)) rfl (by decide) (Nat.le_of_ble_eq_true rfl) 97 rfl ?_
        refine z_aload_n F dX8_copy_97 0 rfl 98 rfl ?_
        refine z_getR F zc7 dX8_copy_98 rfl 6 (by decide) (by decide) (.inl m_211) rfl (by decide) 101 rfl ?_
        refine z_aload_n F dX8_copy_101 1 rfl 102 rfl ?_
        refine z_getR F zc7 dX8_copy_102 rfl 6 (by decide) (by decide) (.inl m_211) rfl (by decide) 105 rfl ?_
        refine z_callVu F dX8_copy_105 m_903 iX4_copy jX4_copy rfl zc3 rfl (kX4_copy _ (S := shC) (r := 23) (a := 24) (cap := 24) rfl rfl (by decide) (r2 := 47) (a2 := 48) (cap2 := 24) rfl rfl (by decide) (n := wN r) (show s19 47 1 = _ from ((congrFun (hs 47 (by decide)) 1).trans hW.2.2.2.2.2.2.2.1.1).trans hX.2.2.2.1) hX.2.2.2.2 hX.2.2.2.2 (by decide)) rfl (by decide) (Nat.le_of_ble_eq_true rfl) 108 rfl ?_
        refine z_aload_n F dX8_copy_108 0 rfl 109 rfl ?_
        refine z_aload_n F dX8_copy_109 1 rfl 110 rfl ?_
        refine z_getI F zc7 dX8_copy_110 rfl 7 (by decide) (by decide) (.inl m_213) rfl 113 rfl ?_
        refine z_putI F zc7 dX8_copy_113 rfl 7 (by decide) (by decide) (.inl m_213) rfl rfl z_pI 116 rfl ?_
        refine z_rv F dX8_copy_116 ?_
        refine ⟨((((((((((((c8.1.sub (show ∀ o, o ∈ _ → o ∈ wobj 1 by decide)).tr (c19.1.sub (by decide))).up (by decide)).up (by decide)).u2 (by decide)).up (by decide)).u2 (by decide)).up (by decide)).u2 (by decide)).up (by decide)).u2 (by decide)).up (by decide)).u2 (by decide), hk1, hk2, ⟨?_, fun k hk => ?_⟩, ⟨?_, fun k hk => ?_⟩, fun k hk => ?_, hk3, ⟨?_, fun k hk => ?_⟩, ⟨?_, fun k hk => ?_⟩, ?_⟩
        · exact hV.2.1.1.symm
        · have h1 := hW.2.2.1.2 k hk
          show va_cpy (s19 39) (s19 15) 0 0 (cL r 0) k = _
          rw [cp0 hk, hs 39 (by decide)]; exact h1
        · exact hV.2.2.1.1.symm
        · have h1 := hW.2.2.2.1.2 k hk
          show va_cpy (s19 43) (s19 19) 0 0 (cL r 1) k = _
          rw [cp0 hk, hs 43 (by decide)]; exact h1
        · have h1 := hW.2.2.2.2.1 k hk
          show va_cpy (s19 34) (s19 10) 0 0 6 k = _ ∧ va_cpy (s19 35) (s19 11) 0 0 6 k = _
          rw [cp0 hk, cp0 hk, hs 34 (by decide), hs 35 (by decide)]; exact h1
        · exact hX.1.symm
        · have h1 := hW.2.2.2.2.2.2.1.2 k hk
          show va_cpy (s19 46) (s19 22) 0 0 (tN r) k = _
          rw [cp0 hk, hs 46 (by decide)]; exact h1
        · exact hX.2.2.2.1.symm
        · have h1 := hW.2.2.2.2.2.2.2.1.2 k hk
          show va_cpy (s19 48) (s19 24) 0 0 (wN r) k = _
          rw [cp0 hk, hs 48 (by decide)]; exact h1
        · exact (congrFun (hs 25 (by decide)) 7).trans hW.2.2.2.2.2.2.2.2
      · skip
        exact absurd (by decide) h56
set_option maxHeartbeats 2000000 in
set_option maxRecDepth 10000 in
theorem kX8_copyB {l : Launch} {E : z_E} (σ : z_M) {r : Rw} (hW : WorR σ 1 r) (hV : VW r) : z_C l E shC 3 yX8_copy cX8_copy 3 none [.ref (z_ad E 25), .ref (z_ad E 1)] σ (z_Pv (fun σ' => MS (wobj 25) σ σ' ∧ WorR σ' 25 r)) := by
  refine z_intro iX8_copy (Nat.le_of_ble_eq_true rfl) (fun K F => ?_)
  refine z_aload_n F dX8_copy_0 0 rfl 1 rfl ?_
  refine z_getR F zc7 dX8_copy_1 rfl 0 (by decide) (by decide) (.inl m_199) rfl (by decide) 4 rfl ?_
  refine z_aload_n F dX8_copy_4 1 rfl 5 rfl ?_
  refine z_getR F zc7 dX8_copy_5 rfl 0 (by decide) (by decide) (.inl m_199) rfl (by decide) 8 rfl ?_
  refine z_callVv F dX8_copy_8 m_896 iX1_copy jX1_copy rfl zc1 rfl (kX1_copyB σ) rfl (by decide) (Nat.le_of_ble_eq_true rfl) 11 rfl (fun s8 c8 => ?_)
  refine z_aload_n F dX8_copy_11 0 rfl 12 rfl ?_
  refine z_getR F zc7 dX8_copy_12 rfl 1 (by decide) (by decide) (.inl m_201) rfl (by decide) 15 rfl ?_
  refine z_aload_n F dX8_copy_15 1 rfl 16 rfl ?_
  refine z_getR F zc7 dX8_copy_16 rfl 1 (by decide) (by decide) (.inl m_201) rfl (by decide) 19 rfl ?_
  refine z_callVv F dX8_copy_19 m_901 iX0_copy jX0_copy rfl zc0 rfl (kX0_copyB s8) rfl (by decide) (Nat.le_of_ble_eq_true rfl) 22 rfl (fun s19 c19 => ?_)
  have hX := hV.2.2.2.2.2
  have hs : ∀ o, o ≤ 24 → s19 o = σ o := fun o ho => (c19.1 o (by simp; omega)).trans (c8.1 o (by simp; omega))
  have h8 : ∀ o, o ∉ [32, 33] → s19 o = s8 o := fun o ho => c19.1 o ho
  have hn8 := hV.1.2.1
  have hk1 : KinR s19 25 r := by
    refine ⟨by rw [h8 26 (by decide)]; exact c8.2.1.trans hW.1.1, fun p hp => ?_⟩
    obtain ⟨e1, e2, e3, e4⟩ := c8.2.2.1 p (by omega)
    rw [h8 27 (by decide), h8 28 (by decide), h8 29 (by decide), h8 30 (by decide), e1, e2, e3, e4]
    exact hW.1.2 p hp
  have hk2 : MeaR s19 25 r := fun i j hi hj => by
    rw [h8 31 (by decide), c8.2.2.2 (i * 8 + j) (by omega)]
    exact hW.2.1 i j hi hj
  have hk3 : CrsR s19 32 33 r := by
    have h9 : ∀ o, o ∉ [26, 27, 28, 29, 30, 31] → s8 o = σ o := fun o ho => c8.1 o ho
    obtain ⟨e0, e1, e2, e3⟩ := hW.2.2.2.2.2.1
    refine ⟨?_, ?_, ?_, fun p hp => ?_⟩
    · rw [c19.2.1 0 (by decide), h9 8 (by decide)]; exact e0
    · rw [c19.2.1 1 (by decide), h9 8 (by decide)]; exact e1
    · rw [c19.2.1 2 (by decide), h9 8 (by decide)]; exact e2
    · rw [c19.2.2 p hp, h9 9 (by decide)]; exact e3 p hp
  refine z_aload_n F dX8_copy_22 1 rfl 23 rfl ?_
  refine z_getR F zc7 dX8_copy_23 rfl 2 (by decide) (by decide) (.inl m_203) rfl (by decide) 26 rfl ?_
  refine z_iconst F dX8_copy_26 0 (by decide) 27 rfl ?_
  refine z_aload_n F dX8_copy_27 0 rfl 28 rfl ?_
  refine z_getR F zc7 dX8_copy_28 rfl 2 (by decide) (by decide) (.inl m_203) rfl (by decide) 31 rfl ?_
  refine z_iconst F dX8_copy_31 0 (by decide) 32 rfl ?_
  refine z_bipush F dX8_copy_32 6 (by decide) 34 rfl ?_
  refine z_copyi F dX8_copy_34 m_902 m_639 m_638 m_87 rfl rfl (by decide) (by decide) (by decide) (by decide) (by decide) (by decide) (Nat.le_of_ble_eq_true rfl) 37 rfl ?_
  refine z_aload_n F dX8_copy_37 1 rfl 38 rfl ?_
  refine z_getR F zc7 dX8_copy_38 rfl 3 (by decide) (by decide) (.inl m_205) rfl (by decide) 41 rfl ?_
  refine z_iconst F dX8_copy_41 0 (by decide) 42 rfl ?_
  refine z_aload_n F dX8_copy_42 0 rfl 43 rfl ?_
  refine z_getR F zc7 dX8_copy_43 rfl 3 (by decide) (by decide) (.inl m_205) rfl (by decide) 46 rfl ?_
  refine z_iconst F dX8_copy_46 0 (by decide) 47 rfl ?_
  refine z_bipush F dX8_copy_47 6 (by decide) 49 rfl ?_
  refine z_copyi F dX8_copy_49 m_902 m_639 m_638 m_87 rfl rfl (by decide) (by decide) (by decide) (by decide) (by decide) (by decide) (Nat.le_of_ble_eq_true rfl) 52 rfl ?_
  refine z_iconst F dX8_copy_52 0 (by decide) 53 rfl ?_
  refine z_istore_n F dX8_copy_53 [(0, _), (1, _), (2, _)] rfl (by decide) 54 rfl ?_
  refine z_iload_n F dX8_copy_54 2 rfl 55 rfl ?_
  refine z_iconst F dX8_copy_55 2 (by decide) 56 rfl ?_
  refine z_icmp_ge F dX8_copy_56 86 (by decide) 59 rfl (fun h56 => ?_) (fun h56 => ?_)
  · skip
    exact absurd h56 (by decide)
  · skip
    refine z_aload_n F dX8_copy_59 0 rfl 60 rfl ?_
    refine z_getR F zc7 dX8_copy_60 rfl 4 (by decide) (by decide) (.inl m_207) rfl (by decide) 63 rfl ?_
    refine z_iload_n F dX8_copy_63 2 rfl 64 rfl ?_
    refine z_aaldT F dX8_copy_64 rfl (show vp_in (nI 0) 2 from vp_in_nI (by decide) (by decide)) rfl 65 rfl ?_
    refine z_getR F zc5 dX8_copy_65 rfl 0 (by decide) (by decide) (.inr ⟨_, m_189⟩) rfl (by decide) 68 rfl ?_
    refine z_aload_n F dX8_copy_68 1 rfl 69 rfl ?_
    refine z_getR F zc7 dX8_copy_69 rfl 4 (by decide) (by decide) (.inl m_207) rfl (by decide) 72 rfl ?_
    refine z_iload_n F dX8_copy_72 2 rfl 73 rfl ?_
    refine z_aaldT F dX8_copy_73 rfl (show vp_in (nI 0) 2 from vp_in_nI (by decide) (by decide)) rfl 74 rfl ?_
    refine z_getR F zc5 dX8_copy_74 rfl 0 (by decide) (by decide) (.inr ⟨_, m_189⟩) rfl (by decide) 77 rfl ?_
    refine z_callVu F dX8_copy_77 m_903 iX4_copy jX4_copy rfl zc3 rfl (kX4_copy _ (S := shC) (r := 38) (a := 39) (cap := 60) rfl rfl (by decide) (r2 := 14) (a2 := 15) (cap2 := 60) rfl rfl (by decide) (n := cL r 0) (show s19 14 1 = _ from ((congrFun (hs 14 (by decide)) 1).trans hW.2.2.1.1).trans hV.2.1.1) hV.2.1.2.1 hV.2.1.2.1 (by decide)) rfl (by decide) (Nat.le_of_ble_eq_true rfl) 80 rfl ?_
    refine z_iinc F dX8_copy_80 2 rfl 1 (by decide) [(0, _), (1, _), (2, _)] rfl (by decide) 83 rfl ?_
    rw [show (0 : Int32) + 1 = 1 from rfl]
    refine z_goto F dX8_copy_83 54 (by decide) ?_
    refine z_iload_n F dX8_copy_54 2 rfl 55 rfl ?_
    refine z_iconst F dX8_copy_55 2 (by decide) 56 rfl ?_
    refine z_icmp_ge F dX8_copy_56 86 (by decide) 59 rfl (fun h56 => ?_) (fun h56 => ?_)
    · skip
      exact absurd h56 (by decide)
    · skip
      refine z_aload_n F dX8_copy_59 0 rfl 60 rfl ?_
      refine z_getR F zc7 dX8_copy_60 rfl 4 (by decide) (by decide) (.inl m_207) rfl (by decide) 63 rfl ?_
      refine z_iload_n F dX8_copy_63 2 rfl 64 rfl ?_
      refine z_aaldT F dX8_copy_64 rfl (show vp_in (nI 1) 2 from vp_in_nI (by decide) (by decide)) rfl 65 rfl ?_
      refine z_getR F zc5 dX8_copy_65 rfl 0 (by decide) (by decide) (.inr ⟨_, m_189⟩) rfl (by decide) 68 rfl ?_
      refine z_aload_n F dX8_copy_68 1 rfl 69 rfl ?_
      refine z_getR F zc7 dX8_copy_69 rfl 4 (by decide) (by decide) (.inl m_207) rfl (by decide) 72 rfl ?_
      refine z_iload_n F dX8_copy_72 2 rfl 73 rfl ?_
      refine z_aaldT F dX8_copy_73 rfl (show vp_in (nI 1) 2 from vp_in_nI (by decide) (by decide)) rfl 74 rfl ?_
      refine z_getR F zc5 dX8_copy_74 rfl 0 (by decide) (by decide) (.inr ⟨_, m_189⟩) rfl (by decide) 77 rfl ?_
      refine z_callVu F dX8_copy_77 m_903 iX4_copy jX4_copy rfl zc3 rfl (kX4_copy _ (S := shC) (r := 42) (a := 43) (cap := 60) rfl rfl (by decide) (r2 := 18) (a2 := 19) (cap2 := 60) rfl rfl (by decide) (n := cL r 1) (show s19 18 1 = _ from ((congrFun (hs 18 (by decide)) 1).trans hW.2.2.2.1.1).trans hV.2.2.1.1) hV.2.2.1.2.1 hV.2.2.1.2.1 (by decide)) rfl (by decide) (Nat.le_of_ble_eq_true rfl) 80 rfl ?_
      refine z_iinc F dX8_copy_80 2 rfl 1 (by decide) [(0, _), (1, _), (2, _)] rfl (by decide) 83 rfl ?_
      rw [show (1 : Int32) + 1 = 2 from rfl]
      refine z_goto F dX8_copy_83 54 (by decide) ?_
      refine z_iload_n F dX8_copy_54 2 rfl 55 rfl ?_
      refine z_iconst F dX8_copy_55 2 (by decide) 56 rfl ?_
      refine z_icmp_ge F dX8_copy_56 86 (by decide) 59 rfl (fun h56 => ?_) (fun h56 => ?_)
      · skip
        refine z_aload_n F dX8_copy_86 0 rfl 87 rfl ?_
        refine z_getR F zc7 dX8_copy_87 rfl 5 (by decide) (by decide) (.inl m_210) rfl (by decide) 90 rfl ?_
        refine z_aload_n F dX8_copy_90 1 rfl 91 rfl ?_
        refine z_getR F zc7 dX8_copy_91 rfl 5 (by decide) (by decide) (.inl m_210) rfl (by decide) 94 rfl ?_
        refine z_callVu F dX8_copy_94 m_903 iX4_copy jX4_copy rfl zc3 rfl (kX4_copy _ (S := shC) (r := 45) (a := 46) (cap := 60) rfl rfl (by decide) (r2 := 21) (a2 := 22) (cap2 := 60) rfl rfl (by decide) (n := tN r) (show s19 21 1 = _ from ((congrFun (hs 21 (by decide)) 1).trans hW.2.2.2.2.2.2.1.1).trans hX.1) hX.2.1 hX.2.1 (by decide)) rfl (by decide) (Nat.le_of_ble_eq_true rfl) 97 rfl ?_
        refine z_aload_n F dX8_copy_97 0 rfl 98 rfl ?_
        refine z_getR F zc7 dX8_copy_98 rfl 6 (by decide) (by decide) (.inl m_211) rfl (by decide) 101 rfl ?_
        refine z_aload_n F dX8_copy_101 1 rfl 102 rfl ?_
        refine z_getR F zc7 dX8_copy_102 rfl 6 (by decide) (by decide) (.inl m_211) rfl (by decide) 105 rfl ?_
        refine z_callVu F dX8_copy_105 m_903 iX4_copy jX4_copy rfl zc3 rfl (kX4_copy _ (S := shC) (r := 47) (a := 48) (cap := 24) rfl rfl (by decide) (r2 := 23) (a2 := 24) (cap2 := 24) rfl rfl (by decide) (n := wN r) (show s19 23 1 = _ from ((congrFun (hs 23 (by decide)) 1).trans hW.2.2.2.2.2.2.2.1.1).trans hX.2.2.2.1) hX.2.2.2.2 hX.2.2.2.2 (by decide)) rfl (by decide) (Nat.le_of_ble_eq_true rfl) 108 rfl ?_
        refine z_aload_n F dX8_copy_108 0 rfl 109 rfl ?_
        refine z_aload_n F dX8_copy_109 1 rfl 110 rfl ?_
        refine z_getI F zc7 dX8_copy_110 rfl 7 (by decide) (by decide) (.inl m_213) rfl 113 rfl ?_
        refine z_putI F zc7 dX8_copy_113 rfl 7 (by decide) (by decide) (.inl m_213) rfl rfl z_pI 116 rfl ?_
        refine z_rv F dX8_copy_116 ?_
        refine ⟨((((((((((((c8.1.sub (show ∀ o, o ∈ _ → o ∈ wobj 25 by decide)).tr (c19.1.sub (by decide))).up (by decide)).up (by decide)).u2 (by decide)).up (by decide)).u2 (by decide)).up (by decide)).u2 (by decide)).up (by decide)).u2 (by decide)).up (by decide)).u2 (by decide), hk1, hk2, ⟨?_, fun k hk => ?_⟩, ⟨?_, fun k hk => ?_⟩, fun k hk => ?_, hk3, ⟨?_, fun k hk => ?_⟩, ⟨?_, fun k hk => ?_⟩, ?_⟩
        · exact hV.2.1.1.symm
        · have h1 := hW.2.2.1.2 k hk
          show va_cpy (s19 15) (s19 39) 0 0 (cL r 0) k = _
          rw [cp0 hk, hs 15 (by decide)]; exact h1
        · exact hV.2.2.1.1.symm
        · have h1 := hW.2.2.2.1.2 k hk
          show va_cpy (s19 19) (s19 43) 0 0 (cL r 1) k = _
          rw [cp0 hk, hs 19 (by decide)]; exact h1
        · have h1 := hW.2.2.2.2.1 k hk
          show va_cpy (s19 10) (s19 34) 0 0 6 k = _ ∧ va_cpy (s19 11) (s19 35) 0 0 6 k = _
          rw [cp0 hk, cp0 hk, hs 10 (by decide), hs 11 (by decide)]; exact h1
        · exact hX.1.symm
        · have h1 := hW.2.2.2.2.2.2.1.2 k hk
          show va_cpy (s19 22) (s19 46) 0 0 (tN r) k = _
          rw [cp0 hk, hs 22 (by decide)]; exact h1
        · exact hX.2.2.2.1.symm
        · have h1 := hW.2.2.2.2.2.2.2.1.2 k hk
          show va_cpy (s19 24) (s19 48) 0 0 (wN r) k = _
          rw [cp0 hk, hs 24 (by decide)]; exact h1
        · exact (congrFun (hs 1 (by decide)) 7).trans hW.2.2.2.2.2.2.2.2
      · skip
        exact absurd (by decide) h56
theorem fin {a : Op} {r : Int32} {σ m : z_M} (e : a = (r, m)) (h : Rel σ m) : r = a.1 ∧ Rel σ a.2 := by rw [e]; exact ⟨rfl, h⟩
set_option maxHeartbeats 400000 in
set_option maxRecDepth 10000 in
theorem kX9_fail {l : Launch} {E : z_E} (σ : z_M) {k : Nat} (h1 : 1 ≤ k) (h6 : k ≤ 6) : z_C l E shC 0 yX9_fail cX9_fail 2 (some FieldType.int) [.ref (z_ad E 0), .int (nI k)] σ (z_Pi (fun r σ' => r = LO k ∧ σ' = z_u2 σ 70 k (σ 70 k + 1))) := by
  refine z_intro iX9_fail (Nat.le_of_ble_eq_true rfl) (fun K F => ?_)
  refine z_aload_n F dX9_fail_0 0 rfl 1 rfl ?_
  refine z_getR F zc8 dX9_fail_1 rfl 6 (by decide) (by decide) (.inl m_308) rfl (by decide) 4 rfl ?_
  refine z_iload_n F dX9_fail_4 1 rfl 5 rfl ?_
  refine z_dup2 F dX9_fail_5 rfl rfl 6 rfl ?_
  refine z_iald F dX9_fail_6 rfl (vp_in_nI (by omega) (by decide)) 7 rfl ?_
  rw [nI_clamp (by omega)]
  refine z_iconst F dX9_fail_7 1 (by decide) 8 rfl ?_
  refine z_iadd F dX9_fail_8 9 rfl ?_
  refine z_iast F dX9_fail_9 rfl (vp_in_nI (by omega) (by decide)) 10 rfl ?_
  rw [nI_clamp (by omega)]
  refine z_ldcw F dX9_fail_10 m_338 13 rfl ?_
  refine z_iload_n F dX9_fail_13 1 rfl 14 rfl ?_
  refine z_isub F dX9_fail_14 15 rfl ?_
  refine z_ri F dX9_fail_15 ?_
  exact ⟨rfl, rfl⟩
