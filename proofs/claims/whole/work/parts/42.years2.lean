/-! the reference: years -/
def MV (Y : Nat) (r : Rw) : Prop := VK r ∧ VC r 0 ∧ VC r 1 ∧ VM r ∧ VT Y r
theorem Rel.mv {σ μ : z_M} (h : Rel σ μ) : MV 9999 (μ 1) := ⟨h.vk, h.2.1.2.1, h.2.1.2.2.1, h.2.1.2.2.2.1, h.vt⟩
theorem MV.goN {Y : Nat} {r : Rw} (h : MV Y r) (hY : Y < 99000) (k : Nat) (hk : k < 1000) : MV (Y + k) (goN k r) :=
  ⟨eqK_VK (eqK_goN h.2.2.2.1 k) h.1, eqK_VC (eqK_goN h.2.2.2.1 k) h.2.1, eqK_VC (eqK_goN h.2.2.2.1 k) h.2.2.1, eqK_VM (eqK_goN h.2.2.2.1 k) h.2.2.2.1, VT_goN h.2.2.2.2 hY h.1 h.2.2.2.1 k hk⟩
theorem MV.n {Y : Nat} {r : Rw} (h : MV Y r) : r 2 = nI (nP r) ∧ nP r ≤ 8 := ⟨h.1.1, h.1.2.1⟩
theorem veil_nn (r : Rw) (a b : Nat) : ¬ veilS r a b < 0 := by
  obtain ⟨w, hw, ew⟩ := held_rng (if 0 < cL r 0 then (evR r (143 + 121 * 0) (fa3 (letS (pO r a 0) (pO r a 1) (nI (dS r a b))) (nI (dS r a b)) (mod8 (r 0))) (cL r 0)).getLastD 0 else letS (pO r a 0) (pO r a 1) (nI (dS r a b)))
  have ev : veilS r a b = nI w := ew
  rw [ev]; exact nI_pos (by omega)
theorem goM1_3 {Y : Nat} {r : Rw} (h : VT Y r) {a b : Nat} : ∃ c, c ≤ 999 ∧ goM1 r a b 3 = nI c := by
  obtain ⟨-, ⟨c, hc, ec⟩, -, -⟩ := h
  unfold goM1
  split
  · obtain ⟨w, hw, ew⟩ := held_rng (if 0 < cL r 0 then (evR r (143 + 121 * 0) (fa3 (letS (pO r b 0) (pO r b 1) (nI (dS r b a))) (nI (dS r b a)) (mod8 (r 0))) (cL r 0)).getLastD 0 else letS (pO r b 0) (pO r b 1) (nI (dS r b a)))
    have ev : veilS r b a = nI w := ew
    rw [upd_at, if_pos rfl]
    unfold wrS
    rw [ev, ec]
    by_cases q : c < w
    · rw [if_pos (nI_lt q (by omega))]; exact ⟨0, by omega, by rw [pk_sub (Nat.le_refl _)]; simp⟩
    · rw [if_neg (nI_nlt (by omega) (by omega))]; exact ⟨c - w, by omega, pk_sub (by omega)⟩
  · exact ⟨c, hc, ec⟩
theorem goM1_4 {r : Rw} {a b : Nat} : goM1 r a b 4 = r 4 := by
  unfold goM1
  split
  · rw [upd_at, if_neg (by decide), pU_lo (by decide)]
  · rfl
theorem goM1_0 {r : Rw} {a b : Nat} : goM1 r a b 0 = r 0 := by
  unfold goM1
  split
  · rw [upd_at, if_neg (by decide), pU_lo (by decide)]
  · rfl
theorem goM1_t {r : Rw} {a b : Nat} (h : ¬ nI a = nI b) (h1 : 0 ≤ nI a ∧ nI a < r 2) (h2 : 0 ≤ nI b ∧ nI b < r 2) (hn : r 2 = nI (nP r) ∧ nP r ≤ 8) (ha : a < 8) (hb : b < 8) : a ≠ b ∧ a < nP r ∧ b < nP r := by
  rw [hn.1] at h1 h2
  exact ⟨fun z => h (by rw [z]), (nI_ltI (by omega) (by omega)).mp h1.2, (nI_ltI (by omega) (by omega)).mp h2.2⟩
theorem goM1_f {r : Rw} {a b : Nat} (h : nI a = nI b ∨ ¬ (0 ≤ nI a ∧ nI a < r 2) ∨ ¬ (0 ≤ nI b ∧ nI b < r 2)) (hn : r 2 = nI (nP r) ∧ nP r ≤ 8) (ha : a < 8) (hb : b < 8) : goM1 r a b = r := by
  unfold goM1
  refine if_neg (fun z => ?_)
  rcases h with h | h | h
  · exact z.1 (eq_nI h (by omega) (by omega))
  · exact h ⟨nI_pos' (by omega), by rw [hn.1]; exact nI_lt z.2.1 (by omega)⟩
  · exact h ⟨nI_pos' (by omega), by rw [hn.1]; exact nI_lt z.2.2 (by omega)⟩
theorem mod6_nI {y : Nat} (h : y < 2 ^ 31) : nI y - nI y / 6 * 6 = nI (y % 6) := by
  rw [show (6 : Int32) = nI 6 from rfl, pk_div h (by decide) (by decide), pk_mul, pk_sub (by omega)]
  congr 1; omega
set_option maxHeartbeats 1000000 in
set_option maxRecDepth 10000 in
theorem kX10_goes {l : Launch} {E : z_E} (σ : z_M) {Y : Nat} (hv : MV Y (σ 1)) (hY : Y < 100000) : z_C l E shM 6 yX10_goes cX10_goes 4 none [.ref (z_ad E 0)] σ (z_Pv (fun σ' => σ' 1 = goS (σ 1) ∧ MS [1, 10, 11] σ σ')) := by
  refine z_intro iX10_goes (Nat.le_of_ble_eq_true rfl) (fun K F => ?_)
  have hN := hv.n
  obtain ⟨y, hy, ey⟩ := hv.2.2.2.2.1
  obtain ⟨a, b, ha, hb, ea, eb⟩ := hv.2.2.2.1.at y
  have e6 : σ 1 0 - σ 1 0 / 6 * 6 = nI (y % 6) := by rw [ey]; exact mod6_nI (by omega)
  have t6 : y % 6 < 6 := Nat.mod_lt _ (by decide)
  have hgo : goS (σ 1) = goM (σ 1) a b := by
    unfold goS
    rw [ey, nI_clamp (show y < 2 ^ 31 by omega), ea, eb, nI_clamp (by omega), nI_clamp (by omega)]
  have hge : ¬ goM1 (σ 1) a b 3 + goM1 (σ 1) a b 4 < 0 := by
    obtain ⟨c, hc, ec⟩ := goM1_3 hv.2.2.2.2 (a := a) (b := b)
    obtain ⟨o, ho, eo⟩ := hv.2.2.2.2.2.2.1
    rw [goM1_4, ec, eo, nI_add]; exact nI_pos (by omega)
  generalize y % 6 = t at *
  have tail : ∀ (τ : z_M) (_ : τ 1 = goM1 (σ 1) a b) (_ : MS [1, 10, 11] σ τ), z_X l K E shM 6 4 (z_Pv (fun σ' => σ' 1 = goS (σ 1) ∧ MS [1, 10, 11] σ σ')) 124 [(0, .ref (z_ad E 0)), (1, .int (nI a)), (2, .int (nI b))] [] τ := by
    intro τ e1 hs
    refine z_aload_n F dX10_goes_124 0 rfl 125 rfl ?_
    refine z_getR F zc9 dX10_goes_125 rfl 0 (by decide) (by decide) (.inl m_930) rfl (by decide) 128 rfl ?_
    refine z_iconst F dX10_goes_128 3 (by decide) 129 rfl ?_
    refine z_aload_n F dX10_goes_129 0 rfl 130 rfl ?_
    refine z_getR F zc9 dX10_goes_130 rfl 0 (by decide) (by decide) (.inl m_930) rfl (by decide) 133 rfl ?_
    refine z_iconst F dX10_goes_133 3 (by decide) 134 rfl ?_
    refine z_iald F dX10_goes_134 rfl (show vp_in (nI 3) 385 from vp_in_nI (by decide) (by decide)) 135 rfl ?_
    rw [tn_3]
    refine z_aload_n F dX10_goes_135 0 rfl 136 rfl ?_
    refine z_getR F zc9 dX10_goes_136 rfl 0 (by decide) (by decide) (.inl m_930) rfl (by decide) 139 rfl ?_
    refine z_iconst F dX10_goes_139 4 (by decide) 140 rfl ?_
    refine z_iald F dX10_goes_140 rfl (show vp_in (nI 4) 385 from vp_in_nI (by decide) (by decide)) 141 rfl ?_
    rw [tn_4]
    refine z_iadd F dX10_goes_141 142 rfl ?_
    refine z_iconst F dX10_goes_142 0 (by decide) 143 rfl ?_
    refine z_sipush F dX10_goes_143 999 (by decide) 146 rfl ?_
    rw [e1]
    refine z_callSp F dX10_goes_146 m_1058 iX10_held m_1059 rfl (kX10_held _ _ _ _) rfl (by decide) (Nat.le_of_ble_eq_true rfl) 149 rfl ?_
    rw [if_neg (show ¬ goM1 (σ 1) a b 3 + goM1 (σ 1) a b 4 < 0 from hge)]
    refine z_iast F dX10_goes_149 rfl (show vp_in (nI 3) 385 from vp_in_nI (by decide) (by decide)) 150 rfl ?_
    rw [tn_3]
    refine z_aload_n F dX10_goes_150 0 rfl 151 rfl ?_
    refine z_getR F zc9 dX10_goes_151 rfl 0 (by decide) (by decide) (.inl m_930) rfl (by decide) 154 rfl ?_
    refine z_iconst F dX10_goes_154 0 (by decide) 155 rfl ?_
    refine z_dup2 F dX10_goes_155 rfl rfl 156 rfl ?_
    refine z_iald F dX10_goes_156 rfl (show vp_in (nI 0) 385 from vp_in_nI (by decide) (by decide)) 157 rfl ?_
    rw [tn_0]
    refine z_iconst F dX10_goes_157 1 (by decide) 158 rfl ?_
    refine z_iadd F dX10_goes_158 159 rfl ?_
    refine z_iast F dX10_goes_159 rfl (show vp_in (nI 0) 385 from vp_in_nI (by decide) (by decide)) 160 rfl ?_
    rw [tn_0]
    refine z_rv F dX10_goes_160 ?_
    refine ⟨?_, (hs.u2 (by decide)).u2 (by decide)⟩
    rw [hgo]
    unfold goM
    simp only [z_u2, up_same]
    rw [e1, upd_at, if_neg (show ¬ (0 : Nat) = 3 by decide), goM1_0]
  refine z_aload_n F dX10_goes_0 0 rfl 1 rfl ?_
  refine z_getR F zc9 dX10_goes_1 rfl 0 (by decide) (by decide) (.inl m_930) rfl (by decide) 4 rfl ?_
  refine z_bipush F dX10_goes_4 7 (by decide) 6 rfl ?_
  refine z_iconst F dX10_goes_6 2 (by decide) 7 rfl ?_
  refine z_aload_n F dX10_goes_7 0 rfl 8 rfl ?_
  refine z_getR F zc9 dX10_goes_8 rfl 0 (by decide) (by decide) (.inl m_930) rfl (by decide) 11 rfl ?_
  refine z_iconst F dX10_goes_11 0 (by decide) 12 rfl ?_
  refine z_iald F dX10_goes_12 rfl (show vp_in (nI 0) 385 from vp_in_nI (by decide) (by decide)) 13 rfl ?_
  rw [tn_0]
  refine z_bipush F dX10_goes_13 6 (by decide) 15 rfl ?_
  refine z_irem F dX10_goes_15 (by decide) 16 rfl ?_
  rw [e6]
  refine z_imul F dX10_goes_16 17 rfl ?_
  refine z_iadd F dX10_goes_17 18 rfl ?_
  rw [ix7]
  refine z_iald F dX10_goes_18 rfl (vp_in_nI (by omega) (by decide)) 19 rfl ?_
  rw [nI_clamp (by omega), ea]
  refine z_istore_n F dX10_goes_19 [(0, _), (1, _)] rfl (by decide) 20 rfl ?_
  refine z_aload_n F dX10_goes_20 0 rfl 21 rfl ?_
  refine z_getR F zc9 dX10_goes_21 rfl 0 (by decide) (by decide) (.inl m_930) rfl (by decide) 24 rfl ?_
  refine z_bipush F dX10_goes_24 7 (by decide) 26 rfl ?_
  refine z_iconst F dX10_goes_26 2 (by decide) 27 rfl ?_
  refine z_aload_n F dX10_goes_27 0 rfl 28 rfl ?_
  refine z_getR F zc9 dX10_goes_28 rfl 0 (by decide) (by decide) (.inl m_930) rfl (by decide) 31 rfl ?_
  refine z_iconst F dX10_goes_31 0 (by decide) 32 rfl ?_
  refine z_iald F dX10_goes_32 rfl (show vp_in (nI 0) 385 from vp_in_nI (by decide) (by decide)) 33 rfl ?_
  rw [tn_0]
  refine z_bipush F dX10_goes_33 6 (by decide) 35 rfl ?_
  refine z_irem F dX10_goes_35 (by decide) 36 rfl ?_
  rw [e6]
  refine z_imul F dX10_goes_36 37 rfl ?_
  refine z_iadd F dX10_goes_37 38 rfl ?_
  refine z_iconst F dX10_goes_38 1 (by decide) 39 rfl ?_
  refine z_iadd F dX10_goes_39 40 rfl ?_
  rw [ix7, nI_1]
  refine z_iald F dX10_goes_40 rfl (vp_in_nI (by omega) (by decide)) 41 rfl ?_
  rw [nI_clamp (by omega), show 7 + 2 * t + 1 = 8 + 2 * t by omega, eb]
  refine z_istore_n F dX10_goes_41 [(0, _), (1, _), (2, _)] rfl (by decide) 42 rfl ?_
  refine z_iload_n F dX10_goes_42 1 rfl 43 rfl ?_
  refine z_iload_n F dX10_goes_43 2 rfl 44 rfl ?_
  refine z_icmp_eq F dX10_goes_44 124 (by decide) 47 rfl (fun h44 => ?_) (fun h44 => ?_)
  · skip
    exact tail σ (goM1_f (Or.inl h44) hN ha hb).symm MS.rf
  · skip
    refine z_aload_n F dX10_goes_47 0 rfl 48 rfl ?_
    refine z_iload_n F dX10_goes_48 1 rfl 49 rfl ?_
    refine z_callVp F dX10_goes_49 m_1016 iX10_isPerson jX10_isPerson rfl zc9 rfl (kX10_isPerson σ hN _) rfl (by decide) (Nat.le_of_ble_eq_true rfl) 52 rfl ?_
    refine z_if_eq F dX10_goes_52 124 (by decide) 55 rfl (fun h52 => ?_) (fun h52 => ?_)
    · skip
      have h52 := bI0.mp h52
      exact tail σ (goM1_f (Or.inr (Or.inl h52)) hN ha hb).symm MS.rf
    · skip
      have h52 := bI1.mp h52
      refine z_aload_n F dX10_goes_55 0 rfl 56 rfl ?_
      refine z_iload_n F dX10_goes_56 2 rfl 57 rfl ?_
      refine z_callVp F dX10_goes_57 m_1016 iX10_isPerson jX10_isPerson rfl zc9 rfl (kX10_isPerson σ hN _) rfl (by decide) (Nat.le_of_ble_eq_true rfl) 60 rfl ?_
      refine z_if_eq F dX10_goes_60 124 (by decide) 63 rfl (fun h60 => ?_) (fun h60 => ?_)
      · skip
        have h60 := bI0.mp h60
        exact tail σ (goM1_f (Or.inr (Or.inr h60)) hN ha hb).symm MS.rf
      · skip
        have h60 := bI1.mp h60
        have hab := goM1_t h44 h52 h60 hN ha hb
        refine z_aload_n F dX10_goes_63 0 rfl 64 rfl ?_
        refine z_iload_n F dX10_goes_64 2 rfl 65 rfl ?_
        refine z_iload_n F dX10_goes_65 1 rfl 66 rfl ?_
        refine z_callVi F dX10_goes_66 m_1104 iX10_veils jX10_veils rfl zc9 rfl (kX10_veils σ hN hv.2.1 hab.2.2 hab.2.1) rfl (by decide) (Nat.le_of_ble_eq_true rfl) 69 rfl (fun r66 s66 c66 => ?_)
        obtain ⟨rfl, m66⟩ := c66
        have R1 : s66 1 = σ 1 := m66 1 (by decide)
        refine z_iconst F dX10_goes_69 0 (by decide) 70 rfl ?_
        refine z_aload_n F dX10_goes_70 0 rfl 71 rfl ?_
        refine z_getR F zc9 dX10_goes_71 rfl 0 (by decide) (by decide) (.inl m_930) rfl (by decide) 74 rfl ?_
        refine z_iconst F dX10_goes_74 3 (by decide) 75 rfl ?_
        refine z_iald F dX10_goes_75 rfl (show vp_in (nI 3) 385 from vp_in_nI (by decide) (by decide)) 76 rfl ?_
        rw [tn_3]
        rw [R1]
        refine z_callSp F dX10_goes_76 m_1058 iX10_held m_1059 rfl (kX10_held _ _ _ _) rfl (by decide) (Nat.le_of_ble_eq_true rfl) 79 rfl ?_
        rw [if_neg (veil_nn (σ 1) b a), show (if σ 1 3 < veilS (σ 1) b a then σ 1 3 else veilS (σ 1) b a) = wrS (σ 1) a b from rfl]
        refine z_istore_n F dX10_goes_79 [(0, _), (1, _), (2, _), (3, _)] rfl (by decide) 80 rfl ?_
        refine z_aload_n F dX10_goes_80 0 rfl 81 rfl ?_
        refine z_iload_n F dX10_goes_81 1 rfl 82 rfl ?_
        refine z_iconst F dX10_goes_82 4 (by decide) 83 rfl ?_
        refine z_iload_n F dX10_goes_83 3 rfl 84 rfl ?_
        refine z_aload_n F dX10_goes_84 0 rfl 85 rfl ?_
        refine z_iload_n F dX10_goes_85 1 rfl 86 rfl ?_
        refine z_callVi F dX10_goes_86 m_1024 iX10_sight jX10_sight rfl zc9 rfl (kX10_sight s66 (by rw [R1]; exact hN) (by rw [R1]; exact hv.2.2.1) (by rw [R1]; exact hab.2.1)) rfl (by decide) (Nat.le_of_ble_eq_true rfl) 89 rfl (fun r86 s86 c86 => ?_)
        obtain ⟨rfl, m86⟩ := c86
        have R2 : s86 1 = σ 1 := (m86 1 (by decide)).trans R1
        rw [R1]
        refine z_icmp_gt F dX10_goes_89 105 (by decide) 92 rfl (fun h89 => ?_) (fun h89 => ?_)
        · skip
          refine z_aload_n F dX10_goes_105 0 rfl 106 rfl ?_
          refine z_iload_n F dX10_goes_106 1 rfl 107 rfl ?_
          refine z_iconst F dX10_goes_107 4 (by decide) 108 rfl ?_
          refine z_callVp F dX10_goes_108 m_1020 iX10_of jX10_of rfl zc9 rfl (kX10_of s86 (p := a) (w := 4) ha (by decide)) rfl (by decide) (Nat.le_of_ble_eq_true rfl) 111 rfl ?_
          rw [R2]
          refine z_callVu F dX10_goes_111 m_1008 iX10_puts jX10_puts rfl zc9 rfl (kX10_puts s86 (p := a) (w := 4) ha (by decide) _) rfl (by decide) (Nat.le_of_ble_eq_true rfl) 114 rfl ?_
          refine z_aload_n F dX10_goes_114 0 rfl 115 rfl ?_
          refine z_getR F zc9 dX10_goes_115 rfl 0 (by decide) (by decide) (.inl m_930) rfl (by decide) 118 rfl ?_
          refine z_iconst F dX10_goes_118 3 (by decide) 119 rfl ?_
          refine z_dup2 F dX10_goes_119 rfl rfl 120 rfl ?_
          refine z_iald F dX10_goes_120 rfl (show vp_in (nI 3) 385 from vp_in_nI (by decide) (by decide)) 121 rfl ?_
          rw [tn_3, up_same, pU_lo (by decide)]
          refine z_iload_n F dX10_goes_121 3 rfl 122 rfl ?_
          refine z_isub F dX10_goes_122 123 rfl ?_
          refine z_iast F dX10_goes_123 rfl (show vp_in (nI 3) 385 from vp_in_nI (by decide) (by decide)) 124 rfl ?_
          refine z_sub [0, 1, 2] rfl (tail _ ?_ ((((m66.sub (by decide)).tr (m86.sub (by decide))).up (by decide)).u2 (by decide)))
          rw [tn_3]
          simp only [z_u2, up_same]
          unfold goM1
          rw [if_pos hab, R2]
          rw [if_neg (fun z => i_nlt.mpr z h89)]
        · skip
          refine z_aload_n F dX10_goes_92 0 rfl 93 rfl ?_
          refine z_iload_n F dX10_goes_93 1 rfl 94 rfl ?_
          refine z_iconst F dX10_goes_94 4 (by decide) 95 rfl ?_
          refine z_callVp F dX10_goes_95 m_1020 iX10_of jX10_of rfl zc9 rfl (kX10_of s86 (p := a) (w := 4) ha (by decide)) rfl (by decide) (Nat.le_of_ble_eq_true rfl) 98 rfl ?_
          rw [R2]
          refine z_iconst F dX10_goes_98 1 (by decide) 99 rfl ?_
          refine z_iload_n F dX10_goes_99 2 rfl 100 rfl ?_
          refine z_ishl F dX10_goes_100 101 rfl ?_
          refine z_ior F dX10_goes_101 102 rfl ?_
          refine z_goto F dX10_goes_102 111 (by decide) ?_
          refine z_callVu F dX10_goes_111 m_1008 iX10_puts jX10_puts rfl zc9 rfl (kX10_puts s86 (p := a) (w := 4) ha (by decide) _) rfl (by decide) (Nat.le_of_ble_eq_true rfl) 114 rfl ?_
          refine z_aload_n F dX10_goes_114 0 rfl 115 rfl ?_
          refine z_getR F zc9 dX10_goes_115 rfl 0 (by decide) (by decide) (.inl m_930) rfl (by decide) 118 rfl ?_
          refine z_iconst F dX10_goes_118 3 (by decide) 119 rfl ?_
          refine z_dup2 F dX10_goes_119 rfl rfl 120 rfl ?_
          refine z_iald F dX10_goes_120 rfl (show vp_in (nI 3) 385 from vp_in_nI (by decide) (by decide)) 121 rfl ?_
          rw [tn_3, up_same, pU_lo (by decide)]
          refine z_iload_n F dX10_goes_121 3 rfl 122 rfl ?_
          refine z_isub F dX10_goes_122 123 rfl ?_
          refine z_iast F dX10_goes_123 rfl (show vp_in (nI 3) 385 from vp_in_nI (by decide) (by decide)) 124 rfl ?_
          refine z_sub [0, 1, 2] rfl (tail _ ?_ ((((m66.sub (by decide)).tr (m86.sub (by decide))).up (by decide)).u2 (by decide)))
          rw [tn_3]
          simp only [z_u2, up_same]
          unfold goM1
          rw [if_pos hab, R2]
          rw [if_pos (i_nlt.mp h89)]
set_option maxHeartbeats 400000 in
set_option maxRecDepth 10000 in
theorem kX10_goesFor {l : Launch} {E : z_E} (σ : z_M) {Y : Nat} (hv : MV Y (σ 1)) (hY : Y < 99000) {N : Nat} (hN : N < 1000) : z_C l E shM 7 yX10_goesFor cX10_goesFor 3 none [.ref (z_ad E 0), .int (nI N)] σ (z_Pv (fun σ' => σ' 1 = goN N (σ 1) ∧ MS [1, 10, 11] σ σ')) := by
  refine z_intro iX10_goesFor (Nat.le_of_ble_eq_true rfl) (fun K F => ?_)
  have loop2 : ∀ (f : Nat) (k : Nat) (τ : z_M) (_ : 999 < k + f) (_ : k ≤ N) (_ : τ 1 = goN k (σ 1)) (_ : MS [1, 10, 11] σ τ), z_X l K E shM 7 3 (z_Pv (fun σ' => σ' 1 = goN N (σ 1) ∧ MS [1, 10, 11] σ σ')) 2 [(0, .ref (z_ad E 0)), (1, .int (nI N)), (2, .int (nI k))] [] τ := by
    intro f
    induction f with
    | zero =>
      intro k τ hf hk e1 hs
      omega
    | succ f ih =>
      intro k τ hf hk e1 hs
      refine z_iload_n F dX10_goesFor_2 2 rfl 3 rfl ?_
      refine z_iload_n F dX10_goesFor_3 1 rfl 4 rfl ?_
      refine z_icmp_ge F dX10_goesFor_4 17 (by decide) 7 rfl (fun h4 => ?_) (fun h4 => ?_)
      · skip
        refine z_rv F dX10_goesFor_17 ?_
        have hke : k = N := by have := le_nI h4 (by omega) (by omega); omega
        subst hke
        exact ⟨e1, hs⟩
      · skip
        have hkN : k < N := nle_nI h4 (by omega) (by omega)
        have hvk := hv.goN hY k (by omega)
        rw [← e1] at hvk
        refine z_aload_n F dX10_goesFor_7 0 rfl 8 rfl ?_
        refine z_callVv F dX10_goesFor_8 m_1189 iX10_goes jX10_goes rfl zc9 rfl (kX10_goes τ hvk (by omega)) rfl (by decide) (Nat.le_of_ble_eq_true rfl) 11 rfl (fun s8 c8 => ?_)
        refine z_iinc F dX10_goesFor_11 2 rfl 1 (by decide) [(0, _), (1, _), (2, _)] rfl (by decide) 14 rfl ?_
        refine z_goto F dX10_goesFor_14 2 (by decide) ?_
        rw [nI_1]
        exact ih (k + 1) s8 (by omega) (by omega) (by rw [c8.1, e1]; rfl) (hs.tr c8.2)
  refine z_iconst F dX10_goesFor_0 0 (by decide) 1 rfl ?_
  refine z_istore_n F dX10_goesFor_1 [(0, _), (1, _), (2, _)] rfl (by decide) 2 rfl ?_
  exact loop2 1000 0 σ (by omega) (by omega) rfl MS.rf
