/-! the reference: move, seenAll, judge, feed -/
theorem up_u2 {σ : z_M} {o x : Nat} {A : Nat → Int32} {v : Int32} : z_u2 (z_up σ o A) o x v = z_up σ o (upd A x v) := by unfold z_u2; rw [up_same, up_up]
theorem st2 {c1 c2 i j n : Int32} {q1 q2 : Nat} (h1 : c1 = nI q1) (g1 : q1 ≤ 24) (h2 : c2 = nI q2) (g2 : q2 ≤ 24) : (0 ≤ n ∧ 0 ≤ i ∧ 0 ≤ j ∧ n ≤ c1 - i ∧ n ≤ c2 - j) ↔ (stR c1 i n ∧ stR c2 j n) :=
  ⟨fun ⟨a, b, c, d, e⟩ => ⟨(st_iff h1 g1 b a).mp d, (st_iff h2 g2 c a).mp e⟩, fun ⟨x, y⟩ => ⟨x.2.1, x.1, y.1, (st_iff h1 g1 x.1 x.2.1).mpr x, (st_iff h2 g2 y.1 y.2.1).mpr y⟩⟩
theorem nm_er {μ : z_M} (hq : ∀ s, s < 4 → ∃ c, c ≤ 24 ∧ μ 6 s = nI c) {s i o j n : Int32} (h : ¬ nmvS μ s i o j n = 0) : ∃ k, 1 ≤ k ∧ k ≤ 6 ∧ nmvS μ s i o j n = LO k ∧ aMove μ s i o j n = er μ k := by
  unfold nmvS at h ⊢
  unfold aMove
  by_cases h1 : (0 ≤ s ∧ s ≤ 3) ∧ 0 ≤ o ∧ o ≤ 3
  · have h1' : (0 ≤ s ∧ s < 4) ∧ 0 ≤ o ∧ o < 4 := ⟨s_lt4.mp h1.1, s_lt4.mp h1.2⟩
    rw [if_pos h1] at h ⊢
    rw [if_pos h1']
    by_cases h2 : μ 5 s.toNatClampNeg = 0 ∨ μ 5 o.toNatClampNeg = 0
    · rw [if_pos h2, if_pos h2]; exact ⟨2, by decide, by decide, rfl, rfl⟩
    · rw [if_neg h2] at h ⊢
      rw [if_neg h2]
      by_cases h3 : ¬ μ 5 s.toNatClampNeg = μ 5 o.toNatClampNeg
      · rw [if_pos h3, if_pos h3]; exact ⟨5, by decide, by decide, rfl, rfl⟩
      · rw [if_neg h3] at h ⊢
        rw [if_neg h3]
        obtain ⟨a, ha, rfl⟩ : ∃ q, q < 4 ∧ s = nI q := isP_of (n := 4) h1'.1 (by decide)
        obtain ⟨b, hb, rfl⟩ : ∃ q, q < 4 ∧ o = nI q := isP_of (n := 4) h1'.2 (by decide)
        rw [nI_clamp (by omega), nI_clamp (by omega)] at h ⊢
        obtain ⟨c1, g1, e1⟩ := hq a ha
        obtain ⟨c2, g2, e2⟩ := hq b hb
        have hi := st2 (i := i) (j := j) (n := n) e1 g1 e2 g2
        by_cases h4 : 0 ≤ n ∧ 0 ≤ i ∧ 0 ≤ j ∧ n ≤ μ 6 a - i ∧ n ≤ μ 6 b - j
        · rw [if_pos h4] at h; exact absurd rfl h
        · rw [if_neg h4, if_neg (fun z => h4 (hi.mpr z))]; exact ⟨1, by decide, by decide, rfl, rfl⟩
  · rw [if_neg h1, if_neg (fun z => h1 ⟨s_lt4.mpr z.1, s_lt4.mpr z.2⟩)]; exact ⟨1, by decide, by decide, rfl, rfl⟩
theorem nm_ok {μ : z_M} (hq : ∀ s, s < 4 → ∃ c, c ≤ 24 ∧ μ 6 s = nI c) {s i o j n : Int32} (h : nmvS μ s i o j n = 0) : ∃ a b I J N, a < 4 ∧ b < 4 ∧ s = nI a ∧ o = nI b ∧ i = nI I ∧ j = nI J ∧ n = nI N ∧ I + N ≤ 24 ∧ J + N ≤ 24 ∧ aMove μ s i o j n = (n, z_up μ 7 (va_cpy (μ 7) (μ 7) (24 * a + I) (24 * b + J) N)) := by
  unfold nmvS at h
  unfold aMove
  by_cases h1 : (0 ≤ s ∧ s ≤ 3) ∧ 0 ≤ o ∧ o ≤ 3
  · have h1' : (0 ≤ s ∧ s < 4) ∧ 0 ≤ o ∧ o < 4 := ⟨s_lt4.mp h1.1, s_lt4.mp h1.2⟩
    rw [if_pos h1] at h
    by_cases h2 : μ 5 s.toNatClampNeg = 0 ∨ μ 5 o.toNatClampNeg = 0
    · rw [if_pos h2] at h; exact absurd h (LO_ne (by decide) (by decide))
    · rw [if_neg h2] at h
      by_cases h3 : ¬ μ 5 s.toNatClampNeg = μ 5 o.toNatClampNeg
      · rw [if_pos h3] at h; exact absurd h (LO_ne (by decide) (by decide))
      · rw [if_neg h3] at h
        obtain ⟨a, ha, rfl⟩ : ∃ q, q < 4 ∧ s = nI q := isP_of (n := 4) h1'.1 (by decide)
        obtain ⟨b, hb, rfl⟩ : ∃ q, q < 4 ∧ o = nI q := isP_of (n := 4) h1'.2 (by decide)
        rw [if_pos h1', if_neg h2, if_neg h3]
        rw [nI_clamp (by omega), nI_clamp (by omega)] at h ⊢
        obtain ⟨c1, g1, e1⟩ := hq a ha
        obtain ⟨c2, g2, e2⟩ := hq b hb
        have hi := st2 (i := i) (j := j) (n := n) e1 g1 e2 g2
        by_cases h4 : 0 ≤ n ∧ 0 ≤ i ∧ 0 ≤ j ∧ n ≤ μ 6 a - i ∧ n ≤ μ 6 b - j
        · have h5 := hi.mp h4
          obtain ⟨I, hI, rfl⟩ := nI_of (i_nlt.mpr h4.2.1)
          obtain ⟨J, hJ, rfl⟩ := nI_of (i_nlt.mpr h4.2.2.1)
          obtain ⟨N, hN, rfl⟩ := nI_of (i_nlt.mpr h4.1)
          rw [if_pos h5, nI_clamp hI, nI_clamp hJ, nI_clamp hN]
          rw [e1, e2] at h5
          obtain ⟨⟨-, -, x1, x2⟩, ⟨-, -, y1, y2⟩⟩ := h5
          have x1 := le_nI x1 hI (by omega)
          have y1 := le_nI y1 hJ (by omega)
          rw [pk_sub x1] at x2
          rw [pk_sub y1] at y2
          have x2 := le_nI x2 hN (by omega)
          have y2 := le_nI y2 hN (by omega)
          exact ⟨a, b, I, J, N, ha, hb, rfl, rfl, rfl, rfl, rfl, by omega, by omega, rfl⟩
        · rw [if_neg h4] at h; exact absurd h (LO_ne (by decide) (by decide))
  · rw [if_neg h1] at h; exact absurd h (LO_ne (by decide) (by decide))
theorem byt_one (w : Int64) {s : Nat} (hs : s ≤ 56) {D : Int64} {U : UInt64} (hD : (D.toBitVec.smod 64).toNat = s) (hU : U.toNat = s) : ((w >>> D) &&& 255).toInt32 = ((w.toUInt64 >>> U).toInt64).toInt32 &&& 255 := by
  have e : (w.toUInt64 >>> U).toInt64.toBitVec = w.toBitVec >>> s := by
    apply BitVec.eq_of_toNat_eq
    show (w.toUInt64 >>> U).toNat = _
    rw [UInt64.toNat_shiftRight, hU, Nat.mod_eq_of_lt (by omega), BitVec.toNat_ushiftRight]
    rfl
  rw [Int64.toInt32_and, show (255 : Int64).toInt32 = 255 from by decide]
  apply Int32.toBitVec_inj.mp
  rw [Int32.toBitVec_and, Int32.toBitVec_and, Int64.toBitVec_toInt32, Int64.toBitVec_toInt32, e, Int64.toBitVec_shiftRight]
  apply BitVec.eq_of_getLsbD_eq
  intro i hi
  rw [BitVec.getLsbD_and, BitVec.getLsbD_and]
  by_cases z : i < 8
  · congr 1
    rw [BitVec.getLsbD_signExtend, BitVec.getLsbD_signExtend, BitVec.getLsbD_sshiftRight', hD, BitVec.getLsbD_ushiftRight]
    have h1 : s + i < 64 := by omega
    have h2 : i < 64 := by omega
    simp [h1, h2, hi]
  · have h255 : ∀ i, i < 32 → ¬ i < 8 → (255 : Int32).toBitVec.getLsbD i = false := by decide
    rw [h255 i hi z]; simp
theorem byt_at (w : Int64) {k : Nat} (hk : k < 8) : ((w >>> ((8 * nI k : Int32).toInt64 &&& 63)) &&& 255).toInt32 = bytC w k := by
  rcases (show k = 0 ∨ k = 1 ∨ k = 2 ∨ k = 3 ∨ k = 4 ∨ k = 5 ∨ k = 6 ∨ k = 7 by omega) with rfl | rfl | rfl | rfl | rfl | rfl | rfl | rfl
  · exact byt_one w (s := 0) (by decide) (by decide) (by decide)
  · exact byt_one w (s := 8) (by decide) (by decide) (by decide)
  · exact byt_one w (s := 16) (by decide) (by decide) (by decide)
  · exact byt_one w (s := 24) (by decide) (by decide) (by decide)
  · exact byt_one w (s := 32) (by decide) (by decide) (by decide)
  · exact byt_one w (s := 40) (by decide) (by decide) (by decide)
  · exact byt_one w (s := 48) (by decide) (by decide) (by decide)
  · exact byt_one w (s := 56) (by decide) (by decide) (by decide)
set_option maxHeartbeats 1000000 in
set_option maxRecDepth 10000 in
theorem kX10_notMoved {l : Launch} {E : z_E} (σ : z_M) (s i o j n : Int32) : z_C l E shM 2 yX10_notMoved cX10_notMoved 7 (some FieldType.int) [.ref (z_ad E 0), .int s, .int i, .int o, .int j, .int n] σ (z_Pp (nmvS σ s i o j n) σ) := by
  refine z_intro iX10_notMoved (Nat.le_of_ble_eq_true rfl) (fun K F => ?_)
  refine z_iload_n F dX10_notMoved_0 1 rfl 1 rfl ?_
  refine z_callSp F dX10_notMoved_1 m_1273 iX10_isSheet m_1274 rfl (kX10_isSheet σ _) rfl (by decide) (Nat.le_of_ble_eq_true rfl) 4 rfl ?_
  refine z_if_eq F dX10_notMoved_4 14 (by decide) 7 rfl (fun h4 => ?_) (fun h4 => ?_)
  · skip
    have h4 := bI0.mp h4
    refine z_ldc F dX10_notMoved_14 m_1001 16 rfl ?_
    refine z_rp F dX10_notMoved_16 ?_ rfl
    unfold nmvS
    rw [if_neg (fun z => h4 z.1)]; exact lo1
  · skip
    have h4 := bI1.mp h4
    refine z_iload_n F dX10_notMoved_7 3 rfl 8 rfl ?_
    refine z_callSp F dX10_notMoved_8 m_1273 iX10_isSheet m_1274 rfl (kX10_isSheet σ _) rfl (by decide) (Nat.le_of_ble_eq_true rfl) 11 rfl ?_
    refine z_if_ne F dX10_notMoved_11 17 (by decide) 14 rfl (fun h11 => ?_) (fun h11 => ?_)
    · skip
      have h11 := bI1.mp h11
      obtain ⟨q, hq4, rfl⟩ : ∃ q, q < 4 ∧ s = nI q := isP_of (n := 4) (s_lt4.mp h4) (by decide)
      have q31 : q < 2 ^ 31 := by omega
      obtain ⟨t, ht4, rfl⟩ : ∃ t, t < 4 ∧ o = nI t := isP_of (n := 4) (s_lt4.mp h11) (by decide)
      have t31 : t < 2 ^ 31 := by omega
      refine z_aload_n F dX10_notMoved_17 0 rfl 18 rfl ?_
      refine z_getR F zc9 dX10_notMoved_18 rfl 5 (by decide) (by decide) (.inl m_935) rfl (by decide) 21 rfl ?_
      refine z_iload_n F dX10_notMoved_21 1 rfl 22 rfl ?_
      refine z_iald F dX10_notMoved_22 rfl (vp_in_nI (by omega) (by decide)) 23 rfl ?_
      rw [nI_clamp q31]
      refine z_if_eq F dX10_notMoved_23 35 (by decide) 26 rfl (fun h23 => ?_) (fun h23 => ?_)
      · skip
        refine z_ldc F dX10_notMoved_35 m_1091 37 rfl ?_
        refine z_rp F dX10_notMoved_37 ?_ rfl
        unfold nmvS
        rw [if_pos ⟨h4, h11⟩, nI_clamp q31, nI_clamp t31, if_pos (Or.inl h23)]; exact lo2
      · skip
        refine z_aload_n F dX10_notMoved_26 0 rfl 27 rfl ?_
        refine z_getR F zc9 dX10_notMoved_27 rfl 5 (by decide) (by decide) (.inl m_935) rfl (by decide) 30 rfl ?_
        refine z_iload_n F dX10_notMoved_30 3 rfl 31 rfl ?_
        refine z_iald F dX10_notMoved_31 rfl (vp_in_nI (by omega) (by decide)) 32 rfl ?_
        rw [nI_clamp t31]
        refine z_if_ne F dX10_notMoved_32 38 (by decide) 35 rfl (fun h32 => ?_) (fun h32 => ?_)
        · skip
          refine z_aload_n F dX10_notMoved_38 0 rfl 39 rfl ?_
          refine z_getR F zc9 dX10_notMoved_39 rfl 5 (by decide) (by decide) (.inl m_935) rfl (by decide) 42 rfl ?_
          refine z_iload_n F dX10_notMoved_42 1 rfl 43 rfl ?_
          refine z_iald F dX10_notMoved_43 rfl (vp_in_nI (by omega) (by decide)) 44 rfl ?_
          rw [nI_clamp q31]
          refine z_aload_n F dX10_notMoved_44 0 rfl 45 rfl ?_
          refine z_getR F zc9 dX10_notMoved_45 rfl 5 (by decide) (by decide) (.inl m_935) rfl (by decide) 48 rfl ?_
          refine z_iload_n F dX10_notMoved_48 3 rfl 49 rfl ?_
          refine z_iald F dX10_notMoved_49 rfl (vp_in_nI (by omega) (by decide)) 50 rfl ?_
          rw [nI_clamp t31]
          refine z_icmp_eq F dX10_notMoved_50 56 (by decide) 53 rfl (fun h50 => ?_) (fun h50 => ?_)
          · skip
            refine z_iload F dX10_notMoved_56 5 rfl 58 rfl ?_
            refine z_if_lt F dX10_notMoved_58 101 (by decide) 61 rfl (fun h58 => ?_) (fun h58 => ?_)
            · skip
              refine z_iconst F dX10_notMoved_101 0 (by decide) 102 rfl ?_
              refine z_istore F dX10_notMoved_102 [(0, _), (1, _), (2, _), (3, _), (4, _), (5, _), (6, _)] rfl (by decide) 104 rfl ?_
              refine z_iload F dX10_notMoved_104 6 rfl 106 rfl ?_
              refine z_if_eq F dX10_notMoved_106 113 (by decide) 109 rfl (fun h106 => ?_) (fun h106 => ?_)
              · skip
                refine z_ldc F dX10_notMoved_113 m_1001 115 rfl ?_
                refine z_rp F dX10_notMoved_115 ?_ rfl
                unfold nmvS
                rw [if_pos ⟨h4, h11⟩, nI_clamp q31, nI_clamp t31, if_neg (fun z => z.elim h23 h32), if_neg (fun z => z h50), if_neg (fun z => i_nlt.mpr z.1 h58)]; exact lo1
              · skip
                exact absurd rfl h106
            · skip
              refine z_iload_n F dX10_notMoved_61 2 rfl 62 rfl ?_
              refine z_if_lt F dX10_notMoved_62 101 (by decide) 65 rfl (fun h62 => ?_) (fun h62 => ?_)
              · skip
                refine z_iconst F dX10_notMoved_101 0 (by decide) 102 rfl ?_
                refine z_istore F dX10_notMoved_102 [(0, _), (1, _), (2, _), (3, _), (4, _), (5, _), (6, _)] rfl (by decide) 104 rfl ?_
                refine z_iload F dX10_notMoved_104 6 rfl 106 rfl ?_
                refine z_if_eq F dX10_notMoved_106 113 (by decide) 109 rfl (fun h106 => ?_) (fun h106 => ?_)
                · skip
                  refine z_ldc F dX10_notMoved_113 m_1001 115 rfl ?_
                  refine z_rp F dX10_notMoved_115 ?_ rfl
                  unfold nmvS
                  rw [if_pos ⟨h4, h11⟩, nI_clamp q31, nI_clamp t31, if_neg (fun z => z.elim h23 h32), if_neg (fun z => z h50), if_neg (fun z => i_nlt.mpr z.2.1 h62)]; exact lo1
                · skip
                  exact absurd rfl h106
              · skip
                refine z_iload F dX10_notMoved_65 4 rfl 67 rfl ?_
                refine z_if_lt F dX10_notMoved_67 101 (by decide) 70 rfl (fun h67 => ?_) (fun h67 => ?_)
                · skip
                  refine z_iconst F dX10_notMoved_101 0 (by decide) 102 rfl ?_
                  refine z_istore F dX10_notMoved_102 [(0, _), (1, _), (2, _), (3, _), (4, _), (5, _), (6, _)] rfl (by decide) 104 rfl ?_
                  refine z_iload F dX10_notMoved_104 6 rfl 106 rfl ?_
                  refine z_if_eq F dX10_notMoved_106 113 (by decide) 109 rfl (fun h106 => ?_) (fun h106 => ?_)
                  · skip
                    refine z_ldc F dX10_notMoved_113 m_1001 115 rfl ?_
                    refine z_rp F dX10_notMoved_115 ?_ rfl
                    unfold nmvS
                    rw [if_pos ⟨h4, h11⟩, nI_clamp q31, nI_clamp t31, if_neg (fun z => z.elim h23 h32), if_neg (fun z => z h50), if_neg (fun z => i_nlt.mpr z.2.2.1 h67)]; exact lo1
                  · skip
                    exact absurd rfl h106
                · skip
                  refine z_iload F dX10_notMoved_70 5 rfl 72 rfl ?_
                  refine z_aload_n F dX10_notMoved_72 0 rfl 73 rfl ?_
                  refine z_getR F zc9 dX10_notMoved_73 rfl 6 (by decide) (by decide) (.inl m_936) rfl (by decide) 76 rfl ?_
                  refine z_iload_n F dX10_notMoved_76 1 rfl 77 rfl ?_
                  refine z_iald F dX10_notMoved_77 rfl (vp_in_nI (by omega) (by decide)) 78 rfl ?_
                  rw [nI_clamp q31]
                  refine z_iload_n F dX10_notMoved_78 2 rfl 79 rfl ?_
                  refine z_isub F dX10_notMoved_79 80 rfl ?_
                  refine z_icmp_gt F dX10_notMoved_80 101 (by decide) 83 rfl (fun h80 => ?_) (fun h80 => ?_)
                  · skip
                    refine z_iconst F dX10_notMoved_101 0 (by decide) 102 rfl ?_
                    refine z_istore F dX10_notMoved_102 [(0, _), (1, _), (2, _), (3, _), (4, _), (5, _), (6, _)] rfl (by decide) 104 rfl ?_
                    refine z_iload F dX10_notMoved_104 6 rfl 106 rfl ?_
                    refine z_if_eq F dX10_notMoved_106 113 (by decide) 109 rfl (fun h106 => ?_) (fun h106 => ?_)
                    · skip
                      refine z_ldc F dX10_notMoved_113 m_1001 115 rfl ?_
                      refine z_rp F dX10_notMoved_115 ?_ rfl
                      unfold nmvS
                      rw [if_pos ⟨h4, h11⟩, nI_clamp q31, nI_clamp t31, if_neg (fun z => z.elim h23 h32), if_neg (fun z => z h50), if_neg (fun z => i_nlt.mpr z.2.2.2.1 h80)]; exact lo1
                    · skip
                      exact absurd rfl h106
                  · skip
                    refine z_iload F dX10_notMoved_83 5 rfl 85 rfl ?_
                    refine z_aload_n F dX10_notMoved_85 0 rfl 86 rfl ?_
                    refine z_getR F zc9 dX10_notMoved_86 rfl 6 (by decide) (by decide) (.inl m_936) rfl (by decide) 89 rfl ?_
                    refine z_iload_n F dX10_notMoved_89 3 rfl 90 rfl ?_
                    refine z_iald F dX10_notMoved_90 rfl (vp_in_nI (by omega) (by decide)) 91 rfl ?_
                    rw [nI_clamp t31]
                    refine z_iload F dX10_notMoved_91 4 rfl 93 rfl ?_
                    refine z_isub F dX10_notMoved_93 94 rfl ?_
                    refine z_icmp_gt F dX10_notMoved_94 101 (by decide) 97 rfl (fun h94 => ?_) (fun h94 => ?_)
                    · skip
                      refine z_iconst F dX10_notMoved_101 0 (by decide) 102 rfl ?_
                      refine z_istore F dX10_notMoved_102 [(0, _), (1, _), (2, _), (3, _), (4, _), (5, _), (6, _)] rfl (by decide) 104 rfl ?_
                      refine z_iload F dX10_notMoved_104 6 rfl 106 rfl ?_
                      refine z_if_eq F dX10_notMoved_106 113 (by decide) 109 rfl (fun h106 => ?_) (fun h106 => ?_)
                      · skip
                        refine z_ldc F dX10_notMoved_113 m_1001 115 rfl ?_
                        refine z_rp F dX10_notMoved_115 ?_ rfl
                        unfold nmvS
                        rw [if_pos ⟨h4, h11⟩, nI_clamp q31, nI_clamp t31, if_neg (fun z => z.elim h23 h32), if_neg (fun z => z h50), if_neg (fun z => i_nlt.mpr z.2.2.2.2 h94)]; exact lo1
                      · skip
                        exact absurd rfl h106
                    · skip
                      refine z_iconst F dX10_notMoved_97 1 (by decide) 98 rfl ?_
                      refine z_goto F dX10_notMoved_98 102 (by decide) ?_
                      refine z_istore F dX10_notMoved_102 [(0, _), (1, _), (2, _), (3, _), (4, _), (5, _), (6, _)] rfl (by decide) 104 rfl ?_
                      refine z_iload F dX10_notMoved_104 6 rfl 106 rfl ?_
                      refine z_if_eq F dX10_notMoved_106 113 (by decide) 109 rfl (fun h106 => ?_) (fun h106 => ?_)
                      · skip
                        exact absurd h106 (by decide)
                      · skip
                        refine z_iconst F dX10_notMoved_109 0 (by decide) 110 rfl ?_
                        refine z_goto F dX10_notMoved_110 115 (by decide) ?_
                        refine z_rp F dX10_notMoved_115 ?_ rfl
                        unfold nmvS
                        rw [if_pos ⟨h4, h11⟩, nI_clamp q31, nI_clamp t31, if_neg (fun z => z.elim h23 h32), if_neg (fun z => z h50), if_pos ⟨i_nlt.mp h58, i_nlt.mp h62, i_nlt.mp h67, i_nlt.mp h80, i_nlt.mp h94⟩]
          · skip
            refine z_ldc F dX10_notMoved_53 m_1073 55 rfl ?_
            refine z_rp F dX10_notMoved_55 ?_ rfl
            unfold nmvS
            rw [if_pos ⟨h4, h11⟩, nI_clamp q31, nI_clamp t31, if_neg (fun z => z.elim h23 h32), if_pos h50]; exact lo5
        · skip
          refine z_ldc F dX10_notMoved_35 m_1091 37 rfl ?_
          refine z_rp F dX10_notMoved_37 ?_ rfl
          unfold nmvS
          rw [if_pos ⟨h4, h11⟩, nI_clamp q31, nI_clamp t31, if_pos (Or.inr h32)]; exact lo2
    · skip
      have h11 := bI0.mp h11
      refine z_ldc F dX10_notMoved_14 m_1001 16 rfl ?_
      refine z_rp F dX10_notMoved_16 ?_ rfl
      unfold nmvS
      rw [if_neg (fun z => h11 z.2)]; exact lo1
set_option maxHeartbeats 1000000 in
set_option maxRecDepth 10000 in
theorem kX10_move {l : Launch} {E : z_E} (σ : z_M) {τ0 : z_M} (hR : Rel τ0 σ) (s : Int32) (i : Int32) (o : Int32) (j : Int32) (n : Int32)  : z_C l E shM 3 yX10_move cX10_move 9 (some FieldType.int) [.ref (z_ad E 0), .int s, .int i, .int o, .int j, .int n] σ (z_Pi (fun rv μ' => rv = (aMove σ s i o j n).1 ∧ MO (aMove σ s i o j n).2 μ')) := by
  refine z_intro iX10_move (Nat.le_of_ble_eq_true rfl) (fun K F => ?_)
  have hn : σ 1 2 = nI (nP (σ 1)) := hR.2.1.1.1
  have h8 : nP (σ 1) ≤ 8 := hR.n8
  have hN : σ 1 2 = nI (nP (σ 1)) ∧ nP (σ 1) ≤ 8 := ⟨hn, h8⟩
  have hq6 : ∀ s, s < 4 → ∃ c, c ≤ 24 ∧ σ 6 s = nI c := fun s hs => (hR.shq s hs).1
  refine z_aload_n F dX10_move_0 0 rfl 1 rfl ?_
  refine z_iload_n F dX10_move_1 1 rfl 2 rfl ?_
  refine z_iload_n F dX10_move_2 2 rfl 3 rfl ?_
  refine z_iload_n F dX10_move_3 3 rfl 4 rfl ?_
  refine z_iload F dX10_move_4 4 rfl 6 rfl ?_
  refine z_iload F dX10_move_6 5 rfl 8 rfl ?_
  refine z_callVp F dX10_move_8 m_1349 iX10_notMoved jX10_notMoved rfl zc9 rfl (kX10_notMoved σ _ _ _ _ _) rfl (by decide) (Nat.le_of_ble_eq_true rfl) 11 rfl ?_
  refine z_istore F dX10_move_11 [(0, _), (1, _), (2, _), (3, _), (4, _), (5, _), (6, _)] rfl (by decide) 13 rfl ?_
  refine z_iload F dX10_move_13 6 rfl 15 rfl ?_
  refine z_if_eq F dX10_move_15 25 (by decide) 18 rfl (fun h15 => ?_) (fun h15 => ?_)
  · skip
    obtain ⟨a, b, I, J, N, ha4, hb4, rfl, rfl, rfl, rfl, rfl, hIN, hJN, eA⟩ := nm_ok hq6 h15
    have loop28 : ∀ (f : Nat) (k : Nat) (_ : 24 < k + f) (_ : k ≤ N), z_X l K E shM 3 9 (z_Pi (fun rv μ' => rv = (aMove σ (nI a) (nI I) (nI b) (nI J) (nI N)).1 ∧ MO (aMove σ (nI a) (nI I) (nI b) (nI J) (nI N)).2 μ')) 28 [(0, .ref (z_ad E 0)), (1, .int (nI a)), (2, .int (nI I)), (3, .int (nI b)), (4, .int (nI J)), (5, .int (nI N)), (6, .int (nmvS σ (nI a) (nI I) (nI b) (nI J) (nI N))), (7, .int (nI k))] [] (z_up σ 7 (mvF (σ 7) (24 * a + I) (24 * b + J) N k (decide (I < J)))) := by
      intro f
      induction f with
      | zero =>
        intro k hf hk
        omega
      | succ f ih =>
        intro k hf hk
        refine z_iload F dX10_move_28 7 rfl 30 rfl ?_
        refine z_iload F dX10_move_30 5 rfl 32 rfl ?_
        refine z_icmp_ge F dX10_move_32 90 (by decide) 35 rfl (fun h32 => ?_) (fun h32 => ?_)
        · skip
          refine z_iload F dX10_move_90 5 rfl 92 rfl ?_
          refine z_ri F dX10_move_92 ?_
          have hke : k = N := by have := le_nI h32 (by omega) (by omega); omega
          subst hke
          rw [mv_n]
          exact finM eA MO.rf
        · skip
          have hkN : k < N := nle_nI h32 (by omega) (by omega)
          refine z_iload_n F dX10_move_35 2 rfl 36 rfl ?_
          refine z_iload F dX10_move_36 4 rfl 38 rfl ?_
          refine z_icmp_ge F dX10_move_38 51 (by decide) 41 rfl (fun h38 => ?_) (fun h38 => ?_)
          · skip
            refine z_iload F dX10_move_51 7 rfl 53 rfl ?_
            have he2 : k = if (decide (I < J)) = true then N - 1 - k else k := (if_neg (fun z => absurd (of_decide_eq_true z) (by have := le_nI h38 (by omega) (by omega); omega))).symm
            refine z_istore F dX10_move_53 [(0, _), (1, _), (2, _), (3, _), (4, _), (5, _), (6, _), (7, _), (8, _)] rfl (by decide) 55 rfl ?_
            refine z_aload_n F dX10_move_55 0 rfl 56 rfl ?_
            refine z_getR F zc9 dX10_move_56 rfl 7 (by decide) (by decide) (.inl m_937) rfl (by decide) 59 rfl ?_
            refine z_bipush F dX10_move_59 24 (by decide) 61 rfl ?_
            refine z_iload_n F dX10_move_61 3 rfl 62 rfl ?_
            refine z_imul F dX10_move_62 63 rfl ?_
            refine z_iload F dX10_move_63 4 rfl 65 rfl ?_
            refine z_iadd F dX10_move_65 66 rfl ?_
            rw [ix24]
            refine z_iload F dX10_move_66 8 rfl 68 rfl ?_
            refine z_iadd F dX10_move_68 69 rfl ?_
            rw [nI_add]
            refine z_aload_n F dX10_move_69 0 rfl 70 rfl ?_
            refine z_getR F zc9 dX10_move_70 rfl 7 (by decide) (by decide) (.inl m_937) rfl (by decide) 73 rfl ?_
            refine z_bipush F dX10_move_73 24 (by decide) 75 rfl ?_
            refine z_iload_n F dX10_move_75 1 rfl 76 rfl ?_
            refine z_imul F dX10_move_76 77 rfl ?_
            refine z_iload_n F dX10_move_77 2 rfl 78 rfl ?_
            refine z_iadd F dX10_move_78 79 rfl ?_
            rw [ix24]
            refine z_iload F dX10_move_79 8 rfl 81 rfl ?_
            refine z_iadd F dX10_move_81 82 rfl ?_
            rw [nI_add]
            refine z_iald F dX10_move_82 rfl (vp_in_nI (by omega) (by decide)) 83 rfl ?_
            rw [nI_clamp (by omega), up_same, mv_r hkN (by omega) (by omega) rfl he2]
            refine z_iast F dX10_move_83 rfl (vp_in_nI (by omega) (by decide)) 84 rfl ?_
            rw [nI_clamp (by omega), up_u2, mv_s hkN he2]
            refine z_iinc F dX10_move_84 7 rfl 1 (by decide) [(0, _), (1, _), (2, _), (3, _), (4, _), (5, _), (6, _), (7, _), (8, _)] rfl (by decide) 87 rfl ?_
            refine z_goto F dX10_move_87 28 (by decide) ?_
            rw [nI_1]
            exact z_sub [0, 1, 2, 3, 4, 5, 6, 7] rfl (ih (k + 1) (by omega) (by omega))
          · skip
            refine z_iload F dX10_move_41 5 rfl 43 rfl ?_
            refine z_iconst F dX10_move_43 1 (by decide) 44 rfl ?_
            refine z_isub F dX10_move_44 45 rfl ?_
            rw [show nI N - 1 = nI (N - 1) from pk_sub (b := 1) (by omega)]
            refine z_iload F dX10_move_45 7 rfl 47 rfl ?_
            refine z_isub F dX10_move_47 48 rfl ?_
            rw [pk_sub (by omega)]
            refine z_goto F dX10_move_48 53 (by decide) ?_
            have he2 : N - 1 - k = if (decide (I < J)) = true then N - 1 - k else k := (if_pos (decide_eq_true (nle_nI h38 (by omega) (by omega)))).symm
            refine z_istore F dX10_move_53 [(0, _), (1, _), (2, _), (3, _), (4, _), (5, _), (6, _), (7, _), (8, _)] rfl (by decide) 55 rfl ?_
            refine z_aload_n F dX10_move_55 0 rfl 56 rfl ?_
            refine z_getR F zc9 dX10_move_56 rfl 7 (by decide) (by decide) (.inl m_937) rfl (by decide) 59 rfl ?_
            refine z_bipush F dX10_move_59 24 (by decide) 61 rfl ?_
            refine z_iload_n F dX10_move_61 3 rfl 62 rfl ?_
            refine z_imul F dX10_move_62 63 rfl ?_
            refine z_iload F dX10_move_63 4 rfl 65 rfl ?_
            refine z_iadd F dX10_move_65 66 rfl ?_
            rw [ix24]
            refine z_iload F dX10_move_66 8 rfl 68 rfl ?_
            refine z_iadd F dX10_move_68 69 rfl ?_
            rw [nI_add]
            refine z_aload_n F dX10_move_69 0 rfl 70 rfl ?_
            refine z_getR F zc9 dX10_move_70 rfl 7 (by decide) (by decide) (.inl m_937) rfl (by decide) 73 rfl ?_
            refine z_bipush F dX10_move_73 24 (by decide) 75 rfl ?_
            refine z_iload_n F dX10_move_75 1 rfl 76 rfl ?_
            refine z_imul F dX10_move_76 77 rfl ?_
            refine z_iload_n F dX10_move_77 2 rfl 78 rfl ?_
            refine z_iadd F dX10_move_78 79 rfl ?_
            rw [ix24]
            refine z_iload F dX10_move_79 8 rfl 81 rfl ?_
            refine z_iadd F dX10_move_81 82 rfl ?_
            rw [nI_add]
            refine z_iald F dX10_move_82 rfl (vp_in_nI (by omega) (by decide)) 83 rfl ?_
            rw [nI_clamp (by omega), up_same, mv_r hkN (by omega) (by omega) rfl he2]
            refine z_iast F dX10_move_83 rfl (vp_in_nI (by omega) (by decide)) 84 rfl ?_
            rw [nI_clamp (by omega), up_u2, mv_s hkN he2]
            refine z_iinc F dX10_move_84 7 rfl 1 (by decide) [(0, _), (1, _), (2, _), (3, _), (4, _), (5, _), (6, _), (7, _), (8, _)] rfl (by decide) 87 rfl ?_
            refine z_goto F dX10_move_87 28 (by decide) ?_
            rw [nI_1]
            exact z_sub [0, 1, 2, 3, 4, 5, 6, 7] rfl (ih (k + 1) (by omega) (by omega))
    refine z_iconst F dX10_move_25 0 (by decide) 26 rfl ?_
    refine z_istore F dX10_move_26 [(0, _), (1, _), (2, _), (3, _), (4, _), (5, _), (6, _), (7, _)] rfl (by decide) 28 rfl ?_
    have L := loop28 25 0 (by omega) (by omega)
    rw [mv_0, up_id] at L
    exact L
  · skip
    refine z_aload_n F dX10_move_18 0 rfl 19 rfl ?_
    refine z_iload F dX10_move_19 6 rfl 21 rfl ?_
    obtain ⟨k0, k1, k6, ek, ea⟩ := nm_er hq6 h15
    rw [ek]
    refine z_callVi F dX10_move_21 m_1002 iX10_error jX10_error rfl zc9 rfl (kX10_error σ (k := k0) k1 k6) rfl (by decide) (Nat.le_of_ble_eq_true rfl) 24 rfl (fun r21 s21 c21 => ?_)
    refine z_ri F dX10_move_24 ?_
    obtain ⟨rfl, rfl⟩ := c21
    exact finM ea MO.rf
set_option maxHeartbeats 1000000 in
set_option maxRecDepth 10000 in
theorem kX10_seenAll {l : Launch} {E : z_E} (σ : z_M) {τ0 : z_M} (hR : Rel τ0 σ) (s : Int32)  : z_C l E shM 3 yX10_seenAll cX10_seenAll 4 (some FieldType.int) [.ref (z_ad E 0), .int s] σ (z_Pi (fun rv μ' => rv = (aSeenAll σ s).1 ∧ MO (aSeenAll σ s).2 μ')) := by
  refine z_intro iX10_seenAll (Nat.le_of_ble_eq_true rfl) (fun K F => ?_)
  have hn : σ 1 2 = nI (nP (σ 1)) := hR.2.1.1.1
  have h8 : nP (σ 1) ≤ 8 := hR.n8
  have hN : σ 1 2 = nI (nP (σ 1)) ∧ nP (σ 1) ≤ 8 := ⟨hn, h8⟩
  refine z_aload_n F dX10_seenAll_0 0 rfl 1 rfl ?_
  refine z_iload_n F dX10_seenAll_1 1 rfl 2 rfl ?_
  refine z_callVp F dX10_seenAll_2 m_1341 iX10_notThere jX10_notThere rfl zc9 rfl (kX10_notThere σ _) rfl (by decide) (Nat.le_of_ble_eq_true rfl) 5 rfl ?_
  refine z_istore_n F dX10_seenAll_5 [(0, _), (1, _), (2, _)] rfl (by decide) 6 rfl ?_
  refine z_iload_n F dX10_seenAll_6 2 rfl 7 rfl ?_
  refine z_if_eq F dX10_seenAll_7 16 (by decide) 10 rfl (fun h7 => ?_) (fun h7 => ?_)
  · skip
    obtain ⟨q, hq4, rfl, hs4, hb0⟩ := nt_ok h7
    have q31 : q < 2 ^ 31 := by omega
    obtain ⟨⟨c, hc24, ec⟩, hbb⟩ := hR.shq q hq4
    have loop18 : ∀ (f : Nat) (t : Nat) (_ : 24 < t + f) (_ : t ≤ c) (_ : ∀ u, u < t → senP (σ 1) (fun k => σ 7 (24 * q + k)) u = false), z_X l K E shM 3 4 (z_Pi (fun rv μ' => rv = (aSeenAll σ (nI q)).1 ∧ MO (aSeenAll σ (nI q)).2 μ')) 18 [(0, .ref (z_ad E 0)), (1, .int (nI q)), (2, .int (ntS σ (nI q))), (3, .int (nI t))] [] (z_up σ 1 (senR (σ 1) (fun k => σ 7 (24 * q + k)) t)) := by
      intro f
      induction f with
      | zero =>
        intro t hf ht hno
        omega
      | succ f ih =>
        intro t hf ht hno
        refine z_iload_n F dX10_seenAll_18 3 rfl 19 rfl ?_
        refine z_aload_n F dX10_seenAll_19 0 rfl 20 rfl ?_
        refine z_getR F zc9 dX10_seenAll_20 rfl 6 (by decide) (by decide) (.inl m_936) rfl (by decide) 23 rfl ?_
        refine z_iload_n F dX10_seenAll_23 1 rfl 24 rfl ?_
        refine z_iald F dX10_seenAll_24 rfl (vp_in_nI (by omega) (by decide)) 25 rfl ?_
        rw [nI_clamp q31, up_o (show (6 : Nat) ≠ 1 by decide), ec]
        refine z_icmp_ge F dX10_seenAll_25 83 (by decide) 28 rfl (fun h25 => ?_) (fun h25 => ?_)
        · skip
          refine z_iload_n F dX10_seenAll_83 3 rfl 84 rfl ?_
          refine z_ri F dX10_seenAll_84 ?_
          have hte : t = c := by have := le_nI h25 (by omega) (by omega); omega
          have ek : senT (σ 1) (fun k => σ 7 (24 * q + k)) c = t := by rw [hte]; exact fstF_none (fun j hj => hno j (by omega))
          refine finM ?_ MO.rf
          unfold aSeenAll
          rw [if_pos hs4, nI_clamp q31, if_neg hb0, ec, nI_clamp (by omega), ek]
        · skip
          have htc : t < c := nle_nI h25 (by omega) (by omega)
          refine z_iload_n F dX10_seenAll_28 3 rfl 29 rfl ?_
          refine z_aload_n F dX10_seenAll_29 0 rfl 30 rfl ?_
          refine z_getR F zc9 dX10_seenAll_30 rfl 0 (by decide) (by decide) (.inl m_930) rfl (by decide) 33 rfl ?_
          refine z_iconst F dX10_seenAll_33 2 (by decide) 34 rfl ?_
          refine z_iald F dX10_seenAll_34 rfl (show vp_in (nI 2) 385 from vp_in_nI (by decide) (by decide)) 35 rfl ?_
          rw [tn_2, up_same, sen_2, hn]
          refine z_icmp_ge F dX10_seenAll_35 83 (by decide) 38 rfl (fun h35 => ?_) (fun h35 => ?_)
          · skip
            refine z_iload_n F dX10_seenAll_83 3 rfl 84 rfl ?_
            refine z_ri F dX10_seenAll_84 ?_
            have hbad : (!(decide (t < nP (σ 1)) && decide (0 ≤ σ 7 (24 * q + t) ∧ σ 7 (24 * q + t) < nI (2 ^ nP (σ 1))))) = true := by
              rw [decide_eq_false (p := t < nP (σ 1)) (by have := le_nI h35 (by omega) (by omega); omega)]; rfl
            have ek : senT (σ 1) (fun k => σ 7 (24 * q + k)) c = t := fstF_is (p := senP (σ 1) (fun k => σ 7 (24 * q + k))) htc hbad hno
            refine finM ?_ MO.rf
            unfold aSeenAll
            rw [if_pos hs4, nI_clamp q31, if_neg hb0, ec, nI_clamp (by omega), ek]
          · skip
            have htn : t < nP (σ 1) := nle_nI h35 (by omega) (by omega)
            refine z_aload_n F dX10_seenAll_38 0 rfl 39 rfl ?_
            refine z_getR F zc9 dX10_seenAll_39 rfl 7 (by decide) (by decide) (.inl m_937) rfl (by decide) 42 rfl ?_
            refine z_bipush F dX10_seenAll_42 24 (by decide) 44 rfl ?_
            refine z_iload_n F dX10_seenAll_44 1 rfl 45 rfl ?_
            refine z_imul F dX10_seenAll_45 46 rfl ?_
            refine z_iload_n F dX10_seenAll_46 3 rfl 47 rfl ?_
            refine z_iadd F dX10_seenAll_47 48 rfl ?_
            rw [ix24]
            refine z_iald F dX10_seenAll_48 rfl (vp_in_nI (by omega) (by decide)) 49 rfl ?_
            rw [nI_clamp (by omega), up_o (show (7 : Nat) ≠ 1 by decide)]
            refine z_iconst F dX10_seenAll_49 0 (by decide) 50 rfl ?_
            refine z_aload_n F dX10_seenAll_50 0 rfl 51 rfl ?_
            refine z_callVp F dX10_seenAll_51 m_1257 iX10_everybody jX10_everybody rfl zc9 rfl (kX10_everybody _ (by rw [up_same, sen_2, sen_n]; exact hN)) rfl (by decide) (Nat.le_of_ble_eq_true rfl) 54 rfl ?_
            rw [up_same, sen_n]
            refine z_callSp F dX10_seenAll_54 m_998 iX10_in m_999 rfl (kX10_in _ _ _ _) rfl (by decide) (Nat.le_of_ble_eq_true rfl) 57 rfl ?_
            refine z_if_eq F dX10_seenAll_57 83 (by decide) 60 rfl (fun h57 => ?_) (fun h57 => ?_)
            · skip
              have h57 := bI0.mp h57
              refine z_iload_n F dX10_seenAll_83 3 rfl 84 rfl ?_
              refine z_ri F dX10_seenAll_84 ?_
              have hbad : (!(decide (t < nP (σ 1)) && decide (0 ≤ σ 7 (24 * q + t) ∧ σ 7 (24 * q + t) < nI (2 ^ nP (σ 1))))) = true := by
                rw [decide_eq_false (p := 0 ≤ σ 7 (24 * q + t) ∧ σ 7 (24 * q + t) < nI (2 ^ nP (σ 1))) (fun z => h57 (s2_lt h8 |>.mpr z))]; simp
              have ek : senT (σ 1) (fun k => σ 7 (24 * q + k)) c = t := fstF_is (p := senP (σ 1) (fun k => σ 7 (24 * q + k))) htc hbad hno
              refine finM ?_ MO.rf
              unfold aSeenAll
              rw [if_pos hs4, nI_clamp q31, if_neg hb0, ec, nI_clamp (by omega), ek]
            · skip
              have h57 := bI1.mp h57
              refine z_aload_n F dX10_seenAll_60 0 rfl 61 rfl ?_
              refine z_iload_n F dX10_seenAll_61 3 rfl 62 rfl ?_
              refine z_iconst F dX10_seenAll_62 4 (by decide) 63 rfl ?_
              refine z_aload_n F dX10_seenAll_63 0 rfl 64 rfl ?_
              refine z_getR F zc9 dX10_seenAll_64 rfl 7 (by decide) (by decide) (.inl m_937) rfl (by decide) 67 rfl ?_
              refine z_bipush F dX10_seenAll_67 24 (by decide) 69 rfl ?_
              refine z_iload_n F dX10_seenAll_69 1 rfl 70 rfl ?_
              refine z_imul F dX10_seenAll_70 71 rfl ?_
              refine z_iload_n F dX10_seenAll_71 3 rfl 72 rfl ?_
              refine z_iadd F dX10_seenAll_72 73 rfl ?_
              rw [ix24]
              refine z_iald F dX10_seenAll_73 rfl (vp_in_nI (by omega) (by decide)) 74 rfl ?_
              rw [nI_clamp (by omega), up_o (show (7 : Nat) ≠ 1 by decide)]
              refine z_callVu F dX10_seenAll_74 m_1008 iX10_puts jX10_puts rfl zc9 rfl (kX10_puts _ (p := t) (w := 4) (by omega) (by decide) _) rfl (by decide) (Nat.le_of_ble_eq_true rfl) 77 rfl ?_
              rw [up_up, up_same]
              refine z_iinc F dX10_seenAll_77 3 rfl 1 (by decide) [(0, _), (1, _), (2, _), (3, _)] rfl (by decide) 80 rfl ?_
              refine z_goto F dX10_seenAll_80 18 (by decide) ?_
              rw [nI_1]
              refine ih (t + 1) (by omega) (by omega) (fun u hu => ?_)
              rcases Nat.lt_or_ge u t with z | z
              · exact hno u z
              · rw [show u = t by omega]
                have h57b := (s2_lt h8).mp h57
                show (!(decide (t < nP (σ 1)) && decide (0 ≤ σ 7 (24 * q + t) ∧ σ 7 (24 * q + t) < nI (2 ^ nP (σ 1))))) = false
                rw [decide_eq_true htn, decide_eq_true h57b]; rfl
    refine z_iconst F dX10_seenAll_16 0 (by decide) 17 rfl ?_
    refine z_istore_n F dX10_seenAll_17 [(0, _), (1, _), (2, _), (3, _)] rfl (by decide) 18 rfl ?_
    have L := loop18 25 0 (by omega) (by omega) (fun u hu => by omega)
    rw [show senR (σ 1) (fun k => σ 7 (24 * q + k)) 0 = σ 1 from rfl, up_id] at L
    exact L
  · skip
    refine z_aload_n F dX10_seenAll_10 0 rfl 11 rfl ?_
    refine z_iload_n F dX10_seenAll_11 2 rfl 12 rfl ?_
    obtain ⟨k0, k1, k6, ek, ea⟩ := nt_er h7
    rw [ek]
    refine z_callVi F dX10_seenAll_12 m_1002 iX10_error jX10_error rfl zc9 rfl (kX10_error σ (k := k0) k1 k6) rfl (by decide) (Nat.le_of_ble_eq_true rfl) 15 rfl (fun r12 s12 c12 => ?_)
    refine z_ri F dX10_seenAll_15 ?_
    obtain ⟨rfl, rfl⟩ := c12
    exact finM (by unfold aSeenAll; exact ea _) MO.rf
set_option maxHeartbeats 1000000 in
set_option maxRecDepth 10000 in
theorem kX10_judge {l : Launch} {E : z_E} (σ : z_M) {τ0 : z_M} (hR : Rel τ0 σ) (s : Int32)  : z_C l E shM 3 yX10_judge cX10_judge 4 (some FieldType.int) [.ref (z_ad E 0), .int s] σ (z_Pi (fun rv μ' => rv = (aJudge σ s).1 ∧ MO (aJudge σ s).2 μ')) := by
  refine z_intro iX10_judge (Nat.le_of_ble_eq_true rfl) (fun K F => ?_)
  have hn : σ 1 2 = nI (nP (σ 1)) := hR.2.1.1.1
  have h8 : nP (σ 1) ≤ 8 := hR.n8
  have hN : σ 1 2 = nI (nP (σ 1)) ∧ nP (σ 1) ≤ 8 := ⟨hn, h8⟩
  refine z_aload_n F dX10_judge_0 0 rfl 1 rfl ?_
  refine z_iload_n F dX10_judge_1 1 rfl 2 rfl ?_
  refine z_callVp F dX10_judge_2 m_1341 iX10_notThere jX10_notThere rfl zc9 rfl (kX10_notThere σ _) rfl (by decide) (Nat.le_of_ble_eq_true rfl) 5 rfl ?_
  refine z_istore_n F dX10_judge_5 [(0, _), (1, _), (2, _)] rfl (by decide) 6 rfl ?_
  refine z_iload_n F dX10_judge_6 2 rfl 7 rfl ?_
  refine z_if_eq F dX10_judge_7 16 (by decide) 10 rfl (fun h7 => ?_) (fun h7 => ?_)
  · skip
    obtain ⟨q, hq4, rfl, hs4, hb0⟩ := nt_ok h7
    have q31 : q < 2 ^ 31 := by omega
    obtain ⟨⟨c, hc24, ec⟩, hbb⟩ := hR.shq q hq4
    have loop18 : ∀ (f : Nat) (t : Nat) (_ : 24 < t + f) (_ : t ≤ c) (_ : ∀ u, u < t → judP (σ 1) (fun k => σ 7 (24 * q + k)) u = false), z_X l K E shM 3 4 (z_Pi (fun rv μ' => rv = (aJudge σ (nI q)).1 ∧ MO (aJudge σ (nI q)).2 μ')) 18 [(0, .ref (z_ad E 0)), (1, .int (nI q)), (2, .int (ntS σ (nI q))), (3, .int (nI t))] [] σ := by
      intro f
      induction f with
      | zero =>
        intro t hf ht hno
        omega
      | succ f ih =>
        intro t hf ht hno
        refine z_iload_n F dX10_judge_18 3 rfl 19 rfl ?_
        refine z_aload_n F dX10_judge_19 0 rfl 20 rfl ?_
        refine z_getR F zc9 dX10_judge_20 rfl 6 (by decide) (by decide) (.inl m_936) rfl (by decide) 23 rfl ?_
        refine z_iload_n F dX10_judge_23 1 rfl 24 rfl ?_
        refine z_iald F dX10_judge_24 rfl (vp_in_nI (by omega) (by decide)) 25 rfl ?_
        rw [nI_clamp q31, ec]
        refine z_icmp_ge F dX10_judge_25 64 (by decide) 28 rfl (fun h25 => ?_) (fun h25 => ?_)
        · skip
          refine z_iload_n F dX10_judge_64 3 rfl 65 rfl ?_
          refine z_ri F dX10_judge_65 ?_
          have hte : t = c := by have := le_nI h25 (by omega) (by omega); omega
          have ek : judT (σ 1) (fun k => σ 7 (24 * q + k)) c = t := by rw [hte]; exact fstF_none (fun j hj => hno j (by omega))
          refine finM ?_ MO.rf
          unfold aJudge
          rw [if_pos hs4, nI_clamp q31, if_neg hb0, ec, nI_clamp (by omega), ek]
        · skip
          have htc : t < c := nle_nI h25 (by omega) (by omega)
          refine z_iload_n F dX10_judge_28 3 rfl 29 rfl ?_
          refine z_aload_n F dX10_judge_29 0 rfl 30 rfl ?_
          refine z_getR F zc9 dX10_judge_30 rfl 0 (by decide) (by decide) (.inl m_930) rfl (by decide) 33 rfl ?_
          refine z_iconst F dX10_judge_33 2 (by decide) 34 rfl ?_
          refine z_iald F dX10_judge_34 rfl (show vp_in (nI 2) 385 from vp_in_nI (by decide) (by decide)) 35 rfl ?_
          rw [tn_2, hn]
          refine z_icmp_ge F dX10_judge_35 64 (by decide) 38 rfl (fun h35 => ?_) (fun h35 => ?_)
          · skip
            refine z_iload_n F dX10_judge_64 3 rfl 65 rfl ?_
            refine z_ri F dX10_judge_65 ?_
            have hbad : (!(decide (t < nP (σ 1)) && decide (σ 7 (24 * q + t) = pO (σ 1) t 2))) = true := by
              rw [decide_eq_false (p := t < nP (σ 1)) (by have := le_nI h35 (by omega) (by omega); omega)]; rfl
            have ek : judT (σ 1) (fun k => σ 7 (24 * q + k)) c = t := fstF_is (p := judP (σ 1) (fun k => σ 7 (24 * q + k))) htc hbad hno
            refine finM ?_ MO.rf
            unfold aJudge
            rw [if_pos hs4, nI_clamp q31, if_neg hb0, ec, nI_clamp (by omega), ek]
          · skip
            have htn : t < nP (σ 1) := nle_nI h35 (by omega) (by omega)
            refine z_aload_n F dX10_judge_38 0 rfl 39 rfl ?_
            refine z_getR F zc9 dX10_judge_39 rfl 7 (by decide) (by decide) (.inl m_937) rfl (by decide) 42 rfl ?_
            refine z_bipush F dX10_judge_42 24 (by decide) 44 rfl ?_
            refine z_iload_n F dX10_judge_44 1 rfl 45 rfl ?_
            refine z_imul F dX10_judge_45 46 rfl ?_
            refine z_iload_n F dX10_judge_46 3 rfl 47 rfl ?_
            refine z_iadd F dX10_judge_47 48 rfl ?_
            rw [ix24]
            refine z_iald F dX10_judge_48 rfl (vp_in_nI (by omega) (by decide)) 49 rfl ?_
            rw [nI_clamp (by omega)]
            refine z_aload_n F dX10_judge_49 0 rfl 50 rfl ?_
            refine z_iload_n F dX10_judge_50 3 rfl 51 rfl ?_
            refine z_iconst F dX10_judge_51 2 (by decide) 52 rfl ?_
            refine z_callVp F dX10_judge_52 m_1020 iX10_of jX10_of rfl zc9 rfl (kX10_of σ (p := t) (w := 2) (by omega) (by decide)) rfl (by decide) (Nat.le_of_ble_eq_true rfl) 55 rfl ?_
            refine z_icmp_ne F dX10_judge_55 64 (by decide) 58 rfl (fun h55 => ?_) (fun h55 => ?_)
            · skip
              refine z_iload_n F dX10_judge_64 3 rfl 65 rfl ?_
              refine z_ri F dX10_judge_65 ?_
              have hbad : (!(decide (t < nP (σ 1)) && decide (σ 7 (24 * q + t) = pO (σ 1) t 2))) = true := by
                rw [decide_eq_false (p := σ 7 (24 * q + t) = pO (σ 1) t 2) h55]; simp
              have ek : judT (σ 1) (fun k => σ 7 (24 * q + k)) c = t := fstF_is (p := judP (σ 1) (fun k => σ 7 (24 * q + k))) htc hbad hno
              refine finM ?_ MO.rf
              unfold aJudge
              rw [if_pos hs4, nI_clamp q31, if_neg hb0, ec, nI_clamp (by omega), ek]
            · skip
              refine z_iinc F dX10_judge_58 3 rfl 1 (by decide) [(0, _), (1, _), (2, _), (3, _)] rfl (by decide) 61 rfl ?_
              refine z_goto F dX10_judge_61 18 (by decide) ?_
              rw [nI_1]
              refine ih (t + 1) (by omega) (by omega) (fun u hu => ?_)
              rcases Nat.lt_or_ge u t with z | z
              · exact hno u z
              · rw [show u = t by omega]
                show (!(decide (t < nP (σ 1)) && decide (σ 7 (24 * q + t) = pO (σ 1) t 2))) = false
                rw [decide_eq_true htn, decide_eq_true h55]; rfl
    refine z_iconst F dX10_judge_16 0 (by decide) 17 rfl ?_
    refine z_istore_n F dX10_judge_17 [(0, _), (1, _), (2, _), (3, _)] rfl (by decide) 18 rfl ?_
    exact loop18 25 0 (by omega) (by omega) (fun u hu => by omega)
  · skip
    refine z_aload_n F dX10_judge_10 0 rfl 11 rfl ?_
    refine z_iload_n F dX10_judge_11 2 rfl 12 rfl ?_
    obtain ⟨k0, k1, k6, ek, ea⟩ := nt_er h7
    rw [ek]
    refine z_callVi F dX10_judge_12 m_1002 iX10_error jX10_error rfl zc9 rfl (kX10_error σ (k := k0) k1 k6) rfl (by decide) (Nat.le_of_ble_eq_true rfl) 15 rfl (fun r12 s12 c12 => ?_)
    refine z_ri F dX10_judge_15 ?_
    obtain ⟨rfl, rfl⟩ := c12
    exact finM (by unfold aJudge; exact ea _) MO.rf
set_option maxHeartbeats 1000000 in
set_option maxRecDepth 10000 in
theorem kX10_feed {l : Launch} {E : z_E} (σ : z_M) {τ0 : z_M} (hR : Rel τ0 σ) (w : Int64) (n : Int32)  : z_C l E shM 1 yX10_feed cX10_feed 5 (some FieldType.int) [.ref (z_ad E 0), .long w, .int n] σ (z_Pi (fun rv μ' => rv = (aFeed σ w n).1 ∧ MO (aFeed σ w n).2 μ')) := by
  refine z_intro iX10_feed (Nat.le_of_ble_eq_true rfl) (fun K F => ?_)
  have hn : σ 1 2 = nI (nP (σ 1)) := hR.2.1.1.1
  have h8 : nP (σ 1) ≤ 8 := hR.n8
  have hN : σ 1 2 = nI (nP (σ 1)) ∧ nP (σ 1) ≤ 8 := ⟨hn, h8⟩
  have hx := hR.vx
  have e5 : σ 1 5 = nI (tN (σ 1)) := hx.1
  have t60 := hx.2.1
  refine z_iload_n F dX10_feed_0 2 rfl 1 rfl ?_
  refine z_iconst F dX10_feed_1 1 (by decide) 2 rfl ?_
  refine z_bipush F dX10_feed_2 8 (by decide) 4 rfl ?_
  refine z_callSp F dX10_feed_4 m_998 iX10_in m_999 rfl (kX10_in σ _ _ _) rfl (by decide) (Nat.le_of_ble_eq_true rfl) 7 rfl ?_
  refine z_if_ne F dX10_feed_7 17 (by decide) 10 rfl (fun h7 => ?_) (fun h7 => ?_)
  · skip
    have h7 := bI1.mp h7
    obtain ⟨N, hN8, rfl⟩ : ∃ N, N < 9 ∧ n = nI N := isP_of (n := 9) ⟨by simp only [Int32.lt_iff_toInt_lt, Int32.le_iff_toInt_le, ← Int32.toInt_inj, Int32.reduceToInt] at *; omega, by show n < 9; simp only [Int32.lt_iff_toInt_lt, Int32.le_iff_toInt_le, ← Int32.toInt_inj, Int32.reduceToInt] at *; omega⟩ (by decide)
    have N31 : N < 2 ^ 31 := by omega
    refine z_aload_n F dX10_feed_17 0 rfl 18 rfl ?_
    refine z_getR F zc9 dX10_feed_18 rfl 0 (by decide) (by decide) (.inl m_930) rfl (by decide) 21 rfl ?_
    refine z_iconst F dX10_feed_21 5 (by decide) 22 rfl ?_
    refine z_iald F dX10_feed_22 rfl (show vp_in (nI 5) 385 from vp_in_nI (by decide) (by decide)) 23 rfl ?_
    rw [tn_5]
    refine z_iload_n F dX10_feed_23 2 rfl 24 rfl ?_
    refine z_iadd F dX10_feed_24 25 rfl ?_
    rw [e5, nI_add]
    refine z_bipush F dX10_feed_25 60 (by decide) 27 rfl ?_
    refine z_icmp_le F dX10_feed_27 37 (by decide) 30 rfl (fun h27 => ?_) (fun h27 => ?_)
    · skip
      have h60 : tN (σ 1) + N ≤ 60 := le_nI (b := 60) h27 (by omega) (by decide)
      have hfit : nI N ≤ 60 - nI (tN (σ 1)) := by rw [show (60 : Int32) = nI 60 from rfl, pk_sub t60]; exact nI_le (by omega) (by omega)
      have loop40 : ∀ (f : Nat) (k : Nat) (_ : 8 < k + f) (_ : k ≤ N), z_X l K E shM 1 5 (z_Pi (fun rv μ' => rv = (aFeed σ w (nI N)).1 ∧ MO (aFeed σ w (nI N)).2 μ')) 40 [(0, .ref (z_ad E 0)), (1, .long w), (3, .int (nI N)), (4, .int (nI k))] [] (z_up σ 1 (fedR w (σ 1) k)) := by
        intro f
        induction f with
        | zero =>
          intro k hf hk
          omega
        | succ f ih =>
          intro k hf hk
          refine z_iload F dX10_feed_40 3 rfl 42 rfl ?_
          refine z_iload_n F dX10_feed_42 2 rfl 43 rfl ?_
          refine z_icmp_ge F dX10_feed_43 88 (by decide) 46 rfl (fun h43 => ?_) (fun h43 => ?_)
          · skip
            refine z_aload_n F dX10_feed_88 0 rfl 89 rfl ?_
            refine z_getR F zc9 dX10_feed_89 rfl 0 (by decide) (by decide) (.inl m_930) rfl (by decide) 92 rfl ?_
            refine z_iconst F dX10_feed_92 5 (by decide) 93 rfl ?_
            refine z_iald F dX10_feed_93 rfl (show vp_in (nI 5) 385 from vp_in_nI (by decide) (by decide)) 94 rfl ?_
            rw [tn_5]
            rw [up_same, fed_5 hx]
            refine z_ri F dX10_feed_94 ?_
            have hke : k = N := by have := le_nI h43 (by omega) (by omega); omega
            subst hke
            refine finM ?_ MO.rf
            unfold aFeed
            rw [if_pos h7, e5, if_pos hfit, nI_clamp N31]
          · skip
            have hkN : k < N := nle_nI h43 (by omega) (by omega)
            refine z_aload_n F dX10_feed_46 0 rfl 47 rfl ?_
            refine z_getR F zc9 dX10_feed_47 rfl 0 (by decide) (by decide) (.inl m_930) rfl (by decide) 50 rfl ?_
            refine z_bipush F dX10_feed_50 59 (by decide) 52 rfl ?_
            refine z_aload_n F dX10_feed_52 0 rfl 53 rfl ?_
            refine z_getR F zc9 dX10_feed_53 rfl 0 (by decide) (by decide) (.inl m_930) rfl (by decide) 56 rfl ?_
            refine z_iconst F dX10_feed_56 5 (by decide) 57 rfl ?_
            refine z_iald F dX10_feed_57 rfl (show vp_in (nI 5) 385 from vp_in_nI (by decide) (by decide)) 58 rfl ?_
            rw [tn_5]
            rw [up_same, fed_5 hx]
            refine z_iadd F dX10_feed_58 59 rfl ?_
            rw [show (59 : Int32) + nI (tN (σ 1) + k) = nI (59 + (tN (σ 1) + k)) from nI_add 59 _]
            refine z_lload_n F dX10_feed_59 1 rfl 60 rfl ?_
            refine z_bipush F dX10_feed_60 8 (by decide) 62 rfl ?_
            refine z_iload F dX10_feed_62 3 rfl 64 rfl ?_
            refine z_imul F dX10_feed_64 65 rfl ?_
            refine z_lshr F dX10_feed_65 66 rfl ?_
            refine z_ldc2 F dX10_feed_66 m_1124 69 rfl ?_
            refine z_land F dX10_feed_69 70 rfl ?_
            refine z_l2i F dX10_feed_70 71 rfl ?_
            rw [byt_at w (by omega)]
            refine z_iast F dX10_feed_71 rfl (vp_in_nI (by omega) (by decide)) 72 rfl ?_
            rw [nI_clamp (by omega)]
            refine z_aload_n F dX10_feed_72 0 rfl 73 rfl ?_
            refine z_getR F zc9 dX10_feed_73 rfl 0 (by decide) (by decide) (.inl m_930) rfl (by decide) 76 rfl ?_
            refine z_iconst F dX10_feed_76 5 (by decide) 77 rfl ?_
            refine z_dup2 F dX10_feed_77 rfl rfl 78 rfl ?_
            refine z_iald F dX10_feed_78 rfl (show vp_in (nI 5) 385 from vp_in_nI (by decide) (by decide)) 79 rfl ?_
            rw [tn_5, u2_k (by omega), up_same, fed_5 hx]
            refine z_iconst F dX10_feed_79 1 (by decide) 80 rfl ?_
            refine z_iadd F dX10_feed_80 81 rfl ?_
            refine z_iast F dX10_feed_81 rfl (show vp_in (nI 5) 385 from vp_in_nI (by decide) (by decide)) 82 rfl ?_
            rw [tn_5, nI_1]
            refine z_iinc F dX10_feed_82 3 rfl 1 (by decide) [(0, _), (1, _), (3, _), (4, _)] rfl (by decide) 85 rfl ?_
            refine z_goto F dX10_feed_85 40 (by decide) ?_
            rw [nI_1, up_u2, up_u2]
            exact ih (k + 1) (by omega) (by omega)
      refine z_iconst F dX10_feed_37 0 (by decide) 38 rfl ?_
      refine z_istore F dX10_feed_38 [(0, _), (1, _), (3, _), (4, _)] rfl (by decide) 40 rfl ?_
      have L := loop40 9 0 (by omega) (by omega)
      rw [show fedR w (σ 1) 0 = σ 1 from rfl, up_id] at L
      exact L
    · skip
      refine z_aload_n F dX10_feed_30 0 rfl 31 rfl ?_
      refine z_ldc F dX10_feed_31 m_1007 33 rfl ?_
      rw [lo4]
      refine z_callVi F dX10_feed_33 m_1002 iX10_error jX10_error rfl zc9 rfl (kX10_error σ (k := 4) (by decide) (by decide)) rfl (by decide) (Nat.le_of_ble_eq_true rfl) 36 rfl (fun r33 s33 c33 => ?_)
      refine z_ri F dX10_feed_36 ?_
      obtain ⟨rfl, rfl⟩ := c33
      exact finM (by
        unfold aFeed
        rw [if_pos h7, e5, if_neg (fun z => h27 ?_)]
        rw [show (60 : Int32) = nI 60 from rfl, pk_sub t60] at z
        exact nI_le (b := 60) (by have := le_nI z (by omega) (by omega); omega) (by decide)) MO.rf
  · skip
    have h7 := bI0.mp h7
    refine z_aload_n F dX10_feed_10 0 rfl 11 rfl ?_
    refine z_ldc F dX10_feed_11 m_1001 13 rfl ?_
    rw [lo1]
    refine z_callVi F dX10_feed_13 m_1002 iX10_error jX10_error rfl zc9 rfl (kX10_error σ (k := 1) (by decide) (by decide)) rfl (by decide) (Nat.le_of_ble_eq_true rfl) 16 rfl (fun r13 s13 c13 => ?_)
    refine z_ri F dX10_feed_16 ?_
    obtain ⟨rfl, rfl⟩ := c13
    exact finM (by
      unfold aFeed
      (repeat' split) <;> first | rfl | contradiction | (exfalso; simp only [Int32.lt_iff_toInt_lt, Int32.le_iff_toInt_le, ← Int32.toInt_inj, Int32.reduceToInt] at *; omega)) MO.rf
