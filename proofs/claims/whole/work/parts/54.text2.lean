/-! the reference: text -/
theorem MG.mo {a b : z_M} (h : MG a b) : MO a b := by
  refine ⟨fun o ho => h.1 o ?_ ?_ ?_, h.2 3 (by decide), h.2 18 (by decide)⟩ <;> (rintro rfl; simp at ho)
theorem MO.u0 {a b : z_M} {k : Nat} {v : Int32} (h : MO a b) (h3 : 3 ≠ k) (h18 : 18 ≠ k) : MO a (z_u2 b 0 k v) :=
  ⟨fun o ho => by rw [u2_o (by rintro rfl; simp at ho)]; exact h.1 o ho, by rw [u2_k h3]; exact h.2.1, by rw [u2_k h18]; exact h.2.2⟩
theorem MO.up1 {a b : z_M} {f : Nat → Int32} (h : MO a b) : MO (z_up a 1 f) (z_up b 1 f) := by
  refine ⟨fun o ho => ?_, ?_, ?_⟩
  · by_cases z : o = 1
    · subst z; rw [up_same, up_same]
    · rw [up_o z, up_o z]; exact h.1 o ho
  · rw [up_o (by decide), up_o (by decide)]; exact h.2.1
  · rw [up_o (by decide), up_o (by decide)]; exact h.2.2
def tkR (r : Rw) (a : Nat) (L : List (Int32 × Int32)) (k : Nat) : Rw := fun j => if j = a then nI L.length else if a + 1 ≤ j ∧ j < a + 1 + k then (L.getD (j - (a + 1)) (0, 0)).1 else if a + 61 ≤ j ∧ j < a + 61 + k then (L.getD (j - (a + 61)) (0, 0)).2 else r j
theorem tk_0 {r : Rw} {a : Nat} {L : List (Int32 × Int32)} : upd r a (nI L.length) = tkR r a L 0 := by
  funext j; unfold tkR; rw [upd_at]
  split
  · rfl
  · rw [if_neg (by omega), if_neg (by omega)]
theorem tk_s {r : Rw} {a k : Nat} {L : List (Int32 × Int32)} (hk : k < 60) : upd (upd (tkR r a L k) (a + 1 + k) (L.getD k (0, 0)).1) (a + 61 + k) (L.getD k (0, 0)).2 = tkR r a L (k + 1) := by
  funext j
  rw [upd_at, upd_at]
  unfold tkR
  by_cases z1 : j = a + 61 + k
  · subst z1
    rw [if_pos rfl, if_neg (by omega), if_neg (by omega), if_pos (by omega), show a + 61 + k - (a + 61) = k by omega]
  · rw [if_neg z1]
    by_cases z2 : j = a + 1 + k
    · subst z2
      rw [if_pos rfl, if_neg (by omega), if_pos (by omega), show a + 1 + k - (a + 1) = k by omega]
    · rw [if_neg z2]
      by_cases z3 : j = a
      · rw [if_pos z3, if_pos z3]
      · rw [if_neg z3, if_neg z3]
        by_cases z4 : a + 1 ≤ j ∧ j < a + 1 + k
        · rw [if_pos z4, if_pos (by omega)]
        · rw [if_neg z4, if_neg (show ¬ (a + 1 ≤ j ∧ j < a + 1 + (k + 1)) by omega)]
          by_cases z5 : a + 61 ≤ j ∧ j < a + 61 + k
          · rw [if_pos z5, if_pos (by omega)]
          · rw [if_neg z5, if_neg (by omega)]
theorem tk_n {r : Rw} {q : Nat} {L : List (Int32 × Int32)} : tkR r (143 + 121 * q) L L.length = txtR r q L := rfl
set_option maxHeartbeats 2000000 in
set_option maxRecDepth 10000 in
theorem kX10_text {l : Launch} {E : z_E} (σ : z_M) {τ0 : z_M} (hR : Rel τ0 σ) (u : Int32)  : z_C l E shM 43 yX10_text cX10_text 4 (some FieldType.int) [.ref (z_ad E 0), .int u] σ (z_Pi (fun rv μ' => rv = (aText σ u).1 ∧ MO (aText σ u).2 μ')) := by
  refine z_intro iX10_text (Nat.le_of_ble_eq_true rfl) (fun K F => ?_)
  have hn : σ 1 2 = nI (nP (σ 1)) := hR.2.1.1.1
  have h8 : nP (σ 1) ≤ 8 := hR.n8
  have hN : σ 1 2 = nI (nP (σ 1)) ∧ nP (σ 1) ≤ 8 := ⟨hn, h8⟩
  have hx := hR.vx
  have e5 : σ 1 5 = nI (tN (σ 1)) := hx.1
  have t60 := hx.2.1
  refine z_iload_n F dX10_text_0 1 rfl 1 rfl ?_
  refine z_iconst F dX10_text_1 0 (by decide) 2 rfl ?_
  refine z_iconst F dX10_text_2 1 (by decide) 3 rfl ?_
  refine z_callSp F dX10_text_3 m_998 iX10_in m_999 rfl (kX10_in σ _ _ _) rfl (by decide) (Nat.le_of_ble_eq_true rfl) 6 rfl ?_
  refine z_if_ne F dX10_text_6 16 (by decide) 9 rfl (fun h6 => ?_) (fun h6 => ?_)
  · skip
    have h6 := bI1.mp h6
    obtain ⟨q, hq, rfl⟩ := ltI_of (n := 1) h6 (by decide)
    have q31 : q < 2 ^ 31 := by omega
    have hu2 : nI q < 2 := nI_lt (b := 2) hq (by decide)
    refine z_aload_n F dX10_text_16 0 rfl 17 rfl ?_
    refine z_iload_n F dX10_text_17 1 rfl 18 rfl ?_
    refine z_putI F zc9 dX10_text_18 rfl 16 (by decide) (by decide) (.inl m_946) rfl rfl z_pI 21 rfl ?_
    refine z_aload_n F dX10_text_21 0 rfl 22 rfl ?_
    refine z_iconst F dX10_text_22 0 (by decide) 23 rfl ?_
    refine z_putI F zc9 dX10_text_23 rfl 12 (by decide) (by decide) (.inl m_942) rfl rfl z_pI 26 rfl ?_
    refine z_aload_n F dX10_text_26 0 rfl 27 rfl ?_
    refine z_iconst F dX10_text_27 0 (by decide) 28 rfl ?_
    refine z_putI F zc9 dX10_text_28 rfl 13 (by decide) (by decide) (.inl m_943) rfl rfl z_pI 31 rfl ?_
    refine z_aload_n F dX10_text_31 0 rfl 32 rfl ?_
    refine z_iconst F dX10_text_32 0 (by decide) 33 rfl ?_
    refine z_putI F zc9 dX10_text_33 rfl 14 (by decide) (by decide) (.inl m_944) rfl rfl z_pI 36 rfl ?_
    refine z_aload_n F dX10_text_36 0 rfl 37 rfl ?_
    refine z_iconst F dX10_text_37 0 (by decide) 38 rfl ?_
    refine z_putZ F zc9 dX10_text_38 rfl 15 (by decide) (by decide) (.inl m_945) rfl rfl z_pZ rfl rfl 41 rfl ?_
    have hB0 : MdB (z_u2 (z_u2 (z_u2 (z_u2 (z_u2 σ 0 16 (nI q)) 0 12 0) 0 13 0) 0 14 0) 0 15 0) (σ 1) q (5 - 5) 0 := by
      refine ⟨rfl, rfl, rfl, rfl, 0, by decide, rfl⟩
    have hL0 : MdL (z_u2 (z_u2 (z_u2 (z_u2 (z_u2 σ 0 16 (nI q)) 0 12 0) 0 13 0) 0 14 0) 0 15 0) [] := ⟨rfl, fun k hk => by simp at hk⟩
    refine z_aload_n F dX10_text_41 0 rfl 42 rfl ?_
    refine z_callVv F dX10_text_42 m_1129 iX10_any jX10_any rfl zc9 rfl (kX10_top hx hq 0 [] (z_u2 (z_u2 (z_u2 (z_u2 (z_u2 σ 0 16 (nI q)) 0 12 0) 0 13 0) 0 14 0) 0 15 0) (by omega) (by simp) hB0 hL0 u2_same) rfl (by decide) (Nat.le_of_ble_eq_true rfl) 45 rfl (fun s42 c42 => ?_)
    have hg := lev_gd (tbR_T hx) (unt_gd (tbR_T hx) hq 5) 5 (by decide) 0 (by omega)
    have hgn : (topP (tbR (σ 1)) q).1 ≤ tN (σ 1) := hg.2.1
    have hB1 := c42.2.1
    have e1 : s42 1 = σ 1 := hB1.1
    have hB1 : MdB s42 (σ 1) q 0 (topP (tbR (σ 1)) q).1 := hB1
    have hmo : MO σ s42 := (((((MO.rf.u0 (by decide) (by decide)).u0 (by decide) (by decide)).u0 (by decide) (by decide)).u0 (by decide) (by decide)).u0 (by decide) (by decide)).tr c42.1.mo
    refine z_aload_n F dX10_text_45 0 rfl 46 rfl ?_
    refine z_aload_n F dX10_text_46 0 rfl 47 rfl ?_
    refine z_getI F zc9 dX10_text_47 rfl 15 (by decide) (by decide) (.inl m_945) rfl 50 rfl ?_
    rw [c42.2.2.1]
    refine z_if_ne F dX10_text_50 66 (by decide) 53 rfl (fun h50 => ?_) (fun h50 => ?_)
    · skip
      refine z_iconst F dX10_text_66 1 (by decide) 67 rfl ?_
      refine z_goto F dX10_text_67 71 (by decide) ?_
      refine z_putZ F zc9 dX10_text_71 rfl 15 (by decide) (by decide) (.inl m_945) rfl rfl z_pZ rfl rfl 74 rfl ?_
      refine z_aload_n F dX10_text_74 0 rfl 75 rfl ?_
      refine z_getR F zc9 dX10_text_75 rfl 0 (by decide) (by decide) (.inl m_930) rfl (by decide) 78 rfl ?_
      refine z_iconst F dX10_text_78 5 (by decide) 79 rfl ?_
      refine z_iconst F dX10_text_79 0 (by decide) 80 rfl ?_
      refine z_iast F dX10_text_80 rfl (show vp_in (nI 5) 385 from vp_in_nI (by decide) (by decide)) 81 rfl ?_
      rw [tn_5]
      refine z_aload_n F dX10_text_81 0 rfl 82 rfl ?_
      refine z_getI F zc9 dX10_text_82 rfl 15 (by decide) (by decide) (.inl m_945) rfl 85 rfl ?_
      rw [u2_o (show (0 : Nat) ≠ 1 by decide), u2_same]
      refine z_if_eq F dX10_text_85 96 (by decide) 88 rfl (fun h85 => ?_) (fun h85 => ?_)
      · skip
        exact absurd h85 (by decide)
      · skip
        refine z_bipush F dX10_text_88 (-10) (by decide) 90 rfl ?_
        refine z_aload_n F dX10_text_90 0 rfl 91 rfl ?_
        refine z_getI F zc9 dX10_text_91 rfl 13 (by decide) (by decide) (.inl m_943) rfl 94 rfl ?_
        rw [u2_o (show (0 : Nat) ≠ 1 by decide), u2_k (show 13 ≠ 15 by decide), hB1.2.1]
        refine z_isub F dX10_text_94 95 rfl ?_
        refine z_ri F dX10_text_95 ?_
        refine finM (m := z_up σ 1 (upd (σ 1) 5 0)) ?_ ?_
        · unfold aText
          rw [if_pos ⟨h6.1, hu2⟩, nI_clamp q31, if_neg (fun z => (bI1.mp h50) z.1)]
        · have e : z_u2 (z_u2 s42 0 15 1) 1 5 0 = z_up (z_u2 s42 0 15 1) 1 (upd (σ 1) 5 0) := by
            show z_up (z_u2 s42 0 15 1) 1 (upd (z_u2 s42 0 15 1 1) 5 0) = _
            rw [u2_o (show (1 : Nat) ≠ 0 by decide), e1]
          rw [e]
          exact (hmo.u0 (by decide) (by decide)).up1
    · skip
      refine z_aload_n F dX10_text_53 0 rfl 54 rfl ?_
      refine z_getI F zc9 dX10_text_54 rfl 13 (by decide) (by decide) (.inl m_943) rfl 57 rfl ?_
      rw [hB1.2.1]
      refine z_aload_n F dX10_text_57 0 rfl 58 rfl ?_
      refine z_getR F zc9 dX10_text_58 rfl 0 (by decide) (by decide) (.inl m_930) rfl (by decide) 61 rfl ?_
      refine z_iconst F dX10_text_61 5 (by decide) 62 rfl ?_
      refine z_iald F dX10_text_62 rfl (show vp_in (nI 5) 385 from vp_in_nI (by decide) (by decide)) 63 rfl ?_
      rw [tn_5, e1, e5]
      refine z_icmp_ge F dX10_text_63 70 (by decide) 66 rfl (fun h63 => ?_) (fun h63 => ?_)
      · skip
        refine z_iconst F dX10_text_70 0 (by decide) 71 rfl ?_
        refine z_putZ F zc9 dX10_text_71 rfl 15 (by decide) (by decide) (.inl m_945) rfl rfl z_pZ rfl rfl 74 rfl ?_
        refine z_aload_n F dX10_text_74 0 rfl 75 rfl ?_
        refine z_getR F zc9 dX10_text_75 rfl 0 (by decide) (by decide) (.inl m_930) rfl (by decide) 78 rfl ?_
        refine z_iconst F dX10_text_78 5 (by decide) 79 rfl ?_
        refine z_iconst F dX10_text_79 0 (by decide) 80 rfl ?_
        refine z_iast F dX10_text_80 rfl (show vp_in (nI 5) 385 from vp_in_nI (by decide) (by decide)) 81 rfl ?_
        rw [tn_5]
        refine z_aload_n F dX10_text_81 0 rfl 82 rfl ?_
        refine z_getI F zc9 dX10_text_82 rfl 15 (by decide) (by decide) (.inl m_945) rfl 85 rfl ?_
        rw [u2_o (show (0 : Nat) ≠ 1 by decide), u2_same]
        refine z_if_eq F dX10_text_85 96 (by decide) 88 rfl (fun h85 => ?_) (fun h85 => ?_)
        · skip
          refine z_sipush F dX10_text_96 143 (by decide) 99 rfl ?_
          refine z_bipush F dX10_text_99 121 (by decide) 101 rfl ?_
          refine z_iload_n F dX10_text_101 1 rfl 102 rfl ?_
          refine z_imul F dX10_text_102 103 rfl ?_
          refine z_iadd F dX10_text_103 104 rfl ?_
          rw [at_u]
          refine z_istore_n F dX10_text_104 [(0, _), (1, _), (2, _)] rfl (by decide) 105 rfl ?_
          refine z_aload_n F dX10_text_105 0 rfl 106 rfl ?_
          refine z_getR F zc9 dX10_text_106 rfl 0 (by decide) (by decide) (.inl m_930) rfl (by decide) 109 rfl ?_
          refine z_iload_n F dX10_text_109 2 rfl 110 rfl ?_
          refine z_aload_n F dX10_text_110 0 rfl 111 rfl ?_
          refine z_getI F zc9 dX10_text_111 rfl 12 (by decide) (by decide) (.inl m_942) rfl 114 rfl ?_
          have hok : (topP (tbR (σ 1)) q).2.2 = true := Decidable.not_not.mp (bI0.mp h50)
          have hpn : (topP (tbR (σ 1)) q).1 = tN (σ 1) := by have := le_nI h63 (by omega) (by omega); omega
          obtain ⟨L, hL⟩ : ∃ L, (topP (tbR (σ 1)) q).2.1 = L := ⟨_, rfl⟩
          have hl : MdL s42 L := by rw [← hL]; exact c42.2.2.2 hok
          have hlen : L.length ≤ 60 := by
            have h3 := (hg.2.2 hok).1
            have h4 : L.length = (topP (tbR (σ 1)) q).2.1.length := by rw [hL]
            have h5 : (topP (tbR (σ 1)) q).2.1.length = (levP (tbR (σ 1)) (untP (tbR (σ 1)) q 5) 5 0).2.1.length := rfl
            have h6 : (topP (tbR (σ 1)) q).1 = (levP (tbR (σ 1)) (untP (tbR (σ 1)) q 5) 5 0).1 := rfl
            omega
          rw [u2_o (show (0 : Nat) ≠ 1 by decide), u2_k (show 12 ≠ 15 by decide), hl.1]
          refine z_iast F dX10_text_114 rfl (vp_in_nI (by omega) (by decide)) 115 rfl ?_
          rw [nI_clamp (by omega)]
          have e0 : z_u2 (z_u2 (z_u2 s42 0 15 0) 1 5 0) 1 (143 + 121 * q) (nI L.length) = z_up (z_u2 s42 0 15 0) 1 (tkR (upd (σ 1) 5 0) (143 + 121 * q) L 0) := by
            show z_u2 (z_up (z_u2 s42 0 15 0) 1 (upd ((z_u2 s42 0 15 0) 1) 5 0)) 1 _ _ = _
            rw [up_u2, u2_o (show (1 : Nat) ≠ 0 by decide), e1, tk_0]
          rw [e0]
          have loop117 : ∀ (f : Nat) (k : Nat) (_ : 60 < k + f) (_ : k ≤ L.length), z_X l K E shM 43 4 (z_Pi (fun rv μ' => rv = (aText σ (nI q)).1 ∧ MO (aText σ (nI q)).2 μ')) 117 [(0, .ref (z_ad E 0)), (1, .int (nI q)), (2, .int (nI (143 + 121 * q))), (3, .int (nI k))] [] (z_up (z_u2 s42 0 15 0) 1 (tkR (upd (σ 1) 5 0) (143 + 121 * q) L k)) := by
            intro f
            induction f with
            | zero =>
              intro k hf hk
              omega
            | succ f ih =>
              intro k hf hk
              refine z_iload_n F dX10_text_117 3 rfl 118 rfl ?_
              refine z_aload_n F dX10_text_118 0 rfl 119 rfl ?_
              refine z_getI F zc9 dX10_text_119 rfl 12 (by decide) (by decide) (.inl m_942) rfl 122 rfl ?_
              rw [up_o (show (0 : Nat) ≠ 1 by decide), u2_k (show 12 ≠ 15 by decide), hl.1]
              refine z_icmp_ge F dX10_text_122 164 (by decide) 125 rfl (fun h122 => ?_) (fun h122 => ?_)
              · skip
                refine z_iconst F dX10_text_164 1 (by decide) 165 rfl ?_
                refine z_ri F dX10_text_165 ?_
                have hke : k = L.length := by have := le_nI h122 (by omega) (by omega); omega
                subst hke
                refine finM (m := z_up σ 1 (txtR (upd (σ 1) 5 0) q L)) ?_ (by rw [← tk_n]; exact (hmo.u0 (by decide) (by decide)).up1)
                unfold aText
                rw [if_pos ⟨h6.1, hu2⟩, nI_clamp q31, if_pos ⟨hok, hpn⟩, hL]
              · skip
                have hkl : k < L.length := nle_nI h122 (by omega) (by omega)
                refine z_aload_n F dX10_text_125 0 rfl 126 rfl ?_
                refine z_getR F zc9 dX10_text_126 rfl 0 (by decide) (by decide) (.inl m_930) rfl (by decide) 129 rfl ?_
                refine z_iload_n F dX10_text_129 2 rfl 130 rfl ?_
                refine z_iconst F dX10_text_130 1 (by decide) 131 rfl ?_
                refine z_iadd F dX10_text_131 132 rfl ?_
                refine z_iload_n F dX10_text_132 3 rfl 133 rfl ?_
                refine z_iadd F dX10_text_133 134 rfl ?_
                rw [nI_1, nI_add]
                refine z_aload_n F dX10_text_134 0 rfl 135 rfl ?_
                refine z_getR F zc9 dX10_text_135 rfl 8 (by decide) (by decide) (.inl m_938) rfl (by decide) 138 rfl ?_
                refine z_iload_n F dX10_text_138 3 rfl 139 rfl ?_
                refine z_iald F dX10_text_139 rfl (vp_in_nI (by omega) (by decide)) 140 rfl ?_
                rw [nI_clamp (by omega), up_o (show (8 : Nat) ≠ 1 by decide), u2_o (show (8 : Nat) ≠ 0 by decide), (hl.2 k hkl).1]
                refine z_iast F dX10_text_140 rfl (vp_in_nI (by omega) (by decide)) 141 rfl ?_
                rw [nI_clamp (by omega), up_u2]
                refine z_aload_n F dX10_text_141 0 rfl 142 rfl ?_
                refine z_getR F zc9 dX10_text_142 rfl 0 (by decide) (by decide) (.inl m_930) rfl (by decide) 145 rfl ?_
                refine z_iload_n F dX10_text_145 2 rfl 146 rfl ?_
                refine z_bipush F dX10_text_146 61 (by decide) 148 rfl ?_
                refine z_iadd F dX10_text_148 149 rfl ?_
                refine z_iload_n F dX10_text_149 3 rfl 150 rfl ?_
                refine z_iadd F dX10_text_150 151 rfl ?_
                rw [show (61 : Int32) = nI 61 from rfl, nI_add, nI_add]
                refine z_aload_n F dX10_text_151 0 rfl 152 rfl ?_
                refine z_getR F zc9 dX10_text_152 rfl 9 (by decide) (by decide) (.inl m_939) rfl (by decide) 155 rfl ?_
                refine z_iload_n F dX10_text_155 3 rfl 156 rfl ?_
                refine z_iald F dX10_text_156 rfl (vp_in_nI (by omega) (by decide)) 157 rfl ?_
                rw [nI_clamp (by omega), up_o (show (9 : Nat) ≠ 1 by decide), u2_o (show (9 : Nat) ≠ 0 by decide), (hl.2 k hkl).2]
                refine z_iast F dX10_text_157 rfl (vp_in_nI (by omega) (by decide)) 158 rfl ?_
                rw [nI_clamp (by omega), up_u2, tk_s (by omega)]
                refine z_iinc F dX10_text_158 3 rfl 1 (by decide) [(0, _), (1, _), (2, _), (3, _)] rfl (by decide) 161 rfl ?_
                refine z_goto F dX10_text_161 117 (by decide) ?_
                rw [nI_1]
                exact ih (k + 1) (by omega) (by omega)
          refine z_iconst F dX10_text_115 0 (by decide) 116 rfl ?_
          refine z_istore_n F dX10_text_116 [(0, _), (1, _), (2, _), (3, _)] rfl (by decide) 117 rfl ?_
          exact loop117 61 0 (by omega) (by omega)
        · skip
          exact absurd rfl h85
      · skip
        refine z_iconst F dX10_text_66 1 (by decide) 67 rfl ?_
        refine z_goto F dX10_text_67 71 (by decide) ?_
        refine z_putZ F zc9 dX10_text_71 rfl 15 (by decide) (by decide) (.inl m_945) rfl rfl z_pZ rfl rfl 74 rfl ?_
        refine z_aload_n F dX10_text_74 0 rfl 75 rfl ?_
        refine z_getR F zc9 dX10_text_75 rfl 0 (by decide) (by decide) (.inl m_930) rfl (by decide) 78 rfl ?_
        refine z_iconst F dX10_text_78 5 (by decide) 79 rfl ?_
        refine z_iconst F dX10_text_79 0 (by decide) 80 rfl ?_
        refine z_iast F dX10_text_80 rfl (show vp_in (nI 5) 385 from vp_in_nI (by decide) (by decide)) 81 rfl ?_
        rw [tn_5]
        refine z_aload_n F dX10_text_81 0 rfl 82 rfl ?_
        refine z_getI F zc9 dX10_text_82 rfl 15 (by decide) (by decide) (.inl m_945) rfl 85 rfl ?_
        rw [u2_o (show (0 : Nat) ≠ 1 by decide), u2_same]
        refine z_if_eq F dX10_text_85 96 (by decide) 88 rfl (fun h85 => ?_) (fun h85 => ?_)
        · skip
          exact absurd h85 (by decide)
        · skip
          refine z_bipush F dX10_text_88 (-10) (by decide) 90 rfl ?_
          refine z_aload_n F dX10_text_90 0 rfl 91 rfl ?_
          refine z_getI F zc9 dX10_text_91 rfl 13 (by decide) (by decide) (.inl m_943) rfl 94 rfl ?_
          rw [u2_o (show (0 : Nat) ≠ 1 by decide), u2_k (show 13 ≠ 15 by decide), hB1.2.1]
          refine z_isub F dX10_text_94 95 rfl ?_
          refine z_ri F dX10_text_95 ?_
          refine finM (m := z_up σ 1 (upd (σ 1) 5 0)) ?_ ?_
          · unfold aText
            rw [if_pos ⟨h6.1, hu2⟩, nI_clamp q31, if_neg (fun z => h63 (nI_le (by omega) (by omega)))]
          · have e : z_u2 (z_u2 s42 0 15 1) 1 5 0 = z_up (z_u2 s42 0 15 1) 1 (upd (σ 1) 5 0) := by
              show z_up (z_u2 s42 0 15 1) 1 (upd (z_u2 s42 0 15 1 1) 5 0) = _
              rw [u2_o (show (1 : Nat) ≠ 0 by decide), e1]
            rw [e]
            exact (hmo.u0 (by decide) (by decide)).up1
  · skip
    have h6 := bI0.mp h6
    refine z_aload_n F dX10_text_9 0 rfl 10 rfl ?_
    refine z_ldc F dX10_text_10 m_1001 12 rfl ?_
    rw [lo1]
    refine z_callVi F dX10_text_12 m_1002 iX10_error jX10_error rfl zc9 rfl (kX10_error σ (k := 1) (by decide) (by decide)) rfl (by decide) (Nat.le_of_ble_eq_true rfl) 15 rfl (fun r12 s12 c12 => ?_)
    refine z_ri F dX10_text_15 ?_
    obtain ⟨rfl, rfl⟩ := c12
    exact finM (by
      unfold aText
      have hn6 : ¬ (0 ≤ u ∧ u < 2) := fun z => h6 ⟨z.1, by simp only [Int32.lt_iff_toInt_lt, Int32.le_iff_toInt_le, ← Int32.toInt_inj, Int32.reduceToInt] at *; omega⟩
      rw [if_neg hn6]) MO.rf
