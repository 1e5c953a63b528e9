/-! voice, feed, sheets -/
def aVoice (μ : z_M) (x v y : Int32) : Op := if (0 ≤ x ∧ x < μ 1 2) ∧ 0 ≤ v ∧ v < 4 then (if voT x (pO (μ 1) x.toNatClampNeg 1) v.toNatClampNeg = true then er (trM μ (voB (pO (μ 1) x.toNatClampNeg 0).toNatClampNeg x (pO (μ 1) x.toNatClampNeg 1) v.toNatClampNeg)) 6 else (voV (pO (μ 1) x.toNatClampNeg 0).toNatClampNeg x (pO (μ 1) x.toNatClampNeg 1) v.toNatClampNeg y, trM μ (voB (pO (μ 1) x.toNatClampNeg 0).toNatClampNeg x (pO (μ 1) x.toNatClampNeg 1) v.toNatClampNeg))) else er μ 1
def shN (μ : z_M) (s : Nat) (b n : Int32) : z_M := z_up (z_u2 (z_u2 μ 5 s b) 6 s n) 7 (fun c => if 24 * s ≤ c ∧ c < 24 * s + 24 then 0 else μ 7 c)
def aSheet (μ : z_M) (s b n : Int32) : Op := if (0 ≤ s ∧ s < 4) ∧ (b = 0 ∨ b = 8 ∨ b = 16 ∨ b = 32) then (if ¬ b = 0 ∧ n < 0 then er μ 3 else if ¬ b = 0 ∧ 24 < n then er μ 1 else (1, shN μ s.toNatClampNeg b (if b = 0 then 0 else n))) else er μ 1
def cvS (b v : Int32) : Int32 := if b = 8 then v.toInt8.toInt32 else if b = 16 then v.toInt16.toInt32 else v
def aPut (μ : z_M) (s i v : Int32) : Op := if 0 ≤ s ∧ s < 4 then (if μ 5 s.toNatClampNeg = 0 then er μ 2 else if 0 ≤ i ∧ i < μ 6 s.toNatClampNeg then (1, z_u2 μ 7 (24 * s.toNatClampNeg + i.toNatClampNeg) (cvS (μ 5 s.toNatClampNeg) v)) else er μ 1) else er μ 1
abbrev stR (c i n : Int32) : Prop := 0 ≤ i ∧ 0 ≤ n ∧ i ≤ c ∧ n ≤ c - i
theorem shS : ∀ q, q < 4 → shC[58 + 3 * q]? = some (7, 2, [some (59 + 3 * q), none]) ∧ shC[59 + 3 * q]? = some (6, 2, [some (60 + 3 * q), none]) ∧ shC[60 + 3 * q]? = some (0, 24, []) := by
  intro q hq
  rcases (show q = 0 ∨ q = 1 ∨ q = 2 ∨ q = 3 by omega) with rfl | rfl | rfl | rfl <;> exact ⟨rfl, rfl, rfl⟩
theorem shR (q : Nat) (h : q < 4) : ([some 58, some 61, some 64, some 67] : List (Option Nat))[q]? = some (some (58 + 3 * q)) := by
  rcases (show q = 0 ∨ q = 1 ∨ q = 2 ∨ q = 3 by omega) with rfl | rfl | rfl | rfl <;> rfl
theorem Rel.she {σ σ' μ μ' : z_M} {G : List Nat} (h : Rel σ μ) (hs : MS G σ σ') (hG : ∀ o, o ∈ G → 58 ≤ o ∧ o < 70) (hm : ∀ o, o ≠ 5 → o ≠ 6 → o ≠ 7 → μ' o = μ o) (hS : ShR σ' μ') : Rel σ' μ' := by
  have g : ∀ o, o < 58 ∨ 70 ≤ o → o ∉ G := fun o ho z => by have := hG o z; omega
  have e : ∀ o, o < 58 ∨ 70 ≤ o → σ' o = σ o := fun o ho => hs o (g o ho)
  obtain ⟨h1, h2, a1, a2, a3, a4, a5⟩ := h
  refine ⟨by rw [hm 1 (by decide) (by decide) (by decide)]; exact h1.ms hs (fun o ho => g o (by simp [wobj] at ho; omega)), by rw [hm 1 (by decide) (by decide) (by decide)]; exact h2, ?_, ?_, ?_, hS, ?_⟩
  · rw [hm 0 (by decide) (by decide) (by decide), e 0 (by decide)]; exact a1
  · rw [hm 0 (by decide) (by decide) (by decide), hm 2 (by decide) (by decide) (by decide)]
    rcases a2 with z | z
    · exact Or.inl z
    · exact Or.inr ⟨z.1.ms hs (fun o ho => g o (by simp [wobj] at ho; omega)), z.2⟩
  · intro k h3 h4; rw [hm 4 (by decide) (by decide) (by decide), e 70 (by decide)]; exact a3 k h3 h4
  · unfold TrR; rw [hm 0 (by decide) (by decide) (by decide), hm 12 (by decide) (by decide) (by decide), e 55 (by decide), e 56 (by decide)]; exact a5
theorem Rel.sh {σ μ : z_M} (h : Rel σ μ) {s : Nat} (hs : s < 4) : σ (58 + 3 * s) 1 = μ 5 s ∧ σ (59 + 3 * s) 1 = μ 6 s ∧ (∃ q, q ≤ 24 ∧ μ 6 s = nI q ∧ ∀ k, k < q → σ (60 + 3 * s) k = μ 7 (24 * s + k)) ∧ (μ 5 s = 0 ∨ μ 5 s = 8 ∨ μ 5 s = 16 ∨ μ 5 s = 32) := h.2.2.2.2.2.1 s hs
set_option maxHeartbeats 400000 in
set_option maxRecDepth 10000 in
theorem kX5_isMissing {l : Launch} {E : z_E} (σ : z_M) {so ro aa : Nat} (hso : shC[so]? = some (7, 2, [some ro, none])) (hro : shC[ro]? = some (6, 2, [some aa, none])) (haa : shC[aa]? = some (0, 24, [])) (hr9 : ro ≠ 999) (ha9 : aa ≠ 999) : z_C l E shC 0 yX5_isMissing cX5_isMissing 1 (some FieldType.boolean) [.ref (z_ad E so)] σ (z_Pp (bI (σ so 1 = 0)) σ) := by
  refine z_intro iX5_isMissing (Nat.le_of_ble_eq_true rfl) (fun K F => ?_)
  refine z_aload_n F dX5_isMissing_0 0 rfl 1 rfl ?_
  refine z_getI F zc4 dX5_isMissing_1 hso 1 (by decide) (by decide) (.inl m_295) rfl 4 rfl ?_
  refine z_if_ne F dX5_isMissing_4 11 (by decide) 7 rfl (fun h4 => ?_) (fun h4 => ?_)
  · skip
    refine z_iconst F dX5_isMissing_11 0 (by decide) 12 rfl ?_
    refine z_rpz F dX5_isMissing_12 (by first | rfl | exact bIn) ?_ rfl
    exact (bI_f h4).symm
  · skip
    refine z_iconst F dX5_isMissing_7 1 (by decide) 8 rfl ?_
    refine z_goto F dX5_isMissing_8 12 (by decide) ?_
    refine z_rpz F dX5_isMissing_12 (by first | rfl | exact bIn) ?_ rfl
    exact (bI_t h4).symm
set_option maxHeartbeats 400000 in
set_option maxRecDepth 10000 in
theorem kX5_write {l : Launch} {E : z_E} (σ : z_M) {so ro aa : Nat} (hso : shC[so]? = some (7, 2, [some ro, none])) (hro : shC[ro]? = some (6, 2, [some aa, none])) (haa : shC[aa]? = some (0, 24, [])) (hr9 : ro ≠ 999) (ha9 : aa ≠ 999) {n : Nat} (hn : σ ro 1 = nI n) (hc : n ≤ 24) (x v : Int32) : z_C l E shC 2 yX5_write cX5_write 3 none [.ref (z_ad E so), .int x, .int v] σ (z_Pu (if 0 ≤ x ∧ x < σ ro 1 then z_u2 σ aa x.toNatClampNeg (cvS (σ so 1) v) else σ)) := by
  refine z_intro iX5_write (Nat.le_of_ble_eq_true rfl) (fun K F => ?_)
  refine z_aload_n F dX5_write_0 0 rfl 1 rfl ?_
  refine z_getR F zc4 dX5_write_1 hso 0 (by decide) (by decide) (.inl m_293) rfl hr9 4 rfl ?_
  refine z_iload_n F dX5_write_4 1 rfl 5 rfl ?_
  refine z_aload_n F dX5_write_5 0 rfl 6 rfl ?_
  refine z_getI F zc4 dX5_write_6 hso 1 (by decide) (by decide) (.inl m_295) rfl 9 rfl ?_
  refine z_bipush F dX5_write_9 8 (by decide) 11 rfl ?_
  refine z_icmp_ne F dX5_write_11 19 (by decide) 14 rfl (fun h11 => ?_) (fun h11 => ?_)
  · skip
    refine z_aload_n F dX5_write_19 0 rfl 20 rfl ?_
    refine z_getI F zc4 dX5_write_20 hso 1 (by decide) (by decide) (.inl m_295) rfl 23 rfl ?_
    refine z_bipush F dX5_write_23 16 (by decide) 25 rfl ?_
    refine z_icmp_ne F dX5_write_25 33 (by decide) 28 rfl (fun h25 => ?_) (fun h25 => ?_)
    · skip
      refine z_iload_n F dX5_write_33 2 rfl 34 rfl ?_
      refine z_callVu F dX5_write_34 m_862 iX4_write jX4_write rfl zc3 hro (kX4_write σ (S := shC) (r := ro) (a := aa) (cap := 24) hro haa ha9 (n := n) hn hc (by decide) x _) rfl (by decide) (Nat.le_of_ble_eq_true rfl) 37 rfl ?_
      refine z_ru F dX5_write_37 ?_
      unfold cvS; rw [if_neg h11, if_neg h25]
    · skip
      refine z_iload_n F dX5_write_28 2 rfl 29 rfl ?_
      refine z_i2s F dX5_write_29 30 rfl ?_
      refine z_goto F dX5_write_30 34 (by decide) ?_
      refine z_callVu F dX5_write_34 m_862 iX4_write jX4_write rfl zc3 hro (kX4_write σ (S := shC) (r := ro) (a := aa) (cap := 24) hro haa ha9 (n := n) hn hc (by decide) x _) rfl (by decide) (Nat.le_of_ble_eq_true rfl) 37 rfl ?_
      refine z_ru F dX5_write_37 ?_
      unfold cvS; rw [if_neg h11, if_pos h25]
  · skip
    refine z_iload_n F dX5_write_14 2 rfl 15 rfl ?_
    refine z_i2b F dX5_write_15 16 rfl ?_
    refine z_goto F dX5_write_16 34 (by decide) ?_
    refine z_callVu F dX5_write_34 m_862 iX4_write jX4_write rfl zc3 hro (kX4_write σ (S := shC) (r := ro) (a := aa) (cap := 24) hro haa ha9 (n := n) hn hc (by decide) x _) rfl (by decide) (Nat.le_of_ble_eq_true rfl) 37 rfl ?_
    refine z_ru F dX5_write_37 ?_
    unfold cvS; rw [if_pos h11]
set_option maxHeartbeats 400000 in
set_option maxRecDepth 10000 in
theorem kX5_makeNew {l : Launch} {E : z_E} (σ : z_M) {so ro aa : Nat} (hso : shC[so]? = some (7, 2, [some ro, none])) (hro : shC[ro]? = some (6, 2, [some aa, none])) (haa : shC[aa]? = some (0, 24, [])) (hr9 : ro ≠ 999) (ha9 : aa ≠ 999) (hne : so ≠ ro ∧ so ≠ aa ∧ ro ≠ aa) {b n : Int32} {m : Nat} (hb : (b = 0 ∧ m = 0) ∨ (¬ b = 0 ∧ n = nI m ∧ m ≤ 24)) : z_C l E shC 1 yX5_makeNew cX5_makeNew 4 none [.ref (z_ad E so), .int b, .int n] σ (z_Pv (fun σ' => MS [so, ro, aa] σ σ' ∧ σ' so 1 = b ∧ σ' ro 1 = nI m ∧ ∀ k, k < m → σ' aa k = 0)) := by
  refine z_intro iX5_makeNew (Nat.le_of_ble_eq_true rfl) (fun K F => ?_)
  have loop14 : ∀ (f : Nat) (i : Nat) (τ : z_M) (_ : 24 < i + f) (_ : i ≤ m) (_ : MS [so, ro, aa] σ τ) (_ : τ so 1 = b) (_ : τ ro 1 = nI i) (_ : ∀ k, k < i → τ aa k = 0), z_X l K E shC 1 4 (z_Pv (fun σ' => MS [so, ro, aa] σ σ' ∧ σ' so 1 = b ∧ σ' ro 1 = nI m ∧ ∀ k, k < m → σ' aa k = 0)) 14 [(0, .ref (z_ad E so)), (1, .int b), (2, .int n), (3, .int (nI i))] [] τ := by
    intro f
    induction f with
    | zero =>
      intro i τ hf hi hs h1 h2 h3
      omega
    | succ f ih =>
      intro i τ hf hi hs h1 h2 h3
      have hm24 : m ≤ 24 := by omega
      refine z_iload_n F dX5_makeNew_14 3 rfl 15 rfl ?_
      refine z_iload_n F dX5_makeNew_15 2 rfl 16 rfl ?_
      refine z_icmp_ge F dX5_makeNew_16 46 (by decide) 19 rfl (fun h16 => ?_) (fun h16 => ?_)
      · skip
        refine z_rv F dX5_makeNew_46 ?_
        have him : i = m := by
          rcases hb with z | z
          · omega
          · rw [z.2.1] at h16; have := le_nI h16 (by omega) (by omega); omega
        subst him
        exact ⟨hs, h1, h2, h3⟩
      · skip
        refine z_iload_n F dX5_makeNew_19 3 rfl 20 rfl ?_
        refine z_bipush F dX5_makeNew_20 24 (by decide) 22 rfl ?_
        refine z_icmp_ge F dX5_makeNew_22 46 (by decide) 25 rfl (fun h22 => ?_) (fun h22 => ?_)
        · skip
          refine z_rv F dX5_makeNew_46 ?_
          have him : i = m := by
            have : 24 ≤ i := le_nI (a := 24) h22 (by decide) (by omega)
            omega
          subst him
          exact ⟨hs, h1, h2, h3⟩
        · skip
          refine z_aload_n F dX5_makeNew_25 0 rfl 26 rfl ?_
          refine z_getI F zc4 dX5_makeNew_26 hso 1 (by decide) (by decide) (.inl m_295) rfl 29 rfl ?_
          rw [h1]
          refine z_if_eq F dX5_makeNew_29 46 (by decide) 32 rfl (fun h29 => ?_) (fun h29 => ?_)
          · skip
            refine z_rv F dX5_makeNew_46 ?_
            have him : i = m := by
              rcases hb with z | z
              · omega
              · exact absurd h29 z.1
            subst him
            exact ⟨hs, h1, h2, h3⟩
          · skip
            have hb2 := hb.resolve_left (fun z => h29 z.1)
            have him : i < m := by
              rw [hb2.2.1] at h16
              exact nle_nI h16 (by omega) (by omega)
            refine z_aload_n F dX5_makeNew_32 0 rfl 33 rfl ?_
            refine z_getR F zc4 dX5_makeNew_33 hso 0 (by decide) (by decide) (.inl m_293) rfl hr9 36 rfl ?_
            refine z_iconst F dX5_makeNew_36 0 (by decide) 37 rfl ?_
            refine z_callVu F dX5_makeNew_37 m_853 iX4_add jX4_add rfl zc3 hro (kX4_add τ (S := shC) (r := ro) (a := aa) (cap := 24) hro haa ha9 (n := i) h2 (by omega) (by decide) 0) rfl (by decide) (Nat.le_of_ble_eq_true rfl) 40 rfl ?_
            rw [if_pos (show i < 24 by omega)]
            refine z_iinc F dX5_makeNew_40 3 rfl 1 (by decide) [(0, _), (1, _), (2, _), (3, _)] rfl (by decide) 43 rfl ?_
            refine z_goto F dX5_makeNew_43 14 (by decide) ?_
            rw [nI_1]
            refine ih (i + 1) _ (by omega) (by omega) ((hs.u2 (by simp)).u2 (by simp)) ?_ u2_same (fun k hk => ?_)
            · rw [u2_o hne.1, u2_o hne.2.1]; exact h1
            · rw [u2_o (Ne.symm hne.2.2), u2_at]
              by_cases z : k = i
              · rw [if_pos ⟨rfl, z⟩]
              · rw [if_neg (fun w => z w.2)]; exact h3 k (by omega)
  refine z_aload_n F dX5_makeNew_0 0 rfl 1 rfl ?_
  refine z_iload_n F dX5_makeNew_1 1 rfl 2 rfl ?_
  refine z_putI F zc4 dX5_makeNew_2 hso 1 (by decide) (by decide) (.inl m_295) rfl rfl z_pI 5 rfl ?_
  refine z_aload_n F dX5_makeNew_5 0 rfl 6 rfl ?_
  refine z_getR F zc4 dX5_makeNew_6 hso 0 (by decide) (by decide) (.inl m_293) rfl hr9 9 rfl ?_
  refine z_callVu F dX5_makeNew_9 m_852 iX4_clear jX4_clear rfl zc3 hro (kX4_clear _ (S := shC) (r := ro) (a := aa) (cap := 24) hro haa ha9) rfl (by decide) (Nat.le_of_ble_eq_true rfl) 12 rfl ?_
  refine z_iconst F dX5_makeNew_12 0 (by decide) 13 rfl ?_
  refine z_istore_n F dX5_makeNew_13 [(0, _), (1, _), (2, _), (3, _)] rfl (by decide) 14 rfl ?_
  refine loop14 25 0 _ (by omega) (by omega) ((MS.rf.u2 (by simp)).u2 (by simp)) ?_ u2_same (fun k hk => by omega)
  rw [u2_o hne.1]; exact u2_same
set_option maxHeartbeats 2000000 in
set_option maxRecDepth 10000 in
theorem kX9_sheet {l : Launch} {E : z_E} (σ : z_M) {μ : z_M} (hR : Rel σ μ) (s : Int32) (b : Int32) (n : Int32)  : z_C l E shC 2 yX9_sheet cX9_sheet 4 (some FieldType.int) [.ref (z_ad E 0), .int s, .int b, .int n] σ (z_Pi (fun rv σ' => rv = (aSheet μ s b n).1 ∧ Rel σ' (aSheet μ s b n).2)) := by
  refine z_intro iX9_sheet (Nat.le_of_ble_eq_true rfl) (fun K F => ?_)
  have hc : σ 2 0 = μ 1 2 := hR.1.1.1
  have hn : μ 1 2 = nI (nP (μ 1)) := hR.2.1.1.1
  have h8 : nP (μ 1) ≤ 8 := hR.n8
  refine z_iload_n F dX9_sheet_0 1 rfl 1 rfl ?_
  refine z_callSp F dX9_sheet_1 m_773 iX9_isSheet m_774 rfl (kX9_isSheet σ _) rfl (by decide) (Nat.le_of_ble_eq_true rfl) 4 rfl ?_
  refine z_if_eq F dX9_sheet_4 14 (by decide) 7 rfl (fun h4 => ?_) (fun h4 => ?_)
  · skip
    have h4 := bI0.mp h4
    refine z_aload_n F dX9_sheet_14 0 rfl 15 rfl ?_
    refine z_iconst F dX9_sheet_15 1 (by decide) 16 rfl ?_
    refine z_callVi F dX9_sheet_16 m_334 iX9_fail jX9_fail rfl zc8 rfl (kX9_fail σ (k := 1) (by decide) (by decide)) rfl (by decide) (Nat.le_of_ble_eq_true rfl) 19 rfl (fun r16 s16 c16 => ?_)
    refine z_ri F dX9_sheet_19 ?_
    obtain ⟨rfl, rfl⟩ := c16
    exact fin (by
      unfold aSheet
      (repeat' split) <;> first | rfl | contradiction | (exfalso; simp only [Int32.lt_iff_toInt_lt, Int32.le_iff_toInt_le, ← Int32.toInt_inj, Int32.reduceToInt] at *; omega)) (hR.fail (by decide) (by decide))
  · skip
    have h4 := bI1.mp h4
    refine z_iload_n F dX9_sheet_7 2 rfl 8 rfl ?_
    refine z_callSp F dX9_sheet_8 m_845 iX5_areBits m_846 rfl (kX5_areBits σ b) rfl (by decide) (Nat.le_of_ble_eq_true rfl) 11 rfl ?_
    refine z_if_ne F dX9_sheet_11 20 (by decide) 14 rfl (fun h11 => ?_) (fun h11 => ?_)
    · skip
      have h11 := bI1.mp h11
      refine z_iload_n F dX9_sheet_20 2 rfl 21 rfl ?_
      refine z_if_eq F dX9_sheet_21 34 (by decide) 24 rfl (fun h21 => ?_) (fun h21 => ?_)
      · skip
        refine z_iload_n F dX9_sheet_34 2 rfl 35 rfl ?_
        refine z_if_eq F dX9_sheet_35 50 (by decide) 38 rfl (fun h35 => ?_) (fun h35 => ?_)
        · skip
          obtain ⟨q, hq, rfl⟩ : ∃ q, q < 4 ∧ s = nI q := isP_of (n := 4) h4 (by decide)
          have q31 : q < 2 ^ 31 := by omega
          obtain ⟨hso, hro, haa⟩ := shS q hq
          have hr9 : 59 + 3 * q ≠ 999 := by omega
          have ha9 : 60 + 3 * q ≠ 999 := by omega
          have hsh := hR.sh hq
          obtain ⟨m, hm⟩ : ∃ m, (b = 0 ∧ m = 0) ∨ (¬ b = 0 ∧ n = nI m ∧ m ≤ 24) := by
            by_cases z : b = 0
            · exact ⟨0, Or.inl ⟨z, rfl⟩⟩
            · obtain ⟨m, hm, e⟩ : ∃ m, m < 25 ∧ n = nI m := isP_of (n := 25) ⟨by show 0 ≤ n; simp only [Int32.lt_iff_toInt_lt, Int32.le_iff_toInt_le, ← Int32.toInt_inj, Int32.reduceToInt] at *; omega, by show n < 25; simp only [Int32.lt_iff_toInt_lt, Int32.le_iff_toInt_le, ← Int32.toInt_inj, Int32.reduceToInt] at *; omega⟩ (by decide)
              exact ⟨m, Or.inr ⟨z, e, by omega⟩⟩
          have hne : 58 + 3 * q ≠ 59 + 3 * q ∧ 58 + 3 * q ≠ 60 + 3 * q ∧ 59 + 3 * q ≠ 60 + 3 * q := ⟨by omega, by omega, by omega⟩
          have hnm : (if b = 0 then (0 : Int32) else n) = nI m := by
            rcases hm with z | z
            · rw [if_pos z.1, z.2]; rfl
            · rw [if_neg z.1, z.2.1]
          have eop : aSheet μ (nI q) b n = (1, shN μ q b (nI m)) := by
            unfold aSheet
            rw [nI_clamp q31, if_pos ⟨h4, h11⟩, if_neg (fun z => by simp only [Int32.lt_iff_toInt_lt, Int32.le_iff_toInt_le, ← Int32.toInt_inj, Int32.reduceToInt] at *; omega), if_neg (fun z => by simp only [Int32.lt_iff_toInt_lt, Int32.le_iff_toInt_le, ← Int32.toInt_inj, Int32.reduceToInt] at *; omega), hnm]
          refine z_aload_n F dX9_sheet_50 0 rfl 51 rfl ?_
          refine z_getR F zc8 dX9_sheet_51 rfl 5 (by decide) (by decide) (.inl m_307) rfl (by decide) 54 rfl ?_
          refine z_iload_n F dX9_sheet_54 1 rfl 55 rfl ?_
          refine z_aaldS F dX9_sheet_55 rfl (vp_in_nI hq (by decide)) (by rw [nI_clamp q31]; exact shR q hq) 56 rfl ?_
          refine z_iload_n F dX9_sheet_56 2 rfl 57 rfl ?_
          refine z_iload_n F dX9_sheet_57 3 rfl 58 rfl ?_
          refine z_callVv F dX9_sheet_58 m_848 iX5_makeNew jX5_makeNew rfl zc4 hso (kX5_makeNew σ hso hro haa hr9 ha9 hne hm) rfl (by decide) (Nat.le_of_ble_eq_true rfl) 61 rfl (fun s58 c58 => ?_)
          refine z_iconst F dX9_sheet_61 1 (by decide) 62 rfl ?_
          refine z_ri F dX9_sheet_62 ?_
          obtain ⟨m1, m2, m3, m4⟩ := c58
          refine fin eop (hR.she m1 (fun o ho => by simp at ho; omega) (fun o h5 h6 h7 => by unfold shN; rw [up_o h7, u2_o h6, u2_o h5]) (fun t ht => ?_))
          have h5' : ∀ k, shN μ q b (nI m) 5 k = if k = q then b else μ 5 k := fun k => by unfold shN; rw [up_o (by decide), u2_o (by decide), u2_at]; simp
          have h6' : ∀ k, shN μ q b (nI m) 6 k = if k = q then nI m else μ 6 k := fun k => by unfold shN; rw [up_o (by decide), u2_at, u2_o (by decide)]; simp
          have h7' : ∀ c, shN μ q b (nI m) 7 c = if 24 * q ≤ c ∧ c < 24 * q + 24 then 0 else μ 7 c := fun c => by unfold shN; rw [up_same]
          have m24 : m ≤ 24 := by omega
          rw [h5', h6']
          by_cases z : t = q
          · subst z
            rw [if_pos rfl, if_pos rfl]
            exact ⟨m2, m3, ⟨m, m24, rfl, fun k hk => by rw [m4 k hk, h7', if_pos (by omega)]⟩, h11⟩
          · rw [if_neg z, if_neg z, m1 (58 + 3 * t) (by simp; omega), m1 (59 + 3 * t) (by simp; omega), m1 (60 + 3 * t) (by simp; omega)]
            obtain ⟨b1, b2, ⟨u, b3, b4, b5⟩, b6⟩ := hR.sh ht
            exact ⟨b1, b2, ⟨u, b3, b4, fun k hk => by rw [b5 k hk, h7', if_neg (by omega)]⟩, b6⟩
        · skip
          refine z_iload_n F dX9_sheet_38 3 rfl 39 rfl ?_
          refine z_bipush F dX9_sheet_39 24 (by decide) 41 rfl ?_
          refine z_icmp_le F dX9_sheet_41 50 (by decide) 44 rfl (fun h41 => ?_) (fun h41 => ?_)
          · skip
            obtain ⟨q, hq, rfl⟩ : ∃ q, q < 4 ∧ s = nI q := isP_of (n := 4) h4 (by decide)
            have q31 : q < 2 ^ 31 := by omega
            obtain ⟨hso, hro, haa⟩ := shS q hq
            have hr9 : 59 + 3 * q ≠ 999 := by omega
            have ha9 : 60 + 3 * q ≠ 999 := by omega
            have hsh := hR.sh hq
            obtain ⟨m, hm⟩ : ∃ m, (b = 0 ∧ m = 0) ∨ (¬ b = 0 ∧ n = nI m ∧ m ≤ 24) := by
              by_cases z : b = 0
              · exact ⟨0, Or.inl ⟨z, rfl⟩⟩
              · obtain ⟨m, hm, e⟩ : ∃ m, m < 25 ∧ n = nI m := isP_of (n := 25) ⟨by show 0 ≤ n; simp only [Int32.lt_iff_toInt_lt, Int32.le_iff_toInt_le, ← Int32.toInt_inj, Int32.reduceToInt] at *; omega, by show n < 25; simp only [Int32.lt_iff_toInt_lt, Int32.le_iff_toInt_le, ← Int32.toInt_inj, Int32.reduceToInt] at *; omega⟩ (by decide)
                exact ⟨m, Or.inr ⟨z, e, by omega⟩⟩
            have hne : 58 + 3 * q ≠ 59 + 3 * q ∧ 58 + 3 * q ≠ 60 + 3 * q ∧ 59 + 3 * q ≠ 60 + 3 * q := ⟨by omega, by omega, by omega⟩
            have hnm : (if b = 0 then (0 : Int32) else n) = nI m := by
              rcases hm with z | z
              · rw [if_pos z.1, z.2]; rfl
              · rw [if_neg z.1, z.2.1]
            have eop : aSheet μ (nI q) b n = (1, shN μ q b (nI m)) := by
              unfold aSheet
              rw [nI_clamp q31, if_pos ⟨h4, h11⟩, if_neg (fun z => by simp only [Int32.lt_iff_toInt_lt, Int32.le_iff_toInt_le, ← Int32.toInt_inj, Int32.reduceToInt] at *; omega), if_neg (fun z => by simp only [Int32.lt_iff_toInt_lt, Int32.le_iff_toInt_le, ← Int32.toInt_inj, Int32.reduceToInt] at *; omega), hnm]
            refine z_aload_n F dX9_sheet_50 0 rfl 51 rfl ?_
            refine z_getR F zc8 dX9_sheet_51 rfl 5 (by decide) (by decide) (.inl m_307) rfl (by decide) 54 rfl ?_
            refine z_iload_n F dX9_sheet_54 1 rfl 55 rfl ?_
            refine z_aaldS F dX9_sheet_55 rfl (vp_in_nI hq (by decide)) (by rw [nI_clamp q31]; exact shR q hq) 56 rfl ?_
            refine z_iload_n F dX9_sheet_56 2 rfl 57 rfl ?_
            refine z_iload_n F dX9_sheet_57 3 rfl 58 rfl ?_
            refine z_callVv F dX9_sheet_58 m_848 iX5_makeNew jX5_makeNew rfl zc4 hso (kX5_makeNew σ hso hro haa hr9 ha9 hne hm) rfl (by decide) (Nat.le_of_ble_eq_true rfl) 61 rfl (fun s58 c58 => ?_)
            refine z_iconst F dX9_sheet_61 1 (by decide) 62 rfl ?_
            refine z_ri F dX9_sheet_62 ?_
            obtain ⟨m1, m2, m3, m4⟩ := c58
            refine fin eop (hR.she m1 (fun o ho => by simp at ho; omega) (fun o h5 h6 h7 => by unfold shN; rw [up_o h7, u2_o h6, u2_o h5]) (fun t ht => ?_))
            have h5' : ∀ k, shN μ q b (nI m) 5 k = if k = q then b else μ 5 k := fun k => by unfold shN; rw [up_o (by decide), u2_o (by decide), u2_at]; simp
            have h6' : ∀ k, shN μ q b (nI m) 6 k = if k = q then nI m else μ 6 k := fun k => by unfold shN; rw [up_o (by decide), u2_at, u2_o (by decide)]; simp
            have h7' : ∀ c, shN μ q b (nI m) 7 c = if 24 * q ≤ c ∧ c < 24 * q + 24 then 0 else μ 7 c := fun c => by unfold shN; rw [up_same]
            have m24 : m ≤ 24 := by omega
            rw [h5', h6']
            by_cases z : t = q
            · subst z
              rw [if_pos rfl, if_pos rfl]
              exact ⟨m2, m3, ⟨m, m24, rfl, fun k hk => by rw [m4 k hk, h7', if_pos (by omega)]⟩, h11⟩
            · rw [if_neg z, if_neg z, m1 (58 + 3 * t) (by simp; omega), m1 (59 + 3 * t) (by simp; omega), m1 (60 + 3 * t) (by simp; omega)]
              obtain ⟨b1, b2, ⟨u, b3, b4, b5⟩, b6⟩ := hR.sh ht
              exact ⟨b1, b2, ⟨u, b3, b4, fun k hk => by rw [b5 k hk, h7', if_neg (by omega)]⟩, b6⟩
          · skip
            refine z_aload_n F dX9_sheet_44 0 rfl 45 rfl ?_
            refine z_iconst F dX9_sheet_45 1 (by decide) 46 rfl ?_
            refine z_callVi F dX9_sheet_46 m_334 iX9_fail jX9_fail rfl zc8 rfl (kX9_fail σ (k := 1) (by decide) (by decide)) rfl (by decide) (Nat.le_of_ble_eq_true rfl) 49 rfl (fun r46 s46 c46 => ?_)
            refine z_ri F dX9_sheet_49 ?_
            obtain ⟨rfl, rfl⟩ := c46
            exact fin (by
              unfold aSheet
              (repeat' split) <;> first | rfl | contradiction | (exfalso; simp only [Int32.lt_iff_toInt_lt, Int32.le_iff_toInt_le, ← Int32.toInt_inj, Int32.reduceToInt] at *; omega)) (hR.fail (by decide) (by decide))
      · skip
        refine z_iload_n F dX9_sheet_24 3 rfl 25 rfl ?_
        refine z_if_ge F dX9_sheet_25 34 (by decide) 28 rfl (fun h25 => ?_) (fun h25 => ?_)
        · skip
          refine z_iload_n F dX9_sheet_34 2 rfl 35 rfl ?_
          refine z_if_eq F dX9_sheet_35 50 (by decide) 38 rfl (fun h35 => ?_) (fun h35 => ?_)
          · skip
            obtain ⟨q, hq, rfl⟩ : ∃ q, q < 4 ∧ s = nI q := isP_of (n := 4) h4 (by decide)
            have q31 : q < 2 ^ 31 := by omega
            obtain ⟨hso, hro, haa⟩ := shS q hq
            have hr9 : 59 + 3 * q ≠ 999 := by omega
            have ha9 : 60 + 3 * q ≠ 999 := by omega
            have hsh := hR.sh hq
            obtain ⟨m, hm⟩ : ∃ m, (b = 0 ∧ m = 0) ∨ (¬ b = 0 ∧ n = nI m ∧ m ≤ 24) := by
              by_cases z : b = 0
              · exact ⟨0, Or.inl ⟨z, rfl⟩⟩
              · obtain ⟨m, hm, e⟩ : ∃ m, m < 25 ∧ n = nI m := isP_of (n := 25) ⟨by show 0 ≤ n; simp only [Int32.lt_iff_toInt_lt, Int32.le_iff_toInt_le, ← Int32.toInt_inj, Int32.reduceToInt] at *; omega, by show n < 25; simp only [Int32.lt_iff_toInt_lt, Int32.le_iff_toInt_le, ← Int32.toInt_inj, Int32.reduceToInt] at *; omega⟩ (by decide)
                exact ⟨m, Or.inr ⟨z, e, by omega⟩⟩
            have hne : 58 + 3 * q ≠ 59 + 3 * q ∧ 58 + 3 * q ≠ 60 + 3 * q ∧ 59 + 3 * q ≠ 60 + 3 * q := ⟨by omega, by omega, by omega⟩
            have hnm : (if b = 0 then (0 : Int32) else n) = nI m := by
              rcases hm with z | z
              · rw [if_pos z.1, z.2]; rfl
              · rw [if_neg z.1, z.2.1]
            have eop : aSheet μ (nI q) b n = (1, shN μ q b (nI m)) := by
              unfold aSheet
              rw [nI_clamp q31, if_pos ⟨h4, h11⟩, if_neg (fun z => by simp only [Int32.lt_iff_toInt_lt, Int32.le_iff_toInt_le, ← Int32.toInt_inj, Int32.reduceToInt] at *; omega), if_neg (fun z => by simp only [Int32.lt_iff_toInt_lt, Int32.le_iff_toInt_le, ← Int32.toInt_inj, Int32.reduceToInt] at *; omega), hnm]
            refine z_aload_n F dX9_sheet_50 0 rfl 51 rfl ?_
            refine z_getR F zc8 dX9_sheet_51 rfl 5 (by decide) (by decide) (.inl m_307) rfl (by decide) 54 rfl ?_
            refine z_iload_n F dX9_sheet_54 1 rfl 55 rfl ?_
            refine z_aaldS F dX9_sheet_55 rfl (vp_in_nI hq (by decide)) (by rw [nI_clamp q31]; exact shR q hq) 56 rfl ?_
            refine z_iload_n F dX9_sheet_56 2 rfl 57 rfl ?_
            refine z_iload_n F dX9_sheet_57 3 rfl 58 rfl ?_
            refine z_callVv F dX9_sheet_58 m_848 iX5_makeNew jX5_makeNew rfl zc4 hso (kX5_makeNew σ hso hro haa hr9 ha9 hne hm) rfl (by decide) (Nat.le_of_ble_eq_true rfl) 61 rfl (fun s58 c58 => ?_)
            refine z_iconst F dX9_sheet_61 1 (by decide) 62 rfl ?_
            refine z_ri F dX9_sheet_62 ?_
            obtain ⟨m1, m2, m3, m4⟩ := c58
            refine fin eop (hR.she m1 (fun o ho => by simp at ho; omega) (fun o h5 h6 h7 => by unfold shN; rw [up_o h7, u2_o h6, u2_o h5]) (fun t ht => ?_))
            have h5' : ∀ k, shN μ q b (nI m) 5 k = if k = q then b else μ 5 k := fun k => by unfold shN; rw [up_o (by decide), u2_o (by decide), u2_at]; simp
            have h6' : ∀ k, shN μ q b (nI m) 6 k = if k = q then nI m else μ 6 k := fun k => by unfold shN; rw [up_o (by decide), u2_at, u2_o (by decide)]; simp
            have h7' : ∀ c, shN μ q b (nI m) 7 c = if 24 * q ≤ c ∧ c < 24 * q + 24 then 0 else μ 7 c := fun c => by unfold shN; rw [up_same]
            have m24 : m ≤ 24 := by omega
            rw [h5', h6']
            by_cases z : t = q
            · subst z
              rw [if_pos rfl, if_pos rfl]
              exact ⟨m2, m3, ⟨m, m24, rfl, fun k hk => by rw [m4 k hk, h7', if_pos (by omega)]⟩, h11⟩
            · rw [if_neg z, if_neg z, m1 (58 + 3 * t) (by simp; omega), m1 (59 + 3 * t) (by simp; omega), m1 (60 + 3 * t) (by simp; omega)]
              obtain ⟨b1, b2, ⟨u, b3, b4, b5⟩, b6⟩ := hR.sh ht
              exact ⟨b1, b2, ⟨u, b3, b4, fun k hk => by rw [b5 k hk, h7', if_neg (by omega)]⟩, b6⟩
          · skip
            refine z_iload_n F dX9_sheet_38 3 rfl 39 rfl ?_
            refine z_bipush F dX9_sheet_39 24 (by decide) 41 rfl ?_
            refine z_icmp_le F dX9_sheet_41 50 (by decide) 44 rfl (fun h41 => ?_) (fun h41 => ?_)
            · skip
              obtain ⟨q, hq, rfl⟩ : ∃ q, q < 4 ∧ s = nI q := isP_of (n := 4) h4 (by decide)
              have q31 : q < 2 ^ 31 := by omega
              obtain ⟨hso, hro, haa⟩ := shS q hq
              have hr9 : 59 + 3 * q ≠ 999 := by omega
              have ha9 : 60 + 3 * q ≠ 999 := by omega
              have hsh := hR.sh hq
              obtain ⟨m, hm⟩ : ∃ m, (b = 0 ∧ m = 0) ∨ (¬ b = 0 ∧ n = nI m ∧ m ≤ 24) := by
                by_cases z : b = 0
                · exact ⟨0, Or.inl ⟨z, rfl⟩⟩
                · obtain ⟨m, hm, e⟩ : ∃ m, m < 25 ∧ n = nI m := isP_of (n := 25) ⟨by show 0 ≤ n; simp only [Int32.lt_iff_toInt_lt, Int32.le_iff_toInt_le, ← Int32.toInt_inj, Int32.reduceToInt] at *; omega, by show n < 25; simp only [Int32.lt_iff_toInt_lt, Int32.le_iff_toInt_le, ← Int32.toInt_inj, Int32.reduceToInt] at *; omega⟩ (by decide)
                  exact ⟨m, Or.inr ⟨z, e, by omega⟩⟩
              have hne : 58 + 3 * q ≠ 59 + 3 * q ∧ 58 + 3 * q ≠ 60 + 3 * q ∧ 59 + 3 * q ≠ 60 + 3 * q := ⟨by omega, by omega, by omega⟩
              have hnm : (if b = 0 then (0 : Int32) else n) = nI m := by
                rcases hm with z | z
                · rw [if_pos z.1, z.2]; rfl
                · rw [if_neg z.1, z.2.1]
              have eop : aSheet μ (nI q) b n = (1, shN μ q b (nI m)) := by
                unfold aSheet
                rw [nI_clamp q31, if_pos ⟨h4, h11⟩, if_neg (fun z => by simp only [Int32.lt_iff_toInt_lt, Int32.le_iff_toInt_le, ← Int32.toInt_inj, Int32.reduceToInt] at *; omega), if_neg (fun z => by simp only [Int32.lt_iff_toInt_lt, Int32.le_iff_toInt_le, ← Int32.toInt_inj, Int32.reduceToInt] at *; omega), hnm]
              refine z_aload_n F dX9_sheet_50 0 rfl 51 rfl ?_
              refine z_getR F zc8 dX9_sheet_51 rfl 5 (by decide) (by decide) (.inl m_307) rfl (by decide) 54 rfl ?_
              refine z_iload_n F dX9_sheet_54 1 rfl 55 rfl ?_
              refine z_aaldS F dX9_sheet_55 rfl (vp_in_nI hq (by decide)) (by rw [nI_clamp q31]; exact shR q hq) 56 rfl ?_
              refine z_iload_n F dX9_sheet_56 2 rfl 57 rfl ?_
              refine z_iload_n F dX9_sheet_57 3 rfl 58 rfl ?_
              refine z_callVv F dX9_sheet_58 m_848 iX5_makeNew jX5_makeNew rfl zc4 hso (kX5_makeNew σ hso hro haa hr9 ha9 hne hm) rfl (by decide) (Nat.le_of_ble_eq_true rfl) 61 rfl (fun s58 c58 => ?_)
              refine z_iconst F dX9_sheet_61 1 (by decide) 62 rfl ?_
              refine z_ri F dX9_sheet_62 ?_
              obtain ⟨m1, m2, m3, m4⟩ := c58
              refine fin eop (hR.she m1 (fun o ho => by simp at ho; omega) (fun o h5 h6 h7 => by unfold shN; rw [up_o h7, u2_o h6, u2_o h5]) (fun t ht => ?_))
              have h5' : ∀ k, shN μ q b (nI m) 5 k = if k = q then b else μ 5 k := fun k => by unfold shN; rw [up_o (by decide), u2_o (by decide), u2_at]; simp
              have h6' : ∀ k, shN μ q b (nI m) 6 k = if k = q then nI m else μ 6 k := fun k => by unfold shN; rw [up_o (by decide), u2_at, u2_o (by decide)]; simp
              have h7' : ∀ c, shN μ q b (nI m) 7 c = if 24 * q ≤ c ∧ c < 24 * q + 24 then 0 else μ 7 c := fun c => by unfold shN; rw [up_same]
              have m24 : m ≤ 24 := by omega
              rw [h5', h6']
              by_cases z : t = q
              · subst z
                rw [if_pos rfl, if_pos rfl]
                exact ⟨m2, m3, ⟨m, m24, rfl, fun k hk => by rw [m4 k hk, h7', if_pos (by omega)]⟩, h11⟩
              · rw [if_neg z, if_neg z, m1 (58 + 3 * t) (by simp; omega), m1 (59 + 3 * t) (by simp; omega), m1 (60 + 3 * t) (by simp; omega)]
                obtain ⟨b1, b2, ⟨u, b3, b4, b5⟩, b6⟩ := hR.sh ht
                exact ⟨b1, b2, ⟨u, b3, b4, fun k hk => by rw [b5 k hk, h7', if_neg (by omega)]⟩, b6⟩
            · skip
              refine z_aload_n F dX9_sheet_44 0 rfl 45 rfl ?_
              refine z_iconst F dX9_sheet_45 1 (by decide) 46 rfl ?_
              refine z_callVi F dX9_sheet_46 m_334 iX9_fail jX9_fail rfl zc8 rfl (kX9_fail σ (k := 1) (by decide) (by decide)) rfl (by decide) (Nat.le_of_ble_eq_true rfl) 49 rfl (fun r46 s46 c46 => ?_)
              refine z_ri F dX9_sheet_49 ?_
              obtain ⟨rfl, rfl⟩ := c46
              exact fin (by
                unfold aSheet
                (repeat' split) <;> first | rfl | contradiction | (exfalso; simp only [Int32.lt_iff_toInt_lt, Int32.le_iff_toInt_le, ← Int32.toInt_inj, Int32.reduceToInt] at *; omega)) (hR.fail (by decide) (by decide))
        · skip
          refine z_aload_n F dX9_sheet_28 0 rfl 29 rfl ?_
          refine z_iconst F dX9_sheet_29 3 (by decide) 30 rfl ?_
          refine z_callVi F dX9_sheet_30 m_334 iX9_fail jX9_fail rfl zc8 rfl (kX9_fail σ (k := 3) (by decide) (by decide)) rfl (by decide) (Nat.le_of_ble_eq_true rfl) 33 rfl (fun r30 s30 c30 => ?_)
          refine z_ri F dX9_sheet_33 ?_
          obtain ⟨rfl, rfl⟩ := c30
          exact fin (by
            unfold aSheet
            (repeat' split) <;> first | rfl | contradiction | (exfalso; simp only [Int32.lt_iff_toInt_lt, Int32.le_iff_toInt_le, ← Int32.toInt_inj, Int32.reduceToInt] at *; omega)) (hR.fail (by decide) (by decide))
    · skip
      have h11 := bI0.mp h11
      refine z_aload_n F dX9_sheet_14 0 rfl 15 rfl ?_
      refine z_iconst F dX9_sheet_15 1 (by decide) 16 rfl ?_
      refine z_callVi F dX9_sheet_16 m_334 iX9_fail jX9_fail rfl zc8 rfl (kX9_fail σ (k := 1) (by decide) (by decide)) rfl (by decide) (Nat.le_of_ble_eq_true rfl) 19 rfl (fun r16 s16 c16 => ?_)
      refine z_ri F dX9_sheet_19 ?_
      obtain ⟨rfl, rfl⟩ := c16
      exact fin (by
        unfold aSheet
        (repeat' split) <;> first | rfl | contradiction | (exfalso; simp only [Int32.lt_iff_toInt_lt, Int32.le_iff_toInt_le, ← Int32.toInt_inj, Int32.reduceToInt] at *; omega)) (hR.fail (by decide) (by decide))
set_option maxHeartbeats 2000000 in
set_option maxRecDepth 10000 in
theorem kX9_put {l : Launch} {E : z_E} (σ : z_M) {μ : z_M} (hR : Rel σ μ) (s : Int32) (i : Int32) (v : Int32)  : z_C l E shC 3 yX9_put cX9_put 4 (some FieldType.int) [.ref (z_ad E 0), .int s, .int i, .int v] σ (z_Pi (fun rv σ' => rv = (aPut μ s i v).1 ∧ Rel σ' (aPut μ s i v).2)) := by
  refine z_intro iX9_put (Nat.le_of_ble_eq_true rfl) (fun K F => ?_)
  have hc : σ 2 0 = μ 1 2 := hR.1.1.1
  have hn : μ 1 2 = nI (nP (μ 1)) := hR.2.1.1.1
  have h8 : nP (μ 1) ≤ 8 := hR.n8
  refine z_iload_n F dX9_put_0 1 rfl 1 rfl ?_
  refine z_callSp F dX9_put_1 m_773 iX9_isSheet m_774 rfl (kX9_isSheet σ _) rfl (by decide) (Nat.le_of_ble_eq_true rfl) 4 rfl ?_
  refine z_if_ne F dX9_put_4 13 (by decide) 7 rfl (fun h4 => ?_) (fun h4 => ?_)
  · skip
    have h4 := bI1.mp h4
    obtain ⟨q, hq, rfl⟩ : ∃ q, q < 4 ∧ s = nI q := isP_of (n := 4) h4 (by decide)
    have q31 : q < 2 ^ 31 := by omega
    obtain ⟨hso, hro, haa⟩ := shS q hq
    have hr9 : 59 + 3 * q ≠ 999 := by omega
    have ha9 : 60 + 3 * q ≠ 999 := by omega
    have hsh := hR.sh hq
    obtain ⟨u, hu, eu, hu2⟩ := hsh.2.2.1
    have er1 : σ (59 + 3 * q) 1 = nI u := hsh.2.1.trans eu
    refine z_aload_n F dX9_put_13 0 rfl 14 rfl ?_
    refine z_getR F zc8 dX9_put_14 rfl 5 (by decide) (by decide) (.inl m_307) rfl (by decide) 17 rfl ?_
    refine z_iload_n F dX9_put_17 1 rfl 18 rfl ?_
    refine z_aaldS F dX9_put_18 rfl (vp_in_nI hq (by decide)) (by rw [nI_clamp q31]; exact shR q hq) 19 rfl ?_
    refine z_callVp F dX9_put_19 m_776 iX5_isMissing jX5_isMissing rfl zc4 hso (kX5_isMissing σ hso hro haa hr9 ha9) rfl (by decide) (Nat.le_of_ble_eq_true rfl) 22 rfl ?_
    rw [hsh.1]
    refine z_if_eq F dX9_put_22 31 (by decide) 25 rfl (fun h22 => ?_) (fun h22 => ?_)
    · skip
      have h22 := bI0.mp h22
      refine z_aload_n F dX9_put_31 0 rfl 32 rfl ?_
      refine z_getR F zc8 dX9_put_32 rfl 5 (by decide) (by decide) (.inl m_307) rfl (by decide) 35 rfl ?_
      refine z_iload_n F dX9_put_35 1 rfl 36 rfl ?_
      refine z_aaldS F dX9_put_36 rfl (vp_in_nI hq (by decide)) (by rw [nI_clamp q31]; exact shR q hq) 37 rfl ?_
      refine z_getR F zc4 dX9_put_37 hso 0 (by decide) (by decide) (.inr ⟨_, m_294⟩) rfl hr9 40 rfl ?_
      refine z_iload_n F dX9_put_40 2 rfl 41 rfl ?_
      refine z_callVp F dX9_put_41 m_836 iX4_stands jX4_stands rfl zc3 hro (kX4_stands σ (S := shC) (r := 59 + 3 * q) (a := 60 + 3 * q) (cap := 24) hro haa ha9 i) rfl (by decide) (Nat.le_of_ble_eq_true rfl) 44 rfl ?_
      rw [hsh.2.1]
      refine z_if_ne F dX9_put_44 53 (by decide) 47 rfl (fun h44 => ?_) (fun h44 => ?_)
      · skip
        have h44 := bI1.mp h44
        refine z_aload_n F dX9_put_53 0 rfl 54 rfl ?_
        refine z_getR F zc8 dX9_put_54 rfl 5 (by decide) (by decide) (.inl m_307) rfl (by decide) 57 rfl ?_
        refine z_iload_n F dX9_put_57 1 rfl 58 rfl ?_
        refine z_aaldS F dX9_put_58 rfl (vp_in_nI hq (by decide)) (by rw [nI_clamp q31]; exact shR q hq) 59 rfl ?_
        refine z_iload_n F dX9_put_59 2 rfl 60 rfl ?_
        refine z_iload_n F dX9_put_60 3 rfl 61 rfl ?_
        refine z_callVu F dX9_put_61 m_858 iX5_write jX5_write rfl zc4 hso (kX5_write σ hso hro haa hr9 ha9 (n := u) er1 hu i v) rfl (by decide) (Nat.le_of_ble_eq_true rfl) 64 rfl ?_
        rw [hsh.2.1, if_pos h44, hsh.1]
        refine z_iconst F dX9_put_64 1 (by decide) 65 rfl ?_
        refine z_ri F dX9_put_65 ?_
        obtain ⟨j, hj, rfl⟩ := isP_of (n := u) (eu ▸ h44) (by omega)
        rw [nI_clamp (show j < 2 ^ 31 by omega)]
        refine fin (m := z_u2 μ 7 (24 * q + j) (cvS (μ 5 q) v)) (by unfold aPut; rw [nI_clamp q31, if_pos h4, if_neg h22, if_pos h44, nI_clamp (by omega)]) (hR.she (G := [60 + 3 * q]) (MS.rf.u2 (by simp)) (fun o ho => by simp at ho; omega) (fun o h5 h6 h7 => by rw [u2_o h7]) (fun t ht => ?_))
        rw [u2_o (show (5 : Nat) ≠ 7 by decide), u2_o (show (6 : Nat) ≠ 7 by decide), u2_o (by omega), u2_o (by omega)]
        obtain ⟨b1, b2, ⟨w, b3, b4, b5⟩, b6⟩ := hR.sh ht
        refine ⟨b1, b2, ⟨w, b3, b4, fun k hk => ?_⟩, b6⟩
        rw [u2_at, u2_at]
        by_cases z : t = q ∧ k = j
        · rw [if_pos (by omega), if_pos (by omega)]
        · rw [if_neg (by omega), if_neg (by omega)]; exact b5 k hk
      · skip
        have h44 := bI0.mp h44
        refine z_aload_n F dX9_put_47 0 rfl 48 rfl ?_
        refine z_iconst F dX9_put_48 1 (by decide) 49 rfl ?_
        refine z_callVi F dX9_put_49 m_334 iX9_fail jX9_fail rfl zc8 rfl (kX9_fail σ (k := 1) (by decide) (by decide)) rfl (by decide) (Nat.le_of_ble_eq_true rfl) 52 rfl (fun r49 s49 c49 => ?_)
        refine z_ri F dX9_put_52 ?_
        obtain ⟨rfl, rfl⟩ := c49
        exact fin (by unfold aPut; rw [nI_clamp q31, if_pos h4, if_neg h22, if_neg h44]; rfl) (hR.fail (by decide) (by decide))
    · skip
      have h22 := bI1.mp h22
      refine z_aload_n F dX9_put_25 0 rfl 26 rfl ?_
      refine z_iconst F dX9_put_26 2 (by decide) 27 rfl ?_
      refine z_callVi F dX9_put_27 m_334 iX9_fail jX9_fail rfl zc8 rfl (kX9_fail σ (k := 2) (by decide) (by decide)) rfl (by decide) (Nat.le_of_ble_eq_true rfl) 30 rfl (fun r27 s27 c27 => ?_)
      refine z_ri F dX9_put_30 ?_
      obtain ⟨rfl, rfl⟩ := c27
      exact fin (by unfold aPut; rw [nI_clamp q31, if_pos h4, if_pos h22]; rfl) (hR.fail (by decide) (by decide))
  · skip
    have h4 := bI0.mp h4
    refine z_aload_n F dX9_put_7 0 rfl 8 rfl ?_
    refine z_iconst F dX9_put_8 1 (by decide) 9 rfl ?_
    refine z_callVi F dX9_put_9 m_334 iX9_fail jX9_fail rfl zc8 rfl (kX9_fail σ (k := 1) (by decide) (by decide)) rfl (by decide) (Nat.le_of_ble_eq_true rfl) 12 rfl (fun r9 s9 c9 => ?_)
    refine z_ri F dX9_put_12 ?_
    obtain ⟨rfl, rfl⟩ := c9
    exact fin (by
      unfold aPut
      (repeat' split) <;> first | rfl | contradiction | (exfalso; simp only [Int32.lt_iff_toInt_lt, Int32.le_iff_toInt_le, ← Int32.toInt_inj, Int32.reduceToInt] at *; omega)) (hR.fail (by decide) (by decide))
