/-! counts, images, what is told; witnesses and odds; the tape -/
def aCount (μ : z_M) (w : Int32) : Op := if w = 0 then (μ 1 2, μ) else if w = 1 then (μ 1 0, μ) else if w = 2 then (μ 1 3, μ) else if w = 3 then (μ 1 4, μ) else if w = 4 then (nI (allN (μ 1)), μ) else if w = 5 then (μ 1 5, μ) else if w = 6 then (μ 1 6, μ) else if w = 7 then (μ 0 18, μ) else if w = 8 then (μ 1 1, μ) else er μ 1
def aTold (μ : z_M) (k : Int32) : Op := if 1 ≤ k ∧ k ≤ 6 then (μ 4 k.toNatClampNeg, μ) else er μ 1
def aImage (μ : z_M) : Op := (μ 0 3 + 1, z_u2 (z_up μ 2 (μ 1)) 0 3 (μ 0 3 + 1))
def aRestore (μ : z_M) : Op := if μ 0 3 = 0 then er μ 2 else (μ 2 0, z_up μ 1 (μ 2))
def aTell (μ : z_M) (v : Int32) : Op := if μ 1 6 < 24 then (μ 1 6 + 1, z_up μ 1 (upd (upd (μ 1) (119 + wN (μ 1)) v) 6 (μ 1 6 + 1))) else er μ 4
def chkN (r : Rw) : Nat := fstF (fun i => !(decide (i < nP r) && decide (r (119 + i) = sightS r i))) (wN r) 0
def aCheck (μ : z_M) : Op := (if chkN (μ 1) = wN (μ 1) then 0 else nI (1 + chkN (μ 1)), z_up μ 1 (upd (μ 1) 6 0))
def aBody (μ : z_M) (i : Int32) : Op := if 0 ≤ i ∧ i < μ 0 18 then (μ 12 i.toNatClampNeg, μ) else er μ 2
def gdF (t b : Nat) : Nat → Nat
  | 0 => 1
  | d + 1 => if 1 < d + 1 ∧ t % (d + 1) = 0 ∧ b % (d + 1) = 0 then d + 1 else gdF t b d
def aOdds (μ : z_M) (x w : Int32) : Op := if (0 ≤ x ∧ x < μ 1 2) ∧ 0 ≤ w ∧ w ≤ 1 then (if μ 1 2 - 1 < 1 then er μ 3 else (if w = 0 then nI (thruN (μ 1) x.toNatClampNeg / gdF (thruN (μ 1) x.toNatClampNeg) (nP (μ 1) - 1) (nP (μ 1) - 1)) else nI ((nP (μ 1) - 1) / gdF (thruN (μ 1) x.toNatClampNeg) (nP (μ 1) - 1) (nP (μ 1) - 1)), μ)) else er μ 1
def witS (r : Rw) (P : Int32) : Nat → Nat
  | 0 => 256
  | s + 1 => if (witS r P s = 256 ∨ pcN s < pcN (witS r P s)) ∧ P &&& (nI (seenN r s) ^^^ (-1)) = 0 then s else witS r P s
def aWitnesses (μ : z_M) (P : Int32) : Op := if 0 ≤ P ∧ P < nI (2 ^ nP (μ 1)) then (if witS (μ 1) P (2 ^ nP (μ 1)) = 256 then er μ 2 else (nI (witS (μ 1) P (2 ^ nP (μ 1))), μ)) else er μ 1
def bytC (w : Int64) (k : Nat) : Int32 := (w.toUInt64 >>> ((8 * nI k : Int32).toInt64.toUInt64 &&& Int64.toUInt64 63)).toInt64.toInt32 &&& 255
def fedR (w : Int64) (r : Rw) : Nat → Rw
  | 0 => r
  | k + 1 => upd (upd (fedR w r k) (59 + (tN r + k)) (bytC w k)) 5 (nI (tN r + k + 1))
def aFeed (μ : z_M) (w : Int64) (n : Int32) : Op := if 1 ≤ n ∧ n ≤ 8 then (if n ≤ 60 - μ 1 5 then (nI (tN (μ 1) + n.toNatClampNeg), z_up μ 1 (fedR w (μ 1) n.toNatClampNeg)) else er μ 4) else er μ 1
theorem rm_at : ∀ d, d < 9 → ∀ t, t < 9 → 1 ≤ d → nI t - nI t / nI d * nI d = nI (t % d) ∧ nI t / nI d = nI (t / d) := by decide +kernel
theorem gd_1 (t b : Nat) : ∀ d, 1 ≤ gdF t b d ∧ gdF t b d ≤ max d 1
  | 0 => by simp [gdF]
  | d + 1 => by
    have := gd_1 t b d
    unfold gdF; split <;> omega
theorem wit_rng (r : Rw) (P : Int32) : ∀ s, witS r P s = 256 ∨ witS r P s < s
  | 0 => Or.inl rfl
  | s + 1 => by
    have := wit_rng r P s
    unfold witS; split <;> omega
theorem and_255 (x : Int32) : ∃ c, c < 256 ∧ x &&& 255 = nI c := by
  refine ⟨(x &&& 255).toBitVec.toNat, ?_, ?_⟩
  · rw [Int32.toBitVec_and, BitVec.toNat_and]
    exact Nat.lt_of_le_of_lt Nat.and_le_right (by decide)
  · apply Int32.toBitVec_inj.mp
    simp [nI, Int32.toBitVec_ofNat]
theorem fed_out {w : Int64} {r : Rw} {j : Nat} : ∀ {k : Nat}, tN r + k ≤ 60 → j ≠ 5 → (j < 59 + tN r ∨ 59 + (tN r + k) ≤ j) → fedR w r k j = r j
  | 0, _, _, _ => rfl
  | k + 1, h, h5, hj => by
    show upd (upd (fedR w r k) _ _) 5 _ j = _
    rw [upd_at, if_neg h5, upd_at, if_neg (by omega)]
    exact fed_out (by omega) h5 (by omega)
theorem fed_5 {w : Int64} {r : Rw} (h : VX r) : ∀ k, fedR w r k 5 = nI (tN r + k)
  | 0 => h.1
  | k + 1 => by show upd (upd (fedR w r k) _ _) 5 _ 5 = _; rw [upd_at, if_pos rfl]; rfl
theorem fed_t {w : Int64} {r : Rw} (h : VX r) {k : Nat} (hk : tN r + k ≤ 60) : tN (fedR w r k) = tN r + k := by
  show (fedR w r k 5).toNatClampNeg = _
  rw [fed_5 h, nI_clamp (by omega)]
theorem fed_X {w : Int64} {r : Rw} (h : VX r) : ∀ {k : Nat}, tN r + k ≤ 60 → VX (fedR w r k)
  | 0, _ => h
  | k + 1, hk => by
    have ih := fed_X (w := w) h (k := k) (by omega)
    have e6 : fedR w r (k + 1) 6 = r 6 := fed_out hk (by decide) (by omega)
    refine ⟨by rw [fed_5 h, fed_t h hk], by rw [fed_t h hk]; exact hk, fun j hj => ?_, ?_, ?_⟩
    · rw [fed_t h hk] at hj
      show ∃ c, c < 256 ∧ upd (upd (fedR w r k) _ _) 5 _ (59 + j) = nI c
      rw [upd_at, if_neg (by omega), upd_at]
      by_cases q : 59 + j = 59 + (tN r + k)
      · rw [if_pos q]; exact and_255 _
      · rw [if_neg q]; exact ih.2.2.1 j (by rw [fed_t h (by omega)]; omega)
    · unfold wN; rw [e6]; exact h.2.2.2.1
    · unfold wN; rw [e6]; exact h.2.2.2.2
def trM (μ : z_M) (L : List Int32) : z_M := z_u2 (z_up μ 12 (fun j => if j < L.length then L.getD j 0 else μ 12 j)) 0 18 (nI L.length)
theorem Rel.trace {σ σ' μ : z_M} {K : Nat} {k m : Int32} {t : Bool} {L : List Int32} (h : Rel σ μ) (hs : MS [54, 55, 56] σ σ') (hv : VoI σ' K k m t L) : Rel σ' (trM μ L) := by
  obtain ⟨h1, h2, a1, a2, a3, a4, a5⟩ := h
  have e : ∀ q, q ≠ 0 → q ≠ 12 → trM μ L q = μ q := fun q q0 q1 => by unfold trM; rw [u2_o q0, up_o q1]
  have e0 : ∀ q, q ≠ 18 → trM μ L 0 q = μ 0 q := fun q hq => by unfold trM; rw [u2_k hq, up_o (by decide)]
  refine ⟨by rw [e 1 (by decide) (by decide)]; exact h1.ms hs (by decide), by rw [e 1 (by decide) (by decide)]; exact h2, ?_, ?_, ?_, ?_, ?_, L.length, hv.2.2.1, ?_, fun j hj => ?_⟩
  · rw [e0 3 (by decide)]; exact (congrFun (hs 0 (by decide)) 7).trans a1
  · rw [e0 3 (by decide), e 2 (by decide) (by decide)]
    rcases a2 with z | z
    · exact Or.inl z
    · exact Or.inr ⟨z.1.ms hs (by decide), z.2⟩
  · intro k h1 h6; rw [e 4 (by decide) (by decide)]; exact (congrFun (hs 70 (by decide)) k).trans (a3 k h1 h6)
  · intro s hs4
    rw [e 5 (by decide) (by decide), e 6 (by decide) (by decide), e 7 (by decide) (by decide), hs (58 + 3 * s) (by simp; omega), hs (59 + 3 * s) (by simp; omega), hs (60 + 3 * s) (by simp; omega)]
    exact a4 s hs4
  · unfold trM; rw [u2_same]; exact hv.2.1
  · unfold trM; rw [u2_same]
  · unfold trM; rw [u2_o (by decide), up_same, if_pos hj]; exact hv.2.2.2 j hj
set_option maxHeartbeats 400000 in
set_option maxRecDepth 10000 in
theorem kX9_count {l : Launch} {E : z_E} (σ : z_M) {μ : z_M} (hR : Rel σ μ) (w : Int32)  : z_C l E shC 2 yX9_count cX9_count 2 (some FieldType.int) [.ref (z_ad E 0), .int w] σ (z_Pi (fun rv σ' => rv = (aCount μ w).1 ∧ Rel σ' (aCount μ w).2)) := by
  refine z_intro iX9_count (Nat.le_of_ble_eq_true rfl) (fun K F => ?_)
  have hc : σ 2 0 = μ 1 2 := hR.1.1.1
  have hn : μ 1 2 = nI (nP (μ 1)) := hR.2.1.1.1
  have h8 : nP (μ 1) ≤ 8 := hR.n8
  refine z_iload_n F dX9_count_0 1 rfl 1 rfl ?_
  by_cases e1_0 : w = 0
  · skip
    refine z_tableIn F dX9_count_1 (by rw [e1_0]; decide) (by rw [e1_0]; decide) (by rw [e1_0]; rfl) 52 (by decide) ?_
    refine z_aload_n F dX9_count_52 0 rfl 53 rfl ?_
    refine z_getR F zc8 dX9_count_53 rfl 0 (by decide) (by decide) (.inl m_302) rfl (by decide) 56 rfl ?_
    refine z_getR F zc7 dX9_count_56 rfl 0 (by decide) (by decide) (.inr ⟨_, m_200⟩) rfl (by decide) 59 rfl ?_
    refine z_getI F zc1 dX9_count_59 rfl 0 (by decide) (by decide) (.inr ⟨_, m_110⟩) rfl 62 rfl ?_
    refine z_ri F dX9_count_62 ?_
    rw [show σ 2 0 = μ 1 2 from hc]
    exact fin (by unfold aCount; simp only [e1_0]; rfl) hR
  by_cases e1_1 : w = 1
  · skip
    refine z_tableIn F dX9_count_1 (by rw [e1_1]; decide) (by rw [e1_1]; decide) (by rw [e1_1]; rfl) 63 (by decide) ?_
    refine z_aload_n F dX9_count_63 0 rfl 64 rfl ?_
    refine z_getR F zc8 dX9_count_64 rfl 0 (by decide) (by decide) (.inl m_302) rfl (by decide) 67 rfl ?_
    refine z_getR F zc7 dX9_count_67 rfl 1 (by decide) (by decide) (.inr ⟨_, m_202⟩) rfl (by decide) 70 rfl ?_
    refine z_getI F zc0 dX9_count_70 rfl 0 (by decide) (by decide) (.inr ⟨_, m_146⟩) rfl 73 rfl ?_
    refine z_ri F dX9_count_73 ?_
    rw [show σ 8 0 = μ 1 0 from hR.crs.1]
    exact fin (by unfold aCount; simp only [e1_1]; rfl) hR
  by_cases e1_2 : w = 2
  · skip
    refine z_tableIn F dX9_count_1 (by rw [e1_2]; decide) (by rw [e1_2]; decide) (by rw [e1_2]; rfl) 74 (by decide) ?_
    refine z_aload_n F dX9_count_74 0 rfl 75 rfl ?_
    refine z_getR F zc8 dX9_count_75 rfl 0 (by decide) (by decide) (.inl m_302) rfl (by decide) 78 rfl ?_
    refine z_getR F zc7 dX9_count_78 rfl 1 (by decide) (by decide) (.inr ⟨_, m_202⟩) rfl (by decide) 81 rfl ?_
    refine z_getI F zc0 dX9_count_81 rfl 1 (by decide) (by decide) (.inr ⟨_, m_149⟩) rfl 84 rfl ?_
    refine z_ri F dX9_count_84 ?_
    rw [show σ 8 1 = μ 1 3 from hR.crs.2.1]
    exact fin (by unfold aCount; simp only [e1_2]; rfl) hR
  by_cases e1_3 : w = 3
  · skip
    refine z_tableIn F dX9_count_1 (by rw [e1_3]; decide) (by rw [e1_3]; decide) (by rw [e1_3]; rfl) 85 (by decide) ?_
    refine z_aload_n F dX9_count_85 0 rfl 86 rfl ?_
    refine z_getR F zc8 dX9_count_86 rfl 0 (by decide) (by decide) (.inl m_302) rfl (by decide) 89 rfl ?_
    refine z_getR F zc7 dX9_count_89 rfl 1 (by decide) (by decide) (.inr ⟨_, m_202⟩) rfl (by decide) 92 rfl ?_
    refine z_getI F zc0 dX9_count_92 rfl 2 (by decide) (by decide) (.inr ⟨_, m_152⟩) rfl 95 rfl ?_
    refine z_ri F dX9_count_95 ?_
    rw [show σ 8 2 = μ 1 4 from hR.crs.2.2.1]
    exact fin (by unfold aCount; simp only [e1_3]; rfl) hR
  by_cases e1_4 : w = 4
  · skip
    refine z_tableIn F dX9_count_1 (by rw [e1_4]; decide) (by rw [e1_4]; decide) (by rw [e1_4]; rfl) 96 (by decide) ?_
    refine z_aload_n F dX9_count_96 0 rfl 97 rfl ?_
    refine z_getR F zc8 dX9_count_97 rfl 0 (by decide) (by decide) (.inl m_302) rfl (by decide) 100 rfl ?_
    refine z_getR F zc7 dX9_count_100 rfl 1 (by decide) (by decide) (.inr ⟨_, m_202⟩) rfl (by decide) 103 rfl ?_
    refine z_callVp F dX9_count_103 m_671 iX0_seenTogether jX0_seenTogether rfl zc0 rfl (kX0_seenTogetherN σ (s := sN (μ 1)) (hR.crs.sn hR.vt hR.vk) (fun q => (sN_lt hR.vt hR.vk q).2.1)) rfl (by decide) (Nat.le_of_ble_eq_true rfl) 106 rfl ?_
    refine z_ri F dX9_count_106 ?_
    rw [all_8 h8]
    exact fin (by unfold aCount; simp only [e1_4]; rfl) hR
  by_cases e1_5 : w = 5
  · skip
    refine z_tableIn F dX9_count_1 (by rw [e1_5]; decide) (by rw [e1_5]; decide) (by rw [e1_5]; rfl) 107 (by decide) ?_
    refine z_aload_n F dX9_count_107 0 rfl 108 rfl ?_
    refine z_getR F zc8 dX9_count_108 rfl 0 (by decide) (by decide) (.inl m_302) rfl (by decide) 111 rfl ?_
    refine z_getR F zc7 dX9_count_111 rfl 5 (by decide) (by decide) (.inr ⟨_, m_209⟩) rfl (by decide) 114 rfl ?_
    refine z_callVp F dX9_count_114 m_503 iX4_size jX4_size rfl zc3 rfl (kX4_size σ (S := shC) (r := 21) (a := 22) (cap := 60) rfl rfl (by decide)) rfl (by decide) (Nat.le_of_ble_eq_true rfl) 117 rfl ?_
    refine z_ri F dX9_count_117 ?_
    rw [show σ 21 1 = μ 1 5 from hR.tap.1]
    exact fin (by unfold aCount; simp only [e1_5]; rfl) hR
  by_cases e1_6 : w = 6
  · skip
    refine z_tableIn F dX9_count_1 (by rw [e1_6]; decide) (by rw [e1_6]; decide) (by rw [e1_6]; rfl) 118 (by decide) ?_
    refine z_aload_n F dX9_count_118 0 rfl 119 rfl ?_
    refine z_getR F zc8 dX9_count_119 rfl 0 (by decide) (by decide) (.inl m_302) rfl (by decide) 122 rfl ?_
    refine z_getR F zc7 dX9_count_122 rfl 6 (by decide) (by decide) (.inr ⟨_, m_212⟩) rfl (by decide) 125 rfl ?_
    refine z_callVp F dX9_count_125 m_503 iX4_size jX4_size rfl zc3 rfl (kX4_size σ (S := shC) (r := 23) (a := 24) (cap := 24) rfl rfl (by decide)) rfl (by decide) (Nat.le_of_ble_eq_true rfl) 128 rfl ?_
    refine z_ri F dX9_count_128 ?_
    rw [show σ 23 1 = μ 1 6 from hR.wai.1]
    exact fin (by unfold aCount; simp only [e1_6]; rfl) hR
  by_cases e1_7 : w = 7
  · skip
    refine z_tableIn F dX9_count_1 (by rw [e1_7]; decide) (by rw [e1_7]; decide) (by rw [e1_7]; rfl) 129 (by decide) ?_
    refine z_aload_n F dX9_count_129 0 rfl 130 rfl ?_
    refine z_getR F zc8 dX9_count_130 rfl 4 (by decide) (by decide) (.inl m_306) rfl (by decide) 133 rfl ?_
    refine z_getR F zc6 dX9_count_133 rfl 0 (by decide) (by decide) (.inr ⟨_, m_267⟩) rfl (by decide) 136 rfl ?_
    refine z_callVp F dX9_count_136 m_503 iX4_size jX4_size rfl zc3 rfl (kX4_size σ (S := shC) (r := 55) (a := 56) (cap := 30) rfl rfl (by decide)) rfl (by decide) (Nat.le_of_ble_eq_true rfl) 139 rfl ?_
    refine z_ri F dX9_count_139 ?_
    rw [show σ 55 1 = μ 0 18 from hR.2.2.2.2.2.2.1]
    exact fin (by unfold aCount; simp only [e1_7]; rfl) hR
  by_cases e1_8 : w = 8
  · skip
    refine z_tableIn F dX9_count_1 (by rw [e1_8]; decide) (by rw [e1_8]; decide) (by rw [e1_8]; rfl) 140 (by decide) ?_
    refine z_aload_n F dX9_count_140 0 rfl 141 rfl ?_
    refine z_getR F zc8 dX9_count_141 rfl 0 (by decide) (by decide) (.inl m_302) rfl (by decide) 144 rfl ?_
    refine z_getI F zc7 dX9_count_144 rfl 7 (by decide) (by decide) (.inr ⟨_, m_214⟩) rfl 147 rfl ?_
    refine z_ri F dX9_count_147 ?_
    rw [show σ 1 7 = μ 1 1 from hR.1.2.2.2.2.2.2.2.2]
    exact fin (by unfold aCount; simp only [e1_8]; rfl) hR
  refine z_tableOut F dX9_count_1 (by have t0 := w.toInt; have t1 := lv_neT e1_0 (a := 0) rfl; have t2 := lv_neT e1_1 (a := 1) rfl; have t3 := lv_neT e1_2 (a := 2) rfl; have t4 := lv_neT e1_3 (a := 3) rfl; have t5 := lv_neT e1_4 (a := 4) rfl; have t6 := lv_neT e1_5 (a := 5) rfl; have t7 := lv_neT e1_6 (a := 6) rfl; have t8 := lv_neT e1_7 (a := 7) rfl; have t9 := lv_neT e1_8 (a := 8) rfl; omega) 148 (by decide) ?_
  refine z_aload_n F dX9_count_148 0 rfl 149 rfl ?_
  refine z_iconst F dX9_count_149 1 (by decide) 150 rfl ?_
  refine z_callVi F dX9_count_150 m_334 iX9_fail jX9_fail rfl zc8 rfl (kX9_fail σ (k := 1) (by decide) (by decide)) rfl (by decide) (Nat.le_of_ble_eq_true rfl) 153 rfl (fun r150 s150 c150 => ?_)
  refine z_ri F dX9_count_153 ?_
  obtain ⟨rfl, rfl⟩ := c150
  exact fin (by
    unfold aCount
    (repeat' split) <;> first | rfl | contradiction | (exfalso; simp only [Int32.lt_iff_toInt_lt, Int32.le_iff_toInt_le, ← Int32.toInt_inj, Int32.reduceToInt] at *; omega)) (hR.fail (by decide) (by decide))
set_option maxHeartbeats 400000 in
set_option maxRecDepth 10000 in
theorem kX9_told {l : Launch} {E : z_E} (σ : z_M) {μ : z_M} (hR : Rel σ μ) (k : Int32)  : z_C l E shC 1 yX9_told cX9_told 2 (some FieldType.int) [.ref (z_ad E 0), .int k] σ (z_Pi (fun rv σ' => rv = (aTold μ k).1 ∧ Rel σ' (aTold μ k).2)) := by
  refine z_intro iX9_told (Nat.le_of_ble_eq_true rfl) (fun K F => ?_)
  have hc : σ 2 0 = μ 1 2 := hR.1.1.1
  have hn : μ 1 2 = nI (nP (μ 1)) := hR.2.1.1.1
  have h8 : nP (μ 1) ≤ 8 := hR.n8
  refine z_iload_n F dX9_told_0 1 rfl 1 rfl ?_
  refine z_iconst F dX9_told_1 1 (by decide) 2 rfl ?_
  refine z_icmp_lt F dX9_told_2 11 (by decide) 5 rfl (fun h2 => ?_) (fun h2 => ?_)
  · skip
    refine z_aload_n F dX9_told_11 0 rfl 12 rfl ?_
    refine z_iconst F dX9_told_12 1 (by decide) 13 rfl ?_
    refine z_callVi F dX9_told_13 m_334 iX9_fail jX9_fail rfl zc8 rfl (kX9_fail σ (k := 1) (by decide) (by decide)) rfl (by decide) (Nat.le_of_ble_eq_true rfl) 16 rfl (fun r13 s13 c13 => ?_)
    refine z_ri F dX9_told_16 ?_
    obtain ⟨rfl, rfl⟩ := c13
    exact fin (by
      unfold aTold
      (repeat' split) <;> first | rfl | contradiction | (exfalso; simp only [Int32.lt_iff_toInt_lt, Int32.le_iff_toInt_le, ← Int32.toInt_inj, Int32.reduceToInt] at *; omega)) (hR.fail (by decide) (by decide))
  · skip
    refine z_iload_n F dX9_told_5 1 rfl 6 rfl ?_
    refine z_bipush F dX9_told_6 6 (by decide) 8 rfl ?_
    refine z_icmp_le F dX9_told_8 17 (by decide) 11 rfl (fun h8 => ?_) (fun h8 => ?_)
    · skip
      obtain ⟨q, hq, rfl⟩ : ∃ q, q < 7 ∧ k = nI q := isP_of (n := 7) ⟨by show 0 ≤ k; simp only [Int32.lt_iff_toInt_lt, Int32.le_iff_toInt_le, ← Int32.toInt_inj, Int32.reduceToInt] at *; omega, by show k < 7; simp only [Int32.lt_iff_toInt_lt, Int32.le_iff_toInt_le, ← Int32.toInt_inj, Int32.reduceToInt] at *; omega⟩ (by decide)
      have q31 : q < 2 ^ 31 := by omega
      have q1 : 1 ≤ q := by
        rcases Nat.eq_zero_or_pos q with z | z
        · subst z; exact absurd (show nI 0 < 1 by decide) h2
        · exact z
      refine z_aload_n F dX9_told_17 0 rfl 18 rfl ?_
      refine z_getR F zc8 dX9_told_18 rfl 6 (by decide) (by decide) (.inl m_308) rfl (by decide) 21 rfl ?_
      refine z_iload_n F dX9_told_21 1 rfl 22 rfl ?_
      refine z_iald F dX9_told_22 rfl (vp_in_nI (by omega) (by decide)) 23 rfl ?_
      rw [nI_clamp q31]
      refine z_ri F dX9_told_23 ?_
      rw [show σ 70 q = μ 4 q from hR.2.2.2.2.1 q q1 (by omega)]
      exact fin (by
        unfold aTold
        simp only [nI_clamp q31]
        (repeat' split) <;> first | rfl | contradiction | (exfalso; simp only [Int32.lt_iff_toInt_lt, Int32.le_iff_toInt_le, ← Int32.toInt_inj, Int32.reduceToInt] at *; omega)) hR
    · skip
      refine z_aload_n F dX9_told_11 0 rfl 12 rfl ?_
      refine z_iconst F dX9_told_12 1 (by decide) 13 rfl ?_
      refine z_callVi F dX9_told_13 m_334 iX9_fail jX9_fail rfl zc8 rfl (kX9_fail σ (k := 1) (by decide) (by decide)) rfl (by decide) (Nat.le_of_ble_eq_true rfl) 16 rfl (fun r13 s13 c13 => ?_)
      refine z_ri F dX9_told_16 ?_
      obtain ⟨rfl, rfl⟩ := c13
      exact fin (by
        unfold aTold
        (repeat' split) <;> first | rfl | contradiction | (exfalso; simp only [Int32.lt_iff_toInt_lt, Int32.le_iff_toInt_le, ← Int32.toInt_inj, Int32.reduceToInt] at *; omega)) (hR.fail (by decide) (by decide))
set_option maxHeartbeats 400000 in
set_option maxRecDepth 10000 in
theorem kX9_image {l : Launch} {E : z_E} (σ : z_M) {μ : z_M} (hR : Rel σ μ)   : z_C l E shC 4 yX9_image cX9_image 1 (some FieldType.int) [.ref (z_ad E 0)] σ (z_Pi (fun rv σ' => rv = (aImage μ).1 ∧ Rel σ' (aImage μ).2)) := by
  refine z_intro iX9_image (Nat.le_of_ble_eq_true rfl) (fun K F => ?_)
  have hc : σ 2 0 = μ 1 2 := hR.1.1.1
  have hn : μ 1 2 = nI (nP (μ 1)) := hR.2.1.1.1
  have h8 : nP (μ 1) ≤ 8 := hR.n8
  refine z_aload_n F dX9_image_0 0 rfl 1 rfl ?_
  refine z_getR F zc8 dX9_image_1 rfl 1 (by decide) (by decide) (.inl m_303) rfl (by decide) 4 rfl ?_
  refine z_aload_n F dX9_image_4 0 rfl 5 rfl ?_
  refine z_getR F zc8 dX9_image_5 rfl 0 (by decide) (by decide) (.inl m_302) rfl (by decide) 8 rfl ?_
  refine z_callVv F dX9_image_8 m_892 iX8_copy jX8_copy rfl zc7 rfl (kX8_copyB σ (r := μ 1) hR.1 hR.2.1) rfl (by decide) (Nat.le_of_ble_eq_true rfl) 11 rfl (fun s8 c8 => ?_)
  refine z_aload_n F dX9_image_11 0 rfl 12 rfl ?_
  refine z_dup F dX9_image_12 rfl 13 rfl ?_
  refine z_getI F zc8 dX9_image_13 rfl 7 (by decide) (by decide) (.inl m_309) rfl 16 rfl ?_
  refine z_iconst F dX9_image_16 1 (by decide) 17 rfl ?_
  refine z_iadd F dX9_image_17 18 rfl ?_
  refine z_putI F zc8 dX9_image_18 rfl 7 (by decide) (by decide) (.inl m_309) rfl rfl z_pI 21 rfl ?_
  refine z_aload_n F dX9_image_21 0 rfl 22 rfl ?_
  refine z_getI F zc8 dX9_image_22 rfl 7 (by decide) (by decide) (.inl m_309) rfl 25 rfl ?_
  refine z_ri F dX9_image_25 ?_
  have e0 : σ 0 7 = μ 0 3 := hR.2.2.1
  have e1 : s8 0 7 = μ 0 3 := (congrFun (c8.1 0 (by decide)) 7).trans e0
  obtain ⟨h1, h2, a1, a2, a3, a4, a5⟩ := hR
  have hs : MS (0 :: wobj 25) σ (z_u2 s8 0 7 (s8 0 7 + 1)) := (c8.1.sub (by decide)).u2 (by decide)
  rw [e1] at hs
  have e : ∀ q, q ≠ 0 → q ≠ 2 → z_u2 (z_up μ 2 (μ 1)) 0 3 (μ 0 3 + 1) q = μ q := fun q q0 q1 => by rw [u2_o q0, up_o q1]
  rw [show z_u2 s8 0 7 (s8 0 7 + 1) 0 7 = s8 0 7 + 1 from u2_same, e1]
  refine fin rfl ⟨by rw [e 1 (by decide) (by decide)]; exact h1.ms hs (by decide), by rw [e 1 (by decide) (by decide)]; exact h2, by rw [u2_same, u2_same], Or.inr ?_, ?_, ?_, ?_, ?_⟩
  · rw [u2_o (show (2 : Nat) ≠ 0 by decide), up_same]
    exact ⟨c8.2.ms (σ' := z_u2 s8 0 7 (μ 0 3 + 1)) (G := [0]) (MS.rf.u2 (by decide)) (by decide), h2⟩
  · intro k h3 h4; rw [e 4 (by decide) (by decide)]; exact (congrFun (hs 70 (by decide)) k).trans (a3 k h3 h4)
  · intro s hs4
    rw [e 5 (by decide) (by decide), e 6 (by decide) (by decide), e 7 (by decide) (by decide), hs (58 + 3 * s) (by simp [wobj]; omega), hs (59 + 3 * s) (by simp [wobj]; omega), hs (60 + 3 * s) (by simp [wobj]; omega)]
    exact a4 s hs4
  · rw [hs 55 (by decide), u2_k (by decide), up_o (by decide)]; exact a5.1
  · rw [hs 56 (by decide), u2_k (by decide), up_o (by decide), u2_o (show (12 : Nat) ≠ 0 by decide), up_o (by decide)]; exact a5.2
set_option maxHeartbeats 400000 in
set_option maxRecDepth 10000 in
theorem kX9_restore {l : Launch} {E : z_E} (σ : z_M) {μ : z_M} (hR : Rel σ μ)   : z_C l E shC 4 yX9_restore cX9_restore 1 (some FieldType.int) [.ref (z_ad E 0)] σ (z_Pi (fun rv σ' => rv = (aRestore μ).1 ∧ Rel σ' (aRestore μ).2)) := by
  refine z_intro iX9_restore (Nat.le_of_ble_eq_true rfl) (fun K F => ?_)
  have hc : σ 2 0 = μ 1 2 := hR.1.1.1
  have hn : μ 1 2 = nI (nP (μ 1)) := hR.2.1.1.1
  have h8 : nP (μ 1) ≤ 8 := hR.n8
  refine z_aload_n F dX9_restore_0 0 rfl 1 rfl ?_
  refine z_getI F zc8 dX9_restore_1 rfl 7 (by decide) (by decide) (.inl m_309) rfl 4 rfl ?_
  have e0 : σ 0 7 = μ 0 3 := hR.2.2.1
  rw [e0]
  refine z_if_ne F dX9_restore_4 13 (by decide) 7 rfl (fun h4 => ?_) (fun h4 => ?_)
  · skip
    have hw := hR.2.2.2.1.resolve_left h4
    refine z_aload_n F dX9_restore_13 0 rfl 14 rfl ?_
    refine z_getR F zc8 dX9_restore_14 rfl 0 (by decide) (by decide) (.inl m_302) rfl (by decide) 17 rfl ?_
    refine z_aload_n F dX9_restore_17 0 rfl 18 rfl ?_
    refine z_getR F zc8 dX9_restore_18 rfl 1 (by decide) (by decide) (.inl m_303) rfl (by decide) 21 rfl ?_
    refine z_callVv F dX9_restore_21 m_892 iX8_copy jX8_copy rfl zc7 rfl (kX8_copyA σ (r := μ 2) hw.1 hw.2) rfl (by decide) (Nat.le_of_ble_eq_true rfl) 24 rfl (fun s21 c21 => ?_)
    refine z_aload_n F dX9_restore_24 0 rfl 25 rfl ?_
    refine z_getR F zc8 dX9_restore_25 rfl 0 (by decide) (by decide) (.inl m_302) rfl (by decide) 28 rfl ?_
    refine z_getR F zc7 dX9_restore_28 rfl 1 (by decide) (by decide) (.inr ⟨_, m_202⟩) rfl (by decide) 31 rfl ?_
    refine z_getI F zc0 dX9_restore_31 rfl 0 (by decide) (by decide) (.inr ⟨_, m_146⟩) rfl 34 rfl ?_
    refine z_ri F dX9_restore_34 ?_
    rw [show s21 8 0 = μ 2 0 from c21.2.2.2.2.2.2.1.1]
    exact fin (by unfold aRestore; rw [if_neg h4]) (hR.wor c21.1 (by decide) c21.2 hw.2)
  · skip
    refine z_aload_n F dX9_restore_7 0 rfl 8 rfl ?_
    refine z_iconst F dX9_restore_8 2 (by decide) 9 rfl ?_
    refine z_callVi F dX9_restore_9 m_334 iX9_fail jX9_fail rfl zc8 rfl (kX9_fail σ (k := 2) (by decide) (by decide)) rfl (by decide) (Nat.le_of_ble_eq_true rfl) 12 rfl (fun r9 s9 c9 => ?_)
    refine z_ri F dX9_restore_12 ?_
    obtain ⟨rfl, rfl⟩ := c9
    exact fin (by unfold aRestore; rw [if_pos h4]; rfl) (hR.fail (by decide) (by decide))
set_option maxHeartbeats 1000000 in
set_option maxRecDepth 10000 in
theorem kX9_tell {l : Launch} {E : z_E} (σ : z_M) {μ : z_M} (hR : Rel σ μ) (v : Int32)  : z_C l E shC 1 yX9_tell cX9_tell 2 (some FieldType.int) [.ref (z_ad E 0), .int v] σ (z_Pi (fun rv σ' => rv = (aTell μ v).1 ∧ Rel σ' (aTell μ v).2)) := by
  refine z_intro iX9_tell (Nat.le_of_ble_eq_true rfl) (fun K F => ?_)
  have hc : σ 2 0 = μ 1 2 := hR.1.1.1
  have hn : μ 1 2 = nI (nP (μ 1)) := hR.2.1.1.1
  have h8 : nP (μ 1) ≤ 8 := hR.n8
  have hx := hR.vx
  have hw := hR.wai
  have e6 : σ 23 1 = nI (wN (μ 1)) := hw.1.trans hx.2.2.2.1
  have w24 := hx.2.2.2.2
  refine z_aload_n F dX9_tell_0 0 rfl 1 rfl ?_
  refine z_getR F zc8 dX9_tell_1 rfl 0 (by decide) (by decide) (.inl m_302) rfl (by decide) 4 rfl ?_
  refine z_getR F zc7 dX9_tell_4 rfl 6 (by decide) (by decide) (.inr ⟨_, m_212⟩) rfl (by decide) 7 rfl ?_
  refine z_iconst F dX9_tell_7 1 (by decide) 8 rfl ?_
  refine z_callVp F dX9_tell_8 m_495 iX4_hasRoom jX4_hasRoom rfl zc3 rfl (kX4_hasRoom σ (S := shC) (r := 23) (a := 24) (cap := 24) rfl rfl (by decide) _) rfl (by decide) (Nat.le_of_ble_eq_true rfl) 11 rfl ?_
  refine z_if_ne F dX9_tell_11 20 (by decide) 14 rfl (fun h11 => ?_) (fun h11 => ?_)
  · skip
    have h11 := bI1.mp h11
    have hwl : wN (μ 1) < 24 := by
      have h3 : nI 1 ≤ nI 24 - nI (wN (μ 1)) := e6 ▸ h11
      rw [pk_sub w24] at h3
      have := le_nI h3 (by decide) (by omega); omega
    refine z_aload_n F dX9_tell_20 0 rfl 21 rfl ?_
    refine z_getR F zc8 dX9_tell_21 rfl 0 (by decide) (by decide) (.inl m_302) rfl (by decide) 24 rfl ?_
    refine z_getR F zc7 dX9_tell_24 rfl 6 (by decide) (by decide) (.inr ⟨_, m_212⟩) rfl (by decide) 27 rfl ?_
    refine z_iload_n F dX9_tell_27 1 rfl 28 rfl ?_
    refine z_callVu F dX9_tell_28 m_499 iX4_add jX4_add rfl zc3 rfl (kX4_add σ (S := shC) (r := 23) (a := 24) (cap := 24) rfl rfl (by decide) (n := wN (μ 1)) e6 w24 (by decide) v) rfl (by decide) (Nat.le_of_ble_eq_true rfl) 31 rfl ?_
    rw [if_pos hwl]
    refine z_aload_n F dX9_tell_31 0 rfl 32 rfl ?_
    refine z_getR F zc8 dX9_tell_32 rfl 0 (by decide) (by decide) (.inl m_302) rfl (by decide) 35 rfl ?_
    refine z_getR F zc7 dX9_tell_35 rfl 6 (by decide) (by decide) (.inr ⟨_, m_212⟩) rfl (by decide) 38 rfl ?_
    refine z_callVp F dX9_tell_38 m_503 iX4_size jX4_size rfl zc3 rfl (kX4_size _ (S := shC) (r := 23) (a := 24) (cap := 24) rfl rfl (by decide)) rfl (by decide) (Nat.le_of_ble_eq_true rfl) 41 rfl ?_
    refine z_ri F dX9_tell_41 ?_
    rw [u2_same]
    have er6 : upd (upd (μ 1) (119 + wN (μ 1)) v) 6 (μ 1 6 + 1) 6 = nI (wN (μ 1) + 1) := by rw [upd_at, if_pos rfl, hx.2.2.2.1, nI_1]
    have ew : wN (upd (upd (μ 1) (119 + wN (μ 1)) v) 6 (μ 1 6 + 1)) = wN (μ 1) + 1 := by
      show (upd (upd (μ 1) (119 + wN (μ 1)) v) 6 (μ 1 6 + 1) 6).toNatClampNeg = _
      rw [er6, nI_clamp (by omega)]
    have he : ∀ k, k ≠ 6 → k < 119 ∨ 143 ≤ k → upd (upd (μ 1) (119 + wN (μ 1)) v) 6 (μ 1 6 + 1) k = μ 1 k := fun k h1 h2 => by rw [upd_at, upd_at, if_neg h1, if_neg (by omega)]
    have et : tN (upd (upd (μ 1) (119 + wN (μ 1)) v) 6 (μ 1 6 + 1)) = tN (μ 1) := by unfold tN; rw [he 5 (by decide) (by decide)]
    refine fin (m := z_up μ 1 (upd (upd (μ 1) (119 + wN (μ 1)) v) 6 (μ 1 6 + 1))) (by unfold aTell; rw [if_pos (by rw [hx.2.2.2.1]; exact nI_lt hwl (by decide)), hx.2.2.2.1, nI_1]) (hR.wait (G := [23, 24]) ((MS.rf.u2 (by decide)).u2 (by decide)) (by decide) he ⟨?_, fun k hk => ?_⟩ ⟨?_, ?_, fun k hk => ?_, ?_, ?_⟩)
    · show z_u2 (z_u2 σ 24 (wN (μ 1)) v) 23 1 _ 23 1 = _
      rw [u2_same, er6]
    · show z_u2 (z_u2 σ 24 (wN (μ 1)) v) 23 1 _ 24 k = _
      rw [ew] at hk
      rw [u2_o (by decide), u2_at, upd_at, upd_at, if_neg (show ¬ 119 + k = 6 by omega)]
      by_cases z : k = wN (μ 1)
      · rw [if_pos ⟨rfl, z⟩, if_pos (by omega)]
      · rw [if_neg (fun q => z q.2), if_neg (by omega)]; exact hw.2 k (by omega)
    · rw [he 5 (by decide) (by decide), et]; exact hx.1
    · rw [et]; exact hx.2.1
    · rw [et] at hk
      have h60 := hx.2.1
      rw [he _ (by omega) (by omega)]
      exact hx.2.2.1 k hk
    · rw [er6, ew]
    · rw [ew]; omega
  · skip
    have h11 := bI0.mp h11
    refine z_aload_n F dX9_tell_14 0 rfl 15 rfl ?_
    refine z_iconst F dX9_tell_15 4 (by decide) 16 rfl ?_
    refine z_callVi F dX9_tell_16 m_334 iX9_fail jX9_fail rfl zc8 rfl (kX9_fail σ (k := 4) (by decide) (by decide)) rfl (by decide) (Nat.le_of_ble_eq_true rfl) 19 rfl (fun r16 s16 c16 => ?_)
    refine z_ri F dX9_tell_19 ?_
    have hwl : wN (μ 1) = 24 := by
      rcases Nat.lt_or_ge (wN (μ 1)) 24 with z | z
      · exact absurd (by rw [e6, pk_sub w24]; exact nI_le (a := 1) (by omega) (by omega)) h11
      · omega
    obtain ⟨rfl, rfl⟩ := c16
    exact fin (by unfold aTell; rw [if_neg (by rw [hx.2.2.2.1, hwl]; decide)]; rfl) (hR.fail (by decide) (by decide))
theorem rAt_in {σ : z_M} {r a n i : Nat} (h : σ r 1 = nI n) (hi : i < n) (hn : n < 2 ^ 31) : rAt σ r a (nI i) = σ a i := by
  unfold rAt; rw [if_pos ⟨nI_pos' (by omega), by rw [h]; exact nI_lt hi hn⟩, nI_clamp (by omega)]
theorem Rel.chk {σ τ μ : z_M} (h : Rel σ μ) (hs : MS [20] σ τ) : Rel (z_u2 τ 23 1 0) (z_up μ 1 (upd (μ 1) 6 0)) := by
  have hx := h.vx
  have he : ∀ k, k ≠ 6 → upd (μ 1) 6 0 k = μ 1 k := fun k h1 => by rw [upd_at, if_neg h1]
  have et : tN (upd (μ 1) 6 0) = tN (μ 1) := rfl
  have ew : wN (upd (μ 1) 6 0) = 0 := rfl
  refine h.wait (G := [20, 23]) ((hs.sub (by decide)).u2 (by decide)) (by decide) (fun k h1 _ => he k h1) ⟨u2_same, fun k hk => by rw [ew] at hk; omega⟩ ⟨by rw [et]; exact hx.1, by rw [et]; exact hx.2.1, fun k hk => ?_, by rw [ew]; rfl, by rw [ew]; decide⟩
  rw [et] at hk
  have h60 := hx.2.1
  rw [he _ (by omega)]; exact hx.2.2.1 k hk
set_option maxHeartbeats 400000 in
set_option maxRecDepth 10000 in
theorem kX9_check {l : Launch} {E : z_E} (σ : z_M) {μ : z_M} (hR : Rel σ μ)   : z_C l E shC 4 yX9_check cX9_check 3 (some FieldType.int) [.ref (z_ad E 0)] σ (z_Pi (fun rv σ' => rv = (aCheck μ).1 ∧ Rel σ' (aCheck μ).2)) := by
  refine z_intro iX9_check (Nat.le_of_ble_eq_true rfl) (fun K F => ?_)
  have hc : σ 2 0 = μ 1 2 := hR.1.1.1
  have hn : μ 1 2 = nI (nP (μ 1)) := hR.2.1.1.1
  have h8 : nP (μ 1) ≤ 8 := hR.n8
  have hx := hR.vx
  have hw := hR.wai
  have e6 : σ 23 1 = nI (wN (μ 1)) := hw.1.trans hx.2.2.2.1
  have w24 := hx.2.2.2.2
  have exit4 : ∀ (i : Nat) (τ : z_M) (_ : i < 24) (_ : MS [20] σ τ) (_ : aCheck μ = (nI (1 + i), z_up μ 1 (upd (μ 1) 6 0))), z_X l K E shC 4 3 (z_Pi (fun rv σ' => rv = (aCheck μ).1 ∧ Rel σ' (aCheck μ).2)) 4 [(0, .ref (z_ad E 0)), (1, .int (nI (1 + i))), (2, .int (nI i + 1))] [] τ := by
    intro i τ hi24 hs eop
    refine z_iload_n F dX9_check_4 2 rfl 5 rfl ?_
    refine z_aload_n F dX9_check_5 0 rfl 6 rfl ?_
    refine z_getR F zc8 dX9_check_6 rfl 0 (by decide) (by decide) (.inl m_302) rfl (by decide) 9 rfl ?_
    refine z_getR F zc7 dX9_check_9 rfl 6 (by decide) (by decide) (.inr ⟨_, m_212⟩) rfl (by decide) 12 rfl ?_
    refine z_callVp F dX9_check_12 m_503 iX4_size jX4_size rfl zc3 rfl (kX4_size τ (S := shC) (r := 23) (a := 24) (cap := 24) rfl rfl (by decide)) rfl (by decide) (Nat.le_of_ble_eq_true rfl) 15 rfl ?_
    refine z_icmp_ge F dX9_check_15 75 (by decide) 18 rfl (fun h15 => ?_) (fun h15 => ?_)
    · skip
      refine z_aload_n F dX9_check_75 0 rfl 76 rfl ?_
      refine z_getR F zc8 dX9_check_76 rfl 0 (by decide) (by decide) (.inl m_302) rfl (by decide) 79 rfl ?_
      refine z_getR F zc7 dX9_check_79 rfl 6 (by decide) (by decide) (.inr ⟨_, m_212⟩) rfl (by decide) 82 rfl ?_
      refine z_callVu F dX9_check_82 m_631 iX4_clear jX4_clear rfl zc3 rfl (kX4_clear τ (S := shC) (r := 23) (a := 24) (cap := 24) rfl rfl (by decide)) rfl (by decide) (Nat.le_of_ble_eq_true rfl) 85 rfl ?_
      refine z_iload_n F dX9_check_85 1 rfl 86 rfl ?_
      refine z_ri F dX9_check_86 ?_
      exact fin eop (hR.chk hs)
    · skip
      refine z_iload_n F dX9_check_18 1 rfl 19 rfl ?_
      refine z_if_ne F dX9_check_19 75 (by decide) 22 rfl (fun h19 => ?_) (fun h19 => ?_)
      · skip
        refine z_aload_n F dX9_check_75 0 rfl 76 rfl ?_
        refine z_getR F zc8 dX9_check_76 rfl 0 (by decide) (by decide) (.inl m_302) rfl (by decide) 79 rfl ?_
        refine z_getR F zc7 dX9_check_79 rfl 6 (by decide) (by decide) (.inr ⟨_, m_212⟩) rfl (by decide) 82 rfl ?_
        refine z_callVu F dX9_check_82 m_631 iX4_clear jX4_clear rfl zc3 rfl (kX4_clear τ (S := shC) (r := 23) (a := 24) (cap := 24) rfl rfl (by decide)) rfl (by decide) (Nat.le_of_ble_eq_true rfl) 85 rfl ?_
        refine z_iload_n F dX9_check_85 1 rfl 86 rfl ?_
        refine z_ri F dX9_check_86 ?_
        exact fin eop (hR.chk hs)
      · skip
        exact absurd h19 (nI_ne0 (by omega) (by omega))
  have loop4 : ∀ (f : Nat) (i : Nat) (τ : z_M) (_ : 24 < i + f) (_ : i ≤ wN (μ 1)) (_ : MS [20] σ τ) (_ : ∀ j, j < i → (!(decide (j < nP (μ 1)) && decide (μ 1 (119 + j) = sightS (μ 1) j))) = false), z_X l K E shC 4 3 (z_Pi (fun rv σ' => rv = (aCheck μ).1 ∧ Rel σ' (aCheck μ).2)) 4 [(0, .ref (z_ad E 0)), (1, .int 0), (2, .int (nI i))] [] τ := by
    intro f
    induction f with
    | zero =>
      intro i τ hf hi hs hno
      omega
    | succ f ih =>
      intro i τ hf hi hs hno
      have hR1 := hR.gar hs (by decide) (by decide)
      have e61 : τ 23 1 = nI (wN (μ 1)) := (congrFun (hs 23 (by decide)) 1).trans e6
      have hc1 : τ 2 0 = nI (nP (μ 1)) := hR1.cnt
      refine z_iload_n F dX9_check_4 2 rfl 5 rfl ?_
      refine z_aload_n F dX9_check_5 0 rfl 6 rfl ?_
      refine z_getR F zc8 dX9_check_6 rfl 0 (by decide) (by decide) (.inl m_302) rfl (by decide) 9 rfl ?_
      refine z_getR F zc7 dX9_check_9 rfl 6 (by decide) (by decide) (.inr ⟨_, m_212⟩) rfl (by decide) 12 rfl ?_
      refine z_callVp F dX9_check_12 m_503 iX4_size jX4_size rfl zc3 rfl (kX4_size τ (S := shC) (r := 23) (a := 24) (cap := 24) rfl rfl (by decide)) rfl (by decide) (Nat.le_of_ble_eq_true rfl) 15 rfl ?_
      rw [e61]
      refine z_icmp_ge F dX9_check_15 75 (by decide) 18 rfl (fun h15 => ?_) (fun h15 => ?_)
      · skip
        refine z_aload_n F dX9_check_75 0 rfl 76 rfl ?_
        refine z_getR F zc8 dX9_check_76 rfl 0 (by decide) (by decide) (.inl m_302) rfl (by decide) 79 rfl ?_
        refine z_getR F zc7 dX9_check_79 rfl 6 (by decide) (by decide) (.inr ⟨_, m_212⟩) rfl (by decide) 82 rfl ?_
        refine z_callVu F dX9_check_82 m_631 iX4_clear jX4_clear rfl zc3 rfl (kX4_clear τ (S := shC) (r := 23) (a := 24) (cap := 24) rfl rfl (by decide)) rfl (by decide) (Nat.le_of_ble_eq_true rfl) 85 rfl ?_
        refine z_iload_n F dX9_check_85 1 rfl 86 rfl ?_
        refine z_ri F dX9_check_86 ?_
        have hiw : i = wN (μ 1) := by have := le_nI h15 (by omega) (by omega); omega
        subst hiw
        exact fin (by unfold aCheck; rw [show chkN (μ 1) = wN (μ 1) from fstF_none hno, if_pos rfl]) (hR.chk hs)
      · skip
        have hiw : i < wN (μ 1) := nle_nI h15 (by omega) (by omega)
        refine z_iload_n F dX9_check_18 1 rfl 19 rfl ?_
        refine z_if_ne F dX9_check_19 75 (by decide) 22 rfl (fun h19 => ?_) (fun h19 => ?_)
        · skip
          exact absurd rfl h19
        · skip
          refine z_aload_n F dX9_check_22 0 rfl 23 rfl ?_
          refine z_getR F zc8 dX9_check_23 rfl 0 (by decide) (by decide) (.inl m_302) rfl (by decide) 26 rfl ?_
          refine z_getR F zc7 dX9_check_26 rfl 0 (by decide) (by decide) (.inr ⟨_, m_200⟩) rfl (by decide) 29 rfl ?_
          refine z_iload_n F dX9_check_29 2 rfl 30 rfl ?_
          refine z_callVp F dX9_check_30 m_370 iX1_has jX1_has rfl zc1 rfl (kX1_has τ _) rfl (by decide) (Nat.le_of_ble_eq_true rfl) 33 rfl ?_
          refine z_if_eq F dX9_check_33 65 (by decide) 36 rfl (fun h33 => ?_) (fun h33 => ?_)
          · skip
            have h33 := bI0.mp h33
            refine z_iconst F dX9_check_65 1 (by decide) 66 rfl ?_
            refine z_iload_n F dX9_check_66 2 rfl 67 rfl ?_
            refine z_iadd F dX9_check_67 68 rfl ?_
            refine z_istore_n F dX9_check_68 [(0, _), (1, _), (2, _)] rfl (by decide) 69 rfl ?_
            refine z_iinc F dX9_check_69 2 rfl 1 (by decide) [(0, _), (1, _), (2, _)] rfl (by decide) 72 rfl ?_
            refine z_goto F dX9_check_72 4 (by decide) ?_
            have hbad : (!(decide (i < nP (μ 1)) && decide (μ 1 (119 + i) = sightS (μ 1) i))) = true := by
              rw [decide_eq_false (p := i < nP (μ 1)) (fun z => h33 ⟨nI_pos' (by omega), by rw [hc1]; exact nI_lt z (by omega)⟩)]; rfl
            have ek : chkN (μ 1) = i := fstF_is (p := fun i => !(decide (i < nP (μ 1)) && decide (μ 1 (119 + i) = sightS (μ 1) i))) hiw hbad hno
            rw [show (1 : Int32) + nI i = nI (1 + i) from nI_add 1 i]
            exact exit4 i _ (by omega) hs (by unfold aCheck; rw [ek, if_neg (by omega)])
          · skip
            have h33 := bI1.mp h33
            have hin : i < nP (μ 1) := by
              obtain ⟨j, hj, e⟩ := isP_of (n := nP (μ 1)) (hc1 ▸ h33) (by omega)
              rw [eq_nI e (by omega) (by omega)]; exact hj
            refine z_aload_n F dX9_check_36 0 rfl 37 rfl ?_
            refine z_getR F zc8 dX9_check_37 rfl 0 (by decide) (by decide) (.inl m_302) rfl (by decide) 40 rfl ?_
            refine z_getR F zc7 dX9_check_40 rfl 6 (by decide) (by decide) (.inr ⟨_, m_212⟩) rfl (by decide) 43 rfl ?_
            refine z_iload_n F dX9_check_43 2 rfl 44 rfl ?_
            refine z_callVp F dX9_check_44 m_840 iX4_at jX4_at rfl zc3 rfl (kX4_at τ (S := shC) (r := 23) (a := 24) (cap := 24) rfl rfl (by decide) (n := wN (μ 1)) e61 w24 (by decide) _) rfl (by decide) (Nat.le_of_ble_eq_true rfl) 47 rfl ?_
            rw [rAt_in e61 hiw (by omega), show τ 24 i = μ 1 (119 + i) from hR1.wai.2 i hiw]
            refine z_aload_n F dX9_check_47 0 rfl 48 rfl ?_
            refine z_getR F zc8 dX9_check_48 rfl 0 (by decide) (by decide) (.inl m_302) rfl (by decide) 51 rfl ?_
            refine z_iload_n F dX9_check_51 2 rfl 52 rfl ?_
            refine z_aload_n F dX9_check_52 0 rfl 53 rfl ?_
            refine z_getR F zc8 dX9_check_53 rfl 0 (by decide) (by decide) (.inl m_302) rfl (by decide) 56 rfl ?_
            refine z_getR F zc7 dX9_check_56 rfl 1 (by decide) (by decide) (.inr ⟨_, m_202⟩) rfl (by decide) 59 rfl ?_
            refine z_callVi F dX9_check_59 m_371 iX8_sightOf jX8_sightOf rfl zc7 rfl (kX8_sightOfN τ (r := μ 1) hR1.now hR1.crs.1 hR1.crs.2.1 hin) rfl (by decide) (Nat.le_of_ble_eq_true rfl) 62 rfl (fun r59 s59 c59 => ?_)
            obtain ⟨rfl, m59⟩ := c59
            refine z_icmp_eq F dX9_check_62 69 (by decide) 65 rfl (fun h62 => ?_) (fun h62 => ?_)
            · skip
              refine z_iinc F dX9_check_69 2 rfl 1 (by decide) [(0, _), (1, _), (2, _)] rfl (by decide) 72 rfl ?_
              refine z_goto F dX9_check_72 4 (by decide) ?_
              have hgood : (!(decide (i < nP (μ 1)) && decide (μ 1 (119 + i) = sightS (μ 1) i))) = false := by
                rw [decide_eq_true (p := μ 1 (119 + i) = sightS (μ 1) i) h62, decide_eq_true hin]; rfl
              rw [nI_1]
              exact ih (i + 1) s59 (by omega) (by omega) (hs.tr m59) (fun j hj => by
                rcases Nat.lt_or_ge j i with z | z
                · exact hno j z
                · have : j = i := by omega
                  subst this; exact hgood)
            · skip
              refine z_iconst F dX9_check_65 1 (by decide) 66 rfl ?_
              refine z_iload_n F dX9_check_66 2 rfl 67 rfl ?_
              refine z_iadd F dX9_check_67 68 rfl ?_
              refine z_istore_n F dX9_check_68 [(0, _), (1, _), (2, _)] rfl (by decide) 69 rfl ?_
              refine z_iinc F dX9_check_69 2 rfl 1 (by decide) [(0, _), (1, _), (2, _)] rfl (by decide) 72 rfl ?_
              refine z_goto F dX9_check_72 4 (by decide) ?_
              have hbad : (!(decide (i < nP (μ 1)) && decide (μ 1 (119 + i) = sightS (μ 1) i))) = true := by
                rw [decide_eq_false (p := μ 1 (119 + i) = sightS (μ 1) i) h62]; simp
              have ek : chkN (μ 1) = i := fstF_is (p := fun i => !(decide (i < nP (μ 1)) && decide (μ 1 (119 + i) = sightS (μ 1) i))) hiw hbad hno
              rw [show (1 : Int32) + nI i = nI (1 + i) from nI_add 1 i]
              exact exit4 i _ (by omega) (hs.tr m59) (by unfold aCheck; rw [ek, if_neg (by omega)])
  refine z_iconst F dX9_check_0 0 (by decide) 1 rfl ?_
  refine z_istore_n F dX9_check_1 [(0, _), (1, _)] rfl (by decide) 2 rfl ?_
  refine z_iconst F dX9_check_2 0 (by decide) 3 rfl ?_
  refine z_istore_n F dX9_check_3 [(0, _), (1, _), (2, _)] rfl (by decide) 4 rfl ?_
  exact loop4 25 0 σ (by omega) (by omega) MS.rf (fun j hj => by omega)
set_option maxHeartbeats 400000 in
set_option maxRecDepth 10000 in
theorem kX9_body {l : Launch} {E : z_E} (σ : z_M) {μ : z_M} (hR : Rel σ μ) (i : Int32)  : z_C l E shC 1 yX9_body cX9_body 2 (some FieldType.int) [.ref (z_ad E 0), .int i] σ (z_Pi (fun rv σ' => rv = (aBody μ i).1 ∧ Rel σ' (aBody μ i).2)) := by
  refine z_intro iX9_body (Nat.le_of_ble_eq_true rfl) (fun K F => ?_)
  have hc : σ 2 0 = μ 1 2 := hR.1.1.1
  have hn : μ 1 2 = nI (nP (μ 1)) := hR.2.1.1.1
  have h8 : nP (μ 1) ≤ 8 := hR.n8
  obtain ⟨et, q, hq, eq, hq2⟩ := hR.2.2.2.2.2.2
  have e5 : σ 55 1 = nI q := et.trans eq
  refine z_aload_n F dX9_body_0 0 rfl 1 rfl ?_
  refine z_getR F zc8 dX9_body_1 rfl 4 (by decide) (by decide) (.inl m_306) rfl (by decide) 4 rfl ?_
  refine z_getR F zc6 dX9_body_4 rfl 0 (by decide) (by decide) (.inr ⟨_, m_267⟩) rfl (by decide) 7 rfl ?_
  refine z_iload_n F dX9_body_7 1 rfl 8 rfl ?_
  refine z_callVp F dX9_body_8 m_836 iX4_stands jX4_stands rfl zc3 rfl (kX4_stands σ (S := shC) (r := 55) (a := 56) (cap := 30) rfl rfl (by decide) i) rfl (by decide) (Nat.le_of_ble_eq_true rfl) 11 rfl ?_
  refine z_if_ne F dX9_body_11 20 (by decide) 14 rfl (fun h11 => ?_) (fun h11 => ?_)
  · skip
    have h11 := bI1.mp h11
    refine z_aload_n F dX9_body_20 0 rfl 21 rfl ?_
    refine z_getR F zc8 dX9_body_21 rfl 4 (by decide) (by decide) (.inl m_306) rfl (by decide) 24 rfl ?_
    refine z_getR F zc6 dX9_body_24 rfl 0 (by decide) (by decide) (.inr ⟨_, m_267⟩) rfl (by decide) 27 rfl ?_
    refine z_iload_n F dX9_body_27 1 rfl 28 rfl ?_
    refine z_callVp F dX9_body_28 m_840 iX4_at jX4_at rfl zc3 rfl (kX4_at σ (S := shC) (r := 55) (a := 56) (cap := 30) rfl rfl (by decide) (n := q) e5 hq (by decide) i) rfl (by decide) (Nat.le_of_ble_eq_true rfl) 31 rfl ?_
    refine z_ri F dX9_body_31 ?_
    obtain ⟨j, hj, rfl⟩ := isP_of (n := q) (e5 ▸ h11) (by omega)
    rw [rAt_in e5 hj (by omega), hq2 j hj]
    exact fin (by unfold aBody; rw [if_pos (by rw [← et]; exact h11), nI_clamp (by omega)]) hR
  · skip
    have h11 := bI0.mp h11
    refine z_aload_n F dX9_body_14 0 rfl 15 rfl ?_
    refine z_iconst F dX9_body_15 2 (by decide) 16 rfl ?_
    refine z_callVi F dX9_body_16 m_334 iX9_fail jX9_fail rfl zc8 rfl (kX9_fail σ (k := 2) (by decide) (by decide)) rfl (by decide) (Nat.le_of_ble_eq_true rfl) 19 rfl (fun r16 s16 c16 => ?_)
    refine z_ri F dX9_body_19 ?_
    obtain ⟨rfl, rfl⟩ := c16
    exact fin (by unfold aBody; rw [if_neg (by rw [← et]; exact h11)]; rfl) (hR.fail (by decide) (by decide))
set_option maxHeartbeats 400000 in
set_option maxRecDepth 10000 in
theorem kX9_greatestDivisor {l : Launch} {E : z_E} (σ : z_M) {S : z_Sh} {t b : Nat} (ht : t < 9) (hb : b < 9) : z_C l E S 0 yX9_greatestDivisor cX9_greatestDivisor 3 (some FieldType.int) [.int (nI t), .int (nI b)] σ (z_Pp (nI (gdF t b b)) σ) := by
  refine z_intro iX9_greatestDivisor (Nat.le_of_ble_eq_true rfl) (fun K F => ?_)
  have loop2 : ∀ (f : Nat) (d : Nat) (_ : d < f) (_ : d < 9) (_ : gdF t b d = gdF t b b), z_X l K E S 0 3 (z_Pp (nI (gdF t b b)) σ) 2 [(0, .int (nI t)), (1, .int (nI b)), (2, .int (nI d))] [] σ := by
    intro f
    induction f with
    | zero =>
      intro d hf hd9 hd
      omega
    | succ f ih =>
      intro d hf hd9 hd
      refine z_iload_n F dX9_greatestDivisor_2 2 rfl 3 rfl ?_
      refine z_iconst F dX9_greatestDivisor_3 1 (by decide) 4 rfl ?_
      refine z_icmp_le F dX9_greatestDivisor_4 27 (by decide) 7 rfl (fun h4 => ?_) (fun h4 => ?_)
      · skip
        refine z_iconst F dX9_greatestDivisor_27 1 (by decide) 28 rfl ?_
        refine z_rp F dX9_greatestDivisor_28 ?_ rfl
        have hd1 : d ≤ 1 := le_nI (b := 1) h4 (by omega) (by decide)
        rw [← hd]
        rcases (show d = 0 ∨ d = 1 by omega) with rfl | rfl <;> rfl
      · skip
        have hd1 : 1 < d := nle_nI (b := 1) h4 (by omega) (by decide)
        obtain ⟨e, rfl⟩ : ∃ e, d = e + 1 := ⟨d - 1, by omega⟩
        have r1 := (rm_at (e + 1) hd9 t ht (by omega)).1
        have r2 := (rm_at (e + 1) hd9 b hb (by omega)).1
        refine z_iload_n F dX9_greatestDivisor_7 0 rfl 8 rfl ?_
        refine z_iload_n F dX9_greatestDivisor_8 2 rfl 9 rfl ?_
        refine z_irem F dX9_greatestDivisor_9 (nI_ne0 (by omega) (by omega)) 10 rfl ?_
        rw [r1]
        refine z_if_ne F dX9_greatestDivisor_10 21 (by decide) 13 rfl (fun h10 => ?_) (fun h10 => ?_)
        · skip
          refine z_iinc F dX9_greatestDivisor_21 2 rfl (-1) (by decide) [(0, _), (1, _), (2, _)] rfl (by decide) 24 rfl ?_
          refine z_goto F dX9_greatestDivisor_24 2 (by decide) ?_
          rw [pk_m1]
          refine ih e (by omega) (by omega) ?_
          rw [← hd]
          show _ = (if 1 < e + 1 ∧ t % (e + 1) = 0 ∧ b % (e + 1) = 0 then e + 1 else gdF t b e)
          rw [if_neg (fun z => h10 (by rw [z.2.1]; rfl))]
        · skip
          refine z_iload_n F dX9_greatestDivisor_13 1 rfl 14 rfl ?_
          refine z_iload_n F dX9_greatestDivisor_14 2 rfl 15 rfl ?_
          refine z_irem F dX9_greatestDivisor_15 (nI_ne0 (by omega) (by omega)) 16 rfl ?_
          rw [r2]
          refine z_if_ne F dX9_greatestDivisor_16 21 (by decide) 19 rfl (fun h16 => ?_) (fun h16 => ?_)
          · skip
            refine z_iinc F dX9_greatestDivisor_21 2 rfl (-1) (by decide) [(0, _), (1, _), (2, _)] rfl (by decide) 24 rfl ?_
            refine z_goto F dX9_greatestDivisor_24 2 (by decide) ?_
            rw [pk_m1]
            refine ih e (by omega) (by omega) ?_
            rw [← hd]
            show _ = (if 1 < e + 1 ∧ t % (e + 1) = 0 ∧ b % (e + 1) = 0 then e + 1 else gdF t b e)
            rw [if_neg (fun z => h16 (by rw [z.2.2]; rfl))]
          · skip
            refine z_iload_n F dX9_greatestDivisor_19 2 rfl 20 rfl ?_
            refine z_rp F dX9_greatestDivisor_20 ?_ rfl
            have z1 : t % (e + 1) = 0 := eq_nI (b := 0) h10 (by have := Nat.mod_le t (e + 1); omega) (by decide)
            have z2 : b % (e + 1) = 0 := eq_nI (b := 0) h16 (by have := Nat.mod_le b (e + 1); omega) (by decide)
            rw [← hd]
            show _ = nI (if 1 < e + 1 ∧ t % (e + 1) = 0 ∧ b % (e + 1) = 0 then e + 1 else gdF t b e)
            rw [if_pos ⟨hd1, z1, z2⟩]
  refine z_iload_n F dX9_greatestDivisor_0 1 rfl 1 rfl ?_
  refine z_istore_n F dX9_greatestDivisor_1 [(0, _), (1, _), (2, _)] rfl (by decide) 2 rfl ?_
  exact loop2 9 b (by omega) (by omega) rfl
