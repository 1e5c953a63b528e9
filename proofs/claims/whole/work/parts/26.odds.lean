/-! odds, witnesses, the tape, voices -/
theorem thru_le (r : Rw) (i : Nat) : thruN r i ≤ nP r := cntB_le _ _
theorem seen_8 {r : Rw} (h : nP r ≤ 8) (q : Nat) : orS (fun p => if q.testBit p then sN r p else 0) 8 = seenN r q := orS_cut h (fun i hi => by rw [sN_out hi]; simp)
def lowV (K : Nat) (k x : Int32) : Int32 := if K = 1 then x + k - 4 else if K = 4 then (x + k - 4) * 3 else if K = 6 then 9 else x + k
def lowB (K : Nat) : List Int32 := if K = 1 then [20, 10] else if K = 4 then [50, 20, 10] else if K = 6 then [70] else [10]
def lifV (K : Nat) (k m x : Int32) : Int32 := if K = 2 then 0 - lowV K k x * 2 else if K = 5 then 0 - lowV K k (x + 1) * 2 else if K = 6 then lowV K k x * 2 + m else lowV K k x * 2
def lifB (K : Nat) : List Int32 := if K = 2 then 30 :: 11 :: lowB K else if K = 5 then 60 :: 30 :: 11 :: lowB K else if K = 6 then 71 :: 11 :: lowB K else 11 :: lowB K
def looV (K : Nat) (k m x : Int32) : Int32 := if K = 3 then lifV K k m (x / 2) - m else if K = 4 then (lifV K k m x - m) ^^^ k else lifV K k m x - m
def looB (K : Nat) : List Int32 := if K = 3 then 40 :: 12 :: lifB K else if K = 4 then 51 :: 12 :: lifB K else 12 :: lifB K
def parV (K : Nat) (k m x : Int32) : Int32 := if m - k = 0 then 0 else if K = 1 ∨ K = 4 then x / (m - k) + lifV K k m 1 else x / (m - k)
def parB (K : Nat) (k m : Int32) : List Int32 := if K = 1 ∨ K = 4 then 21 :: 13 :: (if m - k = 0 then [] else lifB K) else [13]
def voV (K : Nat) (k m : Int32) (V : Nat) (x : Int32) : Int32 := if V = 0 then lowV K k x else if V = 1 then lifV K k m x else if V = 2 then looV K k m x else parV K k m x
def voB (K : Nat) (k m : Int32) (V : Nat) : List Int32 := if V = 0 then lowB K else if V = 1 then lifB K else if V = 2 then looB K else parB K k m
def voT (k m : Int32) (V : Nat) : Bool := decide (V = 3 ∧ m - k = 0)
set_option maxHeartbeats 4000000 in
theorem vo_ok : ∀ K, K ≤ 6 → ∀ V, V ≤ 3 → ∀ k m x, spA K k m 7 K V x = some (voV K k m V x, voB K k m V, voT k m V) := by
  intro K hK V hV k m x
  rcases (show V = 0 ∨ V = 1 ∨ V = 2 ∨ V = 3 by omega) with rfl | rfl | rfl | rfl
  · rcases (show K = 0 ∨ K = 1 ∨ K = 2 ∨ K = 3 ∨ K = 4 ∨ K = 5 ∨ K = 6 by omega) with rfl | rfl | rfl | rfl | rfl | rfl | rfl <;> rfl
  · rcases (show K = 0 ∨ K = 1 ∨ K = 2 ∨ K = 3 ∨ K = 4 ∨ K = 5 ∨ K = 6 by omega) with rfl | rfl | rfl | rfl | rfl | rfl | rfl <;> rfl
  · rcases (show K = 0 ∨ K = 1 ∨ K = 2 ∨ K = 3 ∨ K = 4 ∨ K = 5 ∨ K = 6 by omega) with rfl | rfl | rfl | rfl | rfl | rfl | rfl <;> rfl
  · have e3 : voT k m 3 = decide (m - k = 0) := by unfold voT; simp
    rw [e3]
    by_cases h : m - k = 0
    · rcases (show K = 0 ∨ K = 1 ∨ K = 2 ∨ K = 3 ∨ K = 4 ∨ K = 5 ∨ K = 6 by omega) with rfl | rfl | rfl | rfl | rfl | rfl | rfl <;> simp [spA, wkA, fndB, upN, z_bodiesL, voV, voB, parV, parB, h]
    · rcases (show K = 0 ∨ K = 1 ∨ K = 2 ∨ K = 3 ∨ K = 4 ∨ K = 5 ∨ K = 6 by omega) with rfl | rfl | rfl | rfl | rfl | rfl | rfl <;> simp [spA, wkA, fndB, upN, z_bodiesL, voV, voB, parV, parB, lifV, lowV, lifB, lowB, h]
theorem low_l (K : Nat) : (lowB K).length ≤ 3 := by unfold lowB; (repeat' split) <;> decide
theorem lif_l (K : Nat) : (lifB K).length ≤ 6 := by have := low_l K; unfold lifB; (repeat' split) <;> simp only [List.length_cons] <;> omega
theorem vo_len (K V : Nat) (k m : Int32) : (voB K k m V).length ≤ 30 := by
  have h1 := low_l K
  have h2 := lif_l K
  unfold voB looB parB
  (repeat' split) <;> (first | omega | (simp only [List.length_cons, List.length_nil]; omega))
set_option maxHeartbeats 400000 in
set_option maxRecDepth 10000 in
theorem kX7_speak {l : Launch} {E : z_E} (σ : z_M) {kd : Nat} (hK : kd ≤ 6) {k m : Int32} {V : Nat} (hV3 : V ≤ 3) {x v : Int32} {lb : List Int32} {t : Bool} (hsp : spA kd k m 7 kd V x = some (v, lb, t)) (hl : lb.length ≤ 30) (hVo : VoI σ kd k m false []) : z_C l E shC 32 yX7_speak cX7_speak 3 (some FieldType.int) [.ref (z_ad E 54), .int (nI V), .int x] σ (z_Pi (fun r σ' => r = v ∧ MS [54, 55, 56] σ σ' ∧ VoI σ' kd k m t lb)) := by
  refine z_intro iX7_speak (Nat.le_of_ble_eq_true rfl) (fun K F => ?_)
  refine z_aload_n F dX7_speak_0 0 rfl 1 rfl ?_
  refine z_aload_n F dX7_speak_1 0 rfl 2 rfl ?_
  refine z_getI F zc6 dX7_speak_2 rfl 1 (by decide) (by decide) (.inl m_268) rfl 5 rfl ?_
  rw [hVo.1.1]
  refine z_iload_n F dX7_speak_5 1 rfl 6 rfl ?_
  refine z_iload_n F dX7_speak_6 2 rfl 7 rfl ?_
  refine z_iconst F dX7_speak_7 0 (by decide) 8 rfl ?_
  refine z_callVi F dX7_speak_8 m_807 iX7_spoken jX7_spoken rfl zc6 rfl (kX7_spoken hK k m 7 kd V x 0 [] v lb t σ hK hV3 hsp hVo (by simpa using hl) (by decide)) rfl (by decide) (Nat.le_of_ble_eq_true rfl) 11 rfl (fun r8 s8 c8 => ?_)
  refine z_ri F dX7_speak_11 ?_
  exact c8
set_option maxHeartbeats 400000 in
set_option maxRecDepth 10000 in
theorem kX9_odds {l : Launch} {E : z_E} (σ : z_M) {μ : z_M} (hR : Rel σ μ) (x : Int32) (w : Int32)  : z_C l E shC 5 yX9_odds cX9_odds 6 (some FieldType.int) [.ref (z_ad E 0), .int x, .int w] σ (z_Pi (fun rv σ' => rv = (aOdds μ x w).1 ∧ Rel σ' (aOdds μ x w).2)) := by
  refine z_intro iX9_odds (Nat.le_of_ble_eq_true rfl) (fun K F => ?_)
  have hc : σ 2 0 = μ 1 2 := hR.1.1.1
  have hn : μ 1 2 = nI (nP (μ 1)) := hR.2.1.1.1
  have h8 : nP (μ 1) ≤ 8 := hR.n8
  refine z_aload_n F dX9_odds_0 0 rfl 1 rfl ?_
  refine z_getR F zc8 dX9_odds_1 rfl 0 (by decide) (by decide) (.inl m_302) rfl (by decide) 4 rfl ?_
  refine z_getR F zc7 dX9_odds_4 rfl 0 (by decide) (by decide) (.inr ⟨_, m_200⟩) rfl (by decide) 7 rfl ?_
  refine z_iload_n F dX9_odds_7 1 rfl 8 rfl ?_
  refine z_callVp F dX9_odds_8 m_370 iX1_has jX1_has rfl zc1 rfl (kX1_has σ _) rfl (by decide) (Nat.le_of_ble_eq_true rfl) 11 rfl ?_
  refine z_if_eq F dX9_odds_11 23 (by decide) 14 rfl (fun h11 => ?_) (fun h11 => ?_)
  · skip
    have h11 := bI0.mp h11
    refine z_aload_n F dX9_odds_23 0 rfl 24 rfl ?_
    refine z_iconst F dX9_odds_24 1 (by decide) 25 rfl ?_
    refine z_callVi F dX9_odds_25 m_334 iX9_fail jX9_fail rfl zc8 rfl (kX9_fail σ (k := 1) (by decide) (by decide)) rfl (by decide) (Nat.le_of_ble_eq_true rfl) 28 rfl (fun r25 s25 c25 => ?_)
    refine z_ri F dX9_odds_28 ?_
    obtain ⟨rfl, rfl⟩ := c25
    exact fin (by
      unfold aOdds
      (repeat' split) <;> first | rfl | contradiction | (exfalso; simp only [Int32.lt_iff_toInt_lt, Int32.le_iff_toInt_le, ← Int32.toInt_inj, Int32.reduceToInt] at *; omega)) (hR.fail (by decide) (by decide))
  · skip
    have h11 := bI1.mp h11
    refine z_iload_n F dX9_odds_14 2 rfl 15 rfl ?_
    refine z_if_lt F dX9_odds_15 23 (by decide) 18 rfl (fun h15 => ?_) (fun h15 => ?_)
    · skip
      refine z_aload_n F dX9_odds_23 0 rfl 24 rfl ?_
      refine z_iconst F dX9_odds_24 1 (by decide) 25 rfl ?_
      refine z_callVi F dX9_odds_25 m_334 iX9_fail jX9_fail rfl zc8 rfl (kX9_fail σ (k := 1) (by decide) (by decide)) rfl (by decide) (Nat.le_of_ble_eq_true rfl) 28 rfl (fun r25 s25 c25 => ?_)
      refine z_ri F dX9_odds_28 ?_
      obtain ⟨rfl, rfl⟩ := c25
      exact fin (by
        unfold aOdds
        (repeat' split) <;> first | rfl | contradiction | (exfalso; simp only [Int32.lt_iff_toInt_lt, Int32.le_iff_toInt_le, ← Int32.toInt_inj, Int32.reduceToInt] at *; omega)) (hR.fail (by decide) (by decide))
    · skip
      refine z_iload_n F dX9_odds_18 2 rfl 19 rfl ?_
      refine z_iconst F dX9_odds_19 1 (by decide) 20 rfl ?_
      refine z_icmp_le F dX9_odds_20 29 (by decide) 23 rfl (fun h20 => ?_) (fun h20 => ?_)
      · skip
        obtain ⟨i, hi, rfl⟩ := isP_of (n := nP (μ 1)) (hn ▸ hc ▸ h11) (by omega)
        have i31 : i < 2 ^ 31 := by omega
        refine z_aload_n F dX9_odds_29 0 rfl 30 rfl ?_
        refine z_getR F zc8 dX9_odds_30 rfl 0 (by decide) (by decide) (.inl m_302) rfl (by decide) 33 rfl ?_
        refine z_getR F zc7 dX9_odds_33 rfl 0 (by decide) (by decide) (.inr ⟨_, m_200⟩) rfl (by decide) 36 rfl ?_
        refine z_getI F zc1 dX9_odds_36 rfl 0 (by decide) (by decide) (.inr ⟨_, m_110⟩) rfl 39 rfl ?_
        refine z_iconst F dX9_odds_39 1 (by decide) 40 rfl ?_
        refine z_isub F dX9_odds_40 41 rfl ?_
        refine z_istore_n F dX9_odds_41 [(0, _), (1, _), (2, _), (3, _)] rfl (by decide) 42 rfl ?_
        refine z_iload_n F dX9_odds_42 3 rfl 43 rfl ?_
        refine z_iconst F dX9_odds_43 1 (by decide) 44 rfl ?_
        refine z_icmp_ge F dX9_odds_44 53 (by decide) 47 rfl (fun h44 => ?_) (fun h44 => ?_)
        · skip
          have hn2 : 2 ≤ nP (μ 1) := by
            rcases Nat.lt_or_ge (nP (μ 1)) 2 with z | z
            · have : nP (μ 1) = 0 ∨ nP (μ 1) = 1 := by omega
              refine absurd h44 ?_
              rw [hc, hn]
              rcases this with e | e <;> rw [e] <;> decide
            · exact z
          have hn1 : σ 2 0 - 1 = nI (nP (μ 1) - 1) := by rw [hc, hn]; exact pk_sub (b := 1) (by omega)
          have hn1' : ¬ μ 1 2 - 1 < 1 := by rw [← hc]; exact i_nlt.mpr h44
          rw [hn1]
          have ht8 := thru_le (μ 1) i
          refine z_aload_n F dX9_odds_53 0 rfl 54 rfl ?_
          refine z_getR F zc8 dX9_odds_54 rfl 0 (by decide) (by decide) (.inl m_302) rfl (by decide) 57 rfl ?_
          refine z_iload_n F dX9_odds_57 1 rfl 58 rfl ?_
          refine z_callVi F dX9_odds_58 m_761 iX8_throughTo jX8_throughTo rfl zc7 rfl (kX8_throughTo σ (r := μ 1) hR.now hR.crs hi) rfl (by decide) (Nat.le_of_ble_eq_true rfl) 61 rfl (fun r58 s58 c58 => ?_)
          rw [c58.1]
          refine z_istore F dX9_odds_61 [(0, _), (1, _), (2, _), (3, _), (4, _)] rfl (by decide) 63 rfl ?_
          refine z_iload F dX9_odds_63 4 rfl 65 rfl ?_
          refine z_iload_n F dX9_odds_65 3 rfl 66 rfl ?_
          refine z_callSp F dX9_odds_66 m_765 iX9_greatestDivisor m_766 rfl (kX9_greatestDivisor s58 (S := shC) (t := thruN (μ 1) i) (b := nP (μ 1) - 1) (by omega) (by omega)) rfl (by decide) (Nat.le_of_ble_eq_true rfl) 69 rfl ?_
          refine z_istore F dX9_odds_69 [(0, _), (1, _), (2, _), (3, _), (4, _), (5, _)] rfl (by decide) 71 rfl ?_
          have hg := gd_1 (thruN (μ 1) i) (nP (μ 1) - 1) (nP (μ 1) - 1)
          refine z_iload_n F dX9_odds_71 2 rfl 72 rfl ?_
          refine z_if_ne F dX9_odds_72 80 (by decide) 75 rfl (fun h72 => ?_) (fun h72 => ?_)
          · skip
            refine z_iload_n F dX9_odds_80 3 rfl 81 rfl ?_
            refine z_iload F dX9_odds_81 5 rfl 83 rfl ?_
            refine z_iconst F dX9_odds_83 1 (by decide) 84 rfl ?_
            refine z_max F dX9_odds_84 m_768 m_179 m_76 m_180 (by decide) (Nat.le_of_ble_eq_true rfl) 87 rfl ?_
            rw [if_neg (show ¬ nI (gdF (thruN (μ 1) i) (nP (μ 1) - 1) (nP (μ 1) - 1)) < 1 from nI_nlt (b := 1) (by omega) (by omega))]
            refine z_idiv F dX9_odds_87 (nI_ne0 (by omega) (by omega)) 88 rfl ?_
            refine z_ri F dX9_odds_88 ?_
            refine fin (m := μ) ?_ (hR.gar c58.2 (by decide) (by decide))
            rw [(rm_at (gdF (thruN (μ 1) i) (nP (μ 1) - 1) (nP (μ 1) - 1)) (by omega) _ (by omega) (by omega)).2]
            unfold aOdds
            rw [nI_clamp i31, if_pos ⟨⟨h11.1, hc ▸ h11.2⟩, by simp only [Int32.lt_iff_toInt_lt, Int32.le_iff_toInt_le, ← Int32.toInt_inj, Int32.reduceToInt] at *; omega, by simp only [Int32.lt_iff_toInt_lt, Int32.le_iff_toInt_le, ← Int32.toInt_inj, Int32.reduceToInt] at *; omega⟩, if_neg hn1', if_neg h72]
          · skip
            refine z_iload F dX9_odds_75 4 rfl 77 rfl ?_
            refine z_goto F dX9_odds_77 81 (by decide) ?_
            refine z_iload F dX9_odds_81 5 rfl 83 rfl ?_
            refine z_iconst F dX9_odds_83 1 (by decide) 84 rfl ?_
            refine z_max F dX9_odds_84 m_768 m_179 m_76 m_180 (by decide) (Nat.le_of_ble_eq_true rfl) 87 rfl ?_
            rw [if_neg (show ¬ nI (gdF (thruN (μ 1) i) (nP (μ 1) - 1) (nP (μ 1) - 1)) < 1 from nI_nlt (b := 1) (by omega) (by omega))]
            refine z_idiv F dX9_odds_87 (nI_ne0 (by omega) (by omega)) 88 rfl ?_
            refine z_ri F dX9_odds_88 ?_
            refine fin (m := μ) ?_ (hR.gar c58.2 (by decide) (by decide))
            rw [(rm_at (gdF (thruN (μ 1) i) (nP (μ 1) - 1) (nP (μ 1) - 1)) (by omega) _ (by omega) (by omega)).2]
            unfold aOdds
            rw [nI_clamp i31, if_pos ⟨⟨h11.1, hc ▸ h11.2⟩, by simp only [Int32.lt_iff_toInt_lt, Int32.le_iff_toInt_le, ← Int32.toInt_inj, Int32.reduceToInt] at *; omega, by simp only [Int32.lt_iff_toInt_lt, Int32.le_iff_toInt_le, ← Int32.toInt_inj, Int32.reduceToInt] at *; omega⟩, if_neg hn1', if_pos h72]
        · skip
          refine z_aload_n F dX9_odds_47 0 rfl 48 rfl ?_
          refine z_iconst F dX9_odds_48 3 (by decide) 49 rfl ?_
          refine z_callVi F dX9_odds_49 m_334 iX9_fail jX9_fail rfl zc8 rfl (kX9_fail σ (k := 3) (by decide) (by decide)) rfl (by decide) (Nat.le_of_ble_eq_true rfl) 52 rfl (fun r49 s49 c49 => ?_)
          refine z_ri F dX9_odds_52 ?_
          rw [hc] at h44
          obtain ⟨rfl, rfl⟩ := c49
          exact fin (by
            unfold aOdds
            (repeat' split) <;> first | rfl | contradiction | (exfalso; simp only [Int32.lt_iff_toInt_lt, Int32.le_iff_toInt_le, ← Int32.toInt_inj, Int32.reduceToInt] at *; omega)) (hR.fail (by decide) (by decide))
      · skip
        refine z_aload_n F dX9_odds_23 0 rfl 24 rfl ?_
        refine z_iconst F dX9_odds_24 1 (by decide) 25 rfl ?_
        refine z_callVi F dX9_odds_25 m_334 iX9_fail jX9_fail rfl zc8 rfl (kX9_fail σ (k := 1) (by decide) (by decide)) rfl (by decide) (Nat.le_of_ble_eq_true rfl) 28 rfl (fun r25 s25 c25 => ?_)
        refine z_ri F dX9_odds_28 ?_
        obtain ⟨rfl, rfl⟩ := c25
        exact fin (by
          unfold aOdds
          (repeat' split) <;> first | rfl | contradiction | (exfalso; simp only [Int32.lt_iff_toInt_lt, Int32.le_iff_toInt_le, ← Int32.toInt_inj, Int32.reduceToInt] at *; omega)) (hR.fail (by decide) (by decide))
set_option maxHeartbeats 2000000 in
set_option maxRecDepth 10000 in
theorem kX9_witnesses {l : Launch} {E : z_E} (σ : z_M) {μ : z_M} (hR : Rel σ μ) (P : Int32)  : z_C l E shC 2 yX9_witnesses cX9_witnesses 5 (some FieldType.int) [.ref (z_ad E 0), .int P] σ (z_Pi (fun rv σ' => rv = (aWitnesses μ P).1 ∧ Rel σ' (aWitnesses μ P).2)) := by
  refine z_intro iX9_witnesses (Nat.le_of_ble_eq_true rfl) (fun K F => ?_)
  have hc : σ 2 0 = μ 1 2 := hR.1.1.1
  have hn : μ 1 2 = nI (nP (μ 1)) := hR.2.1.1.1
  have h8 : nP (μ 1) ≤ 8 := hR.n8
  have loop24 : ∀ (f : Nat) (s : Nat) (bv : Int32) (_ : 256 < s + f) (_ : s ≤ 2 ^ nP (μ 1)) (_ : (witS (μ 1) P s = 256 ∧ bv = -1) ∨ (witS (μ 1) P s < s ∧ bv = nI (witS (μ 1) P s))) (_ : 0 ≤ P ∧ P < nI (2 ^ nP (μ 1))) (_ : (1 : Int32) <<< (σ 2 0 &&& 31) = nI (2 ^ nP (μ 1))) (_ : 2 ^ nP (μ 1) ≤ 256), z_X l K E shC 2 5 (z_Pi (fun rv σ' => rv = (aWitnesses μ P).1 ∧ Rel σ' (aWitnesses μ P).2)) 24 [(0, .ref (z_ad E 0)), (1, .int P), (2, .int bv), (3, .int (nI s))] [] σ := by
    intro f
    induction f with
    | zero =>
      intro s bv hf hs hb hP hsh h256
      omega
    | succ f ih =>
      intro s bv hf hs hb hP hsh h256
      refine z_iload_n F dX9_witnesses_24 3 rfl 25 rfl ?_
      refine z_iconst F dX9_witnesses_25 1 (by decide) 26 rfl ?_
      refine z_aload_n F dX9_witnesses_26 0 rfl 27 rfl ?_
      refine z_getR F zc8 dX9_witnesses_27 rfl 0 (by decide) (by decide) (.inl m_302) rfl (by decide) 30 rfl ?_
      refine z_getR F zc7 dX9_witnesses_30 rfl 0 (by decide) (by decide) (.inr ⟨_, m_200⟩) rfl (by decide) 33 rfl ?_
      refine z_getI F zc1 dX9_witnesses_33 rfl 0 (by decide) (by decide) (.inr ⟨_, m_110⟩) rfl 36 rfl ?_
      refine z_ishl F dX9_witnesses_36 37 rfl ?_
      rw [hsh]
      refine z_icmp_ge F dX9_witnesses_37 93 (by decide) 40 rfl (fun h37 => ?_) (fun h37 => ?_)
      · skip
        refine z_iload_n F dX9_witnesses_93 2 rfl 94 rfl ?_
        refine z_if_ge F dX9_witnesses_94 105 (by decide) 97 rfl (fun h94 => ?_) (fun h94 => ?_)
        · skip
          refine z_iload_n F dX9_witnesses_105 2 rfl 106 rfl ?_
          refine z_ri F dX9_witnesses_106 ?_
          have hse : s = 2 ^ nP (μ 1) := by have := le_nI h37 (by omega) (by omega); omega
          have hb2 : witS (μ 1) P s < s ∧ bv = nI (witS (μ 1) P s) := hb.resolve_left (fun z => absurd h94 (by rw [z.2]; decide))
          rw [hb2.2]
          rw [hse] at hb2
          exact fin (by unfold aWitnesses; rw [if_pos hP, if_neg (by omega), hse]) hR
        · skip
          refine z_aload_n F dX9_witnesses_97 0 rfl 98 rfl ?_
          refine z_iconst F dX9_witnesses_98 2 (by decide) 99 rfl ?_
          refine z_callVi F dX9_witnesses_99 m_334 iX9_fail jX9_fail rfl zc8 rfl (kX9_fail σ (k := 2) (by decide) (by decide)) rfl (by decide) (Nat.le_of_ble_eq_true rfl) 102 rfl (fun r99 s99 c99 => ?_)
          refine z_goto F dX9_witnesses_102 106 (by decide) ?_
          refine z_ri F dX9_witnesses_106 ?_
          have hse : s = 2 ^ nP (μ 1) := by have := le_nI h37 (by omega) (by omega); omega
          have hw : witS (μ 1) P (2 ^ nP (μ 1)) = 256 := by
            rcases hb with z | z
            · exact hse ▸ z.1
            · exact absurd (by rw [z.2]; exact nI_pos' (by omega)) h94
          obtain ⟨rfl, rfl⟩ := c99
          exact fin (by unfold aWitnesses; rw [if_pos hP, if_pos hw]; rfl) (hR.fail (by decide) (by decide))
      · skip
        have hs2 : s < 2 ^ nP (μ 1) := nle_nI h37 (by omega) (by omega)
        refine z_iload_n F dX9_witnesses_40 2 rfl 41 rfl ?_
        refine z_if_lt F dX9_witnesses_41 55 (by decide) 44 rfl (fun h41 => ?_) (fun h41 => ?_)
        · skip
          refine z_iconst F dX9_witnesses_55 1 (by decide) 56 rfl ?_
          refine z_goto F dX9_witnesses_56 60 (by decide) ?_
          have hfew : witS (μ 1) P s = 256 ∨ pcN s < pcN (witS (μ 1) P s) := by
            rcases hb with z | z
            · exact Or.inl z.1
            · exact absurd h41 (by rw [z.2]; exact nI_pos (by omega))
          refine z_istore F dX9_witnesses_60 [(0, _), (1, _), (2, _), (3, _), (4, _)] rfl (by decide) 62 rfl ?_
          refine z_iload F dX9_witnesses_62 4 rfl 64 rfl ?_
          refine z_if_eq F dX9_witnesses_64 87 (by decide) 67 rfl (fun h64 => ?_) (fun h64 => ?_)
          · skip
            exact absurd h64 (by decide)
          · skip
            refine z_iload_n F dX9_witnesses_67 1 rfl 68 rfl ?_
            refine z_aload_n F dX9_witnesses_68 0 rfl 69 rfl ?_
            refine z_getR F zc8 dX9_witnesses_69 rfl 0 (by decide) (by decide) (.inl m_302) rfl (by decide) 72 rfl ?_
            refine z_getR F zc7 dX9_witnesses_72 rfl 1 (by decide) (by decide) (.inr ⟨_, m_202⟩) rfl (by decide) 75 rfl ?_
            refine z_iload_n F dX9_witnesses_75 3 rfl 76 rfl ?_
            refine z_callVp F dX9_witnesses_76 m_753 iX0_seenBy jX0_seenBy rfl zc0 rfl (kX0_seenByN σ (s := sN (μ 1)) (hR.crs.sn hR.vt hR.vk) (fun q => (sN_lt hR.vt hR.vk q).2.1) (q := s) (by omega)) rfl (by decide) (Nat.le_of_ble_eq_true rfl) 79 rfl ?_
            rw [seen_8 h8]
            refine z_iconst F dX9_witnesses_79 (-1) (by decide) 80 rfl ?_
            refine z_ixor F dX9_witnesses_80 81 rfl ?_
            refine z_iand F dX9_witnesses_81 82 rfl ?_
            refine z_if_ne F dX9_witnesses_82 87 (by decide) 85 rfl (fun h82 => ?_) (fun h82 => ?_)
            · skip
              refine z_iinc F dX9_witnesses_87 3 rfl 1 (by decide) [(0, _), (1, _), (2, _), (3, _), (4, _)] rfl (by decide) 90 rfl ?_
              refine z_goto F dX9_witnesses_90 24 (by decide) ?_
              rw [nI_1]
              refine z_sub [0, 1, 2, 3] rfl (ih (s + 1) _ (by omega) (by omega) ?_ hP hsh h256)
              have e : witS (μ 1) P (s + 1) = witS (μ 1) P s := by
                show (if _ then s else witS (μ 1) P s) = witS (μ 1) P s
                exact if_neg (fun z => h82 z.2)
              rw [e]
              rcases hb with z | z
              · exact Or.inl z
              · exact Or.inr ⟨by omega, z.2⟩
            · skip
              refine z_iload_n F dX9_witnesses_85 3 rfl 86 rfl ?_
              refine z_istore_n F dX9_witnesses_86 [(0, _), (1, _), (2, _), (3, _), (4, _)] rfl (by decide) 87 rfl ?_
              refine z_iinc F dX9_witnesses_87 3 rfl 1 (by decide) [(0, _), (1, _), (2, _), (3, _), (4, _)] rfl (by decide) 90 rfl ?_
              refine z_goto F dX9_witnesses_90 24 (by decide) ?_
              rw [nI_1]
              refine z_sub [0, 1, 2, 3] rfl (ih (s + 1) _ (by omega) (by omega) ?_ hP hsh h256)
              have e : witS (μ 1) P (s + 1) = s := by
                show (if _ then s else witS (μ 1) P s) = s
                exact if_pos ⟨hfew, h82⟩
              exact Or.inr ⟨by omega, by rw [e]⟩
        · skip
          have hb2 : witS (μ 1) P s < s ∧ bv = nI (witS (μ 1) P s) := hb.resolve_left (fun z => h41 (by rw [z.2]; decide))
          refine z_iload_n F dX9_witnesses_44 3 rfl 45 rfl ?_
          refine z_callSp F dX9_witnesses_45 m_752 iJ6_bitCount_0f7a4 m_676 rfl (kJ6_bitCount_0f7a4 σ (s := s) (by omega)) rfl (by decide) (Nat.le_of_ble_eq_true rfl) 48 rfl ?_
          rw [hb2.2]
          refine z_iload_n F dX9_witnesses_48 2 rfl 49 rfl ?_
          refine z_callSp F dX9_witnesses_49 m_752 iJ6_bitCount_0f7a4 m_676 rfl (kJ6_bitCount_0f7a4 σ (s := witS (μ 1) P s) (by omega)) rfl (by decide) (Nat.le_of_ble_eq_true rfl) 52 rfl ?_
          refine z_icmp_ge F dX9_witnesses_52 59 (by decide) 55 rfl (fun h52 => ?_) (fun h52 => ?_)
          · skip
            refine z_iconst F dX9_witnesses_59 0 (by decide) 60 rfl ?_
            have hfew : ¬ (witS (μ 1) P s = 256 ∨ pcN s < pcN (witS (μ 1) P s)) := fun z => by
              rcases z with z | z
              · omega
              · exact absurd h52 (fun q => absurd (le_nI q (by have := cntB_le (fun i => (witS (μ 1) P s).testBit i) 8; unfold pcN; omega) (by have := cntB_le (fun i => s.testBit i) 8; unfold pcN; omega)) (by omega))
            refine z_istore F dX9_witnesses_60 [(0, _), (1, _), (2, _), (3, _), (4, _)] rfl (by decide) 62 rfl ?_
            refine z_iload F dX9_witnesses_62 4 rfl 64 rfl ?_
            refine z_if_eq F dX9_witnesses_64 87 (by decide) 67 rfl (fun h64 => ?_) (fun h64 => ?_)
            · skip
              refine z_iinc F dX9_witnesses_87 3 rfl 1 (by decide) [(0, _), (1, _), (2, _), (3, _), (4, _)] rfl (by decide) 90 rfl ?_
              refine z_goto F dX9_witnesses_90 24 (by decide) ?_
              rw [nI_1]
              refine z_sub [0, 1, 2, 3] rfl (ih (s + 1) _ (by omega) (by omega) ?_ hP hsh h256)
              have e : witS (μ 1) P (s + 1) = witS (μ 1) P s := by
                show (if _ then s else witS (μ 1) P s) = witS (μ 1) P s
                exact if_neg (fun z => hfew z.1)
              rw [e]
              exact Or.inr ⟨by omega, rfl⟩
            · skip
              exact absurd rfl h64
          · skip
            refine z_iconst F dX9_witnesses_55 1 (by decide) 56 rfl ?_
            refine z_goto F dX9_witnesses_56 60 (by decide) ?_
            have hfew : witS (μ 1) P s = 256 ∨ pcN s < pcN (witS (μ 1) P s) := Or.inr (nle_nI h52 (by have := cntB_le (fun i => (witS (μ 1) P s).testBit i) 8; unfold pcN; omega) (by have := cntB_le (fun i => s.testBit i) 8; unfold pcN; omega))
            refine z_istore F dX9_witnesses_60 [(0, _), (1, _), (2, _), (3, _), (4, _)] rfl (by decide) 62 rfl ?_
            refine z_iload F dX9_witnesses_62 4 rfl 64 rfl ?_
            refine z_if_eq F dX9_witnesses_64 87 (by decide) 67 rfl (fun h64 => ?_) (fun h64 => ?_)
            · skip
              exact absurd h64 (by decide)
            · skip
              refine z_iload_n F dX9_witnesses_67 1 rfl 68 rfl ?_
              refine z_aload_n F dX9_witnesses_68 0 rfl 69 rfl ?_
              refine z_getR F zc8 dX9_witnesses_69 rfl 0 (by decide) (by decide) (.inl m_302) rfl (by decide) 72 rfl ?_
              refine z_getR F zc7 dX9_witnesses_72 rfl 1 (by decide) (by decide) (.inr ⟨_, m_202⟩) rfl (by decide) 75 rfl ?_
              refine z_iload_n F dX9_witnesses_75 3 rfl 76 rfl ?_
              refine z_callVp F dX9_witnesses_76 m_753 iX0_seenBy jX0_seenBy rfl zc0 rfl (kX0_seenByN σ (s := sN (μ 1)) (hR.crs.sn hR.vt hR.vk) (fun q => (sN_lt hR.vt hR.vk q).2.1) (q := s) (by omega)) rfl (by decide) (Nat.le_of_ble_eq_true rfl) 79 rfl ?_
              rw [seen_8 h8]
              refine z_iconst F dX9_witnesses_79 (-1) (by decide) 80 rfl ?_
              refine z_ixor F dX9_witnesses_80 81 rfl ?_
              refine z_iand F dX9_witnesses_81 82 rfl ?_
              refine z_if_ne F dX9_witnesses_82 87 (by decide) 85 rfl (fun h82 => ?_) (fun h82 => ?_)
              · skip
                refine z_iinc F dX9_witnesses_87 3 rfl 1 (by decide) [(0, _), (1, _), (2, _), (3, _), (4, _)] rfl (by decide) 90 rfl ?_
                refine z_goto F dX9_witnesses_90 24 (by decide) ?_
                rw [nI_1]
                refine z_sub [0, 1, 2, 3] rfl (ih (s + 1) _ (by omega) (by omega) ?_ hP hsh h256)
                have e : witS (μ 1) P (s + 1) = witS (μ 1) P s := by
                  show (if _ then s else witS (μ 1) P s) = witS (μ 1) P s
                  exact if_neg (fun z => h82 z.2)
                rw [e]
                exact Or.inr ⟨by omega, rfl⟩
              · skip
                refine z_iload_n F dX9_witnesses_85 3 rfl 86 rfl ?_
                refine z_istore_n F dX9_witnesses_86 [(0, _), (1, _), (2, _), (3, _), (4, _)] rfl (by decide) 87 rfl ?_
                refine z_iinc F dX9_witnesses_87 3 rfl 1 (by decide) [(0, _), (1, _), (2, _), (3, _), (4, _)] rfl (by decide) 90 rfl ?_
                refine z_goto F dX9_witnesses_90 24 (by decide) ?_
                rw [nI_1]
                refine z_sub [0, 1, 2, 3] rfl (ih (s + 1) _ (by omega) (by omega) ?_ hP hsh h256)
                have e : witS (μ 1) P (s + 1) = s := by
                  show (if _ then s else witS (μ 1) P s) = s
                  exact if_pos ⟨hfew, h82⟩
                exact Or.inr ⟨by omega, by rw [e]⟩
  have hsh : (1 : Int32) <<< (σ 2 0 &&& 31) = nI (2 ^ nP (μ 1)) := by rw [hc, hn]; exact shl_nI _ (by omega)
  have h256 : 2 ^ nP (μ 1) ≤ 256 := Nat.pow_le_pow_right (n := 2) (by decide) h8
  have h1le : 1 ≤ 2 ^ nP (μ 1) := Nat.one_le_two_pow
  refine z_aload_n F dX9_witnesses_0 0 rfl 1 rfl ?_
  refine z_getR F zc8 dX9_witnesses_1 rfl 0 (by decide) (by decide) (.inl m_302) rfl (by decide) 4 rfl ?_
  refine z_getR F zc7 dX9_witnesses_4 rfl 0 (by decide) (by decide) (.inr ⟨_, m_200⟩) rfl (by decide) 7 rfl ?_
  refine z_iload_n F dX9_witnesses_7 1 rfl 8 rfl ?_
  refine z_callVp F dX9_witnesses_8 m_748 iX1_isSet jX1_isSet rfl zc1 rfl (kX1_isSet σ P) rfl (by decide) (Nat.le_of_ble_eq_true rfl) 11 rfl ?_
  rw [hsh]
  refine z_if_ne F dX9_witnesses_11 20 (by decide) 14 rfl (fun h11 => ?_) (fun h11 => ?_)
  · skip
    have h11 := bI1.mp h11
    refine z_iconst F dX9_witnesses_20 (-1) (by decide) 21 rfl ?_
    refine z_istore_n F dX9_witnesses_21 [(0, _), (1, _), (2, _)] rfl (by decide) 22 rfl ?_
    refine z_iconst F dX9_witnesses_22 0 (by decide) 23 rfl ?_
    refine z_istore_n F dX9_witnesses_23 [(0, _), (1, _), (2, _), (3, _)] rfl (by decide) 24 rfl ?_
    exact loop24 257 0 (-1) (by omega) (by omega) (Or.inl ⟨rfl, rfl⟩) h11 hsh h256
  · skip
    have h11 := bI0.mp h11
    refine z_aload_n F dX9_witnesses_14 0 rfl 15 rfl ?_
    refine z_iconst F dX9_witnesses_15 1 (by decide) 16 rfl ?_
    refine z_callVi F dX9_witnesses_16 m_334 iX9_fail jX9_fail rfl zc8 rfl (kX9_fail σ (k := 1) (by decide) (by decide)) rfl (by decide) (Nat.le_of_ble_eq_true rfl) 19 rfl (fun r16 s16 c16 => ?_)
    refine z_ri F dX9_witnesses_19 ?_
    obtain ⟨rfl, rfl⟩ := c16
    exact fin (by unfold aWitnesses; rw [if_neg h11]; rfl) (hR.fail (by decide) (by decide))
