/-! VOICES -/
def upN (F : Nat) : Nat := [0, 0, 0, 0, 1, 2, 0].getD F 0
def fndB : Nat → Nat → Nat → Int32 × Nat
  | 0, F, _ => (0, F)
  | g + 1, F, V => if z_bodiesL.getD (F * 4 + V) 0 = 0 then fndB g (upN F) V else (z_bodiesL.getD (F * 4 + V) 0, F)
abbrev VoT : Type := Option (Int32 × List Int32 × Bool)
def wkA (sp : Nat → Nat → Int32 → VoT) (b : Int32) (up K : Nat) (k m x : Int32) : VoT :=
  if b = 10 then some (x + k, [], false) else if b = 11 then (sp K 0 x).map (fun q => (q.1 * 2, q.2)) else if b = 12 then (sp K 1 x).map (fun q => (q.1 - m, q.2))
  else if b = 13 then some (if m - k = 0 then 0 else x / (m - k), [], decide (m - k = 0)) else if b = 20 then (sp up 0 x).map (fun q => (q.1 - 4, q.2))
  else if b = 21 then (match sp up 3 x with
    | none => none
    | some (v, l, t) => if t = true then some (0, l, true) else (sp K 1 1).map (fun q => (v + q.1, l ++ q.2.1, q.2.2)))
  else if b = 30 then (sp up 1 x).map (fun q => (0 - q.1, q.2)) else if b = 40 then sp up 2 (x / 2) else if b = 50 then (sp up 0 x).map (fun q => (q.1 * 3, q.2))
  else if b = 51 then (sp up 2 x).map (fun q => (q.1 ^^^ k, q.2)) else if b = 60 then sp up 1 (x + 1) else if b = 70 then some (9, [], false)
  else if b = 71 then (sp up 1 x).map (fun q => (q.1 + m, q.2)) else none
def spA (K : Nat) (k m : Int32) : Nat → Nat → Nat → Int32 → VoT
  | 0, _, _, _ => none
  | n + 1, F, V, x => (wkA (spA K k m n) (fndB 3 F V).1 (upN (fndB 3 F V).2) K k m x).map (fun q => (q.1, (fndB 3 F V).1 :: q.2.1, q.2.2))
def VoI (σ : z_M) (K : Nat) (k m : Int32) (t : Bool) (L : List Int32) : Prop := (σ 54 1 = nI K ∧ σ 54 2 = k ∧ σ 54 3 = m ∧ σ 54 4 = if t = true then 1 else 0) ∧ σ 55 1 = nI L.length ∧ L.length ≤ 30 ∧ ∀ j, j < L.length → σ 56 j = L.getD j 0
theorem VoI.push {σ : z_M} {K : Nat} {k m : Int32} {t : Bool} {L : List Int32} (h : VoI σ K k m t L) (hl : L.length < 30) (b : Int32) : VoI (z_u2 (z_u2 σ 56 L.length b) 55 1 (nI (L.length + 1))) K k m t (L ++ [b]) := by
  obtain ⟨⟨h1, h2, h3, h4⟩, h5, h6, h7⟩ := h
  refine ⟨⟨?_, ?_, ?_, ?_⟩, ?_, by simp; omega, fun j hj => ?_⟩
  · rw [u2_o (by decide), u2_o (by decide)]; exact h1
  · rw [u2_o (by decide), u2_o (by decide)]; exact h2
  · rw [u2_o (by decide), u2_o (by decide)]; exact h3
  · rw [u2_o (by decide), u2_o (by decide)]; exact h4
  · rw [u2_same]; simp
  · rw [u2_o (by decide), u2_at]
    simp at hj
    by_cases q : j = L.length
    · subst q; simp
    · rw [if_neg (fun z => q z.2), h7 j (by omega)]
      simp [List.getD_eq_getElem?_getD, List.getElem?_append_left (show j < L.length by omega)]
theorem fnd_ok : ∀ F, F ≤ 6 → ∀ V, V ≤ 3 → (fndB 3 F V).1 ≠ 0 ∧ (fndB 3 F V).2 ≤ 6 := by decide +kernel
theorem bod_at : ∀ a, a ≤ 6 → ∀ V, V ≤ 3 → z_bodiesL.getD (a * 4 + V) 0 = 0 → aboveS (nI a) = nI (upN a) ∧ upN a ≤ 6 := by decide +kernel
/-- above a BODY's KIND, where it is asked for -/
theorem up_at : ∀ a, a ≤ 6 → upN a ≤ 6 ∧ (a ≠ 0 → aboveS (nI a) = nI (upN a)) := by decide +kernel
theorem fnd_a : ∀ F, F ≤ 6 → ∀ V, V ≤ 3 → (fndB 3 F V).2 = 0 → (fndB 3 F V).1 = 10 ∨ (fndB 3 F V).1 = 11 ∨ (fndB 3 F V).1 = 12 ∨ (fndB 3 F V).1 = 13 := by decide +kernel
set_option maxHeartbeats 400000 in
set_option maxRecDepth 10000 in
theorem kX7_partsBy {l : Launch} {E : z_E} (σ : z_M) {K : Nat} {k m : Int32} {L : List Int32} (hV : VoI σ K k m false L) (x b : Int32) : z_C l E shC 0 yX7_partsBy cX7_partsBy 3 (some FieldType.int) [.ref (z_ad E 54), .int x, .int b] σ (z_Pi (fun r σ' => r = (if b = 0 then 0 else x / b) ∧ MS [54, 55, 56] σ σ' ∧ VoI σ' K k m (decide (b = 0)) L)) := by
  refine z_intro iX7_partsBy (Nat.le_of_ble_eq_true rfl) (fun K F => ?_)
  refine z_iload_n F dX7_partsBy_0 2 rfl 1 rfl ?_
  refine z_if_ne F dX7_partsBy_1 11 (by decide) 4 rfl (fun h1 => ?_) (fun h1 => ?_)
  · skip
    refine z_iload_n F dX7_partsBy_11 1 rfl 12 rfl ?_
    refine z_iload_n F dX7_partsBy_12 2 rfl 13 rfl ?_
    refine z_idiv F dX7_partsBy_13 h1 14 rfl ?_
    refine z_ri F dX7_partsBy_14 ?_
    rw [decide_eq_false h1]
    exact ⟨(if_neg h1).symm, MS.rf, hV⟩
  · skip
    refine z_aload_n F dX7_partsBy_4 0 rfl 5 rfl ?_
    refine z_iconst F dX7_partsBy_5 1 (by decide) 6 rfl ?_
    refine z_putZ F zc6 dX7_partsBy_6 rfl 4 (by decide) (by decide) (.inl m_271) rfl rfl z_pZ rfl rfl 9 rfl ?_
    refine z_iconst F dX7_partsBy_9 0 (by decide) 10 rfl ?_
    refine z_ri F dX7_partsBy_10 ?_
    obtain ⟨⟨h2, h3, h4, h5⟩, h6⟩ := hV
    refine ⟨(if_pos h1).symm, MS.rf.u2 (by decide), ⟨?_, ?_, ?_, ?_⟩, ?_⟩
    · rw [u2_k (by decide)]; exact h2
    · rw [u2_k (by decide)]; exact h3
    · rw [u2_k (by decide)]; exact h4
    · rw [u2_same, h1]; rfl
    · rw [u2_o (by decide), u2_o (by decide)]; exact h6
set_option maxHeartbeats 400000 in
set_option maxRecDepth 10000 in
theorem kX7_begin {l : Launch} {E : z_E} (σ : z_M) {K : Nat} {k m : Int32} : z_C l E shC 1 yX7_begin cX7_begin 4 none [.ref (z_ad E 54), .int (nI K), .int k, .int m] σ (z_Pv (fun σ' => MS [54, 55] σ σ' ∧ VoI σ' K k m false [])) := by
  refine z_intro iX7_begin (Nat.le_of_ble_eq_true rfl) (fun K F => ?_)
  refine z_aload_n F dX7_begin_0 0 rfl 1 rfl ?_
  refine z_iload_n F dX7_begin_1 1 rfl 2 rfl ?_
  refine z_putI F zc6 dX7_begin_2 rfl 1 (by decide) (by decide) (.inl m_268) rfl rfl z_pI 5 rfl ?_
  refine z_aload_n F dX7_begin_5 0 rfl 6 rfl ?_
  refine z_iload_n F dX7_begin_6 2 rfl 7 rfl ?_
  refine z_putI F zc6 dX7_begin_7 rfl 2 (by decide) (by decide) (.inl m_269) rfl rfl z_pI 10 rfl ?_
  refine z_aload_n F dX7_begin_10 0 rfl 11 rfl ?_
  refine z_iload_n F dX7_begin_11 3 rfl 12 rfl ?_
  refine z_putI F zc6 dX7_begin_12 rfl 3 (by decide) (by decide) (.inl m_270) rfl rfl z_pI 15 rfl ?_
  refine z_aload_n F dX7_begin_15 0 rfl 16 rfl ?_
  refine z_iconst F dX7_begin_16 0 (by decide) 17 rfl ?_
  refine z_putZ F zc6 dX7_begin_17 rfl 4 (by decide) (by decide) (.inl m_271) rfl rfl z_pZ rfl rfl 20 rfl ?_
  refine z_aload_n F dX7_begin_20 0 rfl 21 rfl ?_
  refine z_getR F zc6 dX7_begin_21 rfl 0 (by decide) (by decide) (.inl m_266) rfl (by decide) 24 rfl ?_
  refine z_callVu F dX7_begin_24 m_802 iX4_clear jX4_clear rfl zc3 rfl (kX4_clear _ (S := shC) (r := 55) (a := 56) (cap := 30) rfl rfl (by decide)) rfl (by decide) (Nat.le_of_ble_eq_true rfl) 27 rfl ?_
  refine z_rv F dX7_begin_27 ?_
  refine ⟨((((MS.rf.u2 (by decide)).u2 (by decide)).u2 (by decide)).u2 (by decide)).u2 (by decide), ⟨?_, ?_, ?_, ?_⟩, ?_, by decide, fun j hj => by simp at hj⟩
  · simp [u2_at]
  · simp [u2_at]
  · simp [u2_at]
  · simp [u2_at]
  · simp [u2_at]; rfl
theorem ix4 (i j : Nat) : nI i * 4 + nI j = nI (i * 4 + j) := by rw [show (4 : Int32) = nI 4 from rfl, pk_mul, nI_add]
set_option maxHeartbeats 4000000 in
set_option maxRecDepth 10000 in
theorem kX7_spoken {l : Launch} {E : z_E} {K : Nat} (hK : K ≤ 6) (k m : Int32) : ∀ n : Nat, ∀ (F V : Nat) (x : Int32) (deep : Nat) (L : List Int32) (v : Int32) (lb : List Int32) (t : Bool) (τ : z_M) (_ : F ≤ 6) (_ : V ≤ 3) (_ : spA K k m n F V x = some (v, lb, t)) (_ : VoI τ K k m false L) (_ : L.length + lb.length ≤ 30) (_ : deep + n ≤ 40), z_C l E shC (4 * n + 3) yX7_spoken cX7_spoken 8 (some FieldType.int) [.ref (z_ad E 54), .int (nI F), .int (nI V), .int x, .int (nI deep)] τ (z_Pi (fun r σ' => r = v ∧ MS [54, 55, 56] τ σ' ∧ VoI σ' K k m t (L ++ lb))) := by
  intro n
  induction n with
  | zero =>
    intro F V x deep L v lb t τ hF hV3 hsp
    exact absurd hsp (by simp [spA])
  | succ n ih =>
    have hown : ∀ (V : Nat) (x : Int32) (deep : Nat) (L : List Int32) (v : Int32) (lb : List Int32) (t : Bool) (τ : z_M) (_ : V ≤ 3) (_ : spA K k m n K V x = some (v, lb, t)) (_ : VoI τ K k m false L) (_ : L.length + lb.length ≤ 30) (_ : deep + n ≤ 40), z_C l E shC (4 * n + 4) yX7_own cX7_own 4 (some FieldType.int) [.ref (z_ad E 54), .int (nI V), .int x, .int (nI deep)] τ (z_Pi (fun r σ' => r = v ∧ MS [54, 55, 56] τ σ' ∧ VoI σ' K k m t (L ++ lb))) := by
      intro V x deep L v lb t τ hV3 hq hVo hlen hdp
      refine z_intro iX7_own (Nat.le_of_ble_eq_true rfl) (fun K' F' => ?_)
      refine z_aload_n F' dX7_own_0 0 rfl 1 rfl ?_
      refine z_aload_n F' dX7_own_1 0 rfl 2 rfl ?_
      refine z_getI F' zc6 dX7_own_2 rfl 1 (by decide) (by decide) (.inl m_268) rfl 5 rfl ?_
      rw [hVo.1.1]
      refine z_iload_n F' dX7_own_5 1 rfl 6 rfl ?_
      refine z_iload_n F' dX7_own_6 2 rfl 7 rfl ?_
      refine z_iload_n F' dX7_own_7 3 rfl 8 rfl ?_
      refine z_callVi F' dX7_own_8 m_807 iX7_spoken jX7_spoken rfl zc6 rfl (ih K V x deep L v lb t τ hK hV3 hq hVo hlen hdp) rfl (by omega) (Nat.le_of_ble_eq_true rfl) 11 rfl (fun r8 s8 c8 => ?_)
      refine z_ri F' dX7_own_11 ?_
      exact c8
    have hhei : ∀ (F : Nat) (x : Int32) (deep : Nat) (L : List Int32) (v : Int32) (lb : List Int32) (t : Bool) (τ : z_M) (_ : F ≤ 6) (_ : wkA (spA K k m n) 21 F K k m x = some (v, lb, t)) (_ : VoI τ K k m false L) (_ : L.length + lb.length ≤ 30) (_ : deep + n ≤ 40), z_C l E shC (4 * n + 5) yX7_heiressParts cX7_heiressParts 5 (some FieldType.int) [.ref (z_ad E 54), .int (nI F), .int x, .int (nI deep)] τ (z_Pi (fun r σ' => r = v ∧ MS [54, 55, 56] τ σ' ∧ VoI σ' K k m t (L ++ lb))) := by
      intro F x deep L v lb t τ hF hw hVo hlen hdp
      have hq : (match spA K k m n F 3 x with
        | none => none
        | some (v, l, t) => if t = true then some (0, l, true) else (spA K k m n K 1 1).map (fun q => (v + q.1, l ++ q.2.1, q.2.2))) = some (v, lb, t) := hw
      cases hq0 : spA K k m n F 3 x with
      | none => rw [hq0] at hq; exact absurd hq (by simp)
      | some w =>
      obtain ⟨v0, l0, t0⟩ := w
      rw [hq0] at hq
      have hq : (if t0 = true then some (0, l0, true) else (spA K k m n K 1 1).map (fun q => (v0 + q.1, l0 ++ q.2.1, q.2.2))) = some (v, lb, t) := hq
      have hlen0 : L.length + l0.length ≤ 30 := by
        by_cases ht : t0 = true
        · rw [if_pos ht] at hq
          have : l0 = lb := by simp at hq; exact hq.2.1
          rw [this]; exact hlen
        · rw [if_neg ht] at hq
          obtain ⟨w, hq1, hq2⟩ := Option.map_eq_some_iff.mp hq
          have : l0 ++ w.2.1 = lb := by simp at hq2; exact hq2.2.1
          rw [← this] at hlen; simp at hlen; omega
      refine z_intro iX7_heiressParts (Nat.le_of_ble_eq_true rfl) (fun K' F' => ?_)
      refine z_aload_n F' dX7_heiressParts_0 0 rfl 1 rfl ?_
      refine z_iload_n F' dX7_heiressParts_1 1 rfl 2 rfl ?_
      refine z_iconst F' dX7_heiressParts_2 3 (by decide) 3 rfl ?_
      refine z_iload_n F' dX7_heiressParts_3 2 rfl 4 rfl ?_
      refine z_iload_n F' dX7_heiressParts_4 3 rfl 5 rfl ?_
      refine z_callVi F' dX7_heiressParts_5 m_807 iX7_spoken jX7_spoken rfl zc6 rfl (ih F 3 x deep L v0 l0 t0 τ hF (by decide) hq0 hVo (by omega) hdp) rfl (by omega) (Nat.le_of_ble_eq_true rfl) 8 rfl (fun r5 s5 c5 => ?_)
      obtain ⟨rfl, m5, v5⟩ := c5
      refine z_istore F' dX7_heiressParts_8 [(0, _), (1, _), (2, _), (3, _), (4, _)] rfl (by decide) 10 rfl ?_
      refine z_aload_n F' dX7_heiressParts_10 0 rfl 11 rfl ?_
      refine z_getI F' zc6 dX7_heiressParts_11 rfl 4 (by decide) (by decide) (.inl m_271) rfl 14 rfl ?_
      rw [v5.1.2.2.2]
      refine z_if_eq F' dX7_heiressParts_14 21 (by decide) 17 rfl (fun h14 => ?_) (fun h14 => ?_)
      · skip
        have hf : t0 = false := by
          cases t0
          · rfl
          · exact absurd h14 (by decide)
        rw [if_neg (by rw [hf]; decide)] at hq
        obtain ⟨⟨v1, l1, t1⟩, hq1, hq2⟩ : ∃ w, spA K k m n K 1 1 = some w ∧ (r5 + w.1, l0 ++ w.2.1, w.2.2) = (v, lb, t) := by
          simpa using hq
        obtain ⟨rfl, rfl, rfl⟩ : r5 + v1 = v ∧ l0 ++ l1 = lb ∧ t1 = t := by simpa using hq2
        simp at hlen
        refine z_iload F' dX7_heiressParts_21 4 rfl 23 rfl ?_
        refine z_aload_n F' dX7_heiressParts_23 0 rfl 24 rfl ?_
        refine z_iconst F' dX7_heiressParts_24 1 (by decide) 25 rfl ?_
        refine z_iconst F' dX7_heiressParts_25 1 (by decide) 26 rfl ?_
        refine z_iload_n F' dX7_heiressParts_26 3 rfl 27 rfl ?_
        refine z_callVi F' dX7_heiressParts_27 m_820 iX7_own jX7_own rfl zc6 rfl (hown 1 1 deep (L ++ l0) v1 l1 t1 s5 (by decide) hq1 (by rw [hf] at v5; exact v5) (by simp; omega) hdp) rfl (by omega) (Nat.le_of_ble_eq_true rfl) 30 rfl (fun r27 s27 c27 => ?_)
        obtain ⟨rfl, m27, v27⟩ := c27
        refine z_iadd F' dX7_heiressParts_30 31 rfl ?_
        refine z_ri F' dX7_heiressParts_31 ?_
        exact ⟨rfl, m5.tr m27, by rw [← List.append_assoc]; exact v27⟩
      · skip
        have ht : t0 = true := by
          cases t0
          · exact absurd rfl h14
          · rfl
        rw [if_pos ht] at hq
        obtain ⟨rfl, rfl, rfl⟩ : 0 = v ∧ l0 = lb ∧ true = t := by simpa using hq
        refine z_iconst F' dX7_heiressParts_17 0 (by decide) 18 rfl ?_
        refine z_goto F' dX7_heiressParts_18 31 (by decide) ?_
        refine z_ri F' dX7_heiressParts_31 ?_
        exact ⟨rfl, m5, ht ▸ v5⟩
    have hwk : ∀ (b : Int32) (a : Nat) (x : Int32) (deep : Nat) (L : List Int32) (v : Int32) (lb : List Int32) (t : Bool) (τ : z_M) (_ : a ≤ 6) (_ : a = 0 → b = 10 ∨ b = 11 ∨ b = 12 ∨ b = 13) (_ : wkA (spA K k m n) b (upN a) K k m x = some (v, lb, t)) (_ : VoI τ K k m false L) (_ : L.length + lb.length ≤ 30) (_ : deep + n ≤ 40), z_C l E shC (4 * n + 6) yX7_worked cX7_worked 6 (some FieldType.int) [.ref (z_ad E 54), .int b, .int (nI a), .int x, .int (nI deep)] τ (z_Pi (fun r σ' => r = v ∧ MS [54, 55, 56] τ σ' ∧ VoI σ' K k m t (L ++ lb))) := by
      intro b a x deep L v lb t τ ha hb0 hw hVo hlen hdp
      refine z_intro iX7_worked (Nat.le_of_ble_eq_true rfl) (fun K' F' => ?_)
      refine z_iload_n F' dX7_worked_0 2 rfl 1 rfl ?_
      refine z_callSp F' dX7_worked_1 m_819 iX2_above m_427 rfl (kX2_above τ _) rfl (by omega) (Nat.le_of_ble_eq_true rfl) 4 rfl ?_
      refine z_istore F' dX7_worked_4 [(0, _), (1, _), (2, _), (3, _), (4, _), (5, _)] rfl (by decide) 6 rfl ?_
      refine z_iload_n F' dX7_worked_6 1 rfl 7 rfl ?_
      by_cases e7_10 : b = 10
      · skip
        refine z_lookup F' dX7_worked_7 (by decide +kernel) (by rw [e7_10]; first | done | decide +kernel) 120 (by decide) ?_
        rw [e7_10] at hw
        obtain ⟨rfl, rfl, rfl⟩ : x + k = v ∧ [] = lb ∧ false = t := by simpa [wkA] using hw
        refine z_iload_n F' dX7_worked_120 3 rfl 121 rfl ?_
        refine z_aload_n F' dX7_worked_121 0 rfl 122 rfl ?_
        refine z_getI F' zc6 dX7_worked_122 rfl 2 (by decide) (by decide) (.inl m_269) rfl 125 rfl ?_
        rw [hVo.1.2.1]
        refine z_iadd F' dX7_worked_125 126 rfl ?_
        refine z_ri F' dX7_worked_126 ?_
        exact ⟨rfl, MS.rf, by rw [List.append_nil]; exact hVo⟩
      by_cases e7_11 : b = 11
      · skip
        refine z_lookup F' dX7_worked_7 (by decide +kernel) (by rw [e7_11]; first | done | decide +kernel) 127 (by decide) ?_
        rw [e7_11] at hw
        obtain ⟨⟨v0, l0, t0⟩, hq, hq2⟩ := Option.map_eq_some_iff.mp (show Option.map _ (spA K k m n K 0 x) = some (v, lb, t) from hw)
        obtain ⟨rfl, rfl, rfl⟩ := Prod.mk.inj hq2 |>.imp_right Prod.mk.inj
        refine z_aload_n F' dX7_worked_127 0 rfl 128 rfl ?_
        refine z_iconst F' dX7_worked_128 0 (by decide) 129 rfl ?_
        refine z_iload_n F' dX7_worked_129 3 rfl 130 rfl ?_
        refine z_iload F' dX7_worked_130 4 rfl 132 rfl ?_
        refine z_callVi F' dX7_worked_132 m_820 iX7_own jX7_own rfl zc6 rfl (hown 0 x deep L v0 l0 t0 τ (by decide) hq hVo hlen hdp) rfl (by omega) (Nat.le_of_ble_eq_true rfl) 135 rfl (fun r132 s132 c132 => ?_)
        refine z_iconst F' dX7_worked_135 2 (by decide) 136 rfl ?_
        refine z_imul F' dX7_worked_136 137 rfl ?_
        refine z_ri F' dX7_worked_137 ?_
        exact ⟨by rw [c132.1], c132.2⟩
      by_cases e7_12 : b = 12
      · skip
        refine z_lookup F' dX7_worked_7 (by decide +kernel) (by rw [e7_12]; first | done | decide +kernel) 138 (by decide) ?_
        rw [e7_12] at hw
        obtain ⟨⟨v0, l0, t0⟩, hq, hq2⟩ := Option.map_eq_some_iff.mp (show Option.map _ (spA K k m n K 1 x) = some (v, lb, t) from hw)
        obtain ⟨rfl, rfl, rfl⟩ := Prod.mk.inj hq2 |>.imp_right Prod.mk.inj
        refine z_aload_n F' dX7_worked_138 0 rfl 139 rfl ?_
        refine z_iconst F' dX7_worked_139 1 (by decide) 140 rfl ?_
        refine z_iload_n F' dX7_worked_140 3 rfl 141 rfl ?_
        refine z_iload F' dX7_worked_141 4 rfl 143 rfl ?_
        refine z_callVi F' dX7_worked_143 m_820 iX7_own jX7_own rfl zc6 rfl (hown 1 x deep L v0 l0 t0 τ (by decide) hq hVo hlen hdp) rfl (by omega) (Nat.le_of_ble_eq_true rfl) 146 rfl (fun r143 s143 c143 => ?_)
        refine z_aload_n F' dX7_worked_146 0 rfl 147 rfl ?_
        refine z_getI F' zc6 dX7_worked_147 rfl 3 (by decide) (by decide) (.inl m_270) rfl 150 rfl ?_
        rw [c143.2.2.1.2.2.1]
        refine z_isub F' dX7_worked_150 151 rfl ?_
        refine z_ri F' dX7_worked_151 ?_
        exact ⟨by rw [c143.1], c143.2⟩
      by_cases e7_13 : b = 13
      · skip
        refine z_lookup F' dX7_worked_7 (by decide +kernel) (by rw [e7_13]; first | done | decide +kernel) 152 (by decide) ?_
        rw [e7_13] at hw
        obtain ⟨rfl, rfl, rfl⟩ : (if m - k = 0 then 0 else x / (m - k)) = v ∧ [] = lb ∧ decide (m - k = 0) = t := by simpa [wkA] using hw
        refine z_aload_n F' dX7_worked_152 0 rfl 153 rfl ?_
        refine z_iload_n F' dX7_worked_153 3 rfl 154 rfl ?_
        refine z_aload_n F' dX7_worked_154 0 rfl 155 rfl ?_
        refine z_getI F' zc6 dX7_worked_155 rfl 3 (by decide) (by decide) (.inl m_270) rfl 158 rfl ?_
        rw [hVo.1.2.2.1]
        refine z_aload_n F' dX7_worked_158 0 rfl 159 rfl ?_
        refine z_getI F' zc6 dX7_worked_159 rfl 2 (by decide) (by decide) (.inl m_269) rfl 162 rfl ?_
        rw [hVo.1.2.1]
        refine z_isub F' dX7_worked_162 163 rfl ?_
        refine z_callVi F' dX7_worked_163 m_824 iX7_partsBy jX7_partsBy rfl zc6 rfl (kX7_partsBy τ hVo _ _) rfl (by omega) (Nat.le_of_ble_eq_true rfl) 166 rfl (fun r163 s163 c163 => ?_)
        refine z_ri F' dX7_worked_166 ?_
        exact ⟨c163.1, c163.2.1, by rw [List.append_nil]; exact c163.2.2⟩
      by_cases e7_20 : b = 20
      · skip
        refine z_lookup F' dX7_worked_7 (by decide +kernel) (by rw [e7_20]; first | done | decide +kernel) 167 (by decide) ?_
        rw [e7_20] at hw
        obtain ⟨⟨v0, l0, t0⟩, hq, hq2⟩ := Option.map_eq_some_iff.mp (show Option.map _ (spA K k m n (upN a) 0 x) = some (v, lb, t) from hw)
        obtain ⟨rfl, rfl, rfl⟩ := Prod.mk.inj hq2 |>.imp_right Prod.mk.inj
        have ha0 : a ≠ 0 := fun z => by
          have := hb0 z
          rw [e7_20] at this
          rcases this with q | q | q | q <;> exact absurd q (by decide)
        have hup := (up_at a ha).2 ha0
        rw [hup]
        refine z_aload_n F' dX7_worked_167 0 rfl 168 rfl ?_
        refine z_iload F' dX7_worked_168 5 rfl 170 rfl ?_
        refine z_iconst F' dX7_worked_170 0 (by decide) 171 rfl ?_
        refine z_iload_n F' dX7_worked_171 3 rfl 172 rfl ?_
        refine z_iload F' dX7_worked_172 4 rfl 174 rfl ?_
        refine z_callVi F' dX7_worked_174 m_807 iX7_spoken jX7_spoken rfl zc6 rfl (ih (upN a) 0 x deep L v0 l0 t0 τ (up_at a ha).1 (by decide) hq hVo hlen hdp) rfl (by omega) (Nat.le_of_ble_eq_true rfl) 177 rfl (fun r174 s174 c174 => ?_)
        refine z_iconst F' dX7_worked_177 4 (by decide) 178 rfl ?_
        refine z_isub F' dX7_worked_178 179 rfl ?_
        refine z_ri F' dX7_worked_179 ?_
        exact ⟨by rw [c174.1], c174.2⟩
      by_cases e7_21 : b = 21
      · skip
        refine z_lookup F' dX7_worked_7 (by decide +kernel) (by rw [e7_21]; first | done | decide +kernel) 180 (by decide) ?_
        rw [e7_21] at hw
        have ha0 : a ≠ 0 := fun z => by
          have := hb0 z
          rw [e7_21] at this
          rcases this with q | q | q | q <;> exact absurd q (by decide)
        have hup := (up_at a ha).2 ha0
        rw [hup]
        refine z_aload_n F' dX7_worked_180 0 rfl 181 rfl ?_
        refine z_iload F' dX7_worked_181 5 rfl 183 rfl ?_
        refine z_iload_n F' dX7_worked_183 3 rfl 184 rfl ?_
        refine z_iload F' dX7_worked_184 4 rfl 186 rfl ?_
        refine z_callVi F' dX7_worked_186 m_828 iX7_heiressParts jX7_heiressParts rfl zc6 rfl (hhei (upN a) x deep L v lb t τ (up_at a ha).1 hw hVo hlen hdp) rfl (by omega) (Nat.le_of_ble_eq_true rfl) 189 rfl (fun r186 s186 c186 => ?_)
        refine z_ri F' dX7_worked_189 ?_
        exact c186
      by_cases e7_30 : b = 30
      · skip
        refine z_lookup F' dX7_worked_7 (by decide +kernel) (by rw [e7_30]; first | done | decide +kernel) 190 (by decide) ?_
        rw [e7_30] at hw
        obtain ⟨⟨v0, l0, t0⟩, hq, hq2⟩ := Option.map_eq_some_iff.mp (show Option.map _ (spA K k m n (upN a) 1 x) = some (v, lb, t) from hw)
        obtain ⟨rfl, rfl, rfl⟩ := Prod.mk.inj hq2 |>.imp_right Prod.mk.inj
        have ha0 : a ≠ 0 := fun z => by
          have := hb0 z
          rw [e7_30] at this
          rcases this with q | q | q | q <;> exact absurd q (by decide)
        have hup := (up_at a ha).2 ha0
        rw [hup]
        refine z_iconst F' dX7_worked_190 0 (by decide) 191 rfl ?_
        refine z_aload_n F' dX7_worked_191 0 rfl 192 rfl ?_
        refine z_iload F' dX7_worked_192 5 rfl 194 rfl ?_
        refine z_iconst F' dX7_worked_194 1 (by decide) 195 rfl ?_
        refine z_iload_n F' dX7_worked_195 3 rfl 196 rfl ?_
        refine z_iload F' dX7_worked_196 4 rfl 198 rfl ?_
        refine z_callVi F' dX7_worked_198 m_807 iX7_spoken jX7_spoken rfl zc6 rfl (ih (upN a) 1 x deep L v0 l0 t0 τ (up_at a ha).1 (by decide) hq hVo hlen hdp) rfl (by omega) (Nat.le_of_ble_eq_true rfl) 201 rfl (fun r198 s198 c198 => ?_)
        refine z_isub F' dX7_worked_201 202 rfl ?_
        refine z_ri F' dX7_worked_202 ?_
        exact ⟨by rw [c198.1], c198.2⟩
      by_cases e7_40 : b = 40
      · skip
        refine z_lookup F' dX7_worked_7 (by decide +kernel) (by rw [e7_40]; first | done | decide +kernel) 203 (by decide) ?_
        rw [e7_40] at hw
        have hq : spA K k m n (upN a) 2 (x / 2) = some (v, lb, t) := hw
        have ha0 : a ≠ 0 := fun z => by
          have := hb0 z
          rw [e7_40] at this
          rcases this with q | q | q | q <;> exact absurd q (by decide)
        have hup := (up_at a ha).2 ha0
        rw [hup]
        refine z_aload_n F' dX7_worked_203 0 rfl 204 rfl ?_
        refine z_iload F' dX7_worked_204 5 rfl 206 rfl ?_
        refine z_iconst F' dX7_worked_206 2 (by decide) 207 rfl ?_
        refine z_iload_n F' dX7_worked_207 3 rfl 208 rfl ?_
        refine z_iconst F' dX7_worked_208 2 (by decide) 209 rfl ?_
        refine z_idiv F' dX7_worked_209 (by decide) 210 rfl ?_
        refine z_iload F' dX7_worked_210 4 rfl 212 rfl ?_
        refine z_callVi F' dX7_worked_212 m_807 iX7_spoken jX7_spoken rfl zc6 rfl (ih (upN a) 2 (x / 2) deep L v lb t τ (up_at a ha).1 (by decide) hq hVo hlen hdp) rfl (by omega) (Nat.le_of_ble_eq_true rfl) 215 rfl (fun r212 s212 c212 => ?_)
        refine z_ri F' dX7_worked_215 ?_
        exact c212
      by_cases e7_50 : b = 50
      · skip
        refine z_lookup F' dX7_worked_7 (by decide +kernel) (by rw [e7_50]; first | done | decide +kernel) 216 (by decide) ?_
        rw [e7_50] at hw
        obtain ⟨⟨v0, l0, t0⟩, hq, hq2⟩ := Option.map_eq_some_iff.mp (show Option.map _ (spA K k m n (upN a) 0 x) = some (v, lb, t) from hw)
        obtain ⟨rfl, rfl, rfl⟩ := Prod.mk.inj hq2 |>.imp_right Prod.mk.inj
        have ha0 : a ≠ 0 := fun z => by
          have := hb0 z
          rw [e7_50] at this
          rcases this with q | q | q | q <;> exact absurd q (by decide)
        have hup := (up_at a ha).2 ha0
        rw [hup]
        refine z_aload_n F' dX7_worked_216 0 rfl 217 rfl ?_
        refine z_iload F' dX7_worked_217 5 rfl 219 rfl ?_
        refine z_iconst F' dX7_worked_219 0 (by decide) 220 rfl ?_
        refine z_iload_n F' dX7_worked_220 3 rfl 221 rfl ?_
        refine z_iload F' dX7_worked_221 4 rfl 223 rfl ?_
        refine z_callVi F' dX7_worked_223 m_807 iX7_spoken jX7_spoken rfl zc6 rfl (ih (upN a) 0 x deep L v0 l0 t0 τ (up_at a ha).1 (by decide) hq hVo hlen hdp) rfl (by omega) (Nat.le_of_ble_eq_true rfl) 226 rfl (fun r223 s223 c223 => ?_)
        refine z_iconst F' dX7_worked_226 3 (by decide) 227 rfl ?_
        refine z_imul F' dX7_worked_227 228 rfl ?_
        refine z_ri F' dX7_worked_228 ?_
        exact ⟨by rw [c223.1], c223.2⟩
      by_cases e7_51 : b = 51
      · skip
        refine z_lookup F' dX7_worked_7 (by decide +kernel) (by rw [e7_51]; first | done | decide +kernel) 229 (by decide) ?_
        rw [e7_51] at hw
        obtain ⟨⟨v0, l0, t0⟩, hq, hq2⟩ := Option.map_eq_some_iff.mp (show Option.map _ (spA K k m n (upN a) 2 x) = some (v, lb, t) from hw)
        obtain ⟨rfl, rfl, rfl⟩ := Prod.mk.inj hq2 |>.imp_right Prod.mk.inj
        have ha0 : a ≠ 0 := fun z => by
          have := hb0 z
          rw [e7_51] at this
          rcases this with q | q | q | q <;> exact absurd q (by decide)
        have hup := (up_at a ha).2 ha0
        rw [hup]
        refine z_aload_n F' dX7_worked_229 0 rfl 230 rfl ?_
        refine z_iload F' dX7_worked_230 5 rfl 232 rfl ?_
        refine z_iconst F' dX7_worked_232 2 (by decide) 233 rfl ?_
        refine z_iload_n F' dX7_worked_233 3 rfl 234 rfl ?_
        refine z_iload F' dX7_worked_234 4 rfl 236 rfl ?_
        refine z_callVi F' dX7_worked_236 m_807 iX7_spoken jX7_spoken rfl zc6 rfl (ih (upN a) 2 x deep L v0 l0 t0 τ (up_at a ha).1 (by decide) hq hVo hlen hdp) rfl (by omega) (Nat.le_of_ble_eq_true rfl) 239 rfl (fun r236 s236 c236 => ?_)
        refine z_aload_n F' dX7_worked_239 0 rfl 240 rfl ?_
        refine z_getI F' zc6 dX7_worked_240 rfl 2 (by decide) (by decide) (.inl m_269) rfl 243 rfl ?_
        rw [c236.2.2.1.2.1]
        refine z_ixor F' dX7_worked_243 244 rfl ?_
        refine z_ri F' dX7_worked_244 ?_
        exact ⟨by rw [c236.1], c236.2⟩
      by_cases e7_60 : b = 60
      · skip
        refine z_lookup F' dX7_worked_7 (by decide +kernel) (by rw [e7_60]; first | done | decide +kernel) 245 (by decide) ?_
        rw [e7_60] at hw
        have hq : spA K k m n (upN a) 1 (x + 1) = some (v, lb, t) := hw
        have ha0 : a ≠ 0 := fun z => by
          have := hb0 z
          rw [e7_60] at this
          rcases this with q | q | q | q <;> exact absurd q (by decide)
        have hup := (up_at a ha).2 ha0
        rw [hup]
        refine z_aload_n F' dX7_worked_245 0 rfl 246 rfl ?_
        refine z_iload F' dX7_worked_246 5 rfl 248 rfl ?_
        refine z_iconst F' dX7_worked_248 1 (by decide) 249 rfl ?_
        refine z_iload_n F' dX7_worked_249 3 rfl 250 rfl ?_
        refine z_iconst F' dX7_worked_250 1 (by decide) 251 rfl ?_
        refine z_iadd F' dX7_worked_251 252 rfl ?_
        refine z_iload F' dX7_worked_252 4 rfl 254 rfl ?_
        refine z_callVi F' dX7_worked_254 m_807 iX7_spoken jX7_spoken rfl zc6 rfl (ih (upN a) 1 (x + 1) deep L v lb t τ (up_at a ha).1 (by decide) hq hVo hlen hdp) rfl (by omega) (Nat.le_of_ble_eq_true rfl) 257 rfl (fun r254 s254 c254 => ?_)
        refine z_ri F' dX7_worked_257 ?_
        exact c254
      by_cases e7_70 : b = 70
      · skip
        refine z_lookup F' dX7_worked_7 (by decide +kernel) (by rw [e7_70]; first | done | decide +kernel) 258 (by decide) ?_
        rw [e7_70] at hw
        obtain ⟨rfl, rfl, rfl⟩ : 9 = v ∧ [] = lb ∧ false = t := by simpa [wkA] using hw
        refine z_bipush F' dX7_worked_258 9 (by decide) 260 rfl ?_
        refine z_ri F' dX7_worked_260 ?_
        exact ⟨rfl, MS.rf, by rw [List.append_nil]; exact hVo⟩
      by_cases e7_71 : b = 71
      · skip
        refine z_lookup F' dX7_worked_7 (by decide +kernel) (by rw [e7_71]; first | done | decide +kernel) 261 (by decide) ?_
        rw [e7_71] at hw
        obtain ⟨⟨v0, l0, t0⟩, hq, hq2⟩ := Option.map_eq_some_iff.mp (show Option.map _ (spA K k m n (upN a) 1 x) = some (v, lb, t) from hw)
        obtain ⟨rfl, rfl, rfl⟩ := Prod.mk.inj hq2 |>.imp_right Prod.mk.inj
        have ha0 : a ≠ 0 := fun z => by
          have := hb0 z
          rw [e7_71] at this
          rcases this with q | q | q | q <;> exact absurd q (by decide)
        have hup := (up_at a ha).2 ha0
        rw [hup]
        refine z_aload_n F' dX7_worked_261 0 rfl 262 rfl ?_
        refine z_iload F' dX7_worked_262 5 rfl 264 rfl ?_
        refine z_iconst F' dX7_worked_264 1 (by decide) 265 rfl ?_
        refine z_iload_n F' dX7_worked_265 3 rfl 266 rfl ?_
        refine z_iload F' dX7_worked_266 4 rfl 268 rfl ?_
        refine z_callVi F' dX7_worked_268 m_807 iX7_spoken jX7_spoken rfl zc6 rfl (ih (upN a) 1 x deep L v0 l0 t0 τ (up_at a ha).1 (by decide) hq hVo hlen hdp) rfl (by omega) (Nat.le_of_ble_eq_true rfl) 271 rfl (fun r268 s268 c268 => ?_)
        refine z_aload_n F' dX7_worked_271 0 rfl 272 rfl ?_
        refine z_getI F' zc6 dX7_worked_272 rfl 3 (by decide) (by decide) (.inl m_270) rfl 275 rfl ?_
        rw [c268.2.2.1.2.2.1]
        refine z_iadd F' dX7_worked_275 276 rfl ?_
        refine z_ri F' dX7_worked_276 ?_
        exact ⟨by rw [c268.1], c268.2⟩
      refine z_lookup F' dX7_worked_7 (by decide +kernel) (by show Op.lookupswitch.offset [(10, 113), (11, 120), (12, 131), (13, 145), (20, 160), (21, 173), (30, 183), (40, 196), (50, 209), (51, 222), (60, 238), (70, 251), (71, 254)] _ _ = 270; rw [lv_osw (a := 10) e7_10 (by decide), lv_osw (a := 11) e7_11 (by decide), lv_osw (a := 12) e7_12 (by decide), lv_osw (a := 13) e7_13 (by decide), lv_osw (a := 20) e7_20 (by decide), lv_osw (a := 21) e7_21 (by decide), lv_osw (a := 30) e7_30 (by decide), lv_osw (a := 40) e7_40 (by decide), lv_osw (a := 50) e7_50 (by decide), lv_osw (a := 51) e7_51 (by decide), lv_osw (a := 60) e7_60 (by decide), lv_osw (a := 70) e7_70 (by decide), lv_osw (a := 71) e7_71 (by decide)]; rfl) 277 (by decide) ?_
      exact absurd hw (by simp [wkA, *])
    intro F V x deep L v lb t τ hF hV3 hsp hVo hlen hdp
    obtain ⟨⟨v0, l0, t0⟩, hq0, hq2⟩ := Option.map_eq_some_iff.mp (show Option.map _ (wkA (spA K k m n) (fndB 3 F V).1 (upN (fndB 3 F V).2) K k m x) = some (v, lb, t) from hsp)
    obtain ⟨rfl, rfl, rfl⟩ : v0 = v ∧ (fndB 3 F V).1 :: l0 = lb ∧ t0 = t := by simpa using hq2
    refine z_intro iX7_spoken (Nat.le_of_ble_eq_true rfl) (fun K' F' => ?_)
    have loop6 : ∀ (g i a : Nat) (_ : i + g ≤ 4) (_ : a ≤ 6) (_ : fndB g a V = fndB 3 F V), z_X l K' E shC (4 * (n + 1) + 3) 8 (z_Pi (fun r σ' => r = v0 ∧ MS [54, 55, 56] τ σ' ∧ VoI σ' K k m t0 (L ++ (fndB 3 F V).1 :: l0))) 6 [(0, .ref (z_ad E 54)), (1, .int (nI F)), (2, .int (nI V)), (3, .int x), (4, .int (nI deep)), (5, .int (nI a)), (6, .int (nI i))] [] τ := by
      intro g
      induction g with
      | zero =>
        intro i a _ _ hfd
        exact absurd (by rw [← hfd]; rfl) (fnd_ok F hF V hV3).1
      | succ g ih2 =>
        intro i a hi ha hfd
        refine z_iload F' dX7_spoken_6 6 rfl 8 rfl ?_
        refine z_bipush F' dX7_spoken_8 40 (by decide) 10 rfl ?_
        refine z_icmp_ge F' dX7_spoken_10 85 (by decide) 13 rfl (fun h10 => ?_) (fun h10 => ?_)
        · skip
          exact absurd h10 (nI_ge (a := i) (b := 40) (by omega) (by decide))
        · skip
          refine z_iload F' dX7_spoken_13 5 rfl 15 rfl ?_
          refine z_callSp F' dX7_spoken_15 m_811 iX2_isKind m_419 rfl (kX2_isKind τ (nI a)) rfl (by omega) (Nat.le_of_ble_eq_true rfl) 18 rfl ?_
          refine z_if_eq F' dX7_spoken_18 85 (by decide) 21 rfl (fun h18 => ?_) (fun h18 => ?_)
          · skip
            have h18 := bI0.mp h18
            exact absurd ⟨nI_pos' (by omega), nI_lt (b := 7) (by omega) (by decide)⟩ h18
          · skip
            have h18 := bI1.mp h18
            refine z_getsB F' dX7_spoken_21 m_812 24 rfl ?_
            refine z_iload F' dX7_spoken_24 5 rfl 26 rfl ?_
            refine z_iconst F' dX7_spoken_26 4 (by decide) 27 rfl ?_
            refine z_imul F' dX7_spoken_27 28 rfl ?_
            refine z_iload_n F' dX7_spoken_28 2 rfl 29 rfl ?_
            refine z_iadd F' dX7_spoken_29 30 rfl ?_
            refine z_tabB F' dX7_spoken_30 (by rw [ix4]; exact vp_in_nI (by omega) (by decide)) 31 rfl ?_
            rw [ix4, nI_clamp (by omega)]
            refine z_istore F' dX7_spoken_31 [(0, _), (1, _), (2, _), (3, _), (4, _), (5, _), (6, _), (7, _)] rfl (by decide) 33 rfl ?_
            refine z_iload F' dX7_spoken_33 7 rfl 35 rfl ?_
            refine z_if_eq F' dX7_spoken_35 72 (by decide) 38 rfl (fun h35 => ?_) (fun h35 => ?_)
            · skip
              have hz := h35
              refine z_iload F' dX7_spoken_72 5 rfl 74 rfl ?_
              refine z_callSp F' dX7_spoken_74 m_819 iX2_above m_427 rfl (kX2_above τ _) rfl (by omega) (Nat.le_of_ble_eq_true rfl) 77 rfl ?_
              refine z_istore F' dX7_spoken_77 [(0, _), (1, _), (2, _), (3, _), (4, _), (5, _), (6, _), (7, _)] rfl (by decide) 79 rfl ?_
              refine z_iinc F' dX7_spoken_79 6 rfl 1 (by decide) [(0, _), (1, _), (2, _), (3, _), (4, _), (5, _), (6, _), (7, _)] rfl (by decide) 82 rfl ?_
              refine z_goto F' dX7_spoken_82 6 (by decide) ?_
              obtain ⟨ea, ea2⟩ := bod_at a ha V hV3 hz
              rw [nI_1, ea]
              refine z_sub [0, 1, 2, 3, 4, 5, 6] rfl (ih2 (i + 1) (upN a) (by omega) ea2 ?_)
              rw [← hfd]
              show _ = (if z_bodiesL.getD (a * 4 + V) 0 = 0 then fndB g (upN a) V else _)
              rw [if_pos hz]
            · skip
              have hfx : fndB 3 F V = (z_bodiesL.getD (a * 4 + V) 0, a) := by
                rw [← hfd]
                show (if z_bodiesL.getD (a * 4 + V) 0 = 0 then fndB g (upN a) V else _) = _
                rw [if_neg h35]
              refine z_aload_n F' dX7_spoken_38 0 rfl 39 rfl ?_
              refine z_getR F' zc6 dX7_spoken_39 rfl 0 (by decide) (by decide) (.inl m_266) rfl (by decide) 42 rfl ?_
              refine z_iload F' dX7_spoken_42 7 rfl 44 rfl ?_
              refine z_callVu F' dX7_spoken_44 m_814 iX4_add jX4_add rfl zc3 rfl (kX4_add τ (S := shC) (r := 55) (a := 56) (cap := 30) rfl rfl (by decide) (n := L.length) hVo.2.1 hVo.2.2.1 (by decide) _) rfl (by omega) (Nat.le_of_ble_eq_true rfl) 47 rfl ?_
              rw [if_pos (show L.length < 30 by simp at hlen; omega)]
              refine z_iload F' dX7_spoken_47 4 rfl 49 rfl ?_
              refine z_bipush F' dX7_spoken_49 40 (by decide) 51 rfl ?_
              refine z_icmp_ge F' dX7_spoken_51 70 (by decide) 54 rfl (fun h51 => ?_) (fun h51 => ?_)
              · skip
                exact absurd h51 (nI_ge (a := deep) (b := 40) (by omega) (by decide))
              · skip
                have ebx : z_bodiesL.getD (a * 4 + V) 0 = (fndB 3 F V).1 := by rw [hfx]
                have eax : a = (fndB 3 F V).2 := by rw [hfx]
                rw [ebx]
                refine z_aload_n F' dX7_spoken_54 0 rfl 55 rfl ?_
                refine z_iload F' dX7_spoken_55 7 rfl 57 rfl ?_
                refine z_iload F' dX7_spoken_57 5 rfl 59 rfl ?_
                refine z_iload_n F' dX7_spoken_59 3 rfl 60 rfl ?_
                refine z_iload F' dX7_spoken_60 4 rfl 62 rfl ?_
                refine z_iconst F' dX7_spoken_62 1 (by decide) 63 rfl ?_
                refine z_iadd F' dX7_spoken_63 64 rfl ?_
                rw [nI_1, show nI a = nI (fndB 3 F V).2 from congrArg nI eax]
                refine z_callVi F' dX7_spoken_64 m_815 iX7_worked jX7_worked rfl zc6 rfl (hwk (fndB 3 F V).1 (fndB 3 F V).2 x (deep + 1) (L ++ [(fndB 3 F V).1]) v0 l0 t0 _ (fnd_ok F hF V hV3).2 (fnd_a F hF V hV3) hq0 (hVo.push (by simp at hlen; omega) _) (by simp at hlen ⊢; omega) (by omega)) rfl (by omega) (Nat.le_of_ble_eq_true rfl) 67 rfl (fun r64 s64 c64 => ?_)
                refine z_goto F' dX7_spoken_67 71 (by decide) ?_
                refine z_ri F' dX7_spoken_71 ?_
                refine ⟨c64.1, ((MS.rf.u2 (by decide)).u2 (by decide)).tr c64.2.1, ?_⟩
                have := c64.2.2
                rw [List.append_assoc] at this
                exact this
    refine z_iload_n F' dX7_spoken_0 1 rfl 1 rfl ?_
    refine z_istore F' dX7_spoken_1 [(0, _), (1, _), (2, _), (3, _), (4, _), (5, _)] rfl (by decide) 3 rfl ?_
    refine z_iconst F' dX7_spoken_3 0 (by decide) 4 rfl ?_
    refine z_istore F' dX7_spoken_4 [(0, _), (1, _), (2, _), (3, _), (4, _), (5, _), (6, _)] rfl (by decide) 6 rfl ?_
    exact loop6 3 0 F (by omega) hF rfl
