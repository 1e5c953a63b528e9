/-! TEXTS as steps for a pile: what they give -/
def sgn (w : Int32) : Prop := w = 124 ∨ w = 38 ∨ w = 60 ∨ w = 61 ∨ w = 62 ∨ w = 43 ∨ w = 45 ∨ w = 42 ∨ w = 47 ∨ w = 37
def fa3 (a b c : Int32) (j : Nat) : Int32 := if j = 0 then a else if j = 1 then b else c
def evS (fa : Nat → Int32) (w v : Int32) (st : List Int32) : List Int32 :=
  if w = 1 then v :: st else if w = 2 then fa v.toNatClampNeg :: st else if w = 3 then (match st with
    | x :: t => bI (x = 0) :: t
    | [] => []) else (match st with
    | y :: x :: t => twoS w x y :: t
    | s => s)
def evR (r : Rw) (at0 : Nat) (fa : Nat → Int32) : Nat → List Int32
  | 0 => []
  | k + 1 => evS fa (r (at0 + 1 + k)) (r (at0 + 61 + k)) (evR r at0 fa k)
def dpS (w : Int32) (d : Nat) : Nat := if w = 1 ∨ w = 2 then d + 1 else if w = 3 then d else d - 1
def dpR (r : Rw) (at0 : Nat) : Nat → Nat
  | 0 => 0
  | k + 1 => dpS (r (at0 + 1 + k)) (dpR r at0 k)
def opOk (w v : Int32) (d : Nat) : Prop := (w = 1 ∧ ∃ q, q < 10000 ∧ v = nI q) ∨ (w = 2 ∧ (v = 0 ∨ v = 1 ∨ v = 2)) ∨ (w = 3 ∧ 1 ≤ d) ∨ (sgn w ∧ 2 ≤ d)
def enc (w v : Int32) : Int32 := if w = 1 then v else if w = 2 then -1 - v else if w = 3 then 10033 else 10000 + w
theorem sgn_ne {w : Int32} (h : sgn w) : ¬ w = 1 ∧ ¬ w = 2 ∧ ¬ w = 3 ∧ 10000 + w - 10000 = w ∧ ¬ 10000 + w < 10000 ∧ ¬ 10000 + w = 10033 := by
  rcases h with h | h | h | h | h | h | h | h | h | h <;> (subst h; decide)
theorem dpR_le (r : Rw) (at0 : Nat) : ∀ k, dpR r at0 k ≤ k
  | 0 => Nat.le_refl 0
  | k + 1 => by have := dpR_le r at0 k; show dpS _ _ ≤ _; unfold dpS; (repeat' split) <;> omega
theorem ev_len {r : Rw} {at0 : Nat} {fa : Nat → Int32} : ∀ {k : Nat}, (∀ j, j < k → opOk (r (at0 + 1 + j)) (r (at0 + 61 + j)) (dpR r at0 j)) → (evR r at0 fa k).length = dpR r at0 k
  | 0, _ => rfl
  | k + 1, h => by
    have ih := ev_len (r := r) (at0 := at0) (fa := fa) (k := k) (fun j hj => h j (by omega))
    show (evS _ _ _ _).length = dpS _ _
    unfold evS dpS
    rcases h k (by omega) with ⟨e, -⟩ | ⟨e, -⟩ | ⟨e, hd⟩ | ⟨e, hd⟩
    · simp [e, ih]
    · simp [e, ih]
    · generalize evR r at0 fa k = st at ih
      cases st with
      | nil => simp at ih; omega
      | cons x t => simp [e]; simp at ih; exact ih
    · obtain ⟨n1, n2, n3, -⟩ := sgn_ne e
      generalize evR r at0 fa k = st at ih
      simp only [n1, n2, n3, if_false, or_self]
      match st with
      | [] => simp at ih; omega
      | [x] => simp at ih; omega
      | y :: x :: t => simp at ih ⊢; omega
def PileIs (g : Nat → Int32) : List Int32 → Prop
  | [] => True
  | x :: t => g t.length = x ∧ PileIs g t
theorem PileIs.upd {g : Nat → Int32} {k : Nat} {v : Int32} : ∀ {t : List Int32}, PileIs g t → t.length ≤ k → PileIs (upd g k v) t
  | [], _, _ => trivial
  | x :: t, h, hk => by
    have hk2 : t.length < k := by simp at hk; omega
    exact ⟨by rw [upd_at, if_neg (by omega)]; exact h.1, PileIs.upd h.2 (by omega)⟩
theorem PileIs.last {g : Nat → Int32} : ∀ {t : List Int32}, PileIs g t → 0 < t.length → g 0 = t.getLastD 0
  | [], _, h => by simp at h
  | [x], h, _ => h.1
  | x :: y :: t, h, _ => by
    have := PileIs.last (t := y :: t) h.2 (by simp)
    rw [this]; simp [List.getLastD]
def cL (r : Rw) (u : Nat) : Nat := (r (143 + 121 * u)).toNatClampNeg
def VC (r : Rw) (u : Nat) : Prop := r (143 + 121 * u) = nI (cL r u) ∧ cL r u ≤ 60 ∧ (∀ k, k < cL r u → opOk (r (143 + 121 * u + 1 + k)) (r (143 + 121 * u + 61 + k)) (dpR r (143 + 121 * u) k)) ∧ (0 < cL r u → 1 ≤ dpR r (143 + 121 * u) (cL r u))
def TxR (σ : z_M) (b u : Nat) (r : Rw) : Prop := σ (b + 13 + 4 * u) 1 = r (143 + 121 * u) ∧ ∀ k, k < cL r u → σ (b + 14 + 4 * u) k = enc (r (143 + 121 * u + 1 + k)) (r (143 + 121 * u + 61 + k))
def heldS (v : Int32) : Int32 := if v < 0 then 0 else if 40 < v then 40 else v
/-- what a USE gives -/
def givS (r : Rw) (u : Nat) (a b c : Int32) : Int32 := heldS (if 0 < cL r u then (evR r (143 + 121 * u) (fa3 a b c) (cL r u)).getLastD 0 else a)
theorem held_mm (g : Int32) : (if (0 : Int32) < (if 40 < g then 40 else g) then (if 40 < g then 40 else g) else 0) = heldS g := by
  unfold heldS
  (repeat' split) <;> first | rfl | (exfalso; simp only [Int32.lt_iff_toInt_lt, Int32.le_iff_toInt_le, ← Int32.toInt_inj, Int32.reduceToInt] at *; omega) | (simp only [Int32.lt_iff_toInt_lt, Int32.le_iff_toInt_le, ← Int32.toInt_inj, Int32.reduceToInt] at *; omega)
theorem enc_3 {w v : Int32} {d : Nat} (h : opOk w v d) (e : enc w v = 10033) : w = 3 ∧ 1 ≤ d := by
  rcases h with ⟨rfl, q, hq, rfl⟩ | ⟨rfl, rfl | rfl | rfl⟩ | ⟨rfl, hd⟩ | ⟨hs, hd⟩
  · have : q = 10033 := eq_nI (show nI q = nI 10033 from e) (by omega) (by decide)
    omega
  · exact absurd e (by decide)
  · exact absurd e (by decide)
  · exact absurd e (by decide)
  · exact ⟨rfl, hd⟩
  · obtain ⟨n1, n2, n3, -, -, n4⟩ := sgn_ne hs
    unfold enc at e
    rw [if_neg n1, if_neg n2, if_neg n3] at e
    exact absurd e n4
theorem enc_s {w v : Int32} {d : Nat} (h : opOk w v d) (e : ¬ enc w v = 10033) (e2 : ¬ enc w v < 10000) : sgn w ∧ 2 ≤ d ∧ enc w v - 10000 = w := by
  rcases h with ⟨rfl, q, hq, rfl⟩ | ⟨rfl, rfl | rfl | rfl⟩ | ⟨rfl, hd⟩ | ⟨hs, hd⟩
  · exact absurd (nI_lt (b := 10000) hq (by decide)) e2
  · exact absurd (by decide) e2
  · exact absurd (by decide) e2
  · exact absurd (by decide) e2
  · exact absurd rfl e
  · obtain ⟨n1, n2, n3, n5, -, n4⟩ := sgn_ne hs
    refine ⟨hs, hd, ?_⟩
    unfold enc
    rw [if_neg n1, if_neg n2, if_neg n3]
    exact n5
theorem enc_n {w v : Int32} {d : Nat} (h : opOk w v d) (e2 : enc w v < 10000) : (w = 1 ∧ enc w v = v ∧ ¬ enc w v < 0) ∨ (w = 2 ∧ enc w v < 0 ∧ -1 - enc w v = v ∧ (v = 0 ∨ v = 1 ∨ v = 2)) := by
  rcases h with ⟨rfl, q, hq, rfl⟩ | ⟨rfl, rfl | rfl | rfl⟩ | ⟨rfl, hd⟩ | ⟨hs, hd⟩
  · exact Or.inl ⟨rfl, rfl, nI_pos (by omega)⟩
  · exact Or.inr (by decide)
  · exact Or.inr (by decide)
  · exact Or.inr (by decide)
  · exact absurd e2 (show ¬ (10033 : Int32) < 10000 by decide)
  · obtain ⟨n1, n2, n3, n5, n6, n4⟩ := sgn_ne hs
    unfold enc at e2
    rw [if_neg n1, if_neg n2, if_neg n3] at e2
    exact absurd e2 n6
set_option maxHeartbeats 400000 in
set_option maxRecDepth 10000 in
theorem kX4_copy {l : Launch} {E : z_E} (σ : z_M) {S : z_Sh} {r a cap : Nat} (hr : S[r]? = some (6, 2, [some a, none])) (ha : S[a]? = some (0, cap, [])) (ha9 : a ≠ 999) {r2 a2 cap2 : Nat} (hr2 : S[r2]? = some (6, 2, [some a2, none])) (ha2 : S[a2]? = some (0, cap2, [])) (ha92 : a2 ≠ 999) {n : Nat} (hn : σ r2 1 = nI n) (hc : n ≤ cap) (hc2 : n ≤ cap2) (hcap : cap < 2 ^ 31) : z_C l E S 2 yX4_copy cX4_copy 2 none [.ref (z_ad E r), .ref (z_ad E r2)] σ (z_Pu (z_up (z_u2 σ r 1 (nI n)) a (va_cpy (σ a2) (σ a) 0 0 n))) := by
  refine z_intro iX4_copy (Nat.le_of_ble_eq_true rfl) (fun K F => ?_)
  have hra : a ≠ r := fun e => by rw [← e, ha] at hr; simp at hr
  have hra2 : a2 ≠ r := fun e => by rw [← e, ha2] at hr; simp at hr
  refine z_aload_n F dX4_copy_0 0 rfl 1 rfl ?_
  refine z_aload_n F dX4_copy_1 1 rfl 2 rfl ?_
  refine z_getI F zc3 dX4_copy_2 hr2 1 (by decide) (by decide) (.inl m_182) rfl 5 rfl ?_
  refine z_aload_n F dX4_copy_5 0 rfl 6 rfl ?_
  refine z_getR F zc3 dX4_copy_6 hr 0 (by decide) (by decide) (.inl m_181) rfl ha9 9 rfl ?_
  refine z_alen F dX4_copy_9 ha (nI cap) rfl 10 rfl ?_
  rw [hn]
  refine z_min F dX4_copy_10 m_636 m_364 m_76 m_365 (by decide) (Nat.le_of_ble_eq_true rfl) 13 rfl ?_
  rw [if_neg (nI_nlt hc (by omega))]
  refine z_putI F zc3 dX4_copy_13 hr 1 (by decide) (by decide) (.inl m_182) rfl rfl z_pI 16 rfl ?_
  refine z_aload_n F dX4_copy_16 1 rfl 17 rfl ?_
  refine z_getR F zc3 dX4_copy_17 hr2 0 (by decide) (by decide) (.inl m_181) rfl ha92 20 rfl ?_
  refine z_iconst F dX4_copy_20 0 (by decide) 21 rfl ?_
  refine z_aload_n F dX4_copy_21 0 rfl 22 rfl ?_
  refine z_getR F zc3 dX4_copy_22 hr 0 (by decide) (by decide) (.inl m_181) rfl ha9 25 rfl ?_
  refine z_iconst F dX4_copy_25 0 (by decide) 26 rfl ?_
  refine z_aload_n F dX4_copy_26 0 rfl 27 rfl ?_
  refine z_getI F zc3 dX4_copy_27 hr 1 (by decide) (by decide) (.inl m_182) rfl 30 rfl ?_
  rw [u2_same]
  refine z_copyi F dX4_copy_30 m_637 m_639 m_638 m_87 ha2 ha (by decide) (by decide) (nI_pos (by omega)) (by rw [nI_clamp (by omega)]; simp; omega) (by rw [nI_clamp (by omega)]; simp; omega) (by decide) (Nat.le_of_ble_eq_true rfl) 33 rfl ?_
  rw [nI_clamp (by omega), u2_o hra, u2_o hra2]
  refine z_ru F dX4_copy_33 ?_
  rfl
set_option maxHeartbeats 400000 in
set_option maxRecDepth 10000 in
theorem kX4_take {l : Launch} {E : z_E} (σ : z_M) {S : z_Sh} {r a cap : Nat} (hr : S[r]? = some (6, 2, [some a, none])) (ha : S[a]? = some (0, cap, [])) (ha9 : a ≠ 999) {r2 a2 cap2 : Nat} (hr2 : S[r2]? = some (6, 2, [some a2, none])) (ha2 : S[a2]? = some (0, cap2, [])) (ha92 : a2 ≠ 999) {n n2 : Nat} (hn : σ r 1 = nI n) (hc : n ≤ cap) (hcap : cap < 2 ^ 31) (hn2 : σ r2 1 = nI n2) (hc2 : n2 ≤ cap2) (hcap2 : cap2 < 2 ^ 31) {j i m : Nat} (hj : j + m ≤ n) (hi : i + m ≤ n2) : z_C l E S 2 yX4_take cX4_take 5 none [.ref (z_ad E r), .int (nI j), .ref (z_ad E r2), .int (nI i), .int (nI m)] σ (z_Pu (z_up σ a (va_cpy (σ a2) (σ a) i j m))) := by
  refine z_intro iX4_take (Nat.le_of_ble_eq_true rfl) (fun K F => ?_)
  have g1 : 0 ≤ nI j ∧ 0 ≤ nI m ∧ nI j ≤ σ r 1 ∧ nI m ≤ σ r 1 - nI j := by
    rw [hn, pk_sub (by omega)]
    exact ⟨nI_pos' (by omega), nI_pos' (by omega), nI_le (by omega) (by omega), nI_le (by omega) (by omega)⟩
  have g2 : 0 ≤ nI i ∧ 0 ≤ nI m ∧ nI i ≤ σ r2 1 ∧ nI m ≤ σ r2 1 - nI i := by
    rw [hn2, pk_sub (by omega)]
    exact ⟨nI_pos' (by omega), nI_pos' (by omega), nI_le (by omega) (by omega), nI_le (by omega) (by omega)⟩
  refine z_aload_n F dX4_take_0 0 rfl 1 rfl ?_
  refine z_iload_n F dX4_take_1 1 rfl 2 rfl ?_
  refine z_iload F dX4_take_2 4 rfl 4 rfl ?_
  refine z_callVp F dX4_take_4 m_879 iX4_stand jX4_stand rfl zc3 hr (kX4_stand σ hr ha ha9 hn hc hcap (nI j) (nI m)) rfl (by decide) (Nat.le_of_ble_eq_true rfl) 7 rfl ?_
  refine z_if_eq F dX4_take_7 35 (by decide) 10 rfl (fun h7 => ?_) (fun h7 => ?_)
  · skip
    have h7 := bI0.mp h7
    exact absurd g1 h7
  · skip
    have h7 := bI1.mp h7
    refine z_aload_n F dX4_take_10 2 rfl 11 rfl ?_
    refine z_iload_n F dX4_take_11 3 rfl 12 rfl ?_
    refine z_iload F dX4_take_12 4 rfl 14 rfl ?_
    refine z_callVp F dX4_take_14 m_879 iX4_stand jX4_stand rfl zc3 hr2 (kX4_stand σ hr2 ha2 ha92 hn2 hc2 hcap2 (nI i) (nI m)) rfl (by decide) (Nat.le_of_ble_eq_true rfl) 17 rfl ?_
    refine z_if_eq F dX4_take_17 35 (by decide) 20 rfl (fun h17 => ?_) (fun h17 => ?_)
    · skip
      have h17 := bI0.mp h17
      exact absurd g2 h17
    · skip
      have h17 := bI1.mp h17
      refine z_aload_n F dX4_take_20 2 rfl 21 rfl ?_
      refine z_getR F zc3 dX4_take_21 hr2 0 (by decide) (by decide) (.inl m_181) rfl ha92 24 rfl ?_
      refine z_iload_n F dX4_take_24 3 rfl 25 rfl ?_
      refine z_aload_n F dX4_take_25 0 rfl 26 rfl ?_
      refine z_getR F zc3 dX4_take_26 hr 0 (by decide) (by decide) (.inl m_181) rfl ha9 29 rfl ?_
      refine z_iload_n F dX4_take_29 1 rfl 30 rfl ?_
      refine z_iload F dX4_take_30 4 rfl 32 rfl ?_
      refine z_copyi F dX4_take_32 m_637 m_639 m_638 m_87 ha2 ha (nI_pos (by omega)) (nI_pos (by omega)) (nI_pos (by omega)) (by rw [nI_clamp (by omega), nI_clamp (by omega)]; omega) (by rw [nI_clamp (by omega), nI_clamp (by omega)]; omega) (by decide) (Nat.le_of_ble_eq_true rfl) 35 rfl ?_
      rw [nI_clamp (by omega), nI_clamp (by omega), nI_clamp (by omega)]
      refine z_ru F dX4_take_35 ?_
      rfl
set_option maxHeartbeats 400000 in
set_option maxRecDepth 10000 in
theorem kX6_isGivenA {l : Launch} {E : z_E} (σ : z_M) {r : Rw} (hT : TxR σ 1 0 r) (hC : VC r 0) : z_C l E shC 1 yX6_isGiven cX6_isGiven 1 (some FieldType.boolean) [.ref (z_ad E 13)] σ (z_Pp (bI (0 < cL r 0)) σ) := by
  refine z_intro iX6_isGiven (Nat.le_of_ble_eq_true rfl) (fun K F => ?_)
  have hT1 : σ 14 1 = r 143 := hT.1
  have hT2 : ∀ k, k < cL r 0 → σ 15 k = enc (r (143 + 1 + k)) (r (143 + 61 + k)) := hT.2
  have hL : r 143 = nI (cL r 0) := hC.1
  have hL60 := hC.2.1
  refine z_aload_n F dX6_isGiven_0 0 rfl 1 rfl ?_
  refine z_getR F zc5 dX6_isGiven_1 rfl 0 (by decide) (by decide) (.inl m_188) rfl (by decide) 4 rfl ?_
  refine z_callVp F dX6_isGiven_4 m_390 iX4_size jX4_size rfl zc3 rfl (kX4_size σ (S := shC) (r := 14) (a := 15) (cap := 60) rfl rfl (by decide)) rfl (by decide) (Nat.le_of_ble_eq_true rfl) 7 rfl ?_
  rw [hT1, hL]
  refine z_if_le F dX6_isGiven_7 14 (by decide) 10 rfl (fun h7 => ?_) (fun h7 => ?_)
  · skip
    refine z_iconst F dX6_isGiven_14 0 (by decide) 15 rfl ?_
    refine z_rpz F dX6_isGiven_15 (by first | rfl | exact bIn) ?_ rfl
    first
      | (have q : 0 < cL r 0 := by
           rcases Nat.eq_zero_or_pos (cL r 0) with z | z
           · rw [z] at h7; exact absurd h7 (by decide)
           · exact z
         exact (bI_t q).symm)
      | (have q : ¬ 0 < cL r 0 := fun z => absurd h7 (nI_nle z (by omega))
         exact (bI_f q).symm)
  · skip
    refine z_iconst F dX6_isGiven_10 1 (by decide) 11 rfl ?_
    refine z_goto F dX6_isGiven_11 15 (by decide) ?_
    refine z_rpz F dX6_isGiven_15 (by first | rfl | exact bIn) ?_ rfl
    first
      | (have q : 0 < cL r 0 := by
           rcases Nat.eq_zero_or_pos (cL r 0) with z | z
           · rw [z] at h7; exact absurd h7 (by decide)
           · exact z
         exact (bI_t q).symm)
      | (have q : ¬ 0 < cL r 0 := fun z => absurd h7 (nI_nle z (by omega))
         exact (bI_f q).symm)
set_option maxHeartbeats 2000000 in
set_option maxRecDepth 10000 in
theorem kX6_workedA {l : Launch} {E : z_E} (σ : z_M) {r : Rw} (hT : TxR σ 1 0 r) (hC : VC r 0) (hpos : 0 < cL r 0) (a b c : Int32) : z_C l E shC 1 yX6_worked cX6_worked 7 (some FieldType.int) [.ref (z_ad E 13), .int a, .int b, .int c] σ (z_Pi (fun x σ' => x = (evR r 143 (fa3 a b c) (cL r 0)).getLastD 0 ∧ MS [16] σ σ')) := by
  refine z_intro iX6_worked (Nat.le_of_ble_eq_true rfl) (fun K F => ?_)
  have hT1 : σ 14 1 = r 143 := hT.1
  have hT2 : ∀ k, k < cL r 0 → σ 15 k = enc (r (143 + 1 + k)) (r (143 + 61 + k)) := hT.2
  have hL : r 143 = nI (cL r 0) := hC.1
  have hL60 := hC.2.1
  have hlen : ∀ i, i ≤ cL r 0 → (evR r 143 (fa3 a b c) i).length = dpR r 143 i := fun i hi => ev_len (fun j hj => hC.2.2.1 j (by omega))
  have loop6 : ∀ (f : Nat) (i : Nat) (τ : z_M) (st : List Int32) (_ : 60 < i + f) (_ : i ≤ cL r 0) (_ : st = evR r 143 (fa3 a b c) i) (_ : MS [16] σ τ) (_ : PileIs (τ 16) st), z_X l K E shC 1 7 (z_Pi (fun x σ' => x = (evR r 143 (fa3 a b c) (cL r 0)).getLastD 0 ∧ MS [16] σ σ')) 6 [(0, .ref (z_ad E 13)), (1, .int a), (2, .int b), (3, .int c), (4, .int (nI st.length)), (5, .int (nI i))] [] τ := by
    intro f
    induction f with
    | zero =>
      intro i τ st hf hi hst hs hp
      omega
    | succ f ih =>
      intro i τ st hf hi hst hs hp
      have e0 : τ 14 1 = nI (cL r 0) := (congrFun (hs 14 (by decide)) 1).trans (hT1.trans hL)
      have hl := hlen i hi
      rw [← hst] at hl
      have hd := dpR_le r 143 i
      refine z_iload F dX6_worked_6 5 rfl 8 rfl ?_
      refine z_aload_n F dX6_worked_8 0 rfl 9 rfl ?_
      refine z_getR F zc5 dX6_worked_9 rfl 0 (by decide) (by decide) (.inl m_188) rfl (by decide) 12 rfl ?_
      refine z_callVp F dX6_worked_12 m_390 iX4_size jX4_size rfl zc3 rfl (kX4_size τ (S := shC) (r := 14) (a := 15) (cap := 60) rfl rfl (by decide)) rfl (by decide) (Nat.le_of_ble_eq_true rfl) 15 rfl ?_
      rw [e0]
      refine z_icmp_ge F dX6_worked_15 174 (by decide) 18 rfl (fun h15 => ?_) (fun h15 => ?_)
      · skip
        refine z_aload_n F dX6_worked_174 0 rfl 175 rfl ?_
        refine z_getR F zc5 dX6_worked_175 rfl 1 (by decide) (by decide) (.inl m_191) rfl (by decide) 178 rfl ?_
        refine z_iconst F dX6_worked_178 0 (by decide) 179 rfl ?_
        refine z_iald F dX6_worked_179 rfl (vp_in_nI (n := 0) (by decide) (by decide)) 180 rfl ?_
        refine z_ri F dX6_worked_180 ?_
        have hin : i = cL r 0 := by have := le_nI h15 (by omega) (by omega); omega
        subst hin
        refine ⟨?_, hs⟩
        show τ 16 0 = _
        rw [← hst]
        exact hp.last (by rw [hl]; exact hC.2.2.2 hpos)
      · skip
        have hin : i < cL r 0 := nle_nI h15 (by omega) (by omega)
        have hop : opOk (r (143 + 1 + i)) (r (143 + 61 + i)) (dpR r 143 i) := hC.2.2.1 i hin
        have hev : evR r 143 (fa3 a b c) (i + 1) = evS (fa3 a b c) (r (143 + 1 + i)) (r (143 + 61 + i)) st := by rw [hst]; rfl
        refine z_aload_n F dX6_worked_18 0 rfl 19 rfl ?_
        refine z_getR F zc5 dX6_worked_19 rfl 0 (by decide) (by decide) (.inl m_188) rfl (by decide) 22 rfl ?_
        refine z_iload F dX6_worked_22 5 rfl 24 rfl ?_
        refine z_callVp F dX6_worked_24 m_398 iX4_at jX4_at rfl zc3 rfl (kX4_at τ (S := shC) (r := 14) (a := 15) (cap := 60) rfl rfl (by decide) e0 hL60 (by decide) (nI i)) rfl (by decide) (Nat.le_of_ble_eq_true rfl) 27 rfl ?_
        rw [show rAt τ 14 15 (nI i) = enc (r (143 + 1 + i)) (r (143 + 61 + i)) from by
          unfold rAt; rw [e0, if_pos (isP_nI hin (by omega)), nI_clamp (by omega), hs 15 (by decide)]; exact hT2 i hin]
        generalize hw : r (143 + 1 + i) = w at hop hev ⊢
        generalize hv : r (143 + 61 + i) = v at hop hev ⊢
        refine z_istore F dX6_worked_27 [(0, _), (1, _), (2, _), (3, _), (4, _), (5, _), (6, _)] rfl (by decide) 29 rfl ?_
        refine z_iload F dX6_worked_29 6 rfl 31 rfl ?_
        refine z_sipush F dX6_worked_31 10033 (by decide) 34 rfl ?_
        refine z_icmp_ne F dX6_worked_34 72 (by decide) 37 rfl (fun h34 => ?_) (fun h34 => ?_)
        · skip
          refine z_iload F dX6_worked_72 6 rfl 74 rfl ?_
          refine z_sipush F dX6_worked_74 10000 (by decide) 77 rfl ?_
          refine z_icmp_lt F dX6_worked_77 128 (by decide) 80 rfl (fun h77 => ?_) (fun h77 => ?_)
          · skip
            refine z_iload F dX6_worked_128 4 rfl 130 rfl ?_
            refine z_aload_n F dX6_worked_130 0 rfl 131 rfl ?_
            refine z_getR F zc5 dX6_worked_131 rfl 1 (by decide) (by decide) (.inl m_191) rfl (by decide) 134 rfl ?_
            refine z_alen F dX6_worked_134 rfl 60 rfl 135 rfl ?_
            refine z_icmp_ge F dX6_worked_135 168 (by decide) 138 rfl (fun h135 => ?_) (fun h135 => ?_)
            · skip
              exact absurd h135 (nI_ge (b := 60) (by omega) (by decide))
            · skip
              have hl60 : st.length < 60 := by omega
              refine z_aload_n F dX6_worked_138 0 rfl 139 rfl ?_
              refine z_getR F zc5 dX6_worked_139 rfl 1 (by decide) (by decide) (.inl m_191) rfl (by decide) 142 rfl ?_
              refine z_iload F dX6_worked_142 4 rfl 144 rfl ?_
              refine z_iload F dX6_worked_144 6 rfl 146 rfl ?_
              refine z_if_lt F dX6_worked_146 154 (by decide) 149 rfl (fun h146 => ?_) (fun h146 => ?_)
              · skip
                refine z_iconst F dX6_worked_154 (-1) (by decide) 155 rfl ?_
                refine z_iload F dX6_worked_155 6 rfl 157 rfl ?_
                refine z_isub F dX6_worked_157 158 rfl ?_
                refine z_iload_n F dX6_worked_158 1 rfl 159 rfl ?_
                refine z_iload_n F dX6_worked_159 2 rfl 160 rfl ?_
                refine z_iload_n F dX6_worked_160 3 rfl 161 rfl ?_
                refine z_callSp F dX6_worked_161 m_405 iX6_named m_406 rfl (kX6_named _ _ _ _ _) rfl (by decide) (Nat.le_of_ble_eq_true rfl) 164 rfl ?_
                refine z_iast F dX6_worked_164 rfl (vp_in_nI (by omega) (by decide)) 165 rfl ?_
                rw [nI_clamp (by omega)]
                refine z_iinc F dX6_worked_165 4 rfl 1 (by decide) [(0, _), (1, _), (2, _), (3, _), (4, _), (5, _), (6, _)] rfl (by decide) 168 rfl ?_
                refine z_iinc F dX6_worked_168 5 rfl 1 (by decide) [(0, _), (1, _), (2, _), (3, _), (4, _), (5, _), (6, _)] rfl (by decide) 171 rfl ?_
                refine z_goto F dX6_worked_171 6 (by decide) ?_
                simp only [nI_1]
                have hfin : ∃ z, evR r 143 (fa3 a b c) (i + 1) = z :: st ∧ z = (if enc w v < 0 then (if -1 - enc w v = 0 then a else if -1 - enc w v = 1 then b else c) else enc w v) := by
                  rcases enc_n hop h77 with ⟨e1, e2, e3⟩ | ⟨e1, e2, e3, e4⟩
                  · exact ⟨v, by rw [hev, e1]; rfl, by rw [if_neg e3, e2]⟩
                  · refine ⟨fa3 a b c v.toNatClampNeg, by rw [hev, e1]; rfl, ?_⟩
                    rw [if_pos e2, e3]
                    rcases e4 with e4 | e4 | e4 <;> (rw [e4]; rfl)
                obtain ⟨z, hz1, hz2⟩ := hfin
                rw [if_pos h146] at hz2
                rw [← hz2]
                refine z_sub [0, 1, 2, 3, 4, 5] rfl (ih (i + 1) _ (z :: st) (by omega) (by omega) hz1.symm (hs.u2 (by decide)) ?_)
                rw [z_u2, up_same]
                exact ⟨by rw [upd_at, if_pos rfl], hp.upd (Nat.le_refl _)⟩
              · skip
                refine z_iload F dX6_worked_149 6 rfl 151 rfl ?_
                refine z_goto F dX6_worked_151 164 (by decide) ?_
                refine z_iast F dX6_worked_164 rfl (vp_in_nI (by omega) (by decide)) 165 rfl ?_
                rw [nI_clamp (by omega)]
                refine z_iinc F dX6_worked_165 4 rfl 1 (by decide) [(0, _), (1, _), (2, _), (3, _), (4, _), (5, _), (6, _)] rfl (by decide) 168 rfl ?_
                refine z_iinc F dX6_worked_168 5 rfl 1 (by decide) [(0, _), (1, _), (2, _), (3, _), (4, _), (5, _), (6, _)] rfl (by decide) 171 rfl ?_
                refine z_goto F dX6_worked_171 6 (by decide) ?_
                simp only [nI_1]
                have hfin : ∃ z, evR r 143 (fa3 a b c) (i + 1) = z :: st ∧ z = (if enc w v < 0 then (if -1 - enc w v = 0 then a else if -1 - enc w v = 1 then b else c) else enc w v) := by
                  rcases enc_n hop h77 with ⟨e1, e2, e3⟩ | ⟨e1, e2, e3, e4⟩
                  · exact ⟨v, by rw [hev, e1]; rfl, by rw [if_neg e3, e2]⟩
                  · refine ⟨fa3 a b c v.toNatClampNeg, by rw [hev, e1]; rfl, ?_⟩
                    rw [if_pos e2, e3]
                    rcases e4 with e4 | e4 | e4 <;> (rw [e4]; rfl)
                obtain ⟨z, hz1, hz2⟩ := hfin
                rw [if_neg h146] at hz2
                rw [← hz2]
                refine z_sub [0, 1, 2, 3, 4, 5] rfl (ih (i + 1) _ (z :: st) (by omega) (by omega) hz1.symm (hs.u2 (by decide)) ?_)
                rw [z_u2, up_same]
                exact ⟨by rw [upd_at, if_pos rfl], hp.upd (Nat.le_refl _)⟩
          · skip
            obtain ⟨hsg, hd2, hes⟩ := enc_s hop h34 h77
            obtain ⟨y, x, st2, hst2⟩ : ∃ y x t, st = y :: x :: t := by
              match st with
              | [] => simp at hl; omega
              | [x] => simp at hl; omega
              | y :: x :: t => exact ⟨y, x, t, rfl⟩
            have hsl : nI st.length = nI (st2.length + 2) := by rw [hst2]; rfl
            have hl60 : st2.length + 2 ≤ 60 := by rw [hst2] at hl; simp at hl; omega
            rw [hst2] at hp
            rw [hst2] at hev
            refine z_iload F dX6_worked_80 4 rfl 82 rfl ?_
            refine z_iconst F dX6_worked_82 2 (by decide) 83 rfl ?_
            refine z_icmp_lt F dX6_worked_83 168 (by decide) 86 rfl (fun h83 => ?_) (fun h83 => ?_)
            · skip
              exact absurd h83 (nI_nlt (b := 2) (by rw [hl]; exact (enc_s hop h34 h77).2.1) (by omega))
            · skip
              rw [hsl]
              refine z_aload_n F dX6_worked_86 0 rfl 87 rfl ?_
              refine z_getR F zc5 dX6_worked_87 rfl 1 (by decide) (by decide) (.inl m_191) rfl (by decide) 90 rfl ?_
              refine z_iload F dX6_worked_90 4 rfl 92 rfl ?_
              refine z_iconst F dX6_worked_92 2 (by decide) 93 rfl ?_
              refine z_isub F dX6_worked_93 94 rfl ?_
              rw [show (2 : Int32) = nI 2 from rfl, pk_sub (by omega), show st2.length + 2 - 2 = st2.length by omega]
              refine z_iload F dX6_worked_94 6 rfl 96 rfl ?_
              refine z_sipush F dX6_worked_96 10000 (by decide) 99 rfl ?_
              refine z_isub F dX6_worked_99 100 rfl ?_
              rw [hes]
              refine z_aload_n F dX6_worked_100 0 rfl 101 rfl ?_
              refine z_getR F zc5 dX6_worked_101 rfl 1 (by decide) (by decide) (.inl m_191) rfl (by decide) 104 rfl ?_
              refine z_iload F dX6_worked_104 4 rfl 106 rfl ?_
              refine z_iconst F dX6_worked_106 2 (by decide) 107 rfl ?_
              refine z_isub F dX6_worked_107 108 rfl ?_
              rw [show (2 : Int32) = nI 2 from rfl, pk_sub (by omega), show st2.length + 2 - 2 = st2.length by omega]
              refine z_iald F dX6_worked_108 rfl (vp_in_nI (by omega) (by decide)) 109 rfl ?_
              rw [nI_clamp (by omega), hp.2.1]
              refine z_aload_n F dX6_worked_109 0 rfl 110 rfl ?_
              refine z_getR F zc5 dX6_worked_110 rfl 1 (by decide) (by decide) (.inl m_191) rfl (by decide) 113 rfl ?_
              refine z_iload F dX6_worked_113 4 rfl 115 rfl ?_
              refine z_iconst F dX6_worked_115 1 (by decide) 116 rfl ?_
              refine z_isub F dX6_worked_116 117 rfl ?_
              rw [show (1 : Int32) = nI 1 from rfl, pk_sub (by omega), show st2.length + 2 - 1 = st2.length + 1 by omega]
              refine z_iald F dX6_worked_117 rfl (vp_in_nI (by omega) (by decide)) 118 rfl ?_
              rw [nI_clamp (by omega), show τ 16 (st2.length + 1) = y from hp.1]
              refine z_callSp F dX6_worked_118 m_402 iX6_joined m_403 rfl (kX6_joined _ _ _ _) rfl (by decide) (Nat.le_of_ble_eq_true rfl) 121 rfl ?_
              have hsg2 : w = 124 ∨ w = 38 ∨ w = 60 ∨ w = 61 ∨ w = 62 ∨ w = 43 ∨ w = 45 ∨ w = 42 ∨ w = 47 ∨ w = 37 := hsg
              rw [if_pos hsg2]
              refine z_iast F dX6_worked_121 rfl (vp_in_nI (by omega) (by decide)) 122 rfl ?_
              rw [nI_clamp (by omega)]
              refine z_iinc F dX6_worked_122 4 rfl (-1) (by decide) [(0, _), (1, _), (2, _), (3, _), (4, _), (5, _), (6, _)] rfl (by decide) 125 rfl ?_
              refine z_goto F dX6_worked_125 168 (by decide) ?_
              refine z_iinc F dX6_worked_168 5 rfl 1 (by decide) [(0, _), (1, _), (2, _), (3, _), (4, _), (5, _), (6, _)] rfl (by decide) 171 rfl ?_
              refine z_goto F dX6_worked_171 6 (by decide) ?_
              rw [show nI (st2.length + 2) + (-1) = nI (st2.length + 1) from pk_m1 _, nI_1]
              have hfin : evR r 143 (fa3 a b c) (i + 1) = twoS w x y :: st2 := by
                rw [hev]; unfold evS
                obtain ⟨n1, n2, n3, -⟩ := sgn_ne hsg
                simp only [n1, n2, n3, if_false]
              refine z_sub [0, 1, 2, 3, 4, 5] rfl (ih (i + 1) _ (twoS w x y :: st2) (by omega) (by omega) hfin.symm (hs.u2 (by decide)) ?_)
              rw [z_u2, up_same]
              exact ⟨by rw [upd_at, if_pos rfl], (hp.2.2).upd (Nat.le_refl _)⟩
        · skip
          obtain ⟨hw3, hd1⟩ := enc_3 hop h34
          obtain ⟨x, st2, hst2⟩ : ∃ x t, st = x :: t := by
            cases hq : st with
            | nil => rw [hq] at hl; simp at hl; omega
            | cons x t => exact ⟨x, t, rfl⟩
          have hsl : nI st.length = nI (st2.length + 1) := by rw [hst2]; rfl
          rw [hst2] at hp
          rw [hst2, hw3] at hev
          refine z_iload F dX6_worked_37 4 rfl 39 rfl ?_
          refine z_iconst F dX6_worked_39 1 (by decide) 40 rfl ?_
          refine z_icmp_lt F dX6_worked_40 168 (by decide) 43 rfl (fun h40 => ?_) (fun h40 => ?_)
          · skip
            exact absurd h40 (nI_nlt (b := 1) (by omega) (by omega))
          · skip
            rw [hsl]
            refine z_aload_n F dX6_worked_43 0 rfl 44 rfl ?_
            refine z_getR F zc5 dX6_worked_44 rfl 1 (by decide) (by decide) (.inl m_191) rfl (by decide) 47 rfl ?_
            refine z_iload F dX6_worked_47 4 rfl 49 rfl ?_
            refine z_iconst F dX6_worked_49 1 (by decide) 50 rfl ?_
            refine z_isub F dX6_worked_50 51 rfl ?_
            rw [nI_pred]
            refine z_aload_n F dX6_worked_51 0 rfl 52 rfl ?_
            refine z_getR F zc5 dX6_worked_52 rfl 1 (by decide) (by decide) (.inl m_191) rfl (by decide) 55 rfl ?_
            refine z_iload F dX6_worked_55 4 rfl 57 rfl ?_
            refine z_iconst F dX6_worked_57 1 (by decide) 58 rfl ?_
            refine z_isub F dX6_worked_58 59 rfl ?_
            rw [nI_pred]
            refine z_iald F dX6_worked_59 rfl (vp_in_nI (by rw [hst2] at hl; simp at hl; omega) (by decide)) 60 rfl ?_
            rw [nI_clamp (by rw [hst2] at hl; simp at hl; omega), hp.1]
            refine z_if_ne F dX6_worked_60 67 (by decide) 63 rfl (fun h60 => ?_) (fun h60 => ?_)
            · skip
              refine z_iconst F dX6_worked_67 0 (by decide) 68 rfl ?_
              refine z_iast F dX6_worked_68 rfl (vp_in_nI (by rw [hst2] at hl; simp at hl; omega) (by decide)) 69 rfl ?_
              rw [nI_clamp (by rw [hst2] at hl; simp at hl; omega)]
              refine z_goto F dX6_worked_69 168 (by decide) ?_
              refine z_iinc F dX6_worked_168 5 rfl 1 (by decide) [(0, _), (1, _), (2, _), (3, _), (4, _), (5, _), (6, _)] rfl (by decide) 171 rfl ?_
              refine z_goto F dX6_worked_171 6 (by decide) ?_
              rw [nI_1]
              have hfin : evR r 143 (fa3 a b c) (i + 1) = bI (x = 0) :: st2 := by
                rw [hev]; unfold evS
                simp only [show ¬ (3 : Int32) = 1 by decide, show ¬ (3 : Int32) = 2 by decide, if_false, if_true]
              refine z_sub [0, 1, 2, 3, 4, 5] rfl (ih (i + 1) _ (bI (x = 0) :: st2) (by omega) (by omega) hfin.symm (hs.u2 (by decide)) ?_)
              rw [z_u2, up_same]
              exact ⟨by rw [upd_at, if_pos rfl]; exact (bI_f h60).symm, hp.2.upd (Nat.le_refl _)⟩
            · skip
              refine z_iconst F dX6_worked_63 1 (by decide) 64 rfl ?_
              refine z_goto F dX6_worked_64 68 (by decide) ?_
              refine z_iast F dX6_worked_68 rfl (vp_in_nI (by rw [hst2] at hl; simp at hl; omega) (by decide)) 69 rfl ?_
              rw [nI_clamp (by rw [hst2] at hl; simp at hl; omega)]
              refine z_goto F dX6_worked_69 168 (by decide) ?_
              refine z_iinc F dX6_worked_168 5 rfl 1 (by decide) [(0, _), (1, _), (2, _), (3, _), (4, _), (5, _), (6, _)] rfl (by decide) 171 rfl ?_
              refine z_goto F dX6_worked_171 6 (by decide) ?_
              rw [nI_1]
              have hfin : evR r 143 (fa3 a b c) (i + 1) = bI (x = 0) :: st2 := by
                rw [hev]; unfold evS
                simp only [show ¬ (3 : Int32) = 1 by decide, show ¬ (3 : Int32) = 2 by decide, if_false, if_true]
              refine z_sub [0, 1, 2, 3, 4, 5] rfl (ih (i + 1) _ (bI (x = 0) :: st2) (by omega) (by omega) hfin.symm (hs.u2 (by decide)) ?_)
              rw [z_u2, up_same]
              exact ⟨by rw [upd_at, if_pos rfl]; exact (bI_t h60).symm, hp.2.upd (Nat.le_refl _)⟩
  refine z_iconst F dX6_worked_0 0 (by decide) 1 rfl ?_
  refine z_istore F dX6_worked_1 [(0, _), (1, _), (2, _), (3, _), (4, _)] rfl (by decide) 3 rfl ?_
  refine z_iconst F dX6_worked_3 0 (by decide) 4 rfl ?_
  refine z_istore F dX6_worked_4 [(0, _), (1, _), (2, _), (3, _), (4, _), (5, _)] rfl (by decide) 6 rfl ?_
  exact loop6 61 0 σ [] (by omega) (by omega) rfl MS.rf trivial
set_option maxHeartbeats 400000 in
set_option maxRecDepth 10000 in
theorem kX8_givesA {l : Launch} {E : z_E} (σ : z_M) {r : Rw} (hT : TxR σ 1 0 r) (hC : VC r 0) (a b c : Int32) : z_C l E shC 2 yX8_gives cX8_gives 6 (some FieldType.int) [.ref (z_ad E 1), .int 0, .int a, .int b, .int c] σ (z_Pi (fun x σ' => x = givS r 0 a b c ∧ MS [16] σ σ')) := by
  refine z_intro iX8_gives (Nat.le_of_ble_eq_true rfl) (fun K F => ?_)
  refine z_aload_n F dX8_gives_0 0 rfl 1 rfl ?_
  refine z_getR F zc7 dX8_gives_1 rfl 4 (by decide) (by decide) (.inl m_207) rfl (by decide) 4 rfl ?_
  refine z_iload_n F dX8_gives_4 1 rfl 5 rfl ?_
  refine z_aaldT F dX8_gives_5 rfl (vp_in_nI (n := 0) (by decide) (by decide)) rfl 6 rfl ?_
  refine z_callVp F dX8_gives_6 m_386 iX6_isGiven jX6_isGiven rfl zc5 rfl (kX6_isGivenA σ hT hC) rfl (by decide) (Nat.le_of_ble_eq_true rfl) 9 rfl ?_
  refine z_if_eq F dX8_gives_9 28 (by decide) 12 rfl (fun h9 => ?_) (fun h9 => ?_)
  · skip
    have h9 := bI0.mp h9
    refine z_iload_n F dX8_gives_28 2 rfl 29 rfl ?_
    refine z_istore F dX8_gives_29 [(0, _), (1, _), (2, _), (3, _), (4, _), (5, _)] rfl (by decide) 31 rfl ?_
    refine z_iconst F dX8_gives_31 0 (by decide) 32 rfl ?_
    refine z_iload F dX8_gives_32 5 rfl 34 rfl ?_
    refine z_bipush F dX8_gives_34 40 (by decide) 36 rfl ?_
    refine z_min F dX8_gives_36 m_408 m_364 m_76 m_365 (by decide) (Nat.le_of_ble_eq_true rfl) 39 rfl ?_
    refine z_max F dX8_gives_39 m_409 m_179 m_76 m_180 (by decide) (Nat.le_of_ble_eq_true rfl) 42 rfl ?_
    refine z_ri F dX8_gives_42 ?_
    first
      | (refine ⟨?_, c22.2⟩
         rw [held_mm]; unfold givS; rw [if_pos h9, ← c22.1])
      | (refine ⟨?_, MS.rf⟩
         rw [held_mm]; unfold givS; rw [if_neg h9])
  · skip
    have h9 := bI1.mp h9
    refine z_aload_n F dX8_gives_12 0 rfl 13 rfl ?_
    refine z_getR F zc7 dX8_gives_13 rfl 4 (by decide) (by decide) (.inl m_207) rfl (by decide) 16 rfl ?_
    refine z_iload_n F dX8_gives_16 1 rfl 17 rfl ?_
    refine z_aaldT F dX8_gives_17 rfl (vp_in_nI (n := 0) (by decide) (by decide)) rfl 18 rfl ?_
    refine z_iload_n F dX8_gives_18 2 rfl 19 rfl ?_
    refine z_iload_n F dX8_gives_19 3 rfl 20 rfl ?_
    refine z_iload F dX8_gives_20 4 rfl 22 rfl ?_
    refine z_callVi F dX8_gives_22 m_394 iX6_worked jX6_worked rfl zc5 rfl (kX6_workedA σ hT hC h9 a b c) rfl (by decide) (Nat.le_of_ble_eq_true rfl) 25 rfl (fun r22 s22 c22 => ?_)
    refine z_goto F dX8_gives_25 29 (by decide) ?_
    refine z_istore F dX8_gives_29 [(0, _), (1, _), (2, _), (3, _), (4, _), (5, _)] rfl (by decide) 31 rfl ?_
    refine z_iconst F dX8_gives_31 0 (by decide) 32 rfl ?_
    refine z_iload F dX8_gives_32 5 rfl 34 rfl ?_
    refine z_bipush F dX8_gives_34 40 (by decide) 36 rfl ?_
    refine z_min F dX8_gives_36 m_408 m_364 m_76 m_365 (by decide) (Nat.le_of_ble_eq_true rfl) 39 rfl ?_
    refine z_max F dX8_gives_39 m_409 m_179 m_76 m_180 (by decide) (Nat.le_of_ble_eq_true rfl) 42 rfl ?_
    refine z_ri F dX8_gives_42 ?_
    first
      | (refine ⟨?_, c22.2⟩
         rw [held_mm]; unfold givS; rw [if_pos h9, ← c22.1])
      | (refine ⟨?_, MS.rf⟩
         rw [held_mm]; unfold givS; rw [if_neg h9])
set_option maxHeartbeats 400000 in
set_option maxRecDepth 10000 in
theorem kX6_isGivenB {l : Launch} {E : z_E} (σ : z_M) {r : Rw} (hT : TxR σ 1 1 r) (hC : VC r 1) : z_C l E shC 1 yX6_isGiven cX6_isGiven 1 (some FieldType.boolean) [.ref (z_ad E 17)] σ (z_Pp (bI (0 < cL r 1)) σ) := by
  refine z_intro iX6_isGiven (Nat.le_of_ble_eq_true rfl) (fun K F => ?_)
  have hT1 : σ 18 1 = r 264 := hT.1
  have hT2 : ∀ k, k < cL r 1 → σ 19 k = enc (r (264 + 1 + k)) (r (264 + 61 + k)) := hT.2
  have hL : r 264 = nI (cL r 1) := hC.1
  have hL60 := hC.2.1
  refine z_aload_n F dX6_isGiven_0 0 rfl 1 rfl ?_
  refine z_getR F zc5 dX6_isGiven_1 rfl 0 (by decide) (by decide) (.inl m_188) rfl (by decide) 4 rfl ?_
  refine z_callVp F dX6_isGiven_4 m_390 iX4_size jX4_size rfl zc3 rfl (kX4_size σ (S := shC) (r := 18) (a := 19) (cap := 60) rfl rfl (by decide)) rfl (by decide) (Nat.le_of_ble_eq_true rfl) 7 rfl ?_
  rw [hT1, hL]
  refine z_if_le F dX6_isGiven_7 14 (by decide) 10 rfl (fun h7 => ?_) (fun h7 => ?_)
  · skip
    refine z_iconst F dX6_isGiven_14 0 (by decide) 15 rfl ?_
    refine z_rpz F dX6_isGiven_15 (by first | rfl | exact bIn) ?_ rfl
    first
      | (have q : 0 < cL r 1 := by
           rcases Nat.eq_zero_or_pos (cL r 1) with z | z
           · rw [z] at h7; exact absurd h7 (by decide)
           · exact z
         exact (bI_t q).symm)
      | (have q : ¬ 0 < cL r 1 := fun z => absurd h7 (nI_nle z (by omega))
         exact (bI_f q).symm)
  · skip
    refine z_iconst F dX6_isGiven_10 1 (by decide) 11 rfl ?_
    refine z_goto F dX6_isGiven_11 15 (by decide) ?_
    refine z_rpz F dX6_isGiven_15 (by first | rfl | exact bIn) ?_ rfl
    first
      | (have q : 0 < cL r 1 := by
           rcases Nat.eq_zero_or_pos (cL r 1) with z | z
           · rw [z] at h7; exact absurd h7 (by decide)
           · exact z
         exact (bI_t q).symm)
      | (have q : ¬ 0 < cL r 1 := fun z => absurd h7 (nI_nle z (by omega))
         exact (bI_f q).symm)
set_option maxHeartbeats 2000000 in
set_option maxRecDepth 10000 in
theorem kX6_workedB {l : Launch} {E : z_E} (σ : z_M) {r : Rw} (hT : TxR σ 1 1 r) (hC : VC r 1) (hpos : 0 < cL r 1) (a b c : Int32) : z_C l E shC 1 yX6_worked cX6_worked 7 (some FieldType.int) [.ref (z_ad E 17), .int a, .int b, .int c] σ (z_Pi (fun x σ' => x = (evR r 264 (fa3 a b c) (cL r 1)).getLastD 0 ∧ MS [20] σ σ')) := by
  refine z_intro iX6_worked (Nat.le_of_ble_eq_true rfl) (fun K F => ?_)
  have hT1 : σ 18 1 = r 264 := hT.1
  have hT2 : ∀ k, k < cL r 1 → σ 19 k = enc (r (264 + 1 + k)) (r (264 + 61 + k)) := hT.2
  have hL : r 264 = nI (cL r 1) := hC.1
  have hL60 := hC.2.1
  have hlen : ∀ i, i ≤ cL r 1 → (evR r 264 (fa3 a b c) i).length = dpR r 264 i := fun i hi => ev_len (fun j hj => hC.2.2.1 j (by omega))
  have loop6 : ∀ (f : Nat) (i : Nat) (τ : z_M) (st : List Int32) (_ : 60 < i + f) (_ : i ≤ cL r 1) (_ : st = evR r 264 (fa3 a b c) i) (_ : MS [20] σ τ) (_ : PileIs (τ 20) st), z_X l K E shC 1 7 (z_Pi (fun x σ' => x = (evR r 264 (fa3 a b c) (cL r 1)).getLastD 0 ∧ MS [20] σ σ')) 6 [(0, .ref (z_ad E 17)), (1, .int a), (2, .int b), (3, .int c), (4, .int (nI st.length)), (5, .int (nI i))] [] τ := by
    intro f
    induction f with
    | zero =>
      intro i τ st hf hi hst hs hp
      omega
    | succ f ih =>
      intro i τ st hf hi hst hs hp
      have e0 : τ 18 1 = nI (cL r 1) := (congrFun (hs 18 (by decide)) 1).trans (hT1.trans hL)
      have hl := hlen i hi
      rw [← hst] at hl
      have hd := dpR_le r 264 i
      refine z_iload F dX6_worked_6 5 rfl 8 rfl ?_
      refine z_aload_n F dX6_worked_8 0 rfl 9 rfl ?_
      refine z_getR F zc5 dX6_worked_9 rfl 0 (by decide) (by decide) (.inl m_188) rfl (by decide) 12 rfl ?_
      refine z_callVp F dX6_worked_12 m_390 iX4_size jX4_size rfl zc3 rfl (kX4_size τ (S := shC) (r := 18) (a := 19) (cap := 60) rfl rfl (by decide)) rfl (by decide) (Nat.le_of_ble_eq_true rfl) 15 rfl ?_
      rw [e0]
      refine z_icmp_ge F dX6_worked_15 174 (by decide) 18 rfl (fun h15 => ?_) (fun h15 => ?_)
      · skip
        refine z_aload_n F dX6_worked_174 0 rfl 175 rfl ?_
        refine z_getR F zc5 dX6_worked_175 rfl 1 (by decide) (by decide) (.inl m_191) rfl (by decide) 178 rfl ?_
        refine z_iconst F dX6_worked_178 0 (by decide) 179 rfl ?_
        refine z_iald F dX6_worked_179 rfl (vp_in_nI (n := 0) (by decide) (by decide)) 180 rfl ?_
        refine z_ri F dX6_worked_180 ?_
        have hin : i = cL r 1 := by have := le_nI h15 (by omega) (by omega); omega
        subst hin
        refine ⟨?_, hs⟩
        show τ 20 0 = _
        rw [← hst]
        exact hp.last (by rw [hl]; exact hC.2.2.2 hpos)
      · skip
        have hin : i < cL r 1 := nle_nI h15 (by omega) (by omega)
        have hop : opOk (r (264 + 1 + i)) (r (264 + 61 + i)) (dpR r 264 i) := hC.2.2.1 i hin
        have hev : evR r 264 (fa3 a b c) (i + 1) = evS (fa3 a b c) (r (264 + 1 + i)) (r (264 + 61 + i)) st := by rw [hst]; rfl
        refine z_aload_n F dX6_worked_18 0 rfl 19 rfl ?_
        refine z_getR F zc5 dX6_worked_19 rfl 0 (by decide) (by decide) (.inl m_188) rfl (by decide) 22 rfl ?_
        refine z_iload F dX6_worked_22 5 rfl 24 rfl ?_
        refine z_callVp F dX6_worked_24 m_398 iX4_at jX4_at rfl zc3 rfl (kX4_at τ (S := shC) (r := 18) (a := 19) (cap := 60) rfl rfl (by decide) e0 hL60 (by decide) (nI i)) rfl (by decide) (Nat.le_of_ble_eq_true rfl) 27 rfl ?_
        rw [show rAt τ 18 19 (nI i) = enc (r (264 + 1 + i)) (r (264 + 61 + i)) from by
          unfold rAt; rw [e0, if_pos (isP_nI hin (by omega)), nI_clamp (by omega), hs 19 (by decide)]; exact hT2 i hin]
        generalize hw : r (264 + 1 + i) = w at hop hev ⊢
        generalize hv : r (264 + 61 + i) = v at hop hev ⊢
        refine z_istore F dX6_worked_27 [(0, _), (1, _), (2, _), (3, _), (4, _), (5, _), (6, _)] rfl (by decide) 29 rfl ?_
        refine z_iload F dX6_worked_29 6 rfl 31 rfl ?_
        refine z_sipush F dX6_worked_31 10033 (by decide) 34 rfl ?_
        refine z_icmp_ne F dX6_worked_34 72 (by decide) 37 rfl (fun h34 => ?_) (fun h34 => ?_)
        · skip
          refine z_iload F dX6_worked_72 6 rfl 74 rfl ?_
          refine z_sipush F dX6_worked_74 10000 (by decide) 77 rfl ?_
          refine z_icmp_lt F dX6_worked_77 128 (by decide) 80 rfl (fun h77 => ?_) (fun h77 => ?_)
          · skip
            refine z_iload F dX6_worked_128 4 rfl 130 rfl ?_
            refine z_aload_n F dX6_worked_130 0 rfl 131 rfl ?_
            refine z_getR F zc5 dX6_worked_131 rfl 1 (by decide) (by decide) (.inl m_191) rfl (by decide) 134 rfl ?_
            refine z_alen F dX6_worked_134 rfl 60 rfl 135 rfl ?_
            refine z_icmp_ge F dX6_worked_135 168 (by decide) 138 rfl (fun h135 => ?_) (fun h135 => ?_)
            · skip
              exact absurd h135 (nI_ge (b := 60) (by omega) (by decide))
            · skip
              have hl60 : st.length < 60 := by omega
              refine z_aload_n F dX6_worked_138 0 rfl 139 rfl ?_
              refine z_getR F zc5 dX6_worked_139 rfl 1 (by decide) (by decide) (.inl m_191) rfl (by decide) 142 rfl ?_
              refine z_iload F dX6_worked_142 4 rfl 144 rfl ?_
              refine z_iload F dX6_worked_144 6 rfl 146 rfl ?_
              refine z_if_lt F dX6_worked_146 154 (by decide) 149 rfl (fun h146 => ?_) (fun h146 => ?_)
              · skip
                refine z_iconst F dX6_worked_154 (-1) (by decide) 155 rfl ?_
                refine z_iload F dX6_worked_155 6 rfl 157 rfl ?_
                refine z_isub F dX6_worked_157 158 rfl ?_
                refine z_iload_n F dX6_worked_158 1 rfl 159 rfl ?_
                refine z_iload_n F dX6_worked_159 2 rfl 160 rfl ?_
                refine z_iload_n F dX6_worked_160 3 rfl 161 rfl ?_
                refine z_callSp F dX6_worked_161 m_405 iX6_named m_406 rfl (kX6_named _ _ _ _ _) rfl (by decide) (Nat.le_of_ble_eq_true rfl) 164 rfl ?_
                refine z_iast F dX6_worked_164 rfl (vp_in_nI (by omega) (by decide)) 165 rfl ?_
                rw [nI_clamp (by omega)]
                refine z_iinc F dX6_worked_165 4 rfl 1 (by decide) [(0, _), (1, _), (2, _), (3, _), (4, _), (5, _), (6, _)] rfl (by decide) 168 rfl ?_
                refine z_iinc F dX6_worked_168 5 rfl 1 (by decide) [(0, _), (1, _), (2, _), (3, _), (4, _), (5, _), (6, _)] rfl (by decide) 171 rfl ?_
                refine z_goto F dX6_worked_171 6 (by decide) ?_
                simp only [nI_1]
                have hfin : ∃ z, evR r 264 (fa3 a b c) (i + 1) = z :: st ∧ z = (if enc w v < 0 then (if -1 - enc w v = 0 then a else if -1 - enc w v = 1 then b else c) else enc w v) := by
                  rcases enc_n hop h77 with ⟨e1, e2, e3⟩ | ⟨e1, e2, e3, e4⟩
                  · exact ⟨v, by rw [hev, e1]; rfl, by rw [if_neg e3, e2]⟩
                  · refine ⟨fa3 a b c v.toNatClampNeg, by rw [hev, e1]; rfl, ?_⟩
                    rw [if_pos e2, e3]
                    rcases e4 with e4 | e4 | e4 <;> (rw [e4]; rfl)
                obtain ⟨z, hz1, hz2⟩ := hfin
                rw [if_pos h146] at hz2
                rw [← hz2]
                refine z_sub [0, 1, 2, 3, 4, 5] rfl (ih (i + 1) _ (z :: st) (by omega) (by omega) hz1.symm (hs.u2 (by decide)) ?_)
                rw [z_u2, up_same]
                exact ⟨by rw [upd_at, if_pos rfl], hp.upd (Nat.le_refl _)⟩
              · skip
                refine z_iload F dX6_worked_149 6 rfl 151 rfl ?_
                refine z_goto F dX6_worked_151 164 (by decide) ?_
                refine z_iast F dX6_worked_164 rfl (vp_in_nI (by omega) (by decide)) 165 rfl ?_
                rw [nI_clamp (by omega)]
                refine z_iinc F dX6_worked_165 4 rfl 1 (by decide) [(0, _), (1, _), (2, _), (3, _), (4, _), (5, _), (6, _)] rfl (by decide) 168 rfl ?_
                refine z_iinc F dX6_worked_168 5 rfl 1 (by decide) [(0, _), (1, _), (2, _), (3, _), (4, _), (5, _), (6, _)] rfl (by decide) 171 rfl ?_
                refine z_goto F dX6_worked_171 6 (by decide) ?_
                simp only [nI_1]
                have hfin : ∃ z, evR r 264 (fa3 a b c) (i + 1) = z :: st ∧ z = (if enc w v < 0 then (if -1 - enc w v = 0 then a else if -1 - enc w v = 1 then b else c) else enc w v) := by
                  rcases enc_n hop h77 with ⟨e1, e2, e3⟩ | ⟨e1, e2, e3, e4⟩
                  · exact ⟨v, by rw [hev, e1]; rfl, by rw [if_neg e3, e2]⟩
                  · refine ⟨fa3 a b c v.toNatClampNeg, by rw [hev, e1]; rfl, ?_⟩
                    rw [if_pos e2, e3]
                    rcases e4 with e4 | e4 | e4 <;> (rw [e4]; rfl)
                obtain ⟨z, hz1, hz2⟩ := hfin
                rw [if_neg h146] at hz2
                rw [← hz2]
                refine z_sub [0, 1, 2, 3, 4, 5] rfl (ih (i + 1) _ (z :: st) (by omega) (by omega) hz1.symm (hs.u2 (by decide)) ?_)
                rw [z_u2, up_same]
                exact ⟨by rw [upd_at, if_pos rfl], hp.upd (Nat.le_refl _)⟩
          · skip
            obtain ⟨hsg, hd2, hes⟩ := enc_s hop h34 h77
            obtain ⟨y, x, st2, hst2⟩ : ∃ y x t, st = y :: x :: t := by
              match st with
              | [] => simp at hl; omega
              | [x] => simp at hl; omega
              | y :: x :: t => exact ⟨y, x, t, rfl⟩
            have hsl : nI st.length = nI (st2.length + 2) := by rw [hst2]; rfl
            have hl60 : st2.length + 2 ≤ 60 := by rw [hst2] at hl; simp at hl; omega
            rw [hst2] at hp
            rw [hst2] at hev
            refine z_iload F dX6_worked_80 4 rfl 82 rfl ?_
            refine z_iconst F dX6_worked_82 2 (by decide) 83 rfl ?_
            refine z_icmp_lt F dX6_worked_83 168 (by decide) 86 rfl (fun h83 => ?_) (fun h83 => ?_)
            · skip
              exact absurd h83 (nI_nlt (b := 2) (by rw [hl]; exact (enc_s hop h34 h77).2.1) (by omega))
            · skip
              rw [hsl]
              refine z_aload_n F dX6_worked_86 0 rfl 87 rfl ?_
              refine z_getR F zc5 dX6_worked_87 rfl 1 (by decide) (by decide) (.inl m_191) rfl (by decide) 90 rfl ?_
              refine z_iload F dX6_worked_90 4 rfl 92 rfl ?_
              refine z_iconst F dX6_worked_92 2 (by decide) 93 rfl ?_
              refine z_isub F dX6_worked_93 94 rfl ?_
              rw [show (2 : Int32) = nI 2 from rfl, pk_sub (by omega), show st2.length + 2 - 2 = st2.length by omega]
              refine z_iload F dX6_worked_94 6 rfl 96 rfl ?_
              refine z_sipush F dX6_worked_96 10000 (by decide) 99 rfl ?_
              refine z_isub F dX6_worked_99 100 rfl ?_
              rw [hes]
              refine z_aload_n F dX6_worked_100 0 rfl 101 rfl ?_
              refine z_getR F zc5 dX6_worked_101 rfl 1 (by decide) (by decide) (.inl m_191) rfl (by decide) 104 rfl ?_
              refine z_iload F dX6_worked_104 4 rfl 106 rfl ?_
              refine z_iconst F dX6_worked_106 2 (by decide) 107 rfl ?_
              refine z_isub F dX6_worked_107 108 rfl ?_
              rw [show (2 : Int32) = nI 2 from rfl, pk_sub (by omega), show st2.length + 2 - 2 = st2.length by omega]
              refine z_iald F dX6_worked_108 rfl (vp_in_nI (by omega) (by decide)) 109 rfl ?_
              rw [nI_clamp (by omega), hp.2.1]
              refine z_aload_n F dX6_worked_109 0 rfl 110 rfl ?_
              refine z_getR F zc5 dX6_worked_110 rfl 1 (by decide) (by decide) (.inl m_191) rfl (by decide) 113 rfl ?_
              refine z_iload F dX6_worked_113 4 rfl 115 rfl ?_
              refine z_iconst F dX6_worked_115 1 (by decide) 116 rfl ?_
              refine z_isub F dX6_worked_116 117 rfl ?_
              rw [show (1 : Int32) = nI 1 from rfl, pk_sub (by omega), show st2.length + 2 - 1 = st2.length + 1 by omega]
              refine z_iald F dX6_worked_117 rfl (vp_in_nI (by omega) (by decide)) 118 rfl ?_
              rw [nI_clamp (by omega), show τ 20 (st2.length + 1) = y from hp.1]
              refine z_callSp F dX6_worked_118 m_402 iX6_joined m_403 rfl (kX6_joined _ _ _ _) rfl (by decide) (Nat.le_of_ble_eq_true rfl) 121 rfl ?_
              have hsg2 : w = 124 ∨ w = 38 ∨ w = 60 ∨ w = 61 ∨ w = 62 ∨ w = 43 ∨ w = 45 ∨ w = 42 ∨ w = 47 ∨ w = 37 := hsg
              rw [if_pos hsg2]
              refine z_iast F dX6_worked_121 rfl (vp_in_nI (by omega) (by decide)) 122 rfl ?_
              rw [nI_clamp (by omega)]
              refine z_iinc F dX6_worked_122 4 rfl (-1) (by decide) [(0, _), (1, _), (2, _), (3, _), (4, _), (5, _), (6, _)] rfl (by decide) 125 rfl ?_
              refine z_goto F dX6_worked_125 168 (by decide) ?_
              refine z_iinc F dX6_worked_168 5 rfl 1 (by decide) [(0, _), (1, _), (2, _), (3, _), (4, _), (5, _), (6, _)] rfl (by decide) 171 rfl ?_
              refine z_goto F dX6_worked_171 6 (by decide) ?_
              rw [show nI (st2.length + 2) + (-1) = nI (st2.length + 1) from pk_m1 _, nI_1]
              have hfin : evR r 264 (fa3 a b c) (i + 1) = twoS w x y :: st2 := by
                rw [hev]; unfold evS
                obtain ⟨n1, n2, n3, -⟩ := sgn_ne hsg
                simp only [n1, n2, n3, if_false]
              refine z_sub [0, 1, 2, 3, 4, 5] rfl (ih (i + 1) _ (twoS w x y :: st2) (by omega) (by omega) hfin.symm (hs.u2 (by decide)) ?_)
              rw [z_u2, up_same]
              exact ⟨by rw [upd_at, if_pos rfl], (hp.2.2).upd (Nat.le_refl _)⟩
        · skip
          obtain ⟨hw3, hd1⟩ := enc_3 hop h34
          obtain ⟨x, st2, hst2⟩ : ∃ x t, st = x :: t := by
            cases hq : st with
            | nil => rw [hq] at hl; simp at hl; omega
            | cons x t => exact ⟨x, t, rfl⟩
          have hsl : nI st.length = nI (st2.length + 1) := by rw [hst2]; rfl
          rw [hst2] at hp
          rw [hst2, hw3] at hev
          refine z_iload F dX6_worked_37 4 rfl 39 rfl ?_
          refine z_iconst F dX6_worked_39 1 (by decide) 40 rfl ?_
          refine z_icmp_lt F dX6_worked_40 168 (by decide) 43 rfl (fun h40 => ?_) (fun h40 => ?_)
          · skip
            exact absurd h40 (nI_nlt (b := 1) (by omega) (by omega))
          · skip
            rw [hsl]
            refine z_aload_n F dX6_worked_43 0 rfl 44 rfl ?_
            refine z_getR F zc5 dX6_worked_44 rfl 1 (by decide) (by decide) (.inl m_191) rfl (by decide) 47 rfl ?_
            refine z_iload F dX6_worked_47 4 rfl 49 rfl ?_
            refine z_iconst F dX6_worked_49 1 (by decide) 50 rfl ?_
            refine z_isub F dX6_worked_50 51 rfl ?_
            rw [nI_pred]
            refine z_aload_n F dX6_worked_51 0 rfl 52 rfl ?_
            refine z_getR F zc5 dX6_worked_52 rfl 1 (by decide) (by decide) (.inl m_191) rfl (by decide) 55 rfl ?_
            refine z_iload F dX6_worked_55 4 rfl 57 rfl ?_
            refine z_iconst F dX6_worked_57 1 (by decide) 58 rfl ?_
            refine z_isub F dX6_worked_58 59 rfl ?_
            rw [nI_pred]
            refine z_iald F dX6_worked_59 rfl (vp_in_nI (by rw [hst2] at hl; simp at hl; omega) (by decide)) 60 rfl ?_
            rw [nI_clamp (by rw [hst2] at hl; simp at hl; omega), hp.1]
            refine z_if_ne F dX6_worked_60 67 (by decide) 63 rfl (fun h60 => ?_) (fun h60 => ?_)
            · skip
              refine z_iconst F dX6_worked_67 0 (by decide) 68 rfl ?_
              refine z_iast F dX6_worked_68 rfl (vp_in_nI (by rw [hst2] at hl; simp at hl; omega) (by decide)) 69 rfl ?_
              rw [nI_clamp (by rw [hst2] at hl; simp at hl; omega)]
              refine z_goto F dX6_worked_69 168 (by decide) ?_
              refine z_iinc F dX6_worked_168 5 rfl 1 (by decide) [(0, _), (1, _), (2, _), (3, _), (4, _), (5, _), (6, _)] rfl (by decide) 171 rfl ?_
              refine z_goto F dX6_worked_171 6 (by decide) ?_
              rw [nI_1]
              have hfin : evR r 264 (fa3 a b c) (i + 1) = bI (x = 0) :: st2 := by
                rw [hev]; unfold evS
                simp only [show ¬ (3 : Int32) = 1 by decide, show ¬ (3 : Int32) = 2 by decide, if_false, if_true]
              refine z_sub [0, 1, 2, 3, 4, 5] rfl (ih (i + 1) _ (bI (x = 0) :: st2) (by omega) (by omega) hfin.symm (hs.u2 (by decide)) ?_)
              rw [z_u2, up_same]
              exact ⟨by rw [upd_at, if_pos rfl]; exact (bI_f h60).symm, hp.2.upd (Nat.le_refl _)⟩
            · skip
              refine z_iconst F dX6_worked_63 1 (by decide) 64 rfl ?_
              refine z_goto F dX6_worked_64 68 (by decide) ?_
              refine z_iast F dX6_worked_68 rfl (vp_in_nI (by rw [hst2] at hl; simp at hl; omega) (by decide)) 69 rfl ?_
              rw [nI_clamp (by rw [hst2] at hl; simp at hl; omega)]
              refine z_goto F dX6_worked_69 168 (by decide) ?_
              refine z_iinc F dX6_worked_168 5 rfl 1 (by decide) [(0, _), (1, _), (2, _), (3, _), (4, _), (5, _), (6, _)] rfl (by decide) 171 rfl ?_
              refine z_goto F dX6_worked_171 6 (by decide) ?_
              rw [nI_1]
              have hfin : evR r 264 (fa3 a b c) (i + 1) = bI (x = 0) :: st2 := by
                rw [hev]; unfold evS
                simp only [show ¬ (3 : Int32) = 1 by decide, show ¬ (3 : Int32) = 2 by decide, if_false, if_true]
              refine z_sub [0, 1, 2, 3, 4, 5] rfl (ih (i + 1) _ (bI (x = 0) :: st2) (by omega) (by omega) hfin.symm (hs.u2 (by decide)) ?_)
              rw [z_u2, up_same]
              exact ⟨by rw [upd_at, if_pos rfl]; exact (bI_t h60).symm, hp.2.upd (Nat.le_refl _)⟩
  refine z_iconst F dX6_worked_0 0 (by decide) 1 rfl ?_
  refine z_istore F dX6_worked_1 [(0, _), (1, _), (2, _), (3, _), (4, _)] rfl (by decide) 3 rfl ?_
  refine z_iconst F dX6_worked_3 0 (by decide) 4 rfl ?_
  refine z_istore F dX6_worked_4 [(0, _), (1, _), (2, _), (3, _), (4, _), (5, _)] rfl (by decide) 6 rfl ?_
  exact loop6 61 0 σ [] (by omega) (by omega) rfl MS.rf trivial
set_option maxHeartbeats 400000 in
set_option maxRecDepth 10000 in
theorem kX8_givesB {l : Launch} {E : z_E} (σ : z_M) {r : Rw} (hT : TxR σ 1 1 r) (hC : VC r 1) (a b c : Int32) : z_C l E shC 2 yX8_gives cX8_gives 6 (some FieldType.int) [.ref (z_ad E 1), .int 1, .int a, .int b, .int c] σ (z_Pi (fun x σ' => x = givS r 1 a b c ∧ MS [20] σ σ')) := by
  refine z_intro iX8_gives (Nat.le_of_ble_eq_true rfl) (fun K F => ?_)
  refine z_aload_n F dX8_gives_0 0 rfl 1 rfl ?_
  refine z_getR F zc7 dX8_gives_1 rfl 4 (by decide) (by decide) (.inl m_207) rfl (by decide) 4 rfl ?_
  refine z_iload_n F dX8_gives_4 1 rfl 5 rfl ?_
  refine z_aaldT F dX8_gives_5 rfl (vp_in_nI (n := 1) (by decide) (by decide)) rfl 6 rfl ?_
  refine z_callVp F dX8_gives_6 m_386 iX6_isGiven jX6_isGiven rfl zc5 rfl (kX6_isGivenB σ hT hC) rfl (by decide) (Nat.le_of_ble_eq_true rfl) 9 rfl ?_
  refine z_if_eq F dX8_gives_9 28 (by decide) 12 rfl (fun h9 => ?_) (fun h9 => ?_)
  · skip
    have h9 := bI0.mp h9
    refine z_iload_n F dX8_gives_28 2 rfl 29 rfl ?_
    refine z_istore F dX8_gives_29 [(0, _), (1, _), (2, _), (3, _), (4, _), (5, _)] rfl (by decide) 31 rfl ?_
    refine z_iconst F dX8_gives_31 0 (by decide) 32 rfl ?_
    refine z_iload F dX8_gives_32 5 rfl 34 rfl ?_
    refine z_bipush F dX8_gives_34 40 (by decide) 36 rfl ?_
    refine z_min F dX8_gives_36 m_408 m_364 m_76 m_365 (by decide) (Nat.le_of_ble_eq_true rfl) 39 rfl ?_
    refine z_max F dX8_gives_39 m_409 m_179 m_76 m_180 (by decide) (Nat.le_of_ble_eq_true rfl) 42 rfl ?_
    refine z_ri F dX8_gives_42 ?_
    first
      | (refine ⟨?_, c22.2⟩
         rw [held_mm]; unfold givS; rw [if_pos h9, ← c22.1])
      | (refine ⟨?_, MS.rf⟩
         rw [held_mm]; unfold givS; rw [if_neg h9])
  · skip
    have h9 := bI1.mp h9
    refine z_aload_n F dX8_gives_12 0 rfl 13 rfl ?_
    refine z_getR F zc7 dX8_gives_13 rfl 4 (by decide) (by decide) (.inl m_207) rfl (by decide) 16 rfl ?_
    refine z_iload_n F dX8_gives_16 1 rfl 17 rfl ?_
    refine z_aaldT F dX8_gives_17 rfl (vp_in_nI (n := 1) (by decide) (by decide)) rfl 18 rfl ?_
    refine z_iload_n F dX8_gives_18 2 rfl 19 rfl ?_
    refine z_iload_n F dX8_gives_19 3 rfl 20 rfl ?_
    refine z_iload F dX8_gives_20 4 rfl 22 rfl ?_
    refine z_callVi F dX8_gives_22 m_394 iX6_worked jX6_worked rfl zc5 rfl (kX6_workedB σ hT hC h9 a b c) rfl (by decide) (Nat.le_of_ble_eq_true rfl) 25 rfl (fun r22 s22 c22 => ?_)
    refine z_goto F dX8_gives_25 29 (by decide) ?_
    refine z_istore F dX8_gives_29 [(0, _), (1, _), (2, _), (3, _), (4, _), (5, _)] rfl (by decide) 31 rfl ?_
    refine z_iconst F dX8_gives_31 0 (by decide) 32 rfl ?_
    refine z_iload F dX8_gives_32 5 rfl 34 rfl ?_
    refine z_bipush F dX8_gives_34 40 (by decide) 36 rfl ?_
    refine z_min F dX8_gives_36 m_408 m_364 m_76 m_365 (by decide) (Nat.le_of_ble_eq_true rfl) 39 rfl ?_
    refine z_max F dX8_gives_39 m_409 m_179 m_76 m_180 (by decide) (Nat.le_of_ble_eq_true rfl) 42 rfl ?_
    refine z_ri F dX8_gives_42 ?_
    first
      | (refine ⟨?_, c22.2⟩
         rw [held_mm]; unfold givS; rw [if_pos h9, ← c22.1])
      | (refine ⟨?_, MS.rf⟩
         rw [held_mm]; unfold givS; rw [if_neg h9])
