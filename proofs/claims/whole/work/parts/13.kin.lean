/-! the class Kin over the world that is now: objects 2 .. 7 -/
abbrev Rw := Nat → Int32
def nP (r : Rw) : Nat := (r 2).toNatClampNeg
def pO (r : Rw) (p w : Nat) : Int32 := r (19 + 5 * p + w)
def adj (r : Rw) (a b : Nat) : Bool := decide (pO r a 2 = nI b ∨ pO r b 2 = nI a ∨ pO r a 3 = nI b)
/-- steps -/
def dS (r : Rw) (a b : Nat) : Nat := dst (nP r) (adj r) a b
def KinR (σ : z_M) (b : Nat) (r : Rw) : Prop := σ (b + 1) 0 = r 2 ∧ ∀ p, p < nP r → σ (b + 2) p = pO r p 0 ∧ σ (b + 3) p = pO r p 1 ∧ σ (b + 4) p = pO r p 2 ∧ σ (b + 5) p = pO r p 3
def MeaR (σ : z_M) (b : Nat) (r : Rw) : Prop := ∀ i j, i < nP r → j < nP r → σ (b + 6) (i * 8 + j) = nI (dS r i j)
def VK (r : Rw) : Prop := r 2 = nI (nP r) ∧ nP r ≤ 8 ∧ ∀ p, p < nP r → (∃ k, k ≤ 6 ∧ pO r p 0 = nI k) ∧ (∃ k, k ≤ 9 ∧ pO r p 1 = nI k) ∧ (pO r p 2 = -1 ∨ ∃ j, j < p ∧ pO r p 2 = nI j) ∧ (pO r p 3 = -1 ∨ ∃ j, j < nP r ∧ j ≠ p ∧ pO r p 3 = nI j ∧ pO r j 3 = nI p)
theorem ix8 (i j : Nat) : nI i * 8 + nI j = nI (i * 8 + j) := by rw [show (8 : Int32) = nI 8 from rfl, pk_mul, nI_add]
theorem le_nI {a b : Nat} (h : nI a ≤ nI b) (ha : a < 2 ^ 31) (hb : b < 2 ^ 31) : a ≤ b := (nI_leI ha hb).mp h
theorem nle_nI {a b : Nat} (h : ¬ nI a ≤ nI b) (ha : a < 2 ^ 31) (hb : b < 2 ^ 31) : b < a := by
  rcases Nat.lt_or_ge b a with q | q
  · exact q
  · exact absurd (nI_le q hb) h
theorem eq_nI {a b : Nat} (h : nI a = nI b) (ha : a < 2 ^ 31) (hb : b < 2 ^ 31) : a = b := (nI_eq ha hb).mp h
theorem min_nI {a b : Nat} (ha : a < 2 ^ 31) (hb : b < 2 ^ 31) : (if nI a < nI b then nI a else nI b) = nI (min b a) := by
  by_cases h : a < b
  · rw [if_pos (nI_lt h hb), Nat.min_eq_right (by omega)]
  · rw [if_neg (nI_nlt (by omega) ha), Nat.min_eq_left (by omega)]
theorem mat_set {υ : z_M} {o i j : Nat} {v : Int32} (hj : j < 8) {a c : Nat} (hc : c < 8) : z_u2 υ o (i * 8 + j) v o (a * 8 + c) = if a = i ∧ c = j then v else υ o (a * 8 + c) := by
  rw [u2_at]
  by_cases h : a = i ∧ c = j
  · rw [if_pos h, if_pos ⟨rfl, by omega⟩]
  · rw [if_neg h, if_neg (fun q => h (by have := q.2; omega))]
theorem m1_ne {j : Nat} (h : j < 2 ^ 31) : (-1 : Int32) ≠ nI j := by
  intro e
  have := congrArg Int32.toInt e
  rw [nI_toInt h] at this
  have e2 : (-1 : Int32).toInt = -1 := by decide
  omega
theorem isP_of {x : Int32} {n : Nat} (h : 0 ≤ x ∧ x < nI n) (hn : n < 2 ^ 31) : ∃ j, j < n ∧ x = nI j := by
  obtain ⟨j, hj, rfl⟩ := nI_of (i_nlt.mpr h.1)
  exact ⟨j, (nI_ltI hj hn).mp h.2, rfl⟩
theorem isP_nI {j n : Nat} (h : j < n) (hn : n < 2 ^ 31) : 0 ≤ nI j ∧ nI j < nI n := ⟨nI_pos' (by omega), nI_lt h hn⟩
theorem VK.sym {r : Rw} (h : VK r) {a c : Nat} (ha : a < nP r) (hc : c < nP r) (e : pO r c 3 = nI a) : pO r a 3 = nI c := by
  rcases (h.2.2 c hc).2.2.2 with q | ⟨j, hj, -, e1, e2⟩
  · rw [q] at e; exact absurd e (m1_ne (by have := h.2.1; omega))
  · have := eq_nI (e1.symm.trans e) (by have := h.2.1; omega) (by have := h.2.1; omega)
    subst this; exact e2
theorem VK.par {r : Rw} (h : VK r) {c j : Nat} (hc : c < nP r) (hj : j < 2 ^ 31) (e : pO r c 2 = nI j) : j < c := by
  rcases (h.2.2 c hc).2.2.1 with q | ⟨k, hk, e1⟩
  · rw [q] at e; exact absurd e (m1_ne hj)
  · have := eq_nI (e1.symm.trans e) (by have := h.2.1; omega) hj
    omega
theorem VK.spo {r : Rw} (h : VK r) {c j : Nat} (hc : c < nP r) (hj : j < 2 ^ 31) (e : pO r c 3 = nI j) : j < nP r ∧ j ≠ c := by
  rcases (h.2.2 c hc).2.2.2 with q | ⟨k, hk, hn, e1, -⟩
  · rw [q] at e; exact absurd e (m1_ne hj)
  · have := eq_nI (e1.symm.trans e) (by have := h.2.1; omega) hj
    subst this; exact ⟨hk, hn⟩
/-- what is linked when the first t have been -/
def lk (r : Rw) (t a c : Nat) : Prop := (a < t ∧ (pO r a 2 = nI c ∨ pO r a 3 = nI c)) ∨ (c < t ∧ (pO r c 2 = nI a ∨ pO r c 3 = nI a))
set_option maxHeartbeats 400000 in
set_option maxRecDepth 10000 in
theorem kX1_has {l : Launch} {E : z_E} (σ : z_M) (x : Int32) : z_C l E shC 0 yX1_has cX1_has 2 (some FieldType.boolean) [.ref (z_ad E 2), .int x] σ (z_Pp (bI (0 ≤ x ∧ x < σ 2 0)) σ) := by
  refine z_intro iX1_has (Nat.le_of_ble_eq_true rfl) (fun K F => ?_)
  refine z_iload_n F dX1_has_0 1 rfl 1 rfl ?_
  refine z_if_lt F dX1_has_1 16 (by decide) 4 rfl (fun h1 => ?_) (fun h1 => ?_)
  · skip
    refine z_iconst F dX1_has_16 0 (by decide) 17 rfl ?_
    refine z_rpz F dX1_has_17 (by first | rfl | exact bIn) ?_ rfl
    first | (refine (bI_t ?_).symm; simp only [Int32.lt_iff_toInt_lt, Int32.le_iff_toInt_le, ← Int32.toInt_inj, Int32.reduceToInt] at *; omega) | (refine (bI_f ?_).symm; simp only [Int32.lt_iff_toInt_lt, Int32.le_iff_toInt_le, ← Int32.toInt_inj, Int32.reduceToInt] at *; omega)
  · skip
    refine z_iload_n F dX1_has_4 1 rfl 5 rfl ?_
    refine z_aload_n F dX1_has_5 0 rfl 6 rfl ?_
    refine z_getI F zc1 dX1_has_6 rfl 0 (by decide) (by decide) (.inl m_109) rfl 9 rfl ?_
    refine z_icmp_ge F dX1_has_9 16 (by decide) 12 rfl (fun h9 => ?_) (fun h9 => ?_)
    · skip
      refine z_iconst F dX1_has_16 0 (by decide) 17 rfl ?_
      refine z_rpz F dX1_has_17 (by first | rfl | exact bIn) ?_ rfl
      first | (refine (bI_t ?_).symm; simp only [Int32.lt_iff_toInt_lt, Int32.le_iff_toInt_le, ← Int32.toInt_inj, Int32.reduceToInt] at *; omega) | (refine (bI_f ?_).symm; simp only [Int32.lt_iff_toInt_lt, Int32.le_iff_toInt_le, ← Int32.toInt_inj, Int32.reduceToInt] at *; omega)
    · skip
      refine z_iconst F dX1_has_12 1 (by decide) 13 rfl ?_
      refine z_goto F dX1_has_13 17 (by decide) ?_
      refine z_rpz F dX1_has_17 (by first | rfl | exact bIn) ?_ rfl
      first | (refine (bI_t ?_).symm; simp only [Int32.lt_iff_toInt_lt, Int32.le_iff_toInt_le, ← Int32.toInt_inj, Int32.reduceToInt] at *; omega) | (refine (bI_f ?_).symm; simp only [Int32.lt_iff_toInt_lt, Int32.le_iff_toInt_le, ← Int32.toInt_inj, Int32.reduceToInt] at *; omega)
set_option maxHeartbeats 400000 in
set_option maxRecDepth 10000 in
theorem kX1_isFree {l : Launch} {E : z_E} (σ : z_M) {j : Nat} (hj : j < 8) : z_C l E shC 0 yX1_isFree cX1_isFree 2 (some FieldType.boolean) [.ref (z_ad E 2), .int (nI j)] σ (z_Pp (bI (σ 6 j < 0)) σ) := by
  refine z_intro iX1_isFree (Nat.le_of_ble_eq_true rfl) (fun K F => ?_)
  refine z_aload_n F dX1_isFree_0 0 rfl 1 rfl ?_
  refine z_getR F zc1 dX1_isFree_1 rfl 4 (by decide) (by decide) (.inl m_121) rfl (by decide) 4 rfl ?_
  refine z_iload_n F dX1_isFree_4 1 rfl 5 rfl ?_
  refine z_iald F dX1_isFree_5 rfl (by exact vp_in_nI hj (by decide)) 6 rfl ?_
  rw [nI_clamp (by omega)]
  refine z_if_ge F dX1_isFree_6 13 (by decide) 9 rfl (fun h6 => ?_) (fun h6 => ?_)
  · skip
    refine z_iconst F dX1_isFree_13 0 (by decide) 14 rfl ?_
    refine z_rpz F dX1_isFree_14 (by first | rfl | exact bIn) ?_ rfl
    first | (refine (bI_t ?_).symm; simp only [Int32.lt_iff_toInt_lt, Int32.le_iff_toInt_le, ← Int32.toInt_inj, Int32.reduceToInt] at *; omega) | (refine (bI_f ?_).symm; simp only [Int32.lt_iff_toInt_lt, Int32.le_iff_toInt_le, ← Int32.toInt_inj, Int32.reduceToInt] at *; omega)
  · skip
    refine z_iconst F dX1_isFree_9 1 (by decide) 10 rfl ?_
    refine z_goto F dX1_isFree_10 14 (by decide) ?_
    refine z_rpz F dX1_isFree_14 (by first | rfl | exact bIn) ?_ rfl
    first | (refine (bI_t ?_).symm; simp only [Int32.lt_iff_toInt_lt, Int32.le_iff_toInt_le, ← Int32.toInt_inj, Int32.reduceToInt] at *; omega) | (refine (bI_f ?_).symm; simp only [Int32.lt_iff_toInt_lt, Int32.le_iff_toInt_le, ← Int32.toInt_inj, Int32.reduceToInt] at *; omega)
set_option maxHeartbeats 400000 in
set_option maxRecDepth 10000 in
theorem kX1_between {l : Launch} {E : z_E} (σ : z_M) {i j : Nat} (hi : i < 8) (hj : j < 8) : z_C l E shC 0 yX1_between cX1_between 3 (some FieldType.int) [.ref (z_ad E 2), .int (nI i), .int (nI j)] σ (z_Pp (σ 7 (i * 8 + j)) σ) := by
  refine z_intro iX1_between (Nat.le_of_ble_eq_true rfl) (fun K F => ?_)
  refine z_aload_n F dX1_between_0 0 rfl 1 rfl ?_
  refine z_getR F zc1 dX1_between_1 rfl 5 (by decide) (by decide) (.inl m_123) rfl (by decide) 4 rfl ?_
  refine z_iload_n F dX1_between_4 1 rfl 5 rfl ?_
  refine z_bipush F dX1_between_5 8 (by decide) 7 rfl ?_
  refine z_imul F dX1_between_7 8 rfl ?_
  refine z_iload_n F dX1_between_8 2 rfl 9 rfl ?_
  refine z_iadd F dX1_between_9 10 rfl ?_
  refine z_iald F dX1_between_10 rfl (by rw [ix8]; exact vp_in_nI (by omega) (by decide)) 11 rfl ?_
  refine z_rp F dX1_between_11 ?_ rfl
  rw [ix8, nI_clamp (by omega)]
set_option maxHeartbeats 400000 in
set_option maxRecDepth 10000 in
theorem kX1_link {l : Launch} {E : z_E} (σ : z_M) {i n : Nat} (hi : i < 8) (hn : n ≤ 8) (hc : σ 2 0 = nI n) (x : Int32) (hx : x = -1 ∨ ∃ j, j < n ∧ x = nI j) : z_C l E shC 1 yX1_link cX1_link 3 none [.ref (z_ad E 2), .int (nI i), .int x] σ (z_Pv (fun σ' => MS [7] σ σ' ∧ ∀ a c, a < 8 → c < 8 → σ' 7 (a * 8 + c) = if (a = i ∧ x = nI c) ∨ (c = i ∧ x = nI a) then 1 else σ 7 (a * 8 + c))) := by
  refine z_intro iX1_link (Nat.le_of_ble_eq_true rfl) (fun K F => ?_)
  refine z_aload_n F dX1_link_0 0 rfl 1 rfl ?_
  refine z_iload_n F dX1_link_1 2 rfl 2 rfl ?_
  refine z_callVp F dX1_link_2 m_351 iX1_has jX1_has rfl zc1 rfl (kX1_has σ x) rfl (by decide) (Nat.le_of_ble_eq_true rfl) 5 rfl ?_
  refine z_if_eq F dX1_link_5 32 (by decide) 8 rfl (fun h5 => ?_) (fun h5 => ?_)
  · skip
    have h5 := bI0.mp h5
    try rw [ix8, nI_clamp (by omega)]
    refine z_rv F dX1_link_32 ?_
    first
      | (refine ⟨MS.rf, fun a c ha hc8 => ?_⟩
         rw [hc] at h5
         rcases hx with rfl | ⟨j, hj, rfl⟩
         · rw [if_neg (fun q => by rcases q with ⟨-, q⟩ | ⟨-, q⟩ <;> exact absurd q (m1_ne (by omega)))]
         · exact absurd (isP_nI hj (by omega)) h5)
      | (refine ⟨(MS.rf.u2 (by decide)).u2 (by decide), fun a c ha hc8 => ?_⟩
         rw [mat_set (by omega) hc8, mat_set (by omega) hc8]
         have e1 : ∀ z, z < 8 → (nI j = nI z ↔ j = z) := fun z hz => nI_eq (by omega) (by omega)
         simp only [e1 c hc8, e1 a ha]
         by_cases q1 : a = j ∧ c = i
         · rw [if_pos q1, if_pos (Or.inr ⟨q1.2, q1.1.symm⟩)]
         · rw [if_neg q1]
           by_cases q2 : a = i ∧ c = j
           · rw [if_pos q2, if_pos (Or.inl ⟨q2.1, q2.2.symm⟩)]
           · rw [if_neg q2, if_neg (by omega)])
  · skip
    have h5 := bI1.mp h5
    rw [hc] at h5
    obtain ⟨j, hj, rfl⟩ := isP_of h5 (by omega)
    refine z_aload_n F dX1_link_8 0 rfl 9 rfl ?_
    refine z_getR F zc1 dX1_link_9 rfl 5 (by decide) (by decide) (.inl m_123) rfl (by decide) 12 rfl ?_
    refine z_iload_n F dX1_link_12 1 rfl 13 rfl ?_
    refine z_bipush F dX1_link_13 8 (by decide) 15 rfl ?_
    refine z_imul F dX1_link_15 16 rfl ?_
    refine z_iload_n F dX1_link_16 2 rfl 17 rfl ?_
    refine z_iadd F dX1_link_17 18 rfl ?_
    refine z_iconst F dX1_link_18 1 (by decide) 19 rfl ?_
    refine z_iast F dX1_link_19 rfl (by rw [ix8]; exact vp_in_nI (by omega) (by decide)) 20 rfl ?_
    rw [ix8, nI_clamp (by omega)]
    refine z_aload_n F dX1_link_20 0 rfl 21 rfl ?_
    refine z_getR F zc1 dX1_link_21 rfl 5 (by decide) (by decide) (.inl m_123) rfl (by decide) 24 rfl ?_
    refine z_iload_n F dX1_link_24 2 rfl 25 rfl ?_
    refine z_bipush F dX1_link_25 8 (by decide) 27 rfl ?_
    refine z_imul F dX1_link_27 28 rfl ?_
    refine z_iload_n F dX1_link_28 1 rfl 29 rfl ?_
    refine z_iadd F dX1_link_29 30 rfl ?_
    refine z_iconst F dX1_link_30 1 (by decide) 31 rfl ?_
    refine z_iast F dX1_link_31 rfl (by rw [ix8]; exact vp_in_nI (by omega) (by decide)) 32 rfl ?_
    try rw [ix8, nI_clamp (by omega)]
    refine z_rv F dX1_link_32 ?_
    first
      | (refine ⟨MS.rf, fun a c ha hc8 => ?_⟩
         rw [hc] at h5
         rcases hx with rfl | ⟨j, hj, rfl⟩
         · rw [if_neg (fun q => by rcases q with ⟨-, q⟩ | ⟨-, q⟩ <;> exact absurd q (m1_ne (by omega)))]
         · exact absurd (isP_nI hj (by omega)) h5)
      | (refine ⟨(MS.rf.u2 (by decide)).u2 (by decide), fun a c ha hc8 => ?_⟩
         rw [mat_set (by omega) hc8, mat_set (by omega) hc8]
         have e1 : ∀ z, z < 8 → (nI j = nI z ↔ j = z) := fun z hz => nI_eq (by omega) (by omega)
         simp only [e1 c hc8, e1 a ha]
         by_cases q1 : a = j ∧ c = i
         · rw [if_pos q1, if_pos (Or.inr ⟨q1.2, q1.1.symm⟩)]
         · rw [if_neg q1]
           by_cases q2 : a = i ∧ c = j
           · rw [if_pos q2, if_pos (Or.inl ⟨q2.1, q2.2.symm⟩)]
           · rw [if_neg q2, if_neg (by omega)])
set_option maxHeartbeats 400000 in
set_option maxRecDepth 10000 in
theorem kX1_shortenBy {l : Launch} {E : z_E} (σ : z_M) {n : Nat} (hn : n ≤ 8) (hc : σ 2 0 = nI n) {v t : Nat} (hv : v < n) (ht : t < n) (M : Nat → Nat → Nat) (hM : ∀ a c, a < n → c < n → M a c ≤ 40) (hz : M v v = 0) (hm : ∀ a c, a < n → c < n → σ 7 (a * 8 + c) = nI (M a c)) : z_C l E shC 1 yX1_shortenBy cX1_shortenBy 6 none [.ref (z_ad E 2), .int (nI v), .int (nI t)] σ (z_Pv (fun σ' => MS [7] σ σ' ∧ ∀ a c, a < n → c < n → σ' 7 (a * 8 + c) = nI (if a = t then dvia M v a c else M a c))) := by
  refine z_intro iX1_shortenBy (Nat.le_of_ble_eq_true rfl) (fun K F => ?_)
  have loop2 : ∀ (f : Nat) (j : Nat) (τ : z_M) (_ : 8 < j + f) (_ : j ≤ n) (_ : MS [7] σ τ) (_ : ∀ a c, a < n → c < n → τ 7 (a * 8 + c) = nI (if a = t ∧ c < j then dvia M v a c else M a c)), z_X l K E shC 1 6 (z_Pv (fun σ' => MS [7] σ σ' ∧ ∀ a c, a < n → c < n → σ' 7 (a * 8 + c) = nI (if a = t then dvia M v a c else M a c))) 2 [(0, .ref (z_ad E 2)), (1, .int (nI v)), (2, .int (nI t)), (3, .int (nI j))] [] τ := by
    intro f
    induction f with
    | zero =>
      intro j τ hf hj hs hi
      omega
    | succ f ih =>
      intro j τ hf hj hs hi
      have e0 : τ 2 0 = nI n := (hs 2 (by decide) ▸ hc : τ 2 0 = nI n)
      refine z_iload_n F dX1_shortenBy_2 3 rfl 3 rfl ?_
      refine z_aload_n F dX1_shortenBy_3 0 rfl 4 rfl ?_
      refine z_getI F zc1 dX1_shortenBy_4 rfl 0 (by decide) (by decide) (.inl m_109) rfl 7 rfl ?_
      refine z_icmp_ge F dX1_shortenBy_7 58 (by decide) 10 rfl (fun h7 => ?_) (fun h7 => ?_)
      · skip
        refine z_rv F dX1_shortenBy_58 ?_
        have hjn : n ≤ j := le_nI (e0 ▸ h7) (by omega) (by omega)
        exact ⟨hs, fun a c ha hc2 => by rw [hi a c ha hc2]; congr 1; by_cases q : a = t <;> simp [q]; omega⟩
      · skip
        have hjn : j < n := nle_nI (e0 ▸ h7) (by omega) (by omega)
        have b1 := hM t v ht hv
        have b2 := hM v j hv hjn
        have b3 := hM t j ht hjn
        refine z_aload_n F dX1_shortenBy_10 0 rfl 11 rfl ?_
        refine z_iload_n F dX1_shortenBy_11 2 rfl 12 rfl ?_
        refine z_iload_n F dX1_shortenBy_12 1 rfl 13 rfl ?_
        refine z_callVp F dX1_shortenBy_13 m_359 iX1_between jX1_between rfl zc1 rfl (kX1_between τ (i := t) (j := v) (by omega) (by omega)) rfl (by decide) (Nat.le_of_ble_eq_true rfl) 16 rfl ?_
        refine z_aload_n F dX1_shortenBy_16 0 rfl 17 rfl ?_
        refine z_iload_n F dX1_shortenBy_17 1 rfl 18 rfl ?_
        refine z_iload_n F dX1_shortenBy_18 3 rfl 19 rfl ?_
        refine z_callVp F dX1_shortenBy_19 m_359 iX1_between jX1_between rfl zc1 rfl (kX1_between τ (i := v) (j := j) (by omega) (by have := nle_nI (e0 ▸ h7) (by omega) (by omega); omega)) rfl (by decide) (Nat.le_of_ble_eq_true rfl) 22 rfl ?_
        refine z_iadd F dX1_shortenBy_22 23 rfl ?_
        rw [hi t v ht hv, hi v j hv hjn, if_neg (show ¬ (v = t ∧ j < j) by omega), show (if t = t ∧ v < j then dvia M v t v else M t v) = M t v by unfold dvia; split <;> omega, nI_add]
        refine z_istore F dX1_shortenBy_23 [(0, _), (1, _), (2, _), (3, _), (4, _)] rfl (by decide) 25 rfl ?_
        refine z_iload_n F dX1_shortenBy_25 2 rfl 26 rfl ?_
        refine z_bipush F dX1_shortenBy_26 8 (by decide) 28 rfl ?_
        refine z_imul F dX1_shortenBy_28 29 rfl ?_
        refine z_iload_n F dX1_shortenBy_29 3 rfl 30 rfl ?_
        refine z_iadd F dX1_shortenBy_30 31 rfl ?_
        refine z_istore F dX1_shortenBy_31 [(0, _), (1, _), (2, _), (3, _), (4, _), (5, _)] rfl (by decide) 33 rfl ?_
        rw [ix8]
        refine z_aload_n F dX1_shortenBy_33 0 rfl 34 rfl ?_
        refine z_getR F zc1 dX1_shortenBy_34 rfl 5 (by decide) (by decide) (.inl m_123) rfl (by decide) 37 rfl ?_
        refine z_iload F dX1_shortenBy_37 5 rfl 39 rfl ?_
        refine z_aload_n F dX1_shortenBy_39 0 rfl 40 rfl ?_
        refine z_getR F zc1 dX1_shortenBy_40 rfl 5 (by decide) (by decide) (.inl m_123) rfl (by decide) 43 rfl ?_
        refine z_iload F dX1_shortenBy_43 5 rfl 45 rfl ?_
        refine z_iald F dX1_shortenBy_45 rfl (vp_in_nI (by omega) (by decide)) 46 rfl ?_
        rw [nI_clamp (by omega), hi t j ht hjn, if_neg (show ¬ (t = t ∧ j < j) by omega)]
        refine z_iload F dX1_shortenBy_46 4 rfl 48 rfl ?_
        refine z_min F dX1_shortenBy_48 m_363 m_364 m_76 m_365 (by decide) (Nat.le_of_ble_eq_true rfl) 51 rfl ?_
        rw [min_nI (by omega) (by omega)]
        refine z_iast F dX1_shortenBy_51 rfl (vp_in_nI (by omega) (by decide)) 52 rfl ?_
        rw [nI_clamp (by omega)]
        refine z_iinc F dX1_shortenBy_52 3 rfl 1 (by decide) [(0, _), (1, _), (2, _), (3, _), (4, _), (5, _)] rfl (by decide) 55 rfl ?_
        refine z_goto F dX1_shortenBy_55 2 (by decide) ?_
        rw [nI_1]
        refine z_sub [0, 1, 2, 3] rfl (ih (j + 1) _ (by omega) (by omega) (hs.u2 (by decide)) (fun a c ha hc2 => ?_))
        rw [mat_set (by omega) (by omega)]
        by_cases q : a = t ∧ c = j
        · obtain ⟨rfl, rfl⟩ := q
          rw [if_pos ⟨rfl, rfl⟩, if_pos ⟨rfl, by omega⟩]; rfl
        · rw [if_neg q, hi a c ha hc2]
          congr 1
          by_cases q2 : a = t ∧ c < j
          · rw [if_pos q2, if_pos ⟨q2.1, by omega⟩]
          · rw [if_neg q2, if_neg (by omega)]
  refine z_iconst F dX1_shortenBy_0 0 (by decide) 1 rfl ?_
  refine z_istore_n F dX1_shortenBy_1 [(0, _), (1, _), (2, _), (3, _)] rfl (by decide) 2 rfl ?_
  exact loop2 9 0 σ (by omega) (by omega) MS.rf (fun a c ha hc2 => by rw [if_neg (by omega), hm a c ha hc2])
set_option maxHeartbeats 400000 in
set_option maxRecDepth 10000 in
theorem kX1_measure {l : Launch} {E : z_E} (σ : z_M) {r : Rw} (hK : KinR σ 1 r) (hV : VK r) : z_C l E shC 2 yX1_measure cX1_measure 3 none [.ref (z_ad E 2)] σ (z_Pv (fun σ' => MS [7] σ σ' ∧ MeaR σ' 1 r)) := by
  refine z_intro iX1_measure (Nat.le_of_ble_eq_true rfl) (fun K F => ?_)
  have hn : nP r ≤ 8 := hV.2.1
  have hc : σ 2 0 = nI (nP r) := hK.1.trans hV.1
  generalize hne : nP r = n at hn hc
  have loop94 : ∀ (f : Nat) (v : Nat) (τ : z_M) (m : Nat → Nat → Nat) (_ : 8 < v + f) (_ : v ≤ n) (_ : MS [7] σ τ) (_ : DV n (adj r) v m) (_ : ∀ a c, a < n → c < n → τ 7 (a * 8 + c) = nI (m a c)), z_X l K E shC 2 3 (z_Pv (fun σ' => MS [7] σ σ' ∧ MeaR σ' 1 r)) 94 [(0, .ref (z_ad E 2)), (1, .int (nI v))] [] τ := by
    intro f
    induction f with
    | zero =>
      intro v τ m hf hv hs hD hm
      omega
    | succ f ih =>
      intro v τ m hf hv hs hD hm
      have e0 : τ 2 0 = nI n := (hs 2 (by decide) ▸ hc : τ 2 0 = nI n)
      have loop104 : ∀ (g : Nat) (t : Nat) (υ : z_M) (_ : 8 < t + g) (_ : t ≤ n) (_ : v < n) (_ : MS [7] σ υ) (_ : ∀ a c, a < n → c < n → υ 7 (a * 8 + c) = nI (if a < t then dvia m v a c else m a c)), z_X l K E shC 2 3 (z_Pv (fun σ' => MS [7] σ σ' ∧ MeaR σ' 1 r)) 104 [(0, .ref (z_ad E 2)), (1, .int (nI v)), (2, .int (nI t))] [] υ := by
        intro g
        induction g with
        | zero =>
          intro t υ hg ht hvn hs2 hm2
          omega
        | succ g ih2 =>
          intro t υ hg ht hvn hs2 hm2
          have e1 : υ 2 0 = nI n := (hs2 2 (by decide) ▸ hc : υ 2 0 = nI n)
          refine z_iload_n F dX1_measure_104 2 rfl 105 rfl ?_
          refine z_aload_n F dX1_measure_105 0 rfl 106 rfl ?_
          refine z_getI F zc1 dX1_measure_106 rfl 0 (by decide) (by decide) (.inl m_109) rfl 109 rfl ?_
          refine z_icmp_ge F dX1_measure_109 124 (by decide) 112 rfl (fun h109 => ?_) (fun h109 => ?_)
          · skip
            have htn : n ≤ t := le_nI (e1 ▸ h109) (by omega) (by omega)
            refine z_iinc F dX1_measure_124 1 rfl 1 (by decide) [(0, _), (1, _), (2, _)] rfl (by decide) 127 rfl ?_
            refine z_goto F dX1_measure_127 94 (by decide) ?_
            rw [nI_1]
            refine z_sub [0, 1] rfl (ih (v + 1) υ (dvia m v) (by omega) (by omega) hs2 (hD.step hvn) (fun a c ha hc2 => ?_))
            rw [hm2 a c ha hc2, if_pos (by omega)]
          · skip
            have htn : t < n := nle_nI (e1 ▸ h109) (by omega) (by omega)
            refine z_aload_n F dX1_measure_112 0 rfl 113 rfl ?_
            refine z_iload_n F dX1_measure_113 1 rfl 114 rfl ?_
            refine z_iload_n F dX1_measure_114 2 rfl 115 rfl ?_
            refine z_callVv F dX1_measure_115 m_355 iX1_shortenBy jX1_shortenBy rfl zc1 rfl (kX1_shortenBy υ hn e1 hvn htn (fun a c => if a < t then dvia m v a c else m a c) (fun a c ha hc2 => by have := hD.2.1 a c ha hc2; (try dsimp only); unfold dvia; split <;> omega) (by have := hD.1 v hvn; (try dsimp only); unfold dvia; split <;> omega) hm2) rfl (by decide) (Nat.le_of_ble_eq_true rfl) 118 rfl (fun s115 c115 => ?_)
            refine z_iinc F dX1_measure_118 2 rfl 1 (by decide) [(0, _), (1, _), (2, _)] rfl (by decide) 121 rfl ?_
            refine z_goto F dX1_measure_121 104 (by decide) ?_
            rw [nI_1]
            refine ih2 (t + 1) s115 (by omega) (by omega) hvn (hs2.tr c115.1) (fun a c ha hc2 => ?_)
            rw [c115.2 a c ha hc2]
            congr 1
            have z := hD.1 v hvn
            unfold dvia
            dsimp only
            by_cases q : a = t
            · subst q
              rw [if_pos rfl]
              (repeat' split) <;> omega
            · rw [if_neg q]
              by_cases q2 : a < t
              · rw [if_pos q2, if_pos (by omega)]
              · rw [if_neg q2, if_neg (by omega)]
      refine z_iload_n F dX1_measure_94 1 rfl 95 rfl ?_
      refine z_aload_n F dX1_measure_95 0 rfl 96 rfl ?_
      refine z_getI F zc1 dX1_measure_96 rfl 0 (by decide) (by decide) (.inl m_109) rfl 99 rfl ?_
      refine z_icmp_ge F dX1_measure_99 130 (by decide) 102 rfl (fun h99 => ?_) (fun h99 => ?_)
      · skip
        refine z_rv F dX1_measure_130 ?_
        have hvn : v = n := by have := le_nI (e0 ▸ h99) (by omega) (by omega); omega
        subst hvn
        exact ⟨hs, fun i j hi hj => by rw [hne] at hi hj; rw [show (1 + 6) = 7 from rfl, hm i j hi hj]; congr 1; unfold dS; rw [hne]; exact hD.all.eqd hi hj⟩
      · skip
        have hvn : v < n := nle_nI (e0 ▸ h99) (by omega) (by omega)
        refine z_iconst F dX1_measure_102 0 (by decide) 103 rfl ?_
        refine z_istore_n F dX1_measure_103 [(0, _), (1, _), (2, _)] rfl (by decide) 104 rfl ?_
        exact loop104 9 0 τ (by omega) (by omega) hvn hs (fun a c ha hc2 => by rw [if_neg (by omega), hm a c ha hc2])
  have loop56 : ∀ (f : Nat) (t : Nat) (τ : z_M) (_ : 8 < t + f) (_ : t ≤ n) (_ : MS [7] σ τ) (_ : ∀ a c, a < n → c < n → (a = c → τ 7 (a * 8 + c) = 0) ∧ (a ≠ c → (lk r t a c → τ 7 (a * 8 + c) = 1) ∧ (¬ lk r t a c → τ 7 (a * 8 + c) = 40))), z_X l K E shC 2 3 (z_Pv (fun σ' => MS [7] σ σ' ∧ MeaR σ' 1 r)) 56 [(0, .ref (z_ad E 2)), (1, .int (nI t))] [] τ := by
    intro f
    induction f with
    | zero =>
      intro t τ hf ht hs hm
      omega
    | succ f ih =>
      intro t τ hf ht hs hm
      have e0 : τ 2 0 = nI n := (hs 2 (by decide) ▸ hc : τ 2 0 = nI n)
      refine z_iload_n F dX1_measure_56 1 rfl 57 rfl ?_
      refine z_aload_n F dX1_measure_57 0 rfl 58 rfl ?_
      refine z_getI F zc1 dX1_measure_58 rfl 0 (by decide) (by decide) (.inl m_109) rfl 61 rfl ?_
      refine z_icmp_ge F dX1_measure_61 92 (by decide) 64 rfl (fun h61 => ?_) (fun h61 => ?_)
      · skip
        refine z_iconst F dX1_measure_92 0 (by decide) 93 rfl ?_
        refine z_istore_n F dX1_measure_93 [(0, _), (1, _)] rfl (by decide) 94 rfl ?_
        have htn : t = n := by have := le_nI (e0 ▸ h61) (by omega) (by omega); omega
        subst htn
        refine loop94 9 0 τ (fun a c => if a = c then 0 else if adj r a c = true then 1 else 40) (by omega) (by omega) hs (DV.init (fun i j _ _ => rfl)) (fun a c ha hc2 => ?_)
        obtain ⟨g1, g2⟩ := hm a c ha hc2
        have ea : adj r a c = true ↔ (pO r a 2 = nI c ∨ pO r c 2 = nI a ∨ pO r a 3 = nI c) := by unfold adj; exact decide_eq_true_iff
        by_cases q : a = c
        · rw [if_pos q, g1 q]; rfl
        · rw [if_neg q]
          by_cases q2 : adj r a c = true
          · rw [if_pos q2, (g2 q).1]; rfl
            rcases ea.mp q2 with z | z | z
            · exact Or.inl ⟨ha, Or.inl z⟩
            · exact Or.inr ⟨hc2, Or.inl z⟩
            · exact Or.inl ⟨ha, Or.inr z⟩
          · rw [if_neg q2, (g2 q).2]; rfl
            intro z
            refine q2 (ea.mpr ?_)
            rcases z with ⟨-, z | z⟩ | ⟨-, z | z⟩
            · exact Or.inl z
            · exact Or.inr (Or.inr z)
            · exact Or.inr (Or.inl z)
            · exact Or.inr (Or.inr (hV.sym (by omega) (by omega) z))
      · skip
        have htn : t < n := nle_nI (e0 ▸ h61) (by omega) (by omega)
        have hk := hK.2 t (by omega)
        have hvk := hV.2.2 t (by omega)
        have p1 : τ 5 t = pO r t 2 := (congrFun (hs 5 (by decide)) t).trans hk.2.2.1
        have p2 : τ 6 t = pO r t 3 := (congrFun (hs 6 (by decide)) t).trans hk.2.2.2
        refine z_aload_n F dX1_measure_64 0 rfl 65 rfl ?_
        refine z_iload_n F dX1_measure_65 1 rfl 66 rfl ?_
        refine z_aload_n F dX1_measure_66 0 rfl 67 rfl ?_
        refine z_getR F zc1 dX1_measure_67 rfl 3 (by decide) (by decide) (.inl m_118) rfl (by decide) 70 rfl ?_
        refine z_iload_n F dX1_measure_70 1 rfl 71 rfl ?_
        refine z_iald F dX1_measure_71 rfl (vp_in_nI (by omega) (by decide)) 72 rfl ?_
        rw [nI_clamp (by omega), p1]
        refine z_callVv F dX1_measure_72 m_347 iX1_link jX1_link rfl zc1 rfl (kX1_link τ (i := t) (by omega) hn e0 (pO r t 2) (hvk.2.2.1.elim Or.inl (fun ⟨j, hj, q⟩ => Or.inr ⟨j, by omega, q⟩))) rfl (by decide) (Nat.le_of_ble_eq_true rfl) 75 rfl (fun s72 c72 => ?_)
        refine z_aload_n F dX1_measure_75 0 rfl 76 rfl ?_
        refine z_iload_n F dX1_measure_76 1 rfl 77 rfl ?_
        refine z_aload_n F dX1_measure_77 0 rfl 78 rfl ?_
        refine z_getR F zc1 dX1_measure_78 rfl 4 (by decide) (by decide) (.inl m_121) rfl (by decide) 81 rfl ?_
        refine z_iload_n F dX1_measure_81 1 rfl 82 rfl ?_
        refine z_iald F dX1_measure_82 rfl (vp_in_nI (by omega) (by decide)) 83 rfl ?_
        rw [nI_clamp (by omega), c72.1 6 (by decide), p2]
        refine z_callVv F dX1_measure_83 m_347 iX1_link jX1_link rfl zc1 rfl (kX1_link s72 (i := t) (by omega) hn (c72.1 2 (by decide) ▸ e0) (pO r t 3) (hvk.2.2.2.elim Or.inl (fun ⟨j, hj, _, q, _⟩ => Or.inr ⟨j, by omega, q⟩))) rfl (by decide) (Nat.le_of_ble_eq_true rfl) 86 rfl (fun s83 c83 => ?_)
        refine z_iinc F dX1_measure_86 1 rfl 1 (by decide) [(0, _), (1, _)] rfl (by decide) 89 rfl ?_
        refine z_goto F dX1_measure_89 56 (by decide) ?_
        rw [nI_1]
        refine ih (t + 1) s83 (by omega) (by omega) ((hs.tr c72.1).tr c83.1) (fun a c ha hc2 => ?_)
        have e : s83 7 (a * 8 + c) = if (a = t ∧ pO r t 3 = nI c) ∨ (c = t ∧ pO r t 3 = nI a) then 1 else if (a = t ∧ pO r t 2 = nI c) ∨ (c = t ∧ pO r t 2 = nI a) then 1 else τ 7 (a * 8 + c) := by
          rw [c83.2 a c (by omega) (by omega), c72.2 a c (by omega) (by omega)]
        obtain ⟨g1, g2⟩ := hm a c ha hc2
        refine ⟨fun q => ?_, fun q => ⟨fun w => ?_, fun w => ?_⟩⟩
        · subst q
          have n1 : ¬ (a = t ∧ pO r t 3 = nI a) := fun w => (hV.spo (by omega) (by omega) w.2).2 w.1
          have n2 : ¬ (a = t ∧ pO r t 2 = nI a) := fun w => by have := hV.par (c := t) (by omega) (by omega) w.2; omega
          rw [e, if_neg (fun w => w.elim n1 n1), if_neg (fun w => w.elim n2 n2), g1 rfl]
        · rw [e]
          by_cases q1 : (a = t ∧ pO r t 3 = nI c) ∨ (c = t ∧ pO r t 3 = nI a)
          · rw [if_pos q1]
          · rw [if_neg q1]
            by_cases q2 : (a = t ∧ pO r t 2 = nI c) ∨ (c = t ∧ pO r t 2 = nI a)
            · rw [if_pos q2]
            · rw [if_neg q2]
              refine (g2 q).1 ?_
              rcases w with ⟨w1, w2⟩ | ⟨w1, w2⟩
              · rcases Nat.lt_or_ge a t with z | z
                · exact Or.inl ⟨z, w2⟩
                · have : a = t := by omega
                  subst this
                  rcases w2 with w2 | w2
                  · exact absurd (Or.inl ⟨rfl, w2⟩) q2
                  · exact absurd (Or.inl ⟨rfl, w2⟩) q1
              · rcases Nat.lt_or_ge c t with z | z
                · exact Or.inr ⟨z, w2⟩
                · have : c = t := by omega
                  subst this
                  rcases w2 with w2 | w2
                  · exact absurd (Or.inr ⟨rfl, w2⟩) q2
                  · exact absurd (Or.inr ⟨rfl, w2⟩) q1
        · have w1 : ¬ lk r t a c := fun z => w (by
            rcases z with ⟨z1, z2⟩ | ⟨z1, z2⟩
            · exact Or.inl ⟨by omega, z2⟩
            · exact Or.inr ⟨by omega, z2⟩)
          rw [e, if_neg, if_neg]
          · exact (g2 q).2 w1
          · rintro (⟨rfl, z⟩ | ⟨rfl, z⟩)
            · exact w (Or.inl ⟨by omega, Or.inl z⟩)
            · exact w (Or.inr ⟨by omega, Or.inl z⟩)
          · rintro (⟨rfl, z⟩ | ⟨rfl, z⟩)
            · exact w (Or.inl ⟨by omega, Or.inr z⟩)
            · exact w (Or.inr ⟨by omega, Or.inr z⟩)
  have loop2 : ∀ (f : Nat) (i : Nat) (τ : z_M) (_ : 8 < i + f) (_ : i ≤ n) (_ : MS [7] σ τ) (_ : ∀ a c, a < i → c < n → τ 7 (a * 8 + c) = if a = c then 0 else 40), z_X l K E shC 2 3 (z_Pv (fun σ' => MS [7] σ σ' ∧ MeaR σ' 1 r)) 2 [(0, .ref (z_ad E 2)), (1, .int (nI i))] [] τ := by
    intro f
    induction f with
    | zero =>
      intro i τ hf hi hs hm
      omega
    | succ f ih =>
      intro i τ hf hi hs hm
      have e0 : τ 2 0 = nI n := (hs 2 (by decide) ▸ hc : τ 2 0 = nI n)
      have loop12 : ∀ (g : Nat) (j : Nat) (υ : z_M) (_ : 8 < j + g) (_ : j ≤ n) (_ : i < n) (_ : MS [7] σ υ) (_ : ∀ a c, (a < i ∨ (a = i ∧ c < j)) → c < n → υ 7 (a * 8 + c) = if a = c then 0 else 40), z_X l K E shC 2 3 (z_Pv (fun σ' => MS [7] σ σ' ∧ MeaR σ' 1 r)) 12 [(0, .ref (z_ad E 2)), (1, .int (nI i)), (2, .int (nI j))] [] υ := by
        intro g
        induction g with
        | zero =>
          intro j υ hg hj hin hs2 hm2
          omega
        | succ g ih2 =>
          intro j υ hg hj hin hs2 hm2
          have e1 : υ 2 0 = nI n := (hs2 2 (by decide) ▸ hc : υ 2 0 = nI n)
          refine z_iload_n F dX1_measure_12 2 rfl 13 rfl ?_
          refine z_aload_n F dX1_measure_13 0 rfl 14 rfl ?_
          refine z_getI F zc1 dX1_measure_14 rfl 0 (by decide) (by decide) (.inl m_109) rfl 17 rfl ?_
          refine z_icmp_ge F dX1_measure_17 48 (by decide) 20 rfl (fun h17 => ?_) (fun h17 => ?_)
          · skip
            have hjn : n ≤ j := le_nI (e1 ▸ h17) (by omega) (by omega)
            refine z_iinc F dX1_measure_48 1 rfl 1 (by decide) [(0, _), (1, _), (2, _)] rfl (by decide) 51 rfl ?_
            refine z_goto F dX1_measure_51 2 (by decide) ?_
            rw [nI_1]
            exact z_sub [0, 1] rfl (ih (i + 1) υ (by omega) (by omega) hs2 (fun a c ha hc2 => hm2 a c (by omega) hc2))
          · skip
            have hjn : j < n := nle_nI (e1 ▸ h17) (by omega) (by omega)
            refine z_aload_n F dX1_measure_20 0 rfl 21 rfl ?_
            refine z_getR F zc1 dX1_measure_21 rfl 5 (by decide) (by decide) (.inl m_123) rfl (by decide) 24 rfl ?_
            refine z_iload_n F dX1_measure_24 1 rfl 25 rfl ?_
            refine z_bipush F dX1_measure_25 8 (by decide) 27 rfl ?_
            refine z_imul F dX1_measure_27 28 rfl ?_
            refine z_iload_n F dX1_measure_28 2 rfl 29 rfl ?_
            refine z_iadd F dX1_measure_29 30 rfl ?_
            refine z_iload_n F dX1_measure_30 1 rfl 31 rfl ?_
            refine z_iload_n F dX1_measure_31 2 rfl 32 rfl ?_
            refine z_icmp_ne F dX1_measure_32 39 (by decide) 35 rfl (fun h32 => ?_) (fun h32 => ?_)
            · skip
              refine z_bipush F dX1_measure_39 40 (by decide) 41 rfl ?_
              refine z_iast F dX1_measure_41 rfl (by rw [ix8]; exact vp_in_nI (by omega) (by decide)) 42 rfl ?_
              rw [ix8, nI_clamp (by omega)]
              refine z_iinc F dX1_measure_42 2 rfl 1 (by decide) [(0, _), (1, _), (2, _)] rfl (by decide) 45 rfl ?_
              refine z_goto F dX1_measure_45 12 (by decide) ?_
              rw [nI_1]
              refine ih2 (j + 1) _ (by omega) (by omega) hin (hs2.u2 (by decide)) (fun a c ha hc2 => ?_)
              rw [mat_set (by omega) (by omega)]
              by_cases q : a = i ∧ c = j
              · obtain ⟨rfl, rfl⟩ := q
                rw [if_pos ⟨rfl, rfl⟩]
                first
                  | (rw [if_pos (eq_nI h32 (by omega) (by omega))])
                  | (rw [if_neg (fun q => h32 (by rw [q]))])
              · rw [if_neg q]
                exact hm2 a c (by omega) hc2
            · skip
              refine z_iconst F dX1_measure_35 0 (by decide) 36 rfl ?_
              refine z_goto F dX1_measure_36 41 (by decide) ?_
              refine z_iast F dX1_measure_41 rfl (by rw [ix8]; exact vp_in_nI (by omega) (by decide)) 42 rfl ?_
              rw [ix8, nI_clamp (by omega)]
              refine z_iinc F dX1_measure_42 2 rfl 1 (by decide) [(0, _), (1, _), (2, _)] rfl (by decide) 45 rfl ?_
              refine z_goto F dX1_measure_45 12 (by decide) ?_
              rw [nI_1]
              refine ih2 (j + 1) _ (by omega) (by omega) hin (hs2.u2 (by decide)) (fun a c ha hc2 => ?_)
              rw [mat_set (by omega) (by omega)]
              by_cases q : a = i ∧ c = j
              · obtain ⟨rfl, rfl⟩ := q
                rw [if_pos ⟨rfl, rfl⟩]
                first
                  | (rw [if_pos (eq_nI h32 (by omega) (by omega))])
                  | (rw [if_neg (fun q => h32 (by rw [q]))])
              · rw [if_neg q]
                exact hm2 a c (by omega) hc2
      refine z_iload_n F dX1_measure_2 1 rfl 3 rfl ?_
      refine z_aload_n F dX1_measure_3 0 rfl 4 rfl ?_
      refine z_getI F zc1 dX1_measure_4 rfl 0 (by decide) (by decide) (.inl m_109) rfl 7 rfl ?_
      refine z_icmp_ge F dX1_measure_7 54 (by decide) 10 rfl (fun h7 => ?_) (fun h7 => ?_)
      · skip
        refine z_iconst F dX1_measure_54 0 (by decide) 55 rfl ?_
        refine z_istore_n F dX1_measure_55 [(0, _), (1, _)] rfl (by decide) 56 rfl ?_
        have hin : i = n := by have := le_nI (e0 ▸ h7) (by omega) (by omega); omega
        subst hin
        exact loop56 9 0 τ (by omega) (by omega) hs (fun a c ha hc2 => ⟨fun q => by rw [hm a c ha hc2, if_pos q], fun q => ⟨fun w => by (rcases w with ⟨w, -⟩ | ⟨w, -⟩ <;> omega), fun _ => by rw [hm a c ha hc2, if_neg q]⟩⟩)
      · skip
        have hin : i < n := nle_nI (e0 ▸ h7) (by omega) (by omega)
        refine z_iconst F dX1_measure_10 0 (by decide) 11 rfl ?_
        refine z_istore_n F dX1_measure_11 [(0, _), (1, _), (2, _)] rfl (by decide) 12 rfl ?_
        exact loop12 9 0 τ (by omega) (by omega) hin hs (fun a c ha hc2 => hm a c (by omega) hc2)
  refine z_iconst F dX1_measure_0 0 (by decide) 1 rfl ?_
  refine z_istore_n F dX1_measure_1 [(0, _), (1, _)] rfl (by decide) 2 rfl ?_
  exact loop2 9 0 σ (by omega) (by omega) MS.rf (fun a c ha => by omega)
