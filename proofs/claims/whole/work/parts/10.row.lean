/-! the shapes; memory laws; the class Row -/
def shC : z_Sh := [(11, 8, [some 1, some 25, some 49, some 51, some 54, some 57, some 70, none]), (10, 8, [some 2, some 8, some 10, some 11, some 12, some 21, some 23, none]), (4, 6, [none, some 3, some 4, some 5, some 6, some 7]), (0, 8, []), (0, 8, []), (0, 8, []), (0, 8, []), (0, 64, []), (3, 4, [none, none, none, some 9]), (0, 8, []), (0, 6, []), (0, 6, []), (1, 2, [some 13, some 17]), (8, 2, [some 14, some 16]), (6, 2, [some 15, none]), (0, 60, []), (0, 60, []), (8, 2, [some 18, some 20]), (6, 2, [some 19, none]), (0, 60, []), (0, 60, []), (6, 2, [some 22, none]), (0, 60, []), (6, 2, [some 24, none]), (0, 24, []), (10, 8, [some 26, some 32, some 34, some 35, some 36, some 45, some 47, none]), (4, 6, [none, some 27, some 28, some 29, some 30, some 31]), (0, 8, []), (0, 8, []), (0, 8, []), (0, 8, []), (0, 64, []), (3, 4, [none, none, none, some 33]), (0, 8, []), (0, 6, []), (0, 6, []), (1, 2, [some 37, some 41]), (8, 2, [some 38, some 40]), (6, 2, [some 39, none]), (0, 60, []), (0, 60, []), (8, 2, [some 42, some 44]), (6, 2, [some 43, none]), (0, 60, []), (0, 60, []), (6, 2, [some 46, none]), (0, 60, []), (6, 2, [some 48, none]), (0, 24, []), (3, 4, [none, none, none, some 50]), (0, 8, []), (5, 4, [some 21, some 52, some 999, none]), (6, 2, [some 53, none]), (0, 60, []), (9, 5, [some 55, none, none, none, none]), (6, 2, [some 56, none]), (0, 30, []), (2, 4, [some 58, some 61, some 64, some 67]), (7, 2, [some 59, none]), (6, 2, [some 60, none]), (0, 24, []), (7, 2, [some 62, none]), (6, 2, [some 63, none]), (0, 24, []), (7, 2, [some 65, none]), (6, 2, [some 66, none]), (0, 24, []), (7, 2, [some 68, none]), (6, 2, [some 69, none]), (0, 24, []), (0, 7, [])]
def shM : z_Sh := [(12, 20, [some 1, some 2, some 3, none, some 4, some 5, some 6, some 7, some 8, some 9, some 10, some 11, none, none, none, none, none, some 12, none, none]), (0, 385, []), (0, 385, []), (0, 385, []), (0, 7, []), (0, 4, []), (0, 4, []), (0, 96, []), (0, 60, []), (0, 60, []), (0, 3, []), (0, 60, []), (0, 30, [])]
section MEM
theorem u2_same {σ : z_M} {o k : Nat} {v : Int32} : z_u2 σ o k v o k = v := by simp [z_u2, z_up, upd]
theorem u2_o {σ : z_M} {o k q : Nat} {v : Int32} (h : q ≠ o) : z_u2 σ o k v q = σ q := by simp [z_u2, z_up, h]
theorem u2_k {σ : z_M} {o k j : Nat} {v : Int32} (h : j ≠ k) : z_u2 σ o k v o j = σ o j := by simp [z_u2, z_up, upd, h]
theorem u2_at {σ : z_M} {o k q j : Nat} {v : Int32} : z_u2 σ o k v q j = if q = o ∧ j = k then v else σ q j := by
  unfold z_u2 z_up upd
  by_cases h : q = o
  · subst h; by_cases h2 : j = k <;> simp [h2]
  · simp [h]
theorem up_same {σ : z_M} {o : Nat} {f : Nat → Int32} : z_up σ o f o = f := by simp [z_up]
theorem up_o {σ : z_M} {o q : Nat} {f : Nat → Int32} (h : q ≠ o) : z_up σ o f q = σ q := by simp [z_up, h]
/-- the memories agree but for some objects -/
def MS (G : List Nat) (σ σ' : z_M) : Prop := ∀ o, o ∉ G → σ' o = σ o
theorem MS.rf {G : List Nat} {σ : z_M} : MS G σ σ := fun _ _ => rfl
theorem MS.tr {G : List Nat} {σ σ' σ'' : z_M} (h : MS G σ σ') (h2 : MS G σ' σ'') : MS G σ σ'' := fun o ho => (h2 o ho).trans (h o ho)
theorem MS.up {G : List Nat} {σ σ' : z_M} {o : Nat} {f : Nat → Int32} (h : MS G σ σ') (ho : o ∈ G) : MS G σ (z_up σ' o f) := fun q hq => (up_o (fun e => hq (by rw [e]; exact ho))).trans (h q hq)
theorem MS.u2 {G : List Nat} {σ σ' : z_M} {o k : Nat} {v : Int32} (h : MS G σ σ') (ho : o ∈ G) : MS G σ (z_u2 σ' o k v) := h.up ho
theorem MS.sub {G G' : List Nat} {σ σ' : z_M} (h : MS G σ σ') (hs : ∀ o, o ∈ G → o ∈ G') : MS G' σ σ' := fun o ho => h o (fun e => ho (hs o e))
end MEM
def rAt (σ : z_M) (r a : Nat) (i : Int32) : Int32 := if 0 ≤ i ∧ i < σ r 1 then σ a i.toNatClampNeg else 0
theorem i_nlt {a b : Int32} : ¬ a < b ↔ b ≤ a := by rw [Int32.lt_iff_toInt_lt, Int32.le_iff_toInt_le]; omega
theorem i_nle {a b : Int32} : ¬ a ≤ b ↔ b < a := by rw [Int32.lt_iff_toInt_lt, Int32.le_iff_toInt_le]; omega
theorem in_of {x : Int32} {n cap : Nat} (h0 : ¬ x < 0) (h : ¬ nI n ≤ x) (hn : n ≤ cap) (hc : cap < 2 ^ 31) : vp_in x cap := by
  obtain ⟨j, hj, rfl⟩ := nI_of h0
  refine vp_in_nI ?_ hc
  rcases Nat.lt_or_ge j n with q | q
  · omega
  · exact absurd (nI_le q hj) h
theorem nI_lit (n : Nat) : (OfNat.ofNat n : Int32) = nI n := rfl
set_option maxHeartbeats 400000 in
set_option maxRecDepth 10000 in
theorem kX4_size {l : Launch} {E : z_E} (σ : z_M) {S : z_Sh} {r a cap : Nat} (hr : S[r]? = some (6, 2, [some a, none])) (ha : S[a]? = some (0, cap, [])) (ha9 : a ≠ 999) : z_C l E S 0 yX4_size cX4_size 1 (some FieldType.int) [.ref (z_ad E r)] σ (z_Pp (σ r 1) σ) := by
  refine z_intro iX4_size (Nat.le_of_ble_eq_true rfl) (fun K F => ?_)
  refine z_aload_n F dX4_size_0 0 rfl 1 rfl ?_
  refine z_getI F zc3 dX4_size_1 hr 1 (by decide) (by decide) (.inl m_182) rfl 4 rfl ?_
  refine z_rp F dX4_size_4 ?_ rfl
  rfl
set_option maxHeartbeats 400000 in
set_option maxRecDepth 10000 in
theorem kX4_hasRoom {l : Launch} {E : z_E} (σ : z_M) {S : z_Sh} {r a cap : Nat} (hr : S[r]? = some (6, 2, [some a, none])) (ha : S[a]? = some (0, cap, [])) (ha9 : a ≠ 999) (x : Int32) : z_C l E S 0 yX4_hasRoom cX4_hasRoom 2 (some FieldType.boolean) [.ref (z_ad E r), .int x] σ (z_Pp (bI (x ≤ nI cap - σ r 1)) σ) := by
  refine z_intro iX4_hasRoom (Nat.le_of_ble_eq_true rfl) (fun K F => ?_)
  refine z_iload_n F dX4_hasRoom_0 1 rfl 1 rfl ?_
  refine z_aload_n F dX4_hasRoom_1 0 rfl 2 rfl ?_
  refine z_getR F zc3 dX4_hasRoom_2 hr 0 (by decide) (by decide) (.inl m_181) rfl ha9 5 rfl ?_
  refine z_alen F dX4_hasRoom_5 ha (nI cap) rfl 6 rfl ?_
  refine z_aload_n F dX4_hasRoom_6 0 rfl 7 rfl ?_
  refine z_getI F zc3 dX4_hasRoom_7 hr 1 (by decide) (by decide) (.inl m_182) rfl 10 rfl ?_
  refine z_isub F dX4_hasRoom_10 11 rfl ?_
  refine z_icmp_gt F dX4_hasRoom_11 18 (by decide) 14 rfl (fun h11 => ?_) (fun h11 => ?_)
  · skip
    refine z_iconst F dX4_hasRoom_18 0 (by decide) 19 rfl ?_
    refine z_rpz F dX4_hasRoom_19 (by first | rfl | exact bIn) ?_ rfl
    first | exact (bI_t (by simp only [Int32.lt_iff_toInt_lt, Int32.le_iff_toInt_le, Int32.toInt_zero] at *; omega)).symm | exact (bI_f (by simp only [Int32.lt_iff_toInt_lt, Int32.le_iff_toInt_le, Int32.toInt_zero] at *; omega)).symm
  · skip
    refine z_iconst F dX4_hasRoom_14 1 (by decide) 15 rfl ?_
    refine z_goto F dX4_hasRoom_15 19 (by decide) ?_
    refine z_rpz F dX4_hasRoom_19 (by first | rfl | exact bIn) ?_ rfl
    first | exact (bI_t (by simp only [Int32.lt_iff_toInt_lt, Int32.le_iff_toInt_le, Int32.toInt_zero] at *; omega)).symm | exact (bI_f (by simp only [Int32.lt_iff_toInt_lt, Int32.le_iff_toInt_le, Int32.toInt_zero] at *; omega)).symm
set_option maxHeartbeats 400000 in
set_option maxRecDepth 10000 in
theorem kX4_stands {l : Launch} {E : z_E} (σ : z_M) {S : z_Sh} {r a cap : Nat} (hr : S[r]? = some (6, 2, [some a, none])) (ha : S[a]? = some (0, cap, [])) (ha9 : a ≠ 999) (x : Int32) : z_C l E S 0 yX4_stands cX4_stands 2 (some FieldType.boolean) [.ref (z_ad E r), .int x] σ (z_Pp (bI (0 ≤ x ∧ x < σ r 1)) σ) := by
  refine z_intro iX4_stands (Nat.le_of_ble_eq_true rfl) (fun K F => ?_)
  refine z_iload_n F dX4_stands_0 1 rfl 1 rfl ?_
  refine z_if_lt F dX4_stands_1 16 (by decide) 4 rfl (fun h1 => ?_) (fun h1 => ?_)
  · skip
    refine z_iconst F dX4_stands_16 0 (by decide) 17 rfl ?_
    refine z_rpz F dX4_stands_17 (by first | rfl | exact bIn) ?_ rfl
    first | exact (bI_t (by simp only [Int32.lt_iff_toInt_lt, Int32.le_iff_toInt_le, Int32.toInt_zero] at *; omega)).symm | exact (bI_f (by simp only [Int32.lt_iff_toInt_lt, Int32.le_iff_toInt_le, Int32.toInt_zero] at *; omega)).symm
  · skip
    refine z_iload_n F dX4_stands_4 1 rfl 5 rfl ?_
    refine z_aload_n F dX4_stands_5 0 rfl 6 rfl ?_
    refine z_getI F zc3 dX4_stands_6 hr 1 (by decide) (by decide) (.inl m_182) rfl 9 rfl ?_
    refine z_icmp_ge F dX4_stands_9 16 (by decide) 12 rfl (fun h9 => ?_) (fun h9 => ?_)
    · skip
      refine z_iconst F dX4_stands_16 0 (by decide) 17 rfl ?_
      refine z_rpz F dX4_stands_17 (by first | rfl | exact bIn) ?_ rfl
      first | exact (bI_t (by simp only [Int32.lt_iff_toInt_lt, Int32.le_iff_toInt_le, Int32.toInt_zero] at *; omega)).symm | exact (bI_f (by simp only [Int32.lt_iff_toInt_lt, Int32.le_iff_toInt_le, Int32.toInt_zero] at *; omega)).symm
    · skip
      refine z_iconst F dX4_stands_12 1 (by decide) 13 rfl ?_
      refine z_goto F dX4_stands_13 17 (by decide) ?_
      refine z_rpz F dX4_stands_17 (by first | rfl | exact bIn) ?_ rfl
      first | exact (bI_t (by simp only [Int32.lt_iff_toInt_lt, Int32.le_iff_toInt_le, Int32.toInt_zero] at *; omega)).symm | exact (bI_f (by simp only [Int32.lt_iff_toInt_lt, Int32.le_iff_toInt_le, Int32.toInt_zero] at *; omega)).symm
set_option maxHeartbeats 400000 in
set_option maxRecDepth 10000 in
theorem kX4_at {l : Launch} {E : z_E} (σ : z_M) {S : z_Sh} {r a cap : Nat} (hr : S[r]? = some (6, 2, [some a, none])) (ha : S[a]? = some (0, cap, [])) (ha9 : a ≠ 999) {n : Nat} (hn : σ r 1 = nI n) (hc : n ≤ cap) (hcap : cap < 2 ^ 31) (x : Int32) : z_C l E S 0 yX4_at cX4_at 2 (some FieldType.int) [.ref (z_ad E r), .int x] σ (z_Pp (rAt σ r a x) σ) := by
  refine z_intro iX4_at (Nat.le_of_ble_eq_true rfl) (fun K F => ?_)
  refine z_iload_n F dX4_at_0 1 rfl 1 rfl ?_
  refine z_if_lt F dX4_at_1 21 (by decide) 4 rfl (fun h1 => ?_) (fun h1 => ?_)
  · skip
    refine z_iconst F dX4_at_21 0 (by decide) 22 rfl ?_
    refine z_rp F dX4_at_22 ?_ rfl
    unfold rAt; first | exact (if_neg (by simp only [Int32.lt_iff_toInt_lt, Int32.le_iff_toInt_le, Int32.toInt_zero] at *; omega)).symm | exact (if_pos (by simp only [Int32.lt_iff_toInt_lt, Int32.le_iff_toInt_le, Int32.toInt_zero] at *; omega)).symm
  · skip
    refine z_iload_n F dX4_at_4 1 rfl 5 rfl ?_
    refine z_aload_n F dX4_at_5 0 rfl 6 rfl ?_
    refine z_getI F zc3 dX4_at_6 hr 1 (by decide) (by decide) (.inl m_182) rfl 9 rfl ?_
    refine z_icmp_ge F dX4_at_9 21 (by decide) 12 rfl (fun h9 => ?_) (fun h9 => ?_)
    · skip
      refine z_iconst F dX4_at_21 0 (by decide) 22 rfl ?_
      refine z_rp F dX4_at_22 ?_ rfl
      unfold rAt; first | exact (if_neg (by simp only [Int32.lt_iff_toInt_lt, Int32.le_iff_toInt_le, Int32.toInt_zero] at *; omega)).symm | exact (if_pos (by simp only [Int32.lt_iff_toInt_lt, Int32.le_iff_toInt_le, Int32.toInt_zero] at *; omega)).symm
    · skip
      refine z_aload_n F dX4_at_12 0 rfl 13 rfl ?_
      refine z_getR F zc3 dX4_at_13 hr 0 (by decide) (by decide) (.inl m_181) rfl ha9 16 rfl ?_
      refine z_iload_n F dX4_at_16 1 rfl 17 rfl ?_
      refine z_iald F dX4_at_17 ha (by exact in_of h1 (hn ▸ h9) hc hcap) 18 rfl ?_
      refine z_goto F dX4_at_18 22 (by decide) ?_
      refine z_rp F dX4_at_22 ?_ rfl
      unfold rAt; first | exact (if_neg (by simp only [Int32.lt_iff_toInt_lt, Int32.le_iff_toInt_le, Int32.toInt_zero] at *; omega)).symm | exact (if_pos (by simp only [Int32.lt_iff_toInt_lt, Int32.le_iff_toInt_le, Int32.toInt_zero] at *; omega)).symm
set_option maxHeartbeats 400000 in
set_option maxRecDepth 10000 in
theorem kX4_write {l : Launch} {E : z_E} (σ : z_M) {S : z_Sh} {r a cap : Nat} (hr : S[r]? = some (6, 2, [some a, none])) (ha : S[a]? = some (0, cap, [])) (ha9 : a ≠ 999) {n : Nat} (hn : σ r 1 = nI n) (hc : n ≤ cap) (hcap : cap < 2 ^ 31) (x v : Int32) : z_C l E S 1 yX4_write cX4_write 3 none [.ref (z_ad E r), .int x, .int v] σ (z_Pu (if 0 ≤ x ∧ x < σ r 1 then z_u2 σ a x.toNatClampNeg v else σ)) := by
  refine z_intro iX4_write (Nat.le_of_ble_eq_true rfl) (fun K F => ?_)
  refine z_aload_n F dX4_write_0 0 rfl 1 rfl ?_
  refine z_iload_n F dX4_write_1 1 rfl 2 rfl ?_
  refine z_callVp F dX4_write_2 m_866 iX4_stands jX4_stands rfl zc3 hr (kX4_stands σ hr ha ha9 x) rfl (by decide) (Nat.le_of_ble_eq_true rfl) 5 rfl ?_
  refine z_if_eq F dX4_write_5 15 (by decide) 8 rfl (fun h5 => ?_) (fun h5 => ?_)
  · skip
    have h5 := bI0.mp h5
    refine z_ru F dX4_write_15 ?_
    first | exact (if_neg h5).symm | exact (if_pos h5).symm
  · skip
    have h5 := bI1.mp h5
    refine z_aload_n F dX4_write_8 0 rfl 9 rfl ?_
    refine z_getR F zc3 dX4_write_9 hr 0 (by decide) (by decide) (.inl m_181) rfl ha9 12 rfl ?_
    refine z_iload_n F dX4_write_12 1 rfl 13 rfl ?_
    refine z_iload_n F dX4_write_13 2 rfl 14 rfl ?_
    refine z_iast F dX4_write_14 ha (by exact in_of (i_nlt.mpr h5.1) (hn ▸ i_nle.mpr h5.2) hc hcap) 15 rfl ?_
    refine z_ru F dX4_write_15 ?_
    first | exact (if_neg h5).symm | exact (if_pos h5).symm
set_option maxHeartbeats 400000 in
set_option maxRecDepth 10000 in
theorem kX4_add {l : Launch} {E : z_E} (σ : z_M) {S : z_Sh} {r a cap : Nat} (hr : S[r]? = some (6, 2, [some a, none])) (ha : S[a]? = some (0, cap, [])) (ha9 : a ≠ 999) {n : Nat} (hn : σ r 1 = nI n) (hc : n ≤ cap) (hcap : cap < 2 ^ 31) (v : Int32) : z_C l E S 0 yX4_add cX4_add 2 none [.ref (z_ad E r), .int v] σ (z_Pu (if n < cap then z_u2 (z_u2 σ a n v) r 1 (nI (n + 1)) else σ)) := by
  refine z_intro iX4_add (Nat.le_of_ble_eq_true rfl) (fun K F => ?_)
  have hra : r ≠ a := fun e => by rw [e, ha] at hr; simp at hr
  have hlt : ¬ nI cap ≤ nI n ↔ n < cap := by rw [nI_leI hcap (by omega)]; omega
  refine z_aload_n F dX4_add_0 0 rfl 1 rfl ?_
  refine z_getI F zc3 dX4_add_1 hr 1 (by decide) (by decide) (.inl m_182) rfl 4 rfl ?_
  refine z_aload_n F dX4_add_4 0 rfl 5 rfl ?_
  refine z_getR F zc3 dX4_add_5 hr 0 (by decide) (by decide) (.inl m_181) rfl ha9 8 rfl ?_
  refine z_alen F dX4_add_8 ha (nI cap) rfl 9 rfl ?_
  refine z_icmp_ge F dX4_add_9 32 (by decide) 12 rfl (fun h9 => ?_) (fun h9 => ?_)
  · skip
    refine z_ru F dX4_add_32 ?_
    first | (rw [if_pos (hlt.mp (hn ▸ h9)), hn, nI_clamp (by omega), u2_o hra, hn, nI_1]) | (rw [if_neg (fun h => absurd h9 (hn ▸ hlt.mpr h))])
  · skip
    refine z_aload_n F dX4_add_12 0 rfl 13 rfl ?_
    refine z_getR F zc3 dX4_add_13 hr 0 (by decide) (by decide) (.inl m_181) rfl ha9 16 rfl ?_
    refine z_aload_n F dX4_add_16 0 rfl 17 rfl ?_
    refine z_getI F zc3 dX4_add_17 hr 1 (by decide) (by decide) (.inl m_182) rfl 20 rfl ?_
    refine z_iload_n F dX4_add_20 1 rfl 21 rfl ?_
    refine z_iast F dX4_add_21 ha (by rw [hn]; exact vp_in_nI (hlt.mp (hn ▸ h9)) hcap) 22 rfl ?_
    refine z_aload_n F dX4_add_22 0 rfl 23 rfl ?_
    refine z_dup F dX4_add_23 rfl 24 rfl ?_
    refine z_getI F zc3 dX4_add_24 hr 1 (by decide) (by decide) (.inl m_182) rfl 27 rfl ?_
    refine z_iconst F dX4_add_27 1 (by decide) 28 rfl ?_
    refine z_iadd F dX4_add_28 29 rfl ?_
    refine z_putI F zc3 dX4_add_29 hr 1 (by decide) (by decide) (.inl m_182) rfl rfl z_pI 32 rfl ?_
    refine z_ru F dX4_add_32 ?_
    first | (rw [if_pos (hlt.mp (hn ▸ h9)), hn, nI_clamp (by omega), u2_o hra, hn, nI_1]) | (rw [if_neg (fun h => absurd h9 (hn ▸ hlt.mpr h))])
set_option maxHeartbeats 400000 in
set_option maxRecDepth 10000 in
theorem kX4_clear {l : Launch} {E : z_E} (σ : z_M) {S : z_Sh} {r a cap : Nat} (hr : S[r]? = some (6, 2, [some a, none])) (ha : S[a]? = some (0, cap, [])) (ha9 : a ≠ 999) : z_C l E S 0 yX4_clear cX4_clear 1 none [.ref (z_ad E r)] σ (z_Pu (z_u2 σ r 1 0)) := by
  refine z_intro iX4_clear (Nat.le_of_ble_eq_true rfl) (fun K F => ?_)
  refine z_aload_n F dX4_clear_0 0 rfl 1 rfl ?_
  refine z_iconst F dX4_clear_1 0 (by decide) 2 rfl ?_
  refine z_putI F zc3 dX4_clear_2 hr 1 (by decide) (by decide) (.inl m_182) rfl rfl z_pI 5 rfl ?_
  refine z_ru F dX4_clear_5 ?_
  rfl
set_option maxHeartbeats 400000 in
set_option maxRecDepth 10000 in
theorem kX4_stand {l : Launch} {E : z_E} (σ : z_M) {S : z_Sh} {r a cap : Nat} (hr : S[r]? = some (6, 2, [some a, none])) (ha : S[a]? = some (0, cap, [])) (ha9 : a ≠ 999) {n : Nat} (hn : σ r 1 = nI n) (hc : n ≤ cap) (hcap : cap < 2 ^ 31) (i m : Int32) : z_C l E S 0 yX4_stand cX4_stand 3 (some FieldType.boolean) [.ref (z_ad E r), .int i, .int m] σ (z_Pp (bI (0 ≤ i ∧ 0 ≤ m ∧ i ≤ σ r 1 ∧ m ≤ σ r 1 - i)) σ) := by
  refine z_intro iX4_stand (Nat.le_of_ble_eq_true rfl) (fun K F => ?_)
  refine z_iload_n F dX4_stand_0 1 rfl 1 rfl ?_
  refine z_if_lt F dX4_stand_1 30 (by decide) 4 rfl (fun h1 => ?_) (fun h1 => ?_)
  · skip
    refine z_iconst F dX4_stand_30 0 (by decide) 31 rfl ?_
    refine z_rpz F dX4_stand_31 (by first | rfl | exact bIn) ?_ rfl
    first | exact (bI_t (by simp only [Int32.lt_iff_toInt_lt, Int32.le_iff_toInt_le, Int32.toInt_zero] at *; omega)).symm | exact (bI_f (by simp only [Int32.lt_iff_toInt_lt, Int32.le_iff_toInt_le, Int32.toInt_zero] at *; omega)).symm
  · skip
    refine z_iload_n F dX4_stand_4 2 rfl 5 rfl ?_
    refine z_if_lt F dX4_stand_5 30 (by decide) 8 rfl (fun h5 => ?_) (fun h5 => ?_)
    · skip
      refine z_iconst F dX4_stand_30 0 (by decide) 31 rfl ?_
      refine z_rpz F dX4_stand_31 (by first | rfl | exact bIn) ?_ rfl
      first | exact (bI_t (by simp only [Int32.lt_iff_toInt_lt, Int32.le_iff_toInt_le, Int32.toInt_zero] at *; omega)).symm | exact (bI_f (by simp only [Int32.lt_iff_toInt_lt, Int32.le_iff_toInt_le, Int32.toInt_zero] at *; omega)).symm
    · skip
      refine z_iload_n F dX4_stand_8 1 rfl 9 rfl ?_
      refine z_aload_n F dX4_stand_9 0 rfl 10 rfl ?_
      refine z_getI F zc3 dX4_stand_10 hr 1 (by decide) (by decide) (.inl m_182) rfl 13 rfl ?_
      refine z_icmp_gt F dX4_stand_13 30 (by decide) 16 rfl (fun h13 => ?_) (fun h13 => ?_)
      · skip
        refine z_iconst F dX4_stand_30 0 (by decide) 31 rfl ?_
        refine z_rpz F dX4_stand_31 (by first | rfl | exact bIn) ?_ rfl
        first | exact (bI_t (by simp only [Int32.lt_iff_toInt_lt, Int32.le_iff_toInt_le, Int32.toInt_zero] at *; omega)).symm | exact (bI_f (by simp only [Int32.lt_iff_toInt_lt, Int32.le_iff_toInt_le, Int32.toInt_zero] at *; omega)).symm
      · skip
        refine z_iload_n F dX4_stand_16 2 rfl 17 rfl ?_
        refine z_aload_n F dX4_stand_17 0 rfl 18 rfl ?_
        refine z_getI F zc3 dX4_stand_18 hr 1 (by decide) (by decide) (.inl m_182) rfl 21 rfl ?_
        refine z_iload_n F dX4_stand_21 1 rfl 22 rfl ?_
        refine z_isub F dX4_stand_22 23 rfl ?_
        refine z_icmp_gt F dX4_stand_23 30 (by decide) 26 rfl (fun h23 => ?_) (fun h23 => ?_)
        · skip
          refine z_iconst F dX4_stand_30 0 (by decide) 31 rfl ?_
          refine z_rpz F dX4_stand_31 (by first | rfl | exact bIn) ?_ rfl
          first | exact (bI_t (by simp only [Int32.lt_iff_toInt_lt, Int32.le_iff_toInt_le, Int32.toInt_zero] at *; omega)).symm | exact (bI_f (by simp only [Int32.lt_iff_toInt_lt, Int32.le_iff_toInt_le, Int32.toInt_zero] at *; omega)).symm
        · skip
          refine z_iconst F dX4_stand_26 1 (by decide) 27 rfl ?_
          refine z_goto F dX4_stand_27 31 (by decide) ?_
          refine z_rpz F dX4_stand_31 (by first | rfl | exact bIn) ?_ rfl
          first | exact (bI_t (by simp only [Int32.lt_iff_toInt_lt, Int32.le_iff_toInt_le, Int32.toInt_zero] at *; omega)).symm | exact (bI_f (by simp only [Int32.lt_iff_toInt_lt, Int32.le_iff_toInt_le, Int32.toInt_zero] at *; omega)).symm
