/-! the reference's public calls: people -/
/-- alike but for what is garbage -/
def MO (μ μ' : z_M) : Prop := (∀ o, o ∈ [1, 2, 4, 5, 6, 7, 12] → μ' o = μ o) ∧ μ' 0 3 = μ 0 3 ∧ μ' 0 18 = μ 0 18
theorem MO.rf {μ : z_M} : MO μ μ := ⟨fun _ _ => rfl, rfl, rfl⟩
theorem MO.tr {a b c : z_M} (h : MO a b) (h2 : MO b c) : MO a c := ⟨fun o ho => (h2.1 o ho).trans (h.1 o ho), h2.2.1.trans h.2.1, h2.2.2.trans h.2.2⟩
theorem MO.ms {G : List Nat} {a b : z_M} (h : MS G a b) (hG : ∀ o, o ∈ [0, 1, 2, 4, 5, 6, 7, 12] → o ∉ G) : MO a b :=
  ⟨fun o ho => h o (hG o (List.mem_cons_of_mem _ ho)), congrFun (h 0 (hG 0 (by decide))) 3, congrFun (h 0 (hG 0 (by decide))) 18⟩
theorem MO.g {a b : z_M} (h : MS [10, 11] a b) : MO a b := MO.ms h (by decide)
theorem finM {a : Op} {r : Int32} {m μ' : z_M} (e : a = (r, m)) (h : MO m μ') : r = a.1 ∧ MO a.2 μ' := by rw [e]; exact ⟨rfl, h⟩
theorem Rel.off {σ μ μ' : z_M} (h : Rel σ μ) (g : MO μ μ') : Rel σ μ' := by
  obtain ⟨h1, h2, a1, a2, a3, a4, a5⟩ := h
  have e := g.1
  refine ⟨by rw [e 1 (by decide)]; exact h1, by rw [e 1 (by decide)]; exact h2, by rw [g.2.1]; exact a1, by rw [g.2.1, e 2 (by decide)]; exact a2, fun k k1 k6 => by rw [e 4 (by decide)]; exact a3 k k1 k6, fun s hs => ?_, ?_⟩
  · rw [e 5 (by decide), e 6 (by decide), e 7 (by decide)]; exact a4 s hs
  · unfold TrR; rw [g.2.2, e 12 (by decide)]; exact a5
theorem lo1 : (-1000000001 : Int32) = LO 1 := by decide
theorem lo2 : (-1000000002 : Int32) = LO 2 := by decide
theorem lo3 : (-1000000003 : Int32) = LO 3 := by decide
theorem lo4 : (-1000000004 : Int32) = LO 4 := by decide
theorem lo5 : (-1000000005 : Int32) = LO 5 := by decide
theorem lo6 : (-1000000006 : Int32) = LO 6 := by decide
theorem le_m1 {x y : Int32} {n : Nat} (h : y = nI n) (h8 : n ≤ 8) : x ≤ y - 1 ↔ x < y := by
  subst h
  rcases (show n = 0 ∨ n = 1 ∨ n = 2 ∨ n = 3 ∨ n = 4 ∨ n = 5 ∨ n = 6 ∨ n = 7 ∨ n = 8 by omega) with rfl | rfl | rfl | rfl | rfl | rfl | rfl | rfl | rfl
  · show x ≤ (-1 : Int32) ↔ x < (0 : Int32)
    simp only [Int32.lt_iff_toInt_lt, Int32.le_iff_toInt_le, Int32.reduceToInt]; omega
  · show x ≤ (0 : Int32) ↔ x < (1 : Int32)
    simp only [Int32.lt_iff_toInt_lt, Int32.le_iff_toInt_le, Int32.reduceToInt]; omega
  · show x ≤ (1 : Int32) ↔ x < (2 : Int32)
    simp only [Int32.lt_iff_toInt_lt, Int32.le_iff_toInt_le, Int32.reduceToInt]; omega
  · show x ≤ (2 : Int32) ↔ x < (3 : Int32)
    simp only [Int32.lt_iff_toInt_lt, Int32.le_iff_toInt_le, Int32.reduceToInt]; omega
  · show x ≤ (3 : Int32) ↔ x < (4 : Int32)
    simp only [Int32.lt_iff_toInt_lt, Int32.le_iff_toInt_le, Int32.reduceToInt]; omega
  · show x ≤ (4 : Int32) ↔ x < (5 : Int32)
    simp only [Int32.lt_iff_toInt_lt, Int32.le_iff_toInt_le, Int32.reduceToInt]; omega
  · show x ≤ (5 : Int32) ↔ x < (6 : Int32)
    simp only [Int32.lt_iff_toInt_lt, Int32.le_iff_toInt_le, Int32.reduceToInt]; omega
  · show x ≤ (6 : Int32) ↔ x < (7 : Int32)
    simp only [Int32.lt_iff_toInt_lt, Int32.le_iff_toInt_le, Int32.reduceToInt]; omega
  · show x ≤ (7 : Int32) ↔ x < (8 : Int32)
    simp only [Int32.lt_iff_toInt_lt, Int32.le_iff_toInt_le, Int32.reduceToInt]; omega
theorem ix5a (q : Nat) : (19 : Int32) + 5 * nI q = nI (19 + 5 * q) := by
  rw [show (5 : Int32) = nI 5 from rfl, pk_mul, show (19 : Int32) = nI 19 from rfl, nI_add]
theorem ix7 (q : Nat) : (7 : Int32) + 2 * nI q = nI (7 + 2 * q) := by
  rw [show (2 : Int32) = nI 2 from rfl, pk_mul, show (7 : Int32) = nI 7 from rfl, nI_add]
theorem und_at : ∀ d, d < 7 → ∀ e, e < 7 → (underF 7 (nI d) (nI e) = true ↔ nI e = 0 ∨ nI e = nI d ∨ (nI e = 1 ∧ nI d = 4) ∨ (nI e = 2 ∧ nI d = 5)) := by decide +kernel
theorem wed_n {r : Rw} {a b : Nat} (h : r 2 = nI (nP r) ∧ nP r ≤ 8) : wedR r a b 2 = nI (nP (wedR r a b)) ∧ nP (wedR r a b) ≤ 8 := by
  rw [nP_wed]; unfold wedR; rw [pU_lo (by decide), pU_lo (by decide)]; exact h
set_option maxHeartbeats 400000 in
set_option maxRecDepth 10000 in
theorem kX10_allSeen {l : Launch} {E : z_E} (σ : z_M) (hV : VK (σ 1)) {Y : Nat} (hT : VT Y (σ 1)) : z_C l E shM 1 yX10_allSeen cX10_allSeen 3 (some FieldType.int) [.ref (z_ad E 0)] σ (z_Pp (nI (allN (σ 1))) σ) := by
  refine z_intro iX10_allSeen (Nat.le_of_ble_eq_true rfl) (fun K F => ?_)
  have loop4 : ∀ (f : Nat) (q : Nat) (_ : 8 < q + f) (_ : q ≤ nP (σ 1)), z_X l K E shM 1 3 (z_Pp (nI (allN (σ 1))) σ) 4 [(0, .ref (z_ad E 0)), (1, .int (nI (sumS (fun o => pcN (sN (σ 1) o)) q))), (2, .int (nI q))] [] σ := by
    intro f
    induction f with
    | zero =>
      intro q hf hq
      have := hV.2.1
      omega
    | succ f ih =>
      intro q hf hq
      have h8 := hV.2.1
      refine z_iload_n F dX10_allSeen_4 2 rfl 5 rfl ?_
      refine z_aload_n F dX10_allSeen_5 0 rfl 6 rfl ?_
      refine z_getR F zc9 dX10_allSeen_6 rfl 0 (by decide) (by decide) (.inl m_930) rfl (by decide) 9 rfl ?_
      refine z_iconst F dX10_allSeen_9 2 (by decide) 10 rfl ?_
      refine z_iald F dX10_allSeen_10 rfl (show vp_in (nI 2) 385 from vp_in_nI (by decide) (by decide)) 11 rfl ?_
      rw [tn_2]
      rw [hV.1]
      refine z_icmp_ge F dX10_allSeen_11 32 (by decide) 14 rfl (fun h11 => ?_) (fun h11 => ?_)
      · skip
        refine z_iload_n F dX10_allSeen_32 1 rfl 33 rfl ?_
        refine z_rp F dX10_allSeen_33 ?_ rfl
        have hqe : q = nP (σ 1) := by have := le_nI h11 (by omega) (by omega); omega
        rw [hqe]; rfl
      · skip
        have hq2 : q < nP (σ 1) := nle_nI h11 (by omega) (by omega)
        refine z_iload_n F dX10_allSeen_14 1 rfl 15 rfl ?_
        refine z_aload_n F dX10_allSeen_15 0 rfl 16 rfl ?_
        refine z_iload_n F dX10_allSeen_16 2 rfl 17 rfl ?_
        refine z_iconst F dX10_allSeen_17 4 (by decide) 18 rfl ?_
        refine z_callVp F dX10_allSeen_18 m_1020 iX10_of jX10_of rfl zc9 rfl (kX10_of σ (p := q) (w := 4) (by omega) (by decide)) rfl (by decide) (Nat.le_of_ble_eq_true rfl) 21 rfl ?_
        rw [(sN_lt hT hV q).2.2 hq2]
        refine z_callSp F dX10_allSeen_21 m_1044 iX10_bits m_1045 rfl (kX10_bits σ (s := sN (σ 1) q) (sN_lt hT hV q).2.1) rfl (by decide) (Nat.le_of_ble_eq_true rfl) 24 rfl ?_
        refine z_iadd F dX10_allSeen_24 25 rfl ?_
        rw [nI_add]
        refine z_istore_n F dX10_allSeen_25 [(0, _), (1, _), (2, _)] rfl (by decide) 26 rfl ?_
        refine z_iinc F dX10_allSeen_26 2 rfl 1 (by decide) [(0, _), (1, _), (2, _)] rfl (by decide) 29 rfl ?_
        refine z_goto F dX10_allSeen_29 4 (by decide) ?_
        rw [nI_1]
        exact ih (q + 1) (by omega) (by omega)
  refine z_iconst F dX10_allSeen_0 0 (by decide) 1 rfl ?_
  refine z_istore_n F dX10_allSeen_1 [(0, _), (1, _)] rfl (by decide) 2 rfl ?_
  refine z_iconst F dX10_allSeen_2 0 (by decide) 3 rfl ?_
  refine z_istore_n F dX10_allSeen_3 [(0, _), (1, _), (2, _)] rfl (by decide) 4 rfl ?_
  exact loop4 9 0 (by omega) (by omega)
set_option maxHeartbeats 400000 in
set_option maxRecDepth 10000 in
theorem kX10_seersOf {l : Launch} {E : z_E} (σ : z_M) (hV : VK (σ 1)) {Y : Nat} (hT : VT Y (σ 1)) {i : Nat} (hi : i < 8) : z_C l E shM 1 yX10_seersOf cX10_seersOf 4 (some FieldType.int) [.ref (z_ad E 0), .int (nI i)] σ (z_Pp (nI (seersN (σ 1) i)) σ) := by
  refine z_intro iX10_seersOf (Nat.le_of_ble_eq_true rfl) (fun K F => ?_)
  have loop4 : ∀ (f : Nat) (o : Nat) (_ : 8 < o + f) (_ : o ≤ nP (σ 1)), z_X l K E shM 1 4 (z_Pp (nI (seersN (σ 1) i)) σ) 4 [(0, .ref (z_ad E 0)), (1, .int (nI i)), (2, .int (nI (setOf (fun o => (sN (σ 1) o).testBit i) o))), (3, .int (nI o))] [] σ := by
    intro f
    induction f with
    | zero =>
      intro o hf ho
      have := hV.2.1
      omega
    | succ f ih =>
      intro o hf ho
      have h8 := hV.2.1
      refine z_iload_n F dX10_seersOf_4 3 rfl 5 rfl ?_
      refine z_aload_n F dX10_seersOf_5 0 rfl 6 rfl ?_
      refine z_getR F zc9 dX10_seersOf_6 rfl 0 (by decide) (by decide) (.inl m_930) rfl (by decide) 9 rfl ?_
      refine z_iconst F dX10_seersOf_9 2 (by decide) 10 rfl ?_
      refine z_iald F dX10_seersOf_10 rfl (show vp_in (nI 2) 385 from vp_in_nI (by decide) (by decide)) 11 rfl ?_
      rw [tn_2]
      rw [hV.1]
      refine z_icmp_ge F dX10_seersOf_11 44 (by decide) 14 rfl (fun h11 => ?_) (fun h11 => ?_)
      · skip
        refine z_iload_n F dX10_seersOf_44 2 rfl 45 rfl ?_
        refine z_rp F dX10_seersOf_45 ?_ rfl
        have hoe : o = nP (σ 1) := by have := le_nI h11 (by omega) (by omega); omega
        rw [hoe]; rfl
      · skip
        have ho2 : o < nP (σ 1) := nle_nI h11 (by omega) (by omega)
        refine z_iload_n F dX10_seersOf_14 2 rfl 15 rfl ?_
        refine z_aload_n F dX10_seersOf_15 0 rfl 16 rfl ?_
        refine z_iload_n F dX10_seersOf_16 3 rfl 17 rfl ?_
        refine z_iconst F dX10_seersOf_17 4 (by decide) 18 rfl ?_
        refine z_callVp F dX10_seersOf_18 m_1020 iX10_of jX10_of rfl zc9 rfl (kX10_of σ (p := o) (w := 4) (by omega) (by decide)) rfl (by decide) (Nat.le_of_ble_eq_true rfl) 21 rfl ?_
        rw [(sN_lt hT hV o).2.2 ho2]
        refine z_iload_n F dX10_seersOf_21 1 rfl 22 rfl ?_
        refine z_ishr F dX10_seersOf_22 23 rfl ?_
        refine z_iconst F dX10_seersOf_23 1 (by decide) 24 rfl ?_
        refine z_iand F dX10_seersOf_24 25 rfl ?_
        rw [bit_nI _ (sN_lt hT hV o).2.1 i hi]
        refine z_iconst F dX10_seersOf_25 1 (by decide) 26 rfl ?_
        refine z_icmp_ne F dX10_seersOf_26 35 (by decide) 29 rfl (fun h26 => ?_) (fun h26 => ?_)
        · skip
          refine z_iconst F dX10_seersOf_35 0 (by decide) 36 rfl ?_
          refine z_ior F dX10_seersOf_36 37 rfl ?_
          rw [or0_I]
          refine z_istore_n F dX10_seersOf_37 [(0, _), (1, _), (2, _), (3, _)] rfl (by decide) 38 rfl ?_
          refine z_iinc F dX10_seersOf_38 3 rfl 1 (by decide) [(0, _), (1, _), (2, _), (3, _)] rfl (by decide) 41 rfl ?_
          refine z_goto F dX10_seersOf_41 4 (by decide) ?_
          have tb : (sN (σ 1) o).testBit i = false := by
            cases q : (sN (σ 1) o).testBit i
            · rfl
            · rw [q] at h26; exact absurd rfl h26
          rw [nI_1, ← setOf_f (f := fun o => (sN (σ 1) o).testBit i) tb]
          exact ih (o + 1) (by omega) (by omega)
        · skip
          refine z_iconst F dX10_seersOf_29 1 (by decide) 30 rfl ?_
          refine z_iload_n F dX10_seersOf_30 3 rfl 31 rfl ?_
          refine z_ishl F dX10_seersOf_31 32 rfl ?_
          rw [shl_nI o (by omega)]
          refine z_goto F dX10_seersOf_32 36 (by decide) ?_
          refine z_ior F dX10_seersOf_36 37 rfl ?_
          rw [or_nI]
          refine z_istore_n F dX10_seersOf_37 [(0, _), (1, _), (2, _), (3, _)] rfl (by decide) 38 rfl ?_
          refine z_iinc F dX10_seersOf_38 3 rfl 1 (by decide) [(0, _), (1, _), (2, _), (3, _)] rfl (by decide) 41 rfl ?_
          refine z_goto F dX10_seersOf_41 4 (by decide) ?_
          have tb : (sN (σ 1) o).testBit i = true := by
            cases q : (sN (σ 1) o).testBit i
            · rw [q] at h26; exact absurd h26 (by decide)
            · rfl
          rw [nI_1, ← setOf_t (f := fun o => (sN (σ 1) o).testBit i) tb]
          exact ih (o + 1) (by omega) (by omega)
  refine z_iconst F dX10_seersOf_0 0 (by decide) 1 rfl ?_
  refine z_istore_n F dX10_seersOf_1 [(0, _), (1, _), (2, _)] rfl (by decide) 2 rfl ?_
  refine z_iconst F dX10_seersOf_2 0 (by decide) 3 rfl ?_
  refine z_istore_n F dX10_seersOf_3 [(0, _), (1, _), (2, _), (3, _)] rfl (by decide) 4 rfl ?_
  exact loop4 9 0 (by omega) (by omega)
set_option maxHeartbeats 400000 in
set_option maxRecDepth 10000 in
theorem kX10_isKm {l : Launch} {E : z_E} (σ : z_M) {S : z_Sh} (x : Int32) : z_C l E S 1 yX10_isKm cX10_isKm 1 (some FieldType.boolean) [.int x] σ (z_Pp (bI (0 ≤ x ∧ x ≤ 69)) σ) := by
  refine z_intro iX10_isKm (Nat.le_of_ble_eq_true rfl) (fun K F => ?_)
  refine z_iload_n F dX10_isKm_0 0 rfl 1 rfl ?_
  refine z_iconst F dX10_isKm_1 0 (by decide) 2 rfl ?_
  refine z_bipush F dX10_isKm_2 69 (by decide) 4 rfl ?_
  refine z_callSp F dX10_isKm_4 m_998 iX10_in m_999 rfl (kX10_in σ _ _ _) rfl (by decide) (Nat.le_of_ble_eq_true rfl) 7 rfl ?_
  refine z_rpz F dX10_isKm_7 (by first | rfl | exact bIn) ?_ rfl
  rfl
set_option maxHeartbeats 400000 in
set_option maxRecDepth 10000 in
theorem kX10_isSheet {l : Launch} {E : z_E} (σ : z_M) {S : z_Sh} (x : Int32) : z_C l E S 1 yX10_isSheet cX10_isSheet 1 (some FieldType.boolean) [.int x] σ (z_Pp (bI (0 ≤ x ∧ x ≤ 3)) σ) := by
  refine z_intro iX10_isSheet (Nat.le_of_ble_eq_true rfl) (fun K F => ?_)
  refine z_iload_n F dX10_isSheet_0 0 rfl 1 rfl ?_
  refine z_iconst F dX10_isSheet_1 0 (by decide) 2 rfl ?_
  refine z_iconst F dX10_isSheet_2 3 (by decide) 3 rfl ?_
  refine z_callSp F dX10_isSheet_3 m_998 iX10_in m_999 rfl (kX10_in σ _ _ _) rfl (by decide) (Nat.le_of_ble_eq_true rfl) 6 rfl ?_
  refine z_rpz F dX10_isSheet_6 (by first | rfl | exact bIn) ?_ rfl
  rfl
set_option maxHeartbeats 400000 in
set_option maxRecDepth 10000 in
theorem kX10_weds {l : Launch} {E : z_E} (σ : z_M) {a b : Nat} (ha : a < 8) (hb : b < 8) : z_C l E shM 1 yX10_weds cX10_weds 3 none [.ref (z_ad E 0), .int (nI a), .int (nI b)] σ (z_Pu (z_up σ 1 (wedR (σ 1) a b))) := by
  refine z_intro iX10_weds (Nat.le_of_ble_eq_true rfl) (fun K F => ?_)
  refine z_aload_n F dX10_weds_0 0 rfl 1 rfl ?_
  refine z_iload_n F dX10_weds_1 1 rfl 2 rfl ?_
  refine z_iconst F dX10_weds_2 3 (by decide) 3 rfl ?_
  refine z_iload_n F dX10_weds_3 2 rfl 4 rfl ?_
  refine z_callVu F dX10_weds_4 m_1008 iX10_puts jX10_puts rfl zc9 rfl (kX10_puts σ (p := a) (w := 3) ha (by decide) _) rfl (by decide) (Nat.le_of_ble_eq_true rfl) 7 rfl ?_
  refine z_aload_n F dX10_weds_7 0 rfl 8 rfl ?_
  refine z_iload_n F dX10_weds_8 2 rfl 9 rfl ?_
  refine z_iconst F dX10_weds_9 3 (by decide) 10 rfl ?_
  refine z_iload_n F dX10_weds_10 1 rfl 11 rfl ?_
  refine z_callVu F dX10_weds_11 m_1008 iX10_puts jX10_puts rfl zc9 rfl (kX10_puts _ (p := b) (w := 3) hb (by decide) _) rfl (by decide) (Nat.le_of_ble_eq_true rfl) 14 rfl ?_
  refine z_ru F dX10_weds_14 ?_
  rw [up_same, up_up]; rfl
set_option maxHeartbeats 400000 in
set_option maxRecDepth 10000 in
theorem kX10_person {l : Launch} {E : z_E} (σ : z_M) {τ0 : z_M} (hR : Rel τ0 σ) (km : Int32) (par : Int32)  : z_C l E shM 2 yX10_person cX10_person 4 (some FieldType.int) [.ref (z_ad E 0), .int km, .int par] σ (z_Pi (fun rv μ' => rv = (aPerson σ km par).1 ∧ MO (aPerson σ km par).2 μ')) := by
  refine z_intro iX10_person (Nat.le_of_ble_eq_true rfl) (fun K F => ?_)
  have hn : σ 1 2 = nI (nP (σ 1)) := hR.2.1.1.1
  have h8 : nP (σ 1) ≤ 8 := hR.n8
  have hN : σ 1 2 = nI (nP (σ 1)) ∧ nP (σ 1) ≤ 8 := ⟨hn, h8⟩
  refine z_iload_n F dX10_person_0 1 rfl 1 rfl ?_
  refine z_callSp F dX10_person_1 m_995 iX10_isKm m_996 rfl (kX10_isKm σ _) rfl (by decide) (Nat.le_of_ble_eq_true rfl) 4 rfl ?_
  refine z_if_eq F dX10_person_4 23 (by decide) 7 rfl (fun h4 => ?_) (fun h4 => ?_)
  · skip
    have h4 := bI0.mp h4
    refine z_aload_n F dX10_person_23 0 rfl 24 rfl ?_
    refine z_ldc F dX10_person_24 m_1001 26 rfl ?_
    rw [lo1]
    refine z_callVi F dX10_person_26 m_1002 iX10_error jX10_error rfl zc9 rfl (kX10_error σ (k := 1) (by decide) (by decide)) rfl (by decide) (Nat.le_of_ble_eq_true rfl) 29 rfl (fun r26 s26 c26 => ?_)
    refine z_ri F dX10_person_29 ?_
    obtain ⟨rfl, rfl⟩ := c26
    exact finM (by
      unfold aPerson
      (repeat' split) <;> first | rfl | contradiction | (exfalso; simp only [Int32.lt_iff_toInt_lt, Int32.le_iff_toInt_le, ← Int32.toInt_inj, Int32.reduceToInt] at *; omega)) MO.rf
  · skip
    have h4 := bI1.mp h4
    refine z_iload_n F dX10_person_7 2 rfl 8 rfl ?_
    refine z_iconst F dX10_person_8 (-1) (by decide) 9 rfl ?_
    refine z_aload_n F dX10_person_9 0 rfl 10 rfl ?_
    refine z_getR F zc9 dX10_person_10 rfl 0 (by decide) (by decide) (.inl m_930) rfl (by decide) 13 rfl ?_
    refine z_iconst F dX10_person_13 2 (by decide) 14 rfl ?_
    refine z_iald F dX10_person_14 rfl (show vp_in (nI 2) 385 from vp_in_nI (by decide) (by decide)) 15 rfl ?_
    rw [tn_2]
    refine z_iconst F dX10_person_15 1 (by decide) 16 rfl ?_
    refine z_isub F dX10_person_16 17 rfl ?_
    refine z_callSp F dX10_person_17 m_998 iX10_in m_999 rfl (kX10_in σ _ _ _) rfl (by decide) (Nat.le_of_ble_eq_true rfl) 20 rfl ?_
    refine z_if_ne F dX10_person_20 30 (by decide) 23 rfl (fun h20 => ?_) (fun h20 => ?_)
    · skip
      have h20 := bI1.mp h20
      have h20 : -1 ≤ par ∧ par < σ 1 2 := ⟨h20.1, (le_m1 hn h8).mp h20.2⟩
      refine z_aload_n F dX10_person_30 0 rfl 31 rfl ?_
      refine z_getR F zc9 dX10_person_31 rfl 0 (by decide) (by decide) (.inl m_930) rfl (by decide) 34 rfl ?_
      refine z_iconst F dX10_person_34 2 (by decide) 35 rfl ?_
      refine z_iald F dX10_person_35 rfl (show vp_in (nI 2) 385 from vp_in_nI (by decide) (by decide)) 36 rfl ?_
      rw [tn_2]
      refine z_istore_n F dX10_person_36 [(0, _), (1, _), (2, _), (3, _)] rfl (by decide) 37 rfl ?_
      refine z_iload_n F dX10_person_37 3 rfl 38 rfl ?_
      refine z_bipush F dX10_person_38 8 (by decide) 40 rfl ?_
      refine z_icmp_ne F dX10_person_40 50 (by decide) 43 rfl (fun h40 => ?_) (fun h40 => ?_)
      · skip
        have hn8 : nP (σ 1) < 8 := by
          rcases Nat.lt_or_ge (nP (σ 1)) 8 with z | z
          · exact z
          · exact absurd (hn.trans (congrArg nI (show nP (σ 1) = 8 by omega))) h40
        have hl8 : σ 1 2 < 8 := by rw [hn]; exact nI_lt (b := 8) hn8 (by decide)
        rw [hn]
        refine z_aload_n F dX10_person_50 0 rfl 51 rfl ?_
        refine z_getR F zc9 dX10_person_51 rfl 0 (by decide) (by decide) (.inl m_930) rfl (by decide) 54 rfl ?_
        refine z_iconst F dX10_person_54 2 (by decide) 55 rfl ?_
        refine z_dup2 F dX10_person_55 rfl rfl 56 rfl ?_
        refine z_iald F dX10_person_56 rfl (show vp_in (nI 2) 385 from vp_in_nI (by decide) (by decide)) 57 rfl ?_
        rw [tn_2]
        refine z_iconst F dX10_person_57 1 (by decide) 58 rfl ?_
        refine z_iadd F dX10_person_58 59 rfl ?_
        refine z_iast F dX10_person_59 rfl (show vp_in (nI 2) 385 from vp_in_nI (by decide) (by decide)) 60 rfl ?_
        rw [tn_2]
        refine z_aload_n F dX10_person_60 0 rfl 61 rfl ?_
        refine z_iload_n F dX10_person_61 3 rfl 62 rfl ?_
        refine z_iconst F dX10_person_62 0 (by decide) 63 rfl ?_
        refine z_iload_n F dX10_person_63 1 rfl 64 rfl ?_
        refine z_bipush F dX10_person_64 10 (by decide) 66 rfl ?_
        refine z_idiv F dX10_person_66 (by decide) 67 rfl ?_
        refine z_callVu F dX10_person_67 m_1008 iX10_puts jX10_puts rfl zc9 rfl (kX10_puts _ (p := nP (σ 1)) (w := 0) hn8 (by decide) _) rfl (by decide) (Nat.le_of_ble_eq_true rfl) 70 rfl ?_
        refine z_aload_n F dX10_person_70 0 rfl 71 rfl ?_
        refine z_iload_n F dX10_person_71 3 rfl 72 rfl ?_
        refine z_iconst F dX10_person_72 1 (by decide) 73 rfl ?_
        refine z_iload_n F dX10_person_73 1 rfl 74 rfl ?_
        refine z_bipush F dX10_person_74 10 (by decide) 76 rfl ?_
        refine z_irem F dX10_person_76 (by decide) 77 rfl ?_
        refine z_callVu F dX10_person_77 m_1008 iX10_puts jX10_puts rfl zc9 rfl (kX10_puts _ (p := nP (σ 1)) (w := 1) hn8 (by decide) _) rfl (by decide) (Nat.le_of_ble_eq_true rfl) 80 rfl ?_
        refine z_aload_n F dX10_person_80 0 rfl 81 rfl ?_
        refine z_iload_n F dX10_person_81 3 rfl 82 rfl ?_
        refine z_iconst F dX10_person_82 2 (by decide) 83 rfl ?_
        refine z_iload_n F dX10_person_83 2 rfl 84 rfl ?_
        refine z_callVu F dX10_person_84 m_1008 iX10_puts jX10_puts rfl zc9 rfl (kX10_puts _ (p := nP (σ 1)) (w := 2) hn8 (by decide) _) rfl (by decide) (Nat.le_of_ble_eq_true rfl) 87 rfl ?_
        refine z_aload_n F dX10_person_87 0 rfl 88 rfl ?_
        refine z_iload_n F dX10_person_88 3 rfl 89 rfl ?_
        refine z_iconst F dX10_person_89 3 (by decide) 90 rfl ?_
        refine z_iconst F dX10_person_90 (-1) (by decide) 91 rfl ?_
        refine z_callVu F dX10_person_91 m_1008 iX10_puts jX10_puts rfl zc9 rfl (kX10_puts _ (p := nP (σ 1)) (w := 3) hn8 (by decide) _) rfl (by decide) (Nat.le_of_ble_eq_true rfl) 94 rfl ?_
        refine z_aload_n F dX10_person_94 0 rfl 95 rfl ?_
        refine z_iload_n F dX10_person_95 3 rfl 96 rfl ?_
        refine z_iconst F dX10_person_96 4 (by decide) 97 rfl ?_
        refine z_iconst F dX10_person_97 0 (by decide) 98 rfl ?_
        refine z_callVu F dX10_person_98 m_1008 iX10_puts jX10_puts rfl zc9 rfl (kX10_puts _ (p := nP (σ 1)) (w := 4) hn8 (by decide) _) rfl (by decide) (Nat.le_of_ble_eq_true rfl) 101 rfl ?_
        refine z_iload_n F dX10_person_101 3 rfl 102 rfl ?_
        refine z_ri F dX10_person_102 ?_
        refine finM (m := z_up σ 1 (addR (σ 1) (km / 10) (km - km / 10 * 10) par)) ?_ (by simp only [z_u2, up_same, up_up]; exact MO.rf)
        rw [← hn]
        unfold aPerson
        rw [if_pos ⟨h4, h20⟩, if_pos hl8]
      · skip
        have h40 : σ 1 2 = 8 := h40
        refine z_aload_n F dX10_person_43 0 rfl 44 rfl ?_
        refine z_ldc F dX10_person_44 m_1007 46 rfl ?_
        rw [lo4]
        refine z_callVi F dX10_person_46 m_1002 iX10_error jX10_error rfl zc9 rfl (kX10_error σ (k := 4) (by decide) (by decide)) rfl (by decide) (Nat.le_of_ble_eq_true rfl) 49 rfl (fun r46 s46 c46 => ?_)
        refine z_ri F dX10_person_49 ?_
        obtain ⟨rfl, rfl⟩ := c46
        exact finM (by
          unfold aPerson
          (repeat' split) <;> first | rfl | contradiction | (exfalso; simp only [Int32.lt_iff_toInt_lt, Int32.le_iff_toInt_le, ← Int32.toInt_inj, Int32.reduceToInt] at *; omega)) MO.rf
    · skip
      have h20 := bI0.mp h20
      refine z_aload_n F dX10_person_23 0 rfl 24 rfl ?_
      refine z_ldc F dX10_person_24 m_1001 26 rfl ?_
      rw [lo1]
      refine z_callVi F dX10_person_26 m_1002 iX10_error jX10_error rfl zc9 rfl (kX10_error σ (k := 1) (by decide) (by decide)) rfl (by decide) (Nat.le_of_ble_eq_true rfl) 29 rfl (fun r26 s26 c26 => ?_)
      refine z_ri F dX10_person_29 ?_
      rw [le_m1 hn h8] at h20
      obtain ⟨rfl, rfl⟩ := c26
      exact finM (by
        unfold aPerson
        (repeat' split) <;> first | rfl | contradiction | (exfalso; simp only [Int32.lt_iff_toInt_lt, Int32.le_iff_toInt_le, ← Int32.toInt_inj, Int32.reduceToInt] at *; omega)) MO.rf
set_option maxHeartbeats 400000 in
set_option maxRecDepth 10000 in
theorem kX10_personIs {l : Launch} {E : z_E} (σ : z_M) {τ0 : z_M} (hR : Rel τ0 σ) (x : Int32) (w : Int32)  : z_C l E shM 6 yX10_personIs cX10_personIs 3 (some FieldType.int) [.ref (z_ad E 0), .int x, .int w] σ (z_Pi (fun rv μ' => rv = (aPersonIs σ x w).1 ∧ MO (aPersonIs σ x w).2 μ')) := by
  refine z_intro iX10_personIs (Nat.le_of_ble_eq_true rfl) (fun K F => ?_)
  have hn : σ 1 2 = nI (nP (σ 1)) := hR.2.1.1.1
  have h8 : nP (σ 1) ≤ 8 := hR.n8
  have hN : σ 1 2 = nI (nP (σ 1)) ∧ nP (σ 1) ≤ 8 := ⟨hn, h8⟩
  refine z_aload_n F dX10_personIs_0 0 rfl 1 rfl ?_
  refine z_iload_n F dX10_personIs_1 1 rfl 2 rfl ?_
  refine z_callVp F dX10_personIs_2 m_1016 iX10_isPerson jX10_isPerson rfl zc9 rfl (kX10_isPerson σ hN _) rfl (by decide) (Nat.le_of_ble_eq_true rfl) 5 rfl ?_
  refine z_if_eq F dX10_personIs_5 17 (by decide) 8 rfl (fun h5 => ?_) (fun h5 => ?_)
  · skip
    have h5 := bI0.mp h5
    refine z_aload_n F dX10_personIs_17 0 rfl 18 rfl ?_
    refine z_ldc F dX10_personIs_18 m_1001 20 rfl ?_
    rw [lo1]
    refine z_callVi F dX10_personIs_20 m_1002 iX10_error jX10_error rfl zc9 rfl (kX10_error σ (k := 1) (by decide) (by decide)) rfl (by decide) (Nat.le_of_ble_eq_true rfl) 23 rfl (fun r20 s20 c20 => ?_)
    refine z_ri F dX10_personIs_23 ?_
    obtain ⟨rfl, rfl⟩ := c20
    exact finM (by
      unfold aPersonIs
      (repeat' split) <;> first | rfl | contradiction | (exfalso; simp only [Int32.lt_iff_toInt_lt, Int32.le_iff_toInt_le, ← Int32.toInt_inj, Int32.reduceToInt] at *; omega)) MO.rf
  · skip
    have h5 := bI1.mp h5
    refine z_iload_n F dX10_personIs_8 2 rfl 9 rfl ?_
    refine z_iconst F dX10_personIs_9 0 (by decide) 10 rfl ?_
    refine z_iconst F dX10_personIs_10 5 (by decide) 11 rfl ?_
    refine z_callSp F dX10_personIs_11 m_998 iX10_in m_999 rfl (kX10_in σ _ _ _) rfl (by decide) (Nat.le_of_ble_eq_true rfl) 14 rfl ?_
    refine z_if_ne F dX10_personIs_14 24 (by decide) 17 rfl (fun h14 => ?_) (fun h14 => ?_)
    · skip
      have h14 := bI1.mp h14
      obtain ⟨i, hi, rfl⟩ := isP_of (n := nP (σ 1)) (hn ▸ h5) (by omega)
      have i31 : i < 2 ^ 31 := by omega
      obtain ⟨v, hv, rfl⟩ : ∃ v, v < 6 ∧ w = nI v := isP_of (n := 6) ⟨h14.1, by show w < 6; simp only [Int32.lt_iff_toInt_lt, Int32.le_iff_toInt_le, ← Int32.toInt_inj, Int32.reduceToInt] at *; omega⟩ (by decide)
      have v31 : v < 2 ^ 31 := by omega
      refine z_iload_n F dX10_personIs_24 2 rfl 25 rfl ?_
      refine z_iconst F dX10_personIs_25 5 (by decide) 26 rfl ?_
      refine z_icmp_ge F dX10_personIs_26 38 (by decide) 29 rfl (fun h26 => ?_) (fun h26 => ?_)
      · skip
        have hv5 : v = 5 := by have := le_nI (a := 5) h26 (by decide) (by omega); omega
        refine z_aload_n F dX10_personIs_38 0 rfl 39 rfl ?_
        refine z_iload_n F dX10_personIs_39 1 rfl 40 rfl ?_
        refine z_callVi F dX10_personIs_40 m_1024 iX10_sight jX10_sight rfl zc9 rfl (kX10_sight σ hN hR.2.1.2.2.1 hi) rfl (by decide) (Nat.le_of_ble_eq_true rfl) 43 rfl (fun r40 s40 c40 => ?_)
        obtain ⟨rfl, m40⟩ := c40
        refine z_ri F dX10_personIs_43 ?_
        refine finM (m := σ) ?_ (MO.g m40)
        subst hv5
        unfold aPersonIs
        rw [if_pos h5, if_neg (by decide), if_pos (show nI 5 = 5 from rfl), nI_clamp i31]
      · skip
        have hv5 : v < 5 := nle_nI (a := 5) h26 (by decide) (by omega)
        refine z_aload_n F dX10_personIs_29 0 rfl 30 rfl ?_
        refine z_iload_n F dX10_personIs_30 1 rfl 31 rfl ?_
        refine z_iload_n F dX10_personIs_31 2 rfl 32 rfl ?_
        refine z_callVp F dX10_personIs_32 m_1020 iX10_of jX10_of rfl zc9 rfl (kX10_of σ (p := i) (w := v) (by omega) hv5) rfl (by decide) (Nat.le_of_ble_eq_true rfl) 35 rfl ?_
        refine z_goto F dX10_personIs_35 43 (by decide) ?_
        refine z_ri F dX10_personIs_43 ?_
        refine finM (m := σ) ?_ MO.rf
        unfold aPersonIs
        rw [if_pos h5, if_pos ⟨h14.1, nI_le (b := 4) (by omega) (by decide)⟩, nI_clamp i31, nI_clamp v31]
    · skip
      have h14 := bI0.mp h14
      refine z_aload_n F dX10_personIs_17 0 rfl 18 rfl ?_
      refine z_ldc F dX10_personIs_18 m_1001 20 rfl ?_
      rw [lo1]
      refine z_callVi F dX10_personIs_20 m_1002 iX10_error jX10_error rfl zc9 rfl (kX10_error σ (k := 1) (by decide) (by decide)) rfl (by decide) (Nat.le_of_ble_eq_true rfl) 23 rfl (fun r20 s20 c20 => ?_)
      refine z_ri F dX10_personIs_23 ?_
      obtain ⟨rfl, rfl⟩ := c20
      exact finM (by
        unfold aPersonIs
        (repeat' split) <;> first | rfl | contradiction | (exfalso; simp only [Int32.lt_iff_toInt_lt, Int32.le_iff_toInt_le, ← Int32.toInt_inj, Int32.reduceToInt] at *; omega)) MO.rf
set_option maxHeartbeats 400000 in
set_option maxRecDepth 10000 in
theorem kX10_become {l : Launch} {E : z_E} (σ : z_M) {τ0 : z_M} (hR : Rel τ0 σ) (x : Int32) (km : Int32)  : z_C l E shM 2 yX10_become cX10_become 3 (some FieldType.int) [.ref (z_ad E 0), .int x, .int km] σ (z_Pi (fun rv μ' => rv = (aBecome σ x km).1 ∧ MO (aBecome σ x km).2 μ')) := by
  refine z_intro iX10_become (Nat.le_of_ble_eq_true rfl) (fun K F => ?_)
  have hn : σ 1 2 = nI (nP (σ 1)) := hR.2.1.1.1
  have h8 : nP (σ 1) ≤ 8 := hR.n8
  have hN : σ 1 2 = nI (nP (σ 1)) ∧ nP (σ 1) ≤ 8 := ⟨hn, h8⟩
  refine z_aload_n F dX10_become_0 0 rfl 1 rfl ?_
  refine z_iload_n F dX10_become_1 1 rfl 2 rfl ?_
  refine z_callVp F dX10_become_2 m_1016 iX10_isPerson jX10_isPerson rfl zc9 rfl (kX10_isPerson σ hN _) rfl (by decide) (Nat.le_of_ble_eq_true rfl) 5 rfl ?_
  refine z_if_eq F dX10_become_5 15 (by decide) 8 rfl (fun h5 => ?_) (fun h5 => ?_)
  · skip
    have h5 := bI0.mp h5
    refine z_aload_n F dX10_become_15 0 rfl 16 rfl ?_
    refine z_ldc F dX10_become_16 m_1001 18 rfl ?_
    rw [lo1]
    refine z_callVi F dX10_become_18 m_1002 iX10_error jX10_error rfl zc9 rfl (kX10_error σ (k := 1) (by decide) (by decide)) rfl (by decide) (Nat.le_of_ble_eq_true rfl) 21 rfl (fun r18 s18 c18 => ?_)
    refine z_ri F dX10_become_21 ?_
    obtain ⟨rfl, rfl⟩ := c18
    exact finM (by
      unfold aBecome
      (repeat' split) <;> first | rfl | contradiction | (exfalso; simp only [Int32.lt_iff_toInt_lt, Int32.le_iff_toInt_le, ← Int32.toInt_inj, Int32.reduceToInt] at *; omega)) MO.rf
  · skip
    have h5 := bI1.mp h5
    refine z_iload_n F dX10_become_8 2 rfl 9 rfl ?_
    refine z_callSp F dX10_become_9 m_995 iX10_isKm m_996 rfl (kX10_isKm σ _) rfl (by decide) (Nat.le_of_ble_eq_true rfl) 12 rfl ?_
    refine z_if_ne F dX10_become_12 22 (by decide) 15 rfl (fun h12 => ?_) (fun h12 => ?_)
    · skip
      have h12 := bI1.mp h12
      obtain ⟨i, hi, rfl⟩ := isP_of (n := nP (σ 1)) (hn ▸ h5) (by omega)
      have i31 : i < 2 ^ 31 := by omega
      refine z_aload_n F dX10_become_22 0 rfl 23 rfl ?_
      refine z_iload_n F dX10_become_23 1 rfl 24 rfl ?_
      refine z_iconst F dX10_become_24 1 (by decide) 25 rfl ?_
      refine z_iload_n F dX10_become_25 2 rfl 26 rfl ?_
      refine z_bipush F dX10_become_26 10 (by decide) 28 rfl ?_
      refine z_irem F dX10_become_28 (by decide) 29 rfl ?_
      refine z_callVu F dX10_become_29 m_1008 iX10_puts jX10_puts rfl zc9 rfl (kX10_puts σ (p := i) (w := 1) (by omega) (by decide) _) rfl (by decide) (Nat.le_of_ble_eq_true rfl) 32 rfl ?_
      refine z_aload_n F dX10_become_32 0 rfl 33 rfl ?_
      refine z_bipush F dX10_become_33 19 (by decide) 35 rfl ?_
      refine z_iconst F dX10_become_35 5 (by decide) 36 rfl ?_
      refine z_iload_n F dX10_become_36 1 rfl 37 rfl ?_
      refine z_imul F dX10_become_37 38 rfl ?_
      refine z_iadd F dX10_become_38 39 rfl ?_
      rw [ix5a]
      refine z_iload_n F dX10_become_39 2 rfl 40 rfl ?_
      refine z_bipush F dX10_become_40 10 (by decide) 42 rfl ?_
      refine z_idiv F dX10_become_42 (by decide) 43 rfl ?_
      refine z_callVi F dX10_become_43 m_1065 iX10_becomes jX10_becomes rfl zc9 rfl (kX10_becomes _ (k := 19 + 5 * i) (by omega) _) rfl (by decide) (Nat.le_of_ble_eq_true rfl) 46 rfl (fun r43 s43 c43 => ?_)
      refine z_ri F dX10_become_46 ?_
      obtain ⟨rfl, rfl⟩ := c43
      refine finM (m := z_up σ 1 (pU (pU (σ 1) i 1 (km - km / 10 * 10)) i 0 (km / 10))) ?_ (by simp only [up_same, up_up]; exact MO.rf)
      unfold aBecome
      rw [if_pos ⟨h5, h12⟩, nI_clamp i31]
      refine Prod.ext ?_ rfl
      show pO (σ 1) i 0 = pO (z_up σ 1 (pU (σ 1) i 1 (km - km / 10 * 10)) 1) i 0
      rw [up_same, pO_pU (by decide) (by decide), if_neg (by omega)]
    · skip
      have h12 := bI0.mp h12
      refine z_aload_n F dX10_become_15 0 rfl 16 rfl ?_
      refine z_ldc F dX10_become_16 m_1001 18 rfl ?_
      rw [lo1]
      refine z_callVi F dX10_become_18 m_1002 iX10_error jX10_error rfl zc9 rfl (kX10_error σ (k := 1) (by decide) (by decide)) rfl (by decide) (Nat.le_of_ble_eq_true rfl) 21 rfl (fun r18 s18 c18 => ?_)
      refine z_ri F dX10_become_21 ?_
      obtain ⟨rfl, rfl⟩ := c18
      exact finM (by
        unfold aBecome
        (repeat' split) <;> first | rfl | contradiction | (exfalso; simp only [Int32.lt_iff_toInt_lt, Int32.le_iff_toInt_le, ← Int32.toInt_inj, Int32.reduceToInt] at *; omega)) MO.rf
set_option maxHeartbeats 400000 in
set_option maxRecDepth 10000 in
theorem kX10_as {l : Launch} {E : z_E} (σ : z_M) {τ0 : z_M} (hR : Rel τ0 σ) (x : Int32) (k : Int32)  : z_C l E shM 2 yX10_as cX10_as 5 (some FieldType.int) [.ref (z_ad E 0), .int x, .int k] σ (z_Pi (fun rv μ' => rv = (aAs σ x k).1 ∧ MO (aAs σ x k).2 μ')) := by
  refine z_intro iX10_as (Nat.le_of_ble_eq_true rfl) (fun K F => ?_)
  have hn : σ 1 2 = nI (nP (σ 1)) := hR.2.1.1.1
  have h8 : nP (σ 1) ≤ 8 := hR.n8
  have hN : σ 1 2 = nI (nP (σ 1)) ∧ nP (σ 1) ≤ 8 := ⟨hn, h8⟩
  refine z_aload_n F dX10_as_0 0 rfl 1 rfl ?_
  refine z_iload_n F dX10_as_1 1 rfl 2 rfl ?_
  refine z_callVp F dX10_as_2 m_1016 iX10_isPerson jX10_isPerson rfl zc9 rfl (kX10_isPerson σ hN _) rfl (by decide) (Nat.le_of_ble_eq_true rfl) 5 rfl ?_
  refine z_if_eq F dX10_as_5 18 (by decide) 8 rfl (fun h5 => ?_) (fun h5 => ?_)
  · skip
    have h5 := bI0.mp h5
    refine z_aload_n F dX10_as_18 0 rfl 19 rfl ?_
    refine z_ldc F dX10_as_19 m_1001 21 rfl ?_
    rw [lo1]
    refine z_callVi F dX10_as_21 m_1002 iX10_error jX10_error rfl zc9 rfl (kX10_error σ (k := 1) (by decide) (by decide)) rfl (by decide) (Nat.le_of_ble_eq_true rfl) 24 rfl (fun r21 s21 c21 => ?_)
    refine z_ri F dX10_as_24 ?_
    obtain ⟨rfl, rfl⟩ := c21
    exact finM (by
      unfold aAs
      (repeat' split) <;> first | rfl | contradiction | (exfalso; simp only [Int32.lt_iff_toInt_lt, Int32.le_iff_toInt_le, ← Int32.toInt_inj, Int32.reduceToInt] at *; omega)) MO.rf
  · skip
    have h5 := bI1.mp h5
    refine z_iload_n F dX10_as_8 2 rfl 9 rfl ?_
    refine z_iconst F dX10_as_9 0 (by decide) 10 rfl ?_
    refine z_bipush F dX10_as_10 6 (by decide) 12 rfl ?_
    refine z_callSp F dX10_as_12 m_998 iX10_in m_999 rfl (kX10_in σ _ _ _) rfl (by decide) (Nat.le_of_ble_eq_true rfl) 15 rfl ?_
    refine z_if_ne F dX10_as_15 25 (by decide) 18 rfl (fun h15 => ?_) (fun h15 => ?_)
    · skip
      have h15 := bI1.mp h15
      obtain ⟨i, hi, rfl⟩ := isP_of (n := nP (σ 1)) (hn ▸ h5) (by omega)
      have i31 : i < 2 ^ 31 := by omega
      obtain ⟨e, he, rfl⟩ : ∃ e, e < 7 ∧ k = nI e := isP_of (n := 7) ⟨h15.1, by show k < 7; simp only [Int32.lt_iff_toInt_lt, Int32.le_iff_toInt_le, ← Int32.toInt_inj, Int32.reduceToInt] at *; omega⟩ (by decide)
      obtain ⟨d, hd, ed⟩ := (hR.vk.2.2 i hi).1
      have hk7 : 0 ≤ nI e ∧ nI e < 7 := ⟨h15.1, nI_lt (b := 7) he (by decide)⟩
      refine z_aload_n F dX10_as_25 0 rfl 26 rfl ?_
      refine z_iload_n F dX10_as_26 1 rfl 27 rfl ?_
      refine z_iconst F dX10_as_27 0 (by decide) 28 rfl ?_
      refine z_callVp F dX10_as_28 m_1020 iX10_of jX10_of rfl zc9 rfl (kX10_of σ (p := i) (w := 0) (by omega) (by decide)) rfl (by decide) (Nat.le_of_ble_eq_true rfl) 31 rfl ?_
      rw [ed]
      refine z_istore_n F dX10_as_31 [(0, _), (1, _), (2, _), (3, _)] rfl (by decide) 32 rfl ?_
      refine z_iload_n F dX10_as_32 2 rfl 33 rfl ?_
      refine z_if_eq F dX10_as_33 61 (by decide) 36 rfl (fun h33 => ?_) (fun h33 => ?_)
      · skip
        refine z_iconst F dX10_as_61 1 (by decide) 62 rfl ?_
        refine z_goto F dX10_as_62 66 (by decide) ?_
        refine z_istore F dX10_as_66 [(0, _), (1, _), (2, _), (3, _), (4, _)] rfl (by decide) 68 rfl ?_
        refine z_iload F dX10_as_68 4 rfl 70 rfl ?_
        refine z_if_eq F dX10_as_70 82 (by decide) 73 rfl (fun h70 => ?_) (fun h70 => ?_)
        · skip
          exact absurd h70 (by decide)
        · skip
          have hu : underF 7 (nI d) (nI e) = true := (und_at d (by omega) e he).mpr (by first | exact Or.inl h33 | exact Or.inr (Or.inl h38) | exact Or.inr (Or.inr (Or.inl ⟨h43, h48⟩)) | exact Or.inr (Or.inr (Or.inr ⟨h53, h58⟩)))
          refine z_aload_n F dX10_as_73 0 rfl 74 rfl ?_
          refine z_iload_n F dX10_as_74 1 rfl 75 rfl ?_
          refine z_iconst F dX10_as_75 1 (by decide) 76 rfl ?_
          refine z_callVp F dX10_as_76 m_1020 iX10_of jX10_of rfl zc9 rfl (kX10_of σ (p := i) (w := 1) (by omega) (by decide)) rfl (by decide) (Nat.le_of_ble_eq_true rfl) 79 rfl ?_
          refine z_goto F dX10_as_79 88 (by decide) ?_
          refine z_ri F dX10_as_88 ?_
          refine finM (m := σ) ?_ MO.rf
          unfold aAs
          rw [if_pos ⟨h5, hk7⟩, nI_clamp i31, ed, if_pos hu]
      · skip
        refine z_iload_n F dX10_as_36 2 rfl 37 rfl ?_
        refine z_iload_n F dX10_as_37 3 rfl 38 rfl ?_
        refine z_icmp_eq F dX10_as_38 61 (by decide) 41 rfl (fun h38 => ?_) (fun h38 => ?_)
        · skip
          refine z_iconst F dX10_as_61 1 (by decide) 62 rfl ?_
          refine z_goto F dX10_as_62 66 (by decide) ?_
          refine z_istore F dX10_as_66 [(0, _), (1, _), (2, _), (3, _), (4, _)] rfl (by decide) 68 rfl ?_
          refine z_iload F dX10_as_68 4 rfl 70 rfl ?_
          refine z_if_eq F dX10_as_70 82 (by decide) 73 rfl (fun h70 => ?_) (fun h70 => ?_)
          · skip
            exact absurd h70 (by decide)
          · skip
            have hu : underF 7 (nI d) (nI e) = true := (und_at d (by omega) e he).mpr (by first | exact Or.inl h33 | exact Or.inr (Or.inl h38) | exact Or.inr (Or.inr (Or.inl ⟨h43, h48⟩)) | exact Or.inr (Or.inr (Or.inr ⟨h53, h58⟩)))
            refine z_aload_n F dX10_as_73 0 rfl 74 rfl ?_
            refine z_iload_n F dX10_as_74 1 rfl 75 rfl ?_
            refine z_iconst F dX10_as_75 1 (by decide) 76 rfl ?_
            refine z_callVp F dX10_as_76 m_1020 iX10_of jX10_of rfl zc9 rfl (kX10_of σ (p := i) (w := 1) (by omega) (by decide)) rfl (by decide) (Nat.le_of_ble_eq_true rfl) 79 rfl ?_
            refine z_goto F dX10_as_79 88 (by decide) ?_
            refine z_ri F dX10_as_88 ?_
            refine finM (m := σ) ?_ MO.rf
            unfold aAs
            rw [if_pos ⟨h5, hk7⟩, nI_clamp i31, ed, if_pos hu]
        · skip
          refine z_iload_n F dX10_as_41 2 rfl 42 rfl ?_
          refine z_iconst F dX10_as_42 1 (by decide) 43 rfl ?_
          refine z_icmp_ne F dX10_as_43 51 (by decide) 46 rfl (fun h43 => ?_) (fun h43 => ?_)
          · skip
            refine z_iload_n F dX10_as_51 2 rfl 52 rfl ?_
            refine z_iconst F dX10_as_52 2 (by decide) 53 rfl ?_
            refine z_icmp_ne F dX10_as_53 65 (by decide) 56 rfl (fun h53 => ?_) (fun h53 => ?_)
            · skip
              refine z_iconst F dX10_as_65 0 (by decide) 66 rfl ?_
              refine z_istore F dX10_as_66 [(0, _), (1, _), (2, _), (3, _), (4, _)] rfl (by decide) 68 rfl ?_
              refine z_iload F dX10_as_68 4 rfl 70 rfl ?_
              refine z_if_eq F dX10_as_70 82 (by decide) 73 rfl (fun h70 => ?_) (fun h70 => ?_)
              · skip
                have hu : ¬ underF 7 (nI d) (nI e) = true := fun z => by
                  rcases (und_at d (by omega) e he).mp z with z | z | ⟨z1, z2⟩ | ⟨z1, z2⟩ <;> first | exact h33 z | exact h38 z | exact h43 z1 | exact h48 z2 | exact h53 z1 | exact h58 z2 | (rw [z1] at h43; exact absurd h43 (by decide)) | (rw [z1] at h53; exact absurd h53 (by decide))
                refine z_aload_n F dX10_as_82 0 rfl 83 rfl ?_
                refine z_ldc F dX10_as_83 m_1073 85 rfl ?_
                rw [lo5]
                refine z_callVi F dX10_as_85 m_1002 iX10_error jX10_error rfl zc9 rfl (kX10_error σ (k := 5) (by decide) (by decide)) rfl (by decide) (Nat.le_of_ble_eq_true rfl) 88 rfl (fun r85 s85 c85 => ?_)
                refine z_ri F dX10_as_88 ?_
                obtain ⟨rfl, rfl⟩ := c85
                exact finM (by
                  unfold aAs
                  rw [if_pos ⟨h5, hk7⟩, nI_clamp i31, ed, if_neg hu]) MO.rf
              · skip
                exact absurd rfl h70
            · skip
              refine z_iload_n F dX10_as_56 3 rfl 57 rfl ?_
              refine z_iconst F dX10_as_57 5 (by decide) 58 rfl ?_
              refine z_icmp_ne F dX10_as_58 65 (by decide) 61 rfl (fun h58 => ?_) (fun h58 => ?_)
              · skip
                refine z_iconst F dX10_as_65 0 (by decide) 66 rfl ?_
                refine z_istore F dX10_as_66 [(0, _), (1, _), (2, _), (3, _), (4, _)] rfl (by decide) 68 rfl ?_
                refine z_iload F dX10_as_68 4 rfl 70 rfl ?_
                refine z_if_eq F dX10_as_70 82 (by decide) 73 rfl (fun h70 => ?_) (fun h70 => ?_)
                · skip
                  have hu : ¬ underF 7 (nI d) (nI e) = true := fun z => by
                    rcases (und_at d (by omega) e he).mp z with z | z | ⟨z1, z2⟩ | ⟨z1, z2⟩ <;> first | exact h33 z | exact h38 z | exact h43 z1 | exact h48 z2 | exact h53 z1 | exact h58 z2 | (rw [z1] at h43; exact absurd h43 (by decide)) | (rw [z1] at h53; exact absurd h53 (by decide))
                  refine z_aload_n F dX10_as_82 0 rfl 83 rfl ?_
                  refine z_ldc F dX10_as_83 m_1073 85 rfl ?_
                  rw [lo5]
                  refine z_callVi F dX10_as_85 m_1002 iX10_error jX10_error rfl zc9 rfl (kX10_error σ (k := 5) (by decide) (by decide)) rfl (by decide) (Nat.le_of_ble_eq_true rfl) 88 rfl (fun r85 s85 c85 => ?_)
                  refine z_ri F dX10_as_88 ?_
                  obtain ⟨rfl, rfl⟩ := c85
                  exact finM (by
                    unfold aAs
                    rw [if_pos ⟨h5, hk7⟩, nI_clamp i31, ed, if_neg hu]) MO.rf
                · skip
                  exact absurd rfl h70
              · skip
                refine z_iconst F dX10_as_61 1 (by decide) 62 rfl ?_
                refine z_goto F dX10_as_62 66 (by decide) ?_
                refine z_istore F dX10_as_66 [(0, _), (1, _), (2, _), (3, _), (4, _)] rfl (by decide) 68 rfl ?_
                refine z_iload F dX10_as_68 4 rfl 70 rfl ?_
                refine z_if_eq F dX10_as_70 82 (by decide) 73 rfl (fun h70 => ?_) (fun h70 => ?_)
                · skip
                  exact absurd h70 (by decide)
                · skip
                  have hu : underF 7 (nI d) (nI e) = true := (und_at d (by omega) e he).mpr (by first | exact Or.inl h33 | exact Or.inr (Or.inl h38) | exact Or.inr (Or.inr (Or.inl ⟨h43, h48⟩)) | exact Or.inr (Or.inr (Or.inr ⟨h53, h58⟩)))
                  refine z_aload_n F dX10_as_73 0 rfl 74 rfl ?_
                  refine z_iload_n F dX10_as_74 1 rfl 75 rfl ?_
                  refine z_iconst F dX10_as_75 1 (by decide) 76 rfl ?_
                  refine z_callVp F dX10_as_76 m_1020 iX10_of jX10_of rfl zc9 rfl (kX10_of σ (p := i) (w := 1) (by omega) (by decide)) rfl (by decide) (Nat.le_of_ble_eq_true rfl) 79 rfl ?_
                  refine z_goto F dX10_as_79 88 (by decide) ?_
                  refine z_ri F dX10_as_88 ?_
                  refine finM (m := σ) ?_ MO.rf
                  unfold aAs
                  rw [if_pos ⟨h5, hk7⟩, nI_clamp i31, ed, if_pos hu]
          · skip
            refine z_iload_n F dX10_as_46 3 rfl 47 rfl ?_
            refine z_iconst F dX10_as_47 4 (by decide) 48 rfl ?_
            refine z_icmp_eq F dX10_as_48 61 (by decide) 51 rfl (fun h48 => ?_) (fun h48 => ?_)
            · skip
              refine z_iconst F dX10_as_61 1 (by decide) 62 rfl ?_
              refine z_goto F dX10_as_62 66 (by decide) ?_
              refine z_istore F dX10_as_66 [(0, _), (1, _), (2, _), (3, _), (4, _)] rfl (by decide) 68 rfl ?_
              refine z_iload F dX10_as_68 4 rfl 70 rfl ?_
              refine z_if_eq F dX10_as_70 82 (by decide) 73 rfl (fun h70 => ?_) (fun h70 => ?_)
              · skip
                exact absurd h70 (by decide)
              · skip
                have hu : underF 7 (nI d) (nI e) = true := (und_at d (by omega) e he).mpr (by first | exact Or.inl h33 | exact Or.inr (Or.inl h38) | exact Or.inr (Or.inr (Or.inl ⟨h43, h48⟩)) | exact Or.inr (Or.inr (Or.inr ⟨h53, h58⟩)))
                refine z_aload_n F dX10_as_73 0 rfl 74 rfl ?_
                refine z_iload_n F dX10_as_74 1 rfl 75 rfl ?_
                refine z_iconst F dX10_as_75 1 (by decide) 76 rfl ?_
                refine z_callVp F dX10_as_76 m_1020 iX10_of jX10_of rfl zc9 rfl (kX10_of σ (p := i) (w := 1) (by omega) (by decide)) rfl (by decide) (Nat.le_of_ble_eq_true rfl) 79 rfl ?_
                refine z_goto F dX10_as_79 88 (by decide) ?_
                refine z_ri F dX10_as_88 ?_
                refine finM (m := σ) ?_ MO.rf
                unfold aAs
                rw [if_pos ⟨h5, hk7⟩, nI_clamp i31, ed, if_pos hu]
            · skip
              refine z_iload_n F dX10_as_51 2 rfl 52 rfl ?_
              refine z_iconst F dX10_as_52 2 (by decide) 53 rfl ?_
              refine z_icmp_ne F dX10_as_53 65 (by decide) 56 rfl (fun h53 => ?_) (fun h53 => ?_)
              · skip
                refine z_iconst F dX10_as_65 0 (by decide) 66 rfl ?_
                refine z_istore F dX10_as_66 [(0, _), (1, _), (2, _), (3, _), (4, _)] rfl (by decide) 68 rfl ?_
                refine z_iload F dX10_as_68 4 rfl 70 rfl ?_
                refine z_if_eq F dX10_as_70 82 (by decide) 73 rfl (fun h70 => ?_) (fun h70 => ?_)
                · skip
                  have hu : ¬ underF 7 (nI d) (nI e) = true := fun z => by
                    rcases (und_at d (by omega) e he).mp z with z | z | ⟨z1, z2⟩ | ⟨z1, z2⟩ <;> first | exact h33 z | exact h38 z | exact h43 z1 | exact h48 z2 | exact h53 z1 | exact h58 z2 | (rw [z1] at h43; exact absurd h43 (by decide)) | (rw [z1] at h53; exact absurd h53 (by decide))
                  refine z_aload_n F dX10_as_82 0 rfl 83 rfl ?_
                  refine z_ldc F dX10_as_83 m_1073 85 rfl ?_
                  rw [lo5]
                  refine z_callVi F dX10_as_85 m_1002 iX10_error jX10_error rfl zc9 rfl (kX10_error σ (k := 5) (by decide) (by decide)) rfl (by decide) (Nat.le_of_ble_eq_true rfl) 88 rfl (fun r85 s85 c85 => ?_)
                  refine z_ri F dX10_as_88 ?_
                  obtain ⟨rfl, rfl⟩ := c85
                  exact finM (by
                    unfold aAs
                    rw [if_pos ⟨h5, hk7⟩, nI_clamp i31, ed, if_neg hu]) MO.rf
                · skip
                  exact absurd rfl h70
              · skip
                refine z_iload_n F dX10_as_56 3 rfl 57 rfl ?_
                refine z_iconst F dX10_as_57 5 (by decide) 58 rfl ?_
                refine z_icmp_ne F dX10_as_58 65 (by decide) 61 rfl (fun h58 => ?_) (fun h58 => ?_)
                · skip
                  refine z_iconst F dX10_as_65 0 (by decide) 66 rfl ?_
                  refine z_istore F dX10_as_66 [(0, _), (1, _), (2, _), (3, _), (4, _)] rfl (by decide) 68 rfl ?_
                  refine z_iload F dX10_as_68 4 rfl 70 rfl ?_
                  refine z_if_eq F dX10_as_70 82 (by decide) 73 rfl (fun h70 => ?_) (fun h70 => ?_)
                  · skip
                    have hu : ¬ underF 7 (nI d) (nI e) = true := fun z => by
                      rcases (und_at d (by omega) e he).mp z with z | z | ⟨z1, z2⟩ | ⟨z1, z2⟩ <;> first | exact h33 z | exact h38 z | exact h43 z1 | exact h48 z2 | exact h53 z1 | exact h58 z2 | (rw [z1] at h43; exact absurd h43 (by decide)) | (rw [z1] at h53; exact absurd h53 (by decide))
                    refine z_aload_n F dX10_as_82 0 rfl 83 rfl ?_
                    refine z_ldc F dX10_as_83 m_1073 85 rfl ?_
                    rw [lo5]
                    refine z_callVi F dX10_as_85 m_1002 iX10_error jX10_error rfl zc9 rfl (kX10_error σ (k := 5) (by decide) (by decide)) rfl (by decide) (Nat.le_of_ble_eq_true rfl) 88 rfl (fun r85 s85 c85 => ?_)
                    refine z_ri F dX10_as_88 ?_
                    obtain ⟨rfl, rfl⟩ := c85
                    exact finM (by
                      unfold aAs
                      rw [if_pos ⟨h5, hk7⟩, nI_clamp i31, ed, if_neg hu]) MO.rf
                  · skip
                    exact absurd rfl h70
                · skip
                  refine z_iconst F dX10_as_61 1 (by decide) 62 rfl ?_
                  refine z_goto F dX10_as_62 66 (by decide) ?_
                  refine z_istore F dX10_as_66 [(0, _), (1, _), (2, _), (3, _), (4, _)] rfl (by decide) 68 rfl ?_
                  refine z_iload F dX10_as_68 4 rfl 70 rfl ?_
                  refine z_if_eq F dX10_as_70 82 (by decide) 73 rfl (fun h70 => ?_) (fun h70 => ?_)
                  · skip
                    exact absurd h70 (by decide)
                  · skip
                    have hu : underF 7 (nI d) (nI e) = true := (und_at d (by omega) e he).mpr (by first | exact Or.inl h33 | exact Or.inr (Or.inl h38) | exact Or.inr (Or.inr (Or.inl ⟨h43, h48⟩)) | exact Or.inr (Or.inr (Or.inr ⟨h53, h58⟩)))
                    refine z_aload_n F dX10_as_73 0 rfl 74 rfl ?_
                    refine z_iload_n F dX10_as_74 1 rfl 75 rfl ?_
                    refine z_iconst F dX10_as_75 1 (by decide) 76 rfl ?_
                    refine z_callVp F dX10_as_76 m_1020 iX10_of jX10_of rfl zc9 rfl (kX10_of σ (p := i) (w := 1) (by omega) (by decide)) rfl (by decide) (Nat.le_of_ble_eq_true rfl) 79 rfl ?_
                    refine z_goto F dX10_as_79 88 (by decide) ?_
                    refine z_ri F dX10_as_88 ?_
                    refine finM (m := σ) ?_ MO.rf
                    unfold aAs
                    rw [if_pos ⟨h5, hk7⟩, nI_clamp i31, ed, if_pos hu]
    · skip
      have h15 := bI0.mp h15
      refine z_aload_n F dX10_as_18 0 rfl 19 rfl ?_
      refine z_ldc F dX10_as_19 m_1001 21 rfl ?_
      rw [lo1]
      refine z_callVi F dX10_as_21 m_1002 iX10_error jX10_error rfl zc9 rfl (kX10_error σ (k := 1) (by decide) (by decide)) rfl (by decide) (Nat.le_of_ble_eq_true rfl) 24 rfl (fun r21 s21 c21 => ?_)
      refine z_ri F dX10_as_24 ?_
      obtain ⟨rfl, rfl⟩ := c21
      exact finM (by
        unfold aAs
        (repeat' split) <;> first | rfl | contradiction | (exfalso; simp only [Int32.lt_iff_toInt_lt, Int32.le_iff_toInt_le, ← Int32.toInt_inj, Int32.reduceToInt] at *; omega)) MO.rf
set_option maxHeartbeats 400000 in
set_option maxRecDepth 10000 in
theorem kX10_descends {l : Launch} {E : z_E} (σ : z_M) {τ0 : z_M} (hR : Rel τ0 σ) (x : Int32) (par : Int32)  : z_C l E shM 2 yX10_descends cX10_descends 3 (some FieldType.int) [.ref (z_ad E 0), .int x, .int par] σ (z_Pi (fun rv μ' => rv = (aDescends σ x par).1 ∧ MO (aDescends σ x par).2 μ')) := by
  refine z_intro iX10_descends (Nat.le_of_ble_eq_true rfl) (fun K F => ?_)
  have hn : σ 1 2 = nI (nP (σ 1)) := hR.2.1.1.1
  have h8 : nP (σ 1) ≤ 8 := hR.n8
  have hN : σ 1 2 = nI (nP (σ 1)) ∧ nP (σ 1) ≤ 8 := ⟨hn, h8⟩
  refine z_aload_n F dX10_descends_0 0 rfl 1 rfl ?_
  refine z_iload_n F dX10_descends_1 1 rfl 2 rfl ?_
  refine z_callVp F dX10_descends_2 m_1016 iX10_isPerson jX10_isPerson rfl zc9 rfl (kX10_isPerson σ hN _) rfl (by decide) (Nat.le_of_ble_eq_true rfl) 5 rfl ?_
  refine z_if_eq F dX10_descends_5 35 (by decide) 8 rfl (fun h5 => ?_) (fun h5 => ?_)
  · skip
    have h5 := bI0.mp h5
    refine z_aload_n F dX10_descends_35 0 rfl 36 rfl ?_
    refine z_ldc F dX10_descends_36 m_1001 38 rfl ?_
    rw [lo1]
    refine z_callVi F dX10_descends_38 m_1002 iX10_error jX10_error rfl zc9 rfl (kX10_error σ (k := 1) (by decide) (by decide)) rfl (by decide) (Nat.le_of_ble_eq_true rfl) 41 rfl (fun r38 s38 c38 => ?_)
    refine z_ri F dX10_descends_41 ?_
    obtain ⟨rfl, rfl⟩ := c38
    exact finM (by
      unfold aDescends
      (repeat' split) <;> first | rfl | contradiction | (exfalso; simp only [Int32.lt_iff_toInt_lt, Int32.le_iff_toInt_le, ← Int32.toInt_inj, Int32.reduceToInt] at *; omega)) MO.rf
  · skip
    have h5 := bI1.mp h5
    obtain ⟨i, hi, rfl⟩ := isP_of (n := nP (σ 1)) (hn ▸ h5) (by omega)
    have i31 : i < 2 ^ 31 := by omega
    refine z_iload_n F dX10_descends_8 2 rfl 9 rfl ?_
    refine z_iconst F dX10_descends_9 (-1) (by decide) 10 rfl ?_
    refine z_iload_n F dX10_descends_10 1 rfl 11 rfl ?_
    refine z_iconst F dX10_descends_11 1 (by decide) 12 rfl ?_
    refine z_isub F dX10_descends_12 13 rfl ?_
    refine z_callSp F dX10_descends_13 m_998 iX10_in m_999 rfl (kX10_in σ _ _ _) rfl (by decide) (Nat.le_of_ble_eq_true rfl) 16 rfl ?_
    refine z_if_eq F dX10_descends_16 35 (by decide) 19 rfl (fun h16 => ?_) (fun h16 => ?_)
    · skip
      have h16 := bI0.mp h16
      refine z_aload_n F dX10_descends_35 0 rfl 36 rfl ?_
      refine z_ldc F dX10_descends_36 m_1001 38 rfl ?_
      rw [lo1]
      refine z_callVi F dX10_descends_38 m_1002 iX10_error jX10_error rfl zc9 rfl (kX10_error σ (k := 1) (by decide) (by decide)) rfl (by decide) (Nat.le_of_ble_eq_true rfl) 41 rfl (fun r38 s38 c38 => ?_)
      refine z_ri F dX10_descends_41 ?_
      rw [le_m1 (n := i) rfl (by omega)] at h16
      obtain ⟨rfl, rfl⟩ := c38
      exact finM (by
        unfold aDescends
        (repeat' split) <;> first | rfl | contradiction | (exfalso; simp only [Int32.lt_iff_toInt_lt, Int32.le_iff_toInt_le, ← Int32.toInt_inj, Int32.reduceToInt] at *; omega)) MO.rf
    · skip
      have h16 := bI1.mp h16
      refine z_aload_n F dX10_descends_19 0 rfl 20 rfl ?_
      refine z_bipush F dX10_descends_20 19 (by decide) 22 rfl ?_
      refine z_iconst F dX10_descends_22 5 (by decide) 23 rfl ?_
      refine z_iload_n F dX10_descends_23 1 rfl 24 rfl ?_
      refine z_imul F dX10_descends_24 25 rfl ?_
      refine z_iadd F dX10_descends_25 26 rfl ?_
      refine z_iconst F dX10_descends_26 2 (by decide) 27 rfl ?_
      refine z_iadd F dX10_descends_27 28 rfl ?_
      rw [show (19 : Int32) + 5 * nI i + 2 = nI (19 + 5 * i + 2) from ix5 i 2]
      refine z_iload_n F dX10_descends_28 2 rfl 29 rfl ?_
      refine z_callVi F dX10_descends_29 m_1065 iX10_becomes jX10_becomes rfl zc9 rfl (kX10_becomes σ (k := 19 + 5 * i + 2) (by omega) _) rfl (by decide) (Nat.le_of_ble_eq_true rfl) 32 rfl (fun r29 s29 c29 => ?_)
      refine z_goto F dX10_descends_32 41 (by decide) ?_
      refine z_ri F dX10_descends_41 ?_
      obtain ⟨rfl, rfl⟩ := c29
      refine finM ?_ MO.rf
      unfold aDescends
      rw [if_pos ⟨h5, h16.1, (le_m1 (n := i) rfl (by omega)).mp h16.2⟩, nI_clamp i31]; rfl
set_option maxHeartbeats 400000 in
set_option maxRecDepth 10000 in
theorem kX10_marries {l : Launch} {E : z_E} (σ : z_M) {τ0 : z_M} (hR : Rel τ0 σ) (x : Int32) (y : Int32)  : z_C l E shM 4 yX10_marries cX10_marries 3 (some FieldType.int) [.ref (z_ad E 0), .int x, .int y] σ (z_Pi (fun rv μ' => rv = (aMarries σ x y).1 ∧ MO (aMarries σ x y).2 μ')) := by
  refine z_intro iX10_marries (Nat.le_of_ble_eq_true rfl) (fun K F => ?_)
  have hn : σ 1 2 = nI (nP (σ 1)) := hR.2.1.1.1
  have h8 : nP (σ 1) ≤ 8 := hR.n8
  have hN : σ 1 2 = nI (nP (σ 1)) ∧ nP (σ 1) ≤ 8 := ⟨hn, h8⟩
  refine z_aload_n F dX10_marries_0 0 rfl 1 rfl ?_
  refine z_iload_n F dX10_marries_1 1 rfl 2 rfl ?_
  refine z_callVp F dX10_marries_2 m_1016 iX10_isPerson jX10_isPerson rfl zc9 rfl (kX10_isPerson σ hN _) rfl (by decide) (Nat.le_of_ble_eq_true rfl) 5 rfl ?_
  refine z_if_eq F dX10_marries_5 21 (by decide) 8 rfl (fun h5 => ?_) (fun h5 => ?_)
  · skip
    have h5 := bI0.mp h5
    refine z_aload_n F dX10_marries_21 0 rfl 22 rfl ?_
    refine z_ldc F dX10_marries_22 m_1001 24 rfl ?_
    rw [lo1]
    refine z_callVi F dX10_marries_24 m_1002 iX10_error jX10_error rfl zc9 rfl (kX10_error σ (k := 1) (by decide) (by decide)) rfl (by decide) (Nat.le_of_ble_eq_true rfl) 27 rfl (fun r24 s24 c24 => ?_)
    refine z_ri F dX10_marries_27 ?_
    obtain ⟨rfl, rfl⟩ := c24
    exact finM (by
      unfold aMarries
      (repeat' split) <;> first | rfl | contradiction | (exfalso; simp only [Int32.lt_iff_toInt_lt, Int32.le_iff_toInt_le, ← Int32.toInt_inj, Int32.reduceToInt] at *; omega)) MO.rf
  · skip
    have h5 := bI1.mp h5
    refine z_aload_n F dX10_marries_8 0 rfl 9 rfl ?_
    refine z_iload_n F dX10_marries_9 2 rfl 10 rfl ?_
    refine z_callVp F dX10_marries_10 m_1016 iX10_isPerson jX10_isPerson rfl zc9 rfl (kX10_isPerson σ hN _) rfl (by decide) (Nat.le_of_ble_eq_true rfl) 13 rfl ?_
    refine z_if_eq F dX10_marries_13 21 (by decide) 16 rfl (fun h13 => ?_) (fun h13 => ?_)
    · skip
      have h13 := bI0.mp h13
      refine z_aload_n F dX10_marries_21 0 rfl 22 rfl ?_
      refine z_ldc F dX10_marries_22 m_1001 24 rfl ?_
      rw [lo1]
      refine z_callVi F dX10_marries_24 m_1002 iX10_error jX10_error rfl zc9 rfl (kX10_error σ (k := 1) (by decide) (by decide)) rfl (by decide) (Nat.le_of_ble_eq_true rfl) 27 rfl (fun r24 s24 c24 => ?_)
      refine z_ri F dX10_marries_27 ?_
      obtain ⟨rfl, rfl⟩ := c24
      exact finM (by
        unfold aMarries
        (repeat' split) <;> first | rfl | contradiction | (exfalso; simp only [Int32.lt_iff_toInt_lt, Int32.le_iff_toInt_le, ← Int32.toInt_inj, Int32.reduceToInt] at *; omega)) MO.rf
    · skip
      have h13 := bI1.mp h13
      refine z_iload_n F dX10_marries_16 1 rfl 17 rfl ?_
      refine z_iload_n F dX10_marries_17 2 rfl 18 rfl ?_
      refine z_icmp_ne F dX10_marries_18 28 (by decide) 21 rfl (fun h18 => ?_) (fun h18 => ?_)
      · skip
        obtain ⟨i, hi, rfl⟩ := isP_of (n := nP (σ 1)) (hn ▸ h5) (by omega)
        have i31 : i < 2 ^ 31 := by omega
        obtain ⟨j, hj, rfl⟩ := isP_of (n := nP (σ 1)) (hn ▸ h13) (by omega)
        have j31 : j < 2 ^ 31 := by omega
        refine z_aload_n F dX10_marries_28 0 rfl 29 rfl ?_
        refine z_iload_n F dX10_marries_29 1 rfl 30 rfl ?_
        refine z_iconst F dX10_marries_30 3 (by decide) 31 rfl ?_
        refine z_callVp F dX10_marries_31 m_1020 iX10_of jX10_of rfl zc9 rfl (kX10_of σ (p := i) (w := 3) (by omega) (by decide)) rfl (by decide) (Nat.le_of_ble_eq_true rfl) 34 rfl ?_
        refine z_if_ge F dX10_marries_34 46 (by decide) 37 rfl (fun h34 => ?_) (fun h34 => ?_)
        · skip
          refine z_aload_n F dX10_marries_46 0 rfl 47 rfl ?_
          refine z_ldc F dX10_marries_47 m_1082 49 rfl ?_
          rw [lo3]
          refine z_callVi F dX10_marries_49 m_1002 iX10_error jX10_error rfl zc9 rfl (kX10_error σ (k := 3) (by decide) (by decide)) rfl (by decide) (Nat.le_of_ble_eq_true rfl) 52 rfl (fun r49 s49 c49 => ?_)
          refine z_ri F dX10_marries_52 ?_
          obtain ⟨rfl, rfl⟩ := c49
          exact finM (by
            unfold aMarries
            simp only [nI_clamp i31, nI_clamp j31]
            (repeat' split) <;> first | rfl | contradiction | (exfalso; simp only [Int32.lt_iff_toInt_lt, Int32.le_iff_toInt_le, ← Int32.toInt_inj, Int32.reduceToInt] at *; omega)) MO.rf
        · skip
          refine z_aload_n F dX10_marries_37 0 rfl 38 rfl ?_
          refine z_iload_n F dX10_marries_38 2 rfl 39 rfl ?_
          refine z_iconst F dX10_marries_39 3 (by decide) 40 rfl ?_
          refine z_callVp F dX10_marries_40 m_1020 iX10_of jX10_of rfl zc9 rfl (kX10_of σ (p := j) (w := 3) (by omega) (by decide)) rfl (by decide) (Nat.le_of_ble_eq_true rfl) 43 rfl ?_
          refine z_if_lt F dX10_marries_43 53 (by decide) 46 rfl (fun h43 => ?_) (fun h43 => ?_)
          · skip
            refine z_aload_n F dX10_marries_53 0 rfl 54 rfl ?_
            refine z_iload_n F dX10_marries_54 1 rfl 55 rfl ?_
            refine z_iload_n F dX10_marries_55 2 rfl 56 rfl ?_
            refine z_callVu F dX10_marries_56 m_1083 iX10_weds jX10_weds rfl zc9 rfl (kX10_weds σ (a := i) (b := j) (by omega) (by omega)) rfl (by decide) (Nat.le_of_ble_eq_true rfl) 59 rfl ?_
            generalize hτ : z_up σ 1 (wedR (σ 1) i j) = τ
            have eR : τ 1 = wedR (σ 1) i j := by rw [← hτ, up_same]
            have hW : τ 1 2 = nI (nP (τ 1)) ∧ nP (τ 1) ≤ 8 := by rw [eR]; exact wed_n hN
            refine z_aload_n F dX10_marries_59 0 rfl 60 rfl ?_
            refine z_iload_n F dX10_marries_60 1 rfl 61 rfl ?_
            refine z_callVp F dX10_marries_61 m_1032 iX10_relatives jX10_relatives rfl zc9 rfl (kX10_relatives τ hW (i := i) (by rw [eR, nP_wed]; exact hi)) rfl (by decide) (Nat.le_of_ble_eq_true rfl) 64 rfl ?_
            refine z_ri F dX10_marries_64 ?_
            refine finM (m := τ) ?_ MO.rf
            have h31 : pO (σ 1) i 3 < 0 := by simp only [Int32.lt_iff_toInt_lt, Int32.le_iff_toInt_le, ← Int32.toInt_inj, Int32.reduceToInt] at *; omega
            unfold aMarries
            rw [if_pos ⟨h5, h13, h18⟩, nI_clamp i31, nI_clamp j31, if_pos ⟨h31, h43⟩, eR, hτ]
          · skip
            refine z_aload_n F dX10_marries_46 0 rfl 47 rfl ?_
            refine z_ldc F dX10_marries_47 m_1082 49 rfl ?_
            rw [lo3]
            refine z_callVi F dX10_marries_49 m_1002 iX10_error jX10_error rfl zc9 rfl (kX10_error σ (k := 3) (by decide) (by decide)) rfl (by decide) (Nat.le_of_ble_eq_true rfl) 52 rfl (fun r49 s49 c49 => ?_)
            refine z_ri F dX10_marries_52 ?_
            obtain ⟨rfl, rfl⟩ := c49
            exact finM (by
              unfold aMarries
              simp only [nI_clamp i31, nI_clamp j31]
              (repeat' split) <;> first | rfl | contradiction | (exfalso; simp only [Int32.lt_iff_toInt_lt, Int32.le_iff_toInt_le, ← Int32.toInt_inj, Int32.reduceToInt] at *; omega)) MO.rf
      · skip
        refine z_aload_n F dX10_marries_21 0 rfl 22 rfl ?_
        refine z_ldc F dX10_marries_22 m_1001 24 rfl ?_
        rw [lo1]
        refine z_callVi F dX10_marries_24 m_1002 iX10_error jX10_error rfl zc9 rfl (kX10_error σ (k := 1) (by decide) (by decide)) rfl (by decide) (Nat.le_of_ble_eq_true rfl) 27 rfl (fun r24 s24 c24 => ?_)
        refine z_ri F dX10_marries_27 ?_
        obtain ⟨rfl, rfl⟩ := c24
        exact finM (by
          unfold aMarries
          (repeat' split) <;> first | rfl | contradiction | (exfalso; simp only [Int32.lt_iff_toInt_lt, Int32.le_iff_toInt_le, ← Int32.toInt_inj, Int32.reduceToInt] at *; omega)) MO.rf
set_option maxHeartbeats 400000 in
set_option maxRecDepth 10000 in
theorem kX10_parts {l : Launch} {E : z_E} (σ : z_M) {τ0 : z_M} (hR : Rel τ0 σ) (x : Int32)  : z_C l E shM 2 yX10_parts cX10_parts 3 (some FieldType.int) [.ref (z_ad E 0), .int x] σ (z_Pi (fun rv μ' => rv = (aParts σ x).1 ∧ MO (aParts σ x).2 μ')) := by
  refine z_intro iX10_parts (Nat.le_of_ble_eq_true rfl) (fun K F => ?_)
  have hn : σ 1 2 = nI (nP (σ 1)) := hR.2.1.1.1
  have h8 : nP (σ 1) ≤ 8 := hR.n8
  have hN : σ 1 2 = nI (nP (σ 1)) ∧ nP (σ 1) ≤ 8 := ⟨hn, h8⟩
  refine z_aload_n F dX10_parts_0 0 rfl 1 rfl ?_
  refine z_iload_n F dX10_parts_1 1 rfl 2 rfl ?_
  refine z_callVp F dX10_parts_2 m_1016 iX10_isPerson jX10_isPerson rfl zc9 rfl (kX10_isPerson σ hN _) rfl (by decide) (Nat.le_of_ble_eq_true rfl) 5 rfl ?_
  refine z_if_ne F dX10_parts_5 15 (by decide) 8 rfl (fun h5 => ?_) (fun h5 => ?_)
  · skip
    have h5 := bI1.mp h5
    obtain ⟨i, hi, rfl⟩ := isP_of (n := nP (σ 1)) (hn ▸ h5) (by omega)
    have i31 : i < 2 ^ 31 := by omega
    refine z_aload_n F dX10_parts_15 0 rfl 16 rfl ?_
    refine z_iload_n F dX10_parts_16 1 rfl 17 rfl ?_
    refine z_iconst F dX10_parts_17 3 (by decide) 18 rfl ?_
    refine z_callVp F dX10_parts_18 m_1020 iX10_of jX10_of rfl zc9 rfl (kX10_of σ (p := i) (w := 3) (by omega) (by decide)) rfl (by decide) (Nat.le_of_ble_eq_true rfl) 21 rfl ?_
    refine z_istore_n F dX10_parts_21 [(0, _), (1, _), (2, _)] rfl (by decide) 22 rfl ?_
    refine z_iload_n F dX10_parts_22 2 rfl 23 rfl ?_
    refine z_if_ge F dX10_parts_23 33 (by decide) 26 rfl (fun h23 => ?_) (fun h23 => ?_)
    · skip
      obtain ⟨j, hj, ej⟩ : ∃ j, j < nP (σ 1) ∧ pO (σ 1) i 3 = nI j := by
        rcases (hR.vk.2.2 i hi).2.2.2 with z | ⟨j, j1, -, j3, -⟩
        · rw [z] at h23; exact absurd h23 (by decide)
        · exact ⟨j, j1, j3⟩
      rw [ej]
      refine z_aload_n F dX10_parts_33 0 rfl 34 rfl ?_
      refine z_iload_n F dX10_parts_34 1 rfl 35 rfl ?_
      refine z_iconst F dX10_parts_35 3 (by decide) 36 rfl ?_
      refine z_iconst F dX10_parts_36 (-1) (by decide) 37 rfl ?_
      refine z_callVu F dX10_parts_37 m_1008 iX10_puts jX10_puts rfl zc9 rfl (kX10_puts σ (p := i) (w := 3) (by omega) (by decide) _) rfl (by decide) (Nat.le_of_ble_eq_true rfl) 40 rfl ?_
      refine z_aload_n F dX10_parts_40 0 rfl 41 rfl ?_
      refine z_iload_n F dX10_parts_41 2 rfl 42 rfl ?_
      refine z_iconst F dX10_parts_42 3 (by decide) 43 rfl ?_
      refine z_iconst F dX10_parts_43 (-1) (by decide) 44 rfl ?_
      refine z_callVu F dX10_parts_44 m_1008 iX10_puts jX10_puts rfl zc9 rfl (kX10_puts _ (p := j) (w := 3) (by omega) (by decide) _) rfl (by decide) (Nat.le_of_ble_eq_true rfl) 47 rfl ?_
      refine z_iload_n F dX10_parts_47 2 rfl 48 rfl ?_
      refine z_ri F dX10_parts_48 ?_
      refine finM (m := z_up σ 1 (parR (σ 1) i j)) ?_ (by simp only [up_same, up_up]; exact MO.rf)
      unfold aParts
      rw [if_pos h5, nI_clamp i31, if_neg (by rw [ej]; exact nI_pos (by omega)), ej, nI_clamp (by omega)]
    · skip
      refine z_aload_n F dX10_parts_26 0 rfl 27 rfl ?_
      refine z_ldc F dX10_parts_27 m_1091 29 rfl ?_
      rw [lo2]
      refine z_callVi F dX10_parts_29 m_1002 iX10_error jX10_error rfl zc9 rfl (kX10_error σ (k := 2) (by decide) (by decide)) rfl (by decide) (Nat.le_of_ble_eq_true rfl) 32 rfl (fun r29 s29 c29 => ?_)
      refine z_ri F dX10_parts_32 ?_
      obtain ⟨rfl, rfl⟩ := c29
      exact finM (by
        unfold aParts
        simp only [nI_clamp i31]
        (repeat' split) <;> first | rfl | contradiction | (exfalso; simp only [Int32.lt_iff_toInt_lt, Int32.le_iff_toInt_le, ← Int32.toInt_inj, Int32.reduceToInt] at *; omega)) MO.rf
  · skip
    have h5 := bI0.mp h5
    refine z_aload_n F dX10_parts_8 0 rfl 9 rfl ?_
    refine z_ldc F dX10_parts_9 m_1001 11 rfl ?_
    rw [lo1]
    refine z_callVi F dX10_parts_11 m_1002 iX10_error jX10_error rfl zc9 rfl (kX10_error σ (k := 1) (by decide) (by decide)) rfl (by decide) (Nat.le_of_ble_eq_true rfl) 14 rfl (fun r11 s11 c11 => ?_)
    refine z_ri F dX10_parts_14 ?_
    obtain ⟨rfl, rfl⟩ := c11
    exact finM (by
      unfold aParts
      (repeat' split) <;> first | rfl | contradiction | (exfalso; simp only [Int32.lt_iff_toInt_lt, Int32.le_iff_toInt_le, ← Int32.toInt_inj, Int32.reduceToInt] at *; omega)) MO.rf
set_option maxHeartbeats 400000 in
set_option maxRecDepth 10000 in
theorem kX10_steps {l : Launch} {E : z_E} (σ : z_M) {τ0 : z_M} (hR : Rel τ0 σ) (x : Int32) (y : Int32)  : z_C l E shM 4 yX10_steps cX10_steps 3 (some FieldType.int) [.ref (z_ad E 0), .int x, .int y] σ (z_Pi (fun rv μ' => rv = (aSteps σ x y).1 ∧ MO (aSteps σ x y).2 μ')) := by
  refine z_intro iX10_steps (Nat.le_of_ble_eq_true rfl) (fun K F => ?_)
  have hn : σ 1 2 = nI (nP (σ 1)) := hR.2.1.1.1
  have h8 : nP (σ 1) ≤ 8 := hR.n8
  have hN : σ 1 2 = nI (nP (σ 1)) ∧ nP (σ 1) ≤ 8 := ⟨hn, h8⟩
  refine z_aload_n F dX10_steps_0 0 rfl 1 rfl ?_
  refine z_iload_n F dX10_steps_1 1 rfl 2 rfl ?_
  refine z_callVp F dX10_steps_2 m_1016 iX10_isPerson jX10_isPerson rfl zc9 rfl (kX10_isPerson σ hN _) rfl (by decide) (Nat.le_of_ble_eq_true rfl) 5 rfl ?_
  refine z_if_eq F dX10_steps_5 25 (by decide) 8 rfl (fun h5 => ?_) (fun h5 => ?_)
  · skip
    have h5 := bI0.mp h5
    refine z_aload_n F dX10_steps_25 0 rfl 26 rfl ?_
    refine z_ldc F dX10_steps_26 m_1001 28 rfl ?_
    rw [lo1]
    refine z_callVi F dX10_steps_28 m_1002 iX10_error jX10_error rfl zc9 rfl (kX10_error σ (k := 1) (by decide) (by decide)) rfl (by decide) (Nat.le_of_ble_eq_true rfl) 31 rfl (fun r28 s28 c28 => ?_)
    refine z_ri F dX10_steps_31 ?_
    obtain ⟨rfl, rfl⟩ := c28
    exact finM (by
      unfold aSteps
      (repeat' split) <;> first | rfl | contradiction | (exfalso; simp only [Int32.lt_iff_toInt_lt, Int32.le_iff_toInt_le, ← Int32.toInt_inj, Int32.reduceToInt] at *; omega)) MO.rf
  · skip
    have h5 := bI1.mp h5
    refine z_aload_n F dX10_steps_8 0 rfl 9 rfl ?_
    refine z_iload_n F dX10_steps_9 2 rfl 10 rfl ?_
    refine z_callVp F dX10_steps_10 m_1016 iX10_isPerson jX10_isPerson rfl zc9 rfl (kX10_isPerson σ hN _) rfl (by decide) (Nat.le_of_ble_eq_true rfl) 13 rfl ?_
    refine z_if_eq F dX10_steps_13 25 (by decide) 16 rfl (fun h13 => ?_) (fun h13 => ?_)
    · skip
      have h13 := bI0.mp h13
      refine z_aload_n F dX10_steps_25 0 rfl 26 rfl ?_
      refine z_ldc F dX10_steps_26 m_1001 28 rfl ?_
      rw [lo1]
      refine z_callVi F dX10_steps_28 m_1002 iX10_error jX10_error rfl zc9 rfl (kX10_error σ (k := 1) (by decide) (by decide)) rfl (by decide) (Nat.le_of_ble_eq_true rfl) 31 rfl (fun r28 s28 c28 => ?_)
      refine z_ri F dX10_steps_31 ?_
      obtain ⟨rfl, rfl⟩ := c28
      exact finM (by
        unfold aSteps
        (repeat' split) <;> first | rfl | contradiction | (exfalso; simp only [Int32.lt_iff_toInt_lt, Int32.le_iff_toInt_le, ← Int32.toInt_inj, Int32.reduceToInt] at *; omega)) MO.rf
    · skip
      have h13 := bI1.mp h13
      obtain ⟨i, hi, rfl⟩ := isP_of (n := nP (σ 1)) (hn ▸ h5) (by omega)
      have i31 : i < 2 ^ 31 := by omega
      obtain ⟨j, hj, rfl⟩ := isP_of (n := nP (σ 1)) (hn ▸ h13) (by omega)
      have j31 : j < 2 ^ 31 := by omega
      refine z_aload_n F dX10_steps_16 0 rfl 17 rfl ?_
      refine z_iload_n F dX10_steps_17 1 rfl 18 rfl ?_
      refine z_iload_n F dX10_steps_18 2 rfl 19 rfl ?_
      refine z_callVp F dX10_steps_19 m_1096 iX10_stepsBy jX10_stepsBy rfl zc9 rfl (kX10_stepsBy σ hN hi hj) rfl (by decide) (Nat.le_of_ble_eq_true rfl) 22 rfl ?_
      refine z_goto F dX10_steps_22 31 (by decide) ?_
      refine z_ri F dX10_steps_31 ?_
      refine finM (m := σ) ?_ MO.rf
      unfold aSteps
      rw [if_pos ⟨h5, h13⟩, nI_clamp i31, nI_clamp j31]
set_option maxHeartbeats 400000 in
set_option maxRecDepth 10000 in
theorem kX10_lets {l : Launch} {E : z_E} (σ : z_M) {τ0 : z_M} (hR : Rel τ0 σ) (x : Int32) (y : Int32)  : z_C l E shM 5 yX10_lets cX10_lets 3 (some FieldType.int) [.ref (z_ad E 0), .int x, .int y] σ (z_Pi (fun rv μ' => rv = (aLets σ x y).1 ∧ MO (aLets σ x y).2 μ')) := by
  refine z_intro iX10_lets (Nat.le_of_ble_eq_true rfl) (fun K F => ?_)
  have hn : σ 1 2 = nI (nP (σ 1)) := hR.2.1.1.1
  have h8 : nP (σ 1) ≤ 8 := hR.n8
  have hN : σ 1 2 = nI (nP (σ 1)) ∧ nP (σ 1) ≤ 8 := ⟨hn, h8⟩
  refine z_aload_n F dX10_lets_0 0 rfl 1 rfl ?_
  refine z_iload_n F dX10_lets_1 1 rfl 2 rfl ?_
  refine z_callVp F dX10_lets_2 m_1016 iX10_isPerson jX10_isPerson rfl zc9 rfl (kX10_isPerson σ hN _) rfl (by decide) (Nat.le_of_ble_eq_true rfl) 5 rfl ?_
  refine z_if_eq F dX10_lets_5 25 (by decide) 8 rfl (fun h5 => ?_) (fun h5 => ?_)
  · skip
    have h5 := bI0.mp h5
    refine z_aload_n F dX10_lets_25 0 rfl 26 rfl ?_
    refine z_ldc F dX10_lets_26 m_1001 28 rfl ?_
    rw [lo1]
    refine z_callVi F dX10_lets_28 m_1002 iX10_error jX10_error rfl zc9 rfl (kX10_error σ (k := 1) (by decide) (by decide)) rfl (by decide) (Nat.le_of_ble_eq_true rfl) 31 rfl (fun r28 s28 c28 => ?_)
    refine z_ri F dX10_lets_31 ?_
    obtain ⟨rfl, rfl⟩ := c28
    exact finM (by
      unfold aLets
      (repeat' split) <;> first | rfl | contradiction | (exfalso; simp only [Int32.lt_iff_toInt_lt, Int32.le_iff_toInt_le, ← Int32.toInt_inj, Int32.reduceToInt] at *; omega)) MO.rf
  · skip
    have h5 := bI1.mp h5
    refine z_aload_n F dX10_lets_8 0 rfl 9 rfl ?_
    refine z_iload_n F dX10_lets_9 2 rfl 10 rfl ?_
    refine z_callVp F dX10_lets_10 m_1016 iX10_isPerson jX10_isPerson rfl zc9 rfl (kX10_isPerson σ hN _) rfl (by decide) (Nat.le_of_ble_eq_true rfl) 13 rfl ?_
    refine z_if_eq F dX10_lets_13 25 (by decide) 16 rfl (fun h13 => ?_) (fun h13 => ?_)
    · skip
      have h13 := bI0.mp h13
      refine z_aload_n F dX10_lets_25 0 rfl 26 rfl ?_
      refine z_ldc F dX10_lets_26 m_1001 28 rfl ?_
      rw [lo1]
      refine z_callVi F dX10_lets_28 m_1002 iX10_error jX10_error rfl zc9 rfl (kX10_error σ (k := 1) (by decide) (by decide)) rfl (by decide) (Nat.le_of_ble_eq_true rfl) 31 rfl (fun r28 s28 c28 => ?_)
      refine z_ri F dX10_lets_31 ?_
      obtain ⟨rfl, rfl⟩ := c28
      exact finM (by
        unfold aLets
        (repeat' split) <;> first | rfl | contradiction | (exfalso; simp only [Int32.lt_iff_toInt_lt, Int32.le_iff_toInt_le, ← Int32.toInt_inj, Int32.reduceToInt] at *; omega)) MO.rf
    · skip
      have h13 := bI1.mp h13
      obtain ⟨i, hi, rfl⟩ := isP_of (n := nP (σ 1)) (hn ▸ h5) (by omega)
      have i31 : i < 2 ^ 31 := by omega
      obtain ⟨j, hj, rfl⟩ := isP_of (n := nP (σ 1)) (hn ▸ h13) (by omega)
      have j31 : j < 2 ^ 31 := by omega
      refine z_aload_n F dX10_lets_16 0 rfl 17 rfl ?_
      refine z_iload_n F dX10_lets_17 1 rfl 18 rfl ?_
      refine z_iload_n F dX10_lets_18 2 rfl 19 rfl ?_
      refine z_callVi F dX10_lets_19 m_1104 iX10_veils jX10_veils rfl zc9 rfl (kX10_veils σ hN hR.2.1.2.1 hi hj) rfl (by decide) (Nat.le_of_ble_eq_true rfl) 22 rfl (fun r19 s19 c19 => ?_)
      obtain ⟨rfl, m19⟩ := c19
      refine z_goto F dX10_lets_22 31 (by decide) ?_
      refine z_ri F dX10_lets_31 ?_
      refine finM (m := σ) ?_ (MO.g m19)
      unfold aLets
      rw [if_pos ⟨h5, h13⟩, nI_clamp i31, nI_clamp j31]
set_option maxHeartbeats 400000 in
set_option maxRecDepth 10000 in
theorem kX10_meets {l : Launch} {E : z_E} (σ : z_M) {τ0 : z_M} (hR : Rel τ0 σ) (pl : Int32) (x : Int32) (y : Int32)  : z_C l E shM 1 yX10_meets cX10_meets 5 (some FieldType.int) [.ref (z_ad E 0), .int pl, .int x, .int y] σ (z_Pi (fun rv μ' => rv = (aMeets σ pl x y).1 ∧ MO (aMeets σ pl x y).2 μ')) := by
  refine z_intro iX10_meets (Nat.le_of_ble_eq_true rfl) (fun K F => ?_)
  have hn : σ 1 2 = nI (nP (σ 1)) := hR.2.1.1.1
  have h8 : nP (σ 1) ≤ 8 := hR.n8
  have hN : σ 1 2 = nI (nP (σ 1)) ∧ nP (σ 1) ≤ 8 := ⟨hn, h8⟩
  refine z_iload_n F dX10_meets_0 1 rfl 1 rfl ?_
  refine z_iconst F dX10_meets_1 0 (by decide) 2 rfl ?_
  refine z_iconst F dX10_meets_2 5 (by decide) 3 rfl ?_
  refine z_callSp F dX10_meets_3 m_998 iX10_in m_999 rfl (kX10_in σ _ _ _) rfl (by decide) (Nat.le_of_ble_eq_true rfl) 6 rfl ?_
  refine z_if_eq F dX10_meets_6 29 (by decide) 9 rfl (fun h6 => ?_) (fun h6 => ?_)
  · skip
    have h6 := bI0.mp h6
    refine z_aload_n F dX10_meets_29 0 rfl 30 rfl ?_
    refine z_ldc F dX10_meets_30 m_1001 32 rfl ?_
    rw [lo1]
    refine z_callVi F dX10_meets_32 m_1002 iX10_error jX10_error rfl zc9 rfl (kX10_error σ (k := 1) (by decide) (by decide)) rfl (by decide) (Nat.le_of_ble_eq_true rfl) 35 rfl (fun r32 s32 c32 => ?_)
    refine z_ri F dX10_meets_35 ?_
    obtain ⟨rfl, rfl⟩ := c32
    exact finM (by
      unfold aMeets
      (repeat' split) <;> first | rfl | contradiction | (exfalso; simp only [Int32.lt_iff_toInt_lt, Int32.le_iff_toInt_le, ← Int32.toInt_inj, Int32.reduceToInt] at *; omega)) MO.rf
  · skip
    have h6 := bI1.mp h6
    refine z_iload_n F dX10_meets_9 2 rfl 10 rfl ?_
    refine z_iconst F dX10_meets_10 0 (by decide) 11 rfl ?_
    refine z_bipush F dX10_meets_11 7 (by decide) 13 rfl ?_
    refine z_callSp F dX10_meets_13 m_998 iX10_in m_999 rfl (kX10_in σ _ _ _) rfl (by decide) (Nat.le_of_ble_eq_true rfl) 16 rfl ?_
    refine z_if_eq F dX10_meets_16 29 (by decide) 19 rfl (fun h16 => ?_) (fun h16 => ?_)
    · skip
      have h16 := bI0.mp h16
      refine z_aload_n F dX10_meets_29 0 rfl 30 rfl ?_
      refine z_ldc F dX10_meets_30 m_1001 32 rfl ?_
      rw [lo1]
      refine z_callVi F dX10_meets_32 m_1002 iX10_error jX10_error rfl zc9 rfl (kX10_error σ (k := 1) (by decide) (by decide)) rfl (by decide) (Nat.le_of_ble_eq_true rfl) 35 rfl (fun r32 s32 c32 => ?_)
      refine z_ri F dX10_meets_35 ?_
      obtain ⟨rfl, rfl⟩ := c32
      exact finM (by
        unfold aMeets
        (repeat' split) <;> first | rfl | contradiction | (exfalso; simp only [Int32.lt_iff_toInt_lt, Int32.le_iff_toInt_le, ← Int32.toInt_inj, Int32.reduceToInt] at *; omega)) MO.rf
    · skip
      have h16 := bI1.mp h16
      refine z_iload_n F dX10_meets_19 3 rfl 20 rfl ?_
      refine z_iconst F dX10_meets_20 0 (by decide) 21 rfl ?_
      refine z_bipush F dX10_meets_21 7 (by decide) 23 rfl ?_
      refine z_callSp F dX10_meets_23 m_998 iX10_in m_999 rfl (kX10_in σ _ _ _) rfl (by decide) (Nat.le_of_ble_eq_true rfl) 26 rfl ?_
      refine z_if_ne F dX10_meets_26 36 (by decide) 29 rfl (fun h26 => ?_) (fun h26 => ?_)
      · skip
        have h26 := bI1.mp h26
        obtain ⟨q, hq, rfl⟩ : ∃ q, q < 6 ∧ pl = nI q := isP_of (n := 6) ⟨h6.1, by show pl < 6; simp only [Int32.lt_iff_toInt_lt, Int32.le_iff_toInt_le, ← Int32.toInt_inj, Int32.reduceToInt] at *; omega⟩ (by decide)
        have q31 : q < 2 ^ 31 := by omega
        have g1 : nI q < 6 := nI_lt (b := 6) hq (by decide)
        have g2 : x < 8 := by simp only [Int32.lt_iff_toInt_lt, Int32.le_iff_toInt_le, ← Int32.toInt_inj, Int32.reduceToInt] at *; omega
        have g3 : y < 8 := by simp only [Int32.lt_iff_toInt_lt, Int32.le_iff_toInt_le, ← Int32.toInt_inj, Int32.reduceToInt] at *; omega
        refine z_bipush F dX10_meets_36 10 (by decide) 38 rfl ?_
        refine z_aload_n F dX10_meets_38 0 rfl 39 rfl ?_
        refine z_getR F zc9 dX10_meets_39 rfl 0 (by decide) (by decide) (.inl m_930) rfl (by decide) 42 rfl ?_
        refine z_bipush F dX10_meets_42 7 (by decide) 44 rfl ?_
        refine z_iconst F dX10_meets_44 2 (by decide) 45 rfl ?_
        refine z_iload_n F dX10_meets_45 1 rfl 46 rfl ?_
        refine z_imul F dX10_meets_46 47 rfl ?_
        refine z_iadd F dX10_meets_47 48 rfl ?_
        rw [ix7]
        refine z_iald F dX10_meets_48 rfl (vp_in_nI (by omega) (by decide)) 49 rfl ?_
        rw [nI_clamp (by omega)]
        refine z_imul F dX10_meets_49 50 rfl ?_
        refine z_aload_n F dX10_meets_50 0 rfl 51 rfl ?_
        refine z_getR F zc9 dX10_meets_51 rfl 0 (by decide) (by decide) (.inl m_930) rfl (by decide) 54 rfl ?_
        refine z_bipush F dX10_meets_54 7 (by decide) 56 rfl ?_
        refine z_iconst F dX10_meets_56 2 (by decide) 57 rfl ?_
        refine z_iload_n F dX10_meets_57 1 rfl 58 rfl ?_
        refine z_imul F dX10_meets_58 59 rfl ?_
        refine z_iadd F dX10_meets_59 60 rfl ?_
        refine z_iconst F dX10_meets_60 1 (by decide) 61 rfl ?_
        refine z_iadd F dX10_meets_61 62 rfl ?_
        rw [ix7, nI_1]
        refine z_iald F dX10_meets_62 rfl (vp_in_nI (by omega) (by decide)) 63 rfl ?_
        rw [nI_clamp (by omega)]
        refine z_iadd F dX10_meets_63 64 rfl ?_
        refine z_istore F dX10_meets_64 [(0, _), (1, _), (2, _), (3, _), (4, _)] rfl (by decide) 66 rfl ?_
        refine z_aload_n F dX10_meets_66 0 rfl 67 rfl ?_
        refine z_getR F zc9 dX10_meets_67 rfl 0 (by decide) (by decide) (.inl m_930) rfl (by decide) 70 rfl ?_
        refine z_bipush F dX10_meets_70 7 (by decide) 72 rfl ?_
        refine z_iconst F dX10_meets_72 2 (by decide) 73 rfl ?_
        refine z_iload_n F dX10_meets_73 1 rfl 74 rfl ?_
        refine z_imul F dX10_meets_74 75 rfl ?_
        refine z_iadd F dX10_meets_75 76 rfl ?_
        rw [ix7]
        refine z_iload_n F dX10_meets_76 2 rfl 77 rfl ?_
        refine z_iast F dX10_meets_77 rfl (vp_in_nI (by omega) (by decide)) 78 rfl ?_
        rw [nI_clamp (by omega)]
        refine z_aload_n F dX10_meets_78 0 rfl 79 rfl ?_
        refine z_getR F zc9 dX10_meets_79 rfl 0 (by decide) (by decide) (.inl m_930) rfl (by decide) 82 rfl ?_
        refine z_bipush F dX10_meets_82 7 (by decide) 84 rfl ?_
        refine z_iconst F dX10_meets_84 2 (by decide) 85 rfl ?_
        refine z_iload_n F dX10_meets_85 1 rfl 86 rfl ?_
        refine z_imul F dX10_meets_86 87 rfl ?_
        refine z_iadd F dX10_meets_87 88 rfl ?_
        refine z_iconst F dX10_meets_88 1 (by decide) 89 rfl ?_
        refine z_iadd F dX10_meets_89 90 rfl ?_
        rw [ix7, nI_1]
        refine z_iload_n F dX10_meets_90 3 rfl 91 rfl ?_
        refine z_iast F dX10_meets_91 rfl (vp_in_nI (by omega) (by decide)) 92 rfl ?_
        rw [nI_clamp (by omega)]
        refine z_iload F dX10_meets_92 4 rfl 94 rfl ?_
        refine z_ri F dX10_meets_94 ?_
        refine finM (m := z_up σ 1 (upd (upd (σ 1) (7 + 2 * q) x) (7 + 2 * q + 1) y)) ?_ (by simp only [z_u2, up_same, up_up]; exact MO.rf)
        unfold aMeets
        rw [if_pos ⟨⟨h6.1, g1⟩, ⟨h16.1, g2⟩, h26.1, g3⟩, nI_clamp q31, Int32.mul_comm, show 8 + 2 * q = 7 + 2 * q + 1 by omega]
      · skip
        have h26 := bI0.mp h26
        refine z_aload_n F dX10_meets_29 0 rfl 30 rfl ?_
        refine z_ldc F dX10_meets_30 m_1001 32 rfl ?_
        rw [lo1]
        refine z_callVi F dX10_meets_32 m_1002 iX10_error jX10_error rfl zc9 rfl (kX10_error σ (k := 1) (by decide) (by decide)) rfl (by decide) (Nat.le_of_ble_eq_true rfl) 35 rfl (fun r32 s32 c32 => ?_)
        refine z_ri F dX10_meets_35 ?_
        obtain ⟨rfl, rfl⟩ := c32
        exact finM (by
          unfold aMeets
          (repeat' split) <;> first | rfl | contradiction | (exfalso; simp only [Int32.lt_iff_toInt_lt, Int32.le_iff_toInt_le, ← Int32.toInt_inj, Int32.reduceToInt] at *; omega)) MO.rf
