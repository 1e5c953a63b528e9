/-! Kin: who comes, who marries; the marriage that brings two nearest -/
def pU (r : Rw) (p w : Nat) (v : Int32) : Rw := upd r (19 + 5 * p + w) v
theorem upd_at {f : Nat → Int32} {k j : Nat} {v : Int32} : upd f k v j = if j = k then v else f j := rfl
theorem pO_pU {r : Rw} {i w p w' : Nat} {v : Int32} (hw : w < 5) (hw' : w' < 5) : pO (pU r i w v) p w' = if p = i ∧ w' = w then v else pO r p w' := by
  unfold pO pU
  rw [upd_at]
  by_cases h : p = i ∧ w' = w
  · rw [if_pos h, if_pos (by omega)]
  · rw [if_neg h, if_neg (by omega)]
theorem pU_lo {r : Rw} {i w k : Nat} {v : Int32} (h : k < 19) : pU r i w v k = r k := by unfold pU; rw [upd_at, if_neg (by omega)]
theorem nP_pU {r : Rw} {i w : Nat} {v : Int32} : nP (pU r i w v) = nP r := by unfold nP; rw [pU_lo (by decide)]
/-- how many others are one step off -/
def nearN (r : Rw) (p : Nat) : Nat := cntB (fun b => b != p && adj r p b) (nP r)
theorem near_d {r : Rw} (h : VK r) {p b : Nat} (hp : p < nP r) : decide (dS r p b = 1) = (b != p && adj r p b) := by
  have e := dst_one (n := nP r) (A := adj r) (j := b) hp
  unfold dS
  by_cases q : dst (nP r) (adj r) p b = 1
  · have := e.mp q
    simp [q, this.2, Ne.symm this.1]
  · have q2 : ¬ (p ≠ b ∧ adj r p b = true) := fun z => q (e.mpr z)
    by_cases z : b = p
    · subst z; simp [q]
    · have : adj r p b = false := by
        cases hh : adj r p b
        · rfl
        · exact absurd ⟨Ne.symm z, hh⟩ q2
      simp [q, this]
/-- one of PEOPLE more -/
def addR (r : Rw) (k m par : Int32) : Rw := pU (pU (pU (pU (pU (upd r 2 (r 2 + 1)) (nP r) 0 k) (nP r) 1 m) (nP r) 2 par) (nP r) 3 (-1)) (nP r) 4 0
def wedR (r : Rw) (a b : Nat) : Rw := pU (pU r a 3 (nI b)) b 3 (nI a)
def parR (r : Rw) (a b : Nat) : Rw := pU (pU r a 3 (-1)) b 3 (-1)
theorem nP_add {r : Rw} (h : VK r) {k m par : Int32} : nP (addR r k m par) = nP r + 1 := by
  unfold addR
  rw [nP_pU, nP_pU, nP_pU, nP_pU, nP_pU]
  unfold nP
  rw [upd_at, if_pos rfl, h.1, nI_1, nI_clamp (by have := h.2.1; omega), nI_clamp (by have := h.2.1; omega)]
theorem pO_add {r : Rw} {k m par : Int32} {p w : Nat} (hw : w < 5) : pO (addR r k m par) p w = if p = nP r then (if w = 0 then k else if w = 1 then m else if w = 2 then par else if w = 3 then -1 else 0) else pO r p w := by
  have e : pO (upd r 2 (r 2 + 1)) p w = pO r p w := by unfold pO; rw [upd_at, if_neg (by omega)]
  unfold addR
  rw [pO_pU (by decide) hw, pO_pU (by decide) hw, pO_pU (by decide) hw, pO_pU (by decide) hw, pO_pU (by decide) hw, e]
  by_cases q : p = nP r
  · simp only [q, true_and, if_true]
    (repeat' split) <;> first | rfl | omega
  · simp [q]
theorem add2 {r : Rw} {k m par : Int32} : addR r k m par 2 = r 2 + 1 := by
  unfold addR
  rw [pU_lo (by decide), pU_lo (by decide), pU_lo (by decide), pU_lo (by decide), pU_lo (by decide), upd_at, if_pos rfl]
theorem pO_wed {r : Rw} {a b p w : Nat} (hw : w < 5) : pO (wedR r a b) p w = if p = b ∧ w = 3 then nI a else if p = a ∧ w = 3 then nI b else pO r p w := by
  unfold wedR; rw [pO_pU (by decide) hw, pO_pU (by decide) hw]
theorem pO_par {r : Rw} {a b p w : Nat} (hw : w < 5) : pO (parR r a b) p w = if p = b ∧ w = 3 then -1 else if p = a ∧ w = 3 then -1 else pO r p w := by
  unfold parR; rw [pO_pU (by decide) hw, pO_pU (by decide) hw]
theorem nP_wed {r : Rw} {a b : Nat} : nP (wedR r a b) = nP r := by unfold wedR; rw [nP_pU, nP_pU]
theorem nP_par {r : Rw} {a b : Nat} : nP (parR r a b) = nP r := by unfold parR; rw [nP_pU, nP_pU]
theorem VK.add {r : Rw} (h : VK r) (hn : nP r < 8) {k m : Nat} {par : Int32} (hk : k ≤ 6) (hm : m ≤ 9) (hp : par = -1 ∨ ∃ j, j < nP r ∧ par = nI j) : VK (addR r (nI k) (nI m) par) := by
  refine ⟨by rw [add2, nP_add h, h.1, nI_1], by rw [nP_add h]; omega, fun p hp2 => ?_⟩
  rw [nP_add h] at hp2 ⊢
  rw [pO_add (by decide), pO_add (by decide), pO_add (by decide), pO_add (by decide)]
  by_cases q : p = nP r
  · subst q
    simp only [if_true]
    exact ⟨⟨k, hk, rfl⟩, ⟨m, hm, rfl⟩, hp, Or.inl rfl⟩
  · simp only [q, if_false]
    obtain ⟨h1, h2, h3, h4⟩ := h.2.2 p (by omega)
    refine ⟨h1, h2, h3, ?_⟩
    rcases h4 with h4 | ⟨j, hj, h5, h6, h7⟩
    · exact Or.inl h4
    · exact Or.inr ⟨j, by omega, h5, h6, by rw [pO_add (by decide), if_neg (by omega)]; exact h7⟩
theorem VK.wed {r : Rw} (h : VK r) {a b : Nat} (ha : a < nP r) (hb : b < nP r) (hab : a ≠ b) (fa : pO r a 3 < 0) (fb : pO r b 3 < 0) : VK (wedR r a b) := by
  have h8 := h.2.1
  refine ⟨by rw [nP_wed]; unfold wedR; rw [pU_lo (by decide), pU_lo (by decide)]; exact h.1, by rw [nP_wed]; exact h8, fun p hp => ?_⟩
  rw [nP_wed] at hp ⊢
  rw [pO_wed (by decide), pO_wed (by decide), pO_wed (by decide), pO_wed (by decide)]
  obtain ⟨h1, h2, h3, h4⟩ := h.2.2 p hp
  simp only [show ¬ (0 = 3) by decide, show ¬ (1 = 3) by decide, show ¬ (2 = 3) by decide, and_false, if_false, and_true]
  refine ⟨h1, h2, h3, ?_⟩
  by_cases q : p = b
  · subst q
    rw [if_pos rfl]
    exact Or.inr ⟨a, ha, hab, rfl, by rw [pO_wed (by decide), if_neg (fun z => hab z.1), if_pos ⟨rfl, rfl⟩]⟩
  · rw [if_neg q]
    by_cases q2 : p = a
    · subst q2
      rw [if_pos rfl]
      exact Or.inr ⟨b, hb, Ne.symm hab, rfl, by rw [pO_wed (by decide), if_pos ⟨rfl, rfl⟩]⟩
    · rw [if_neg q2]
      rcases h4 with h4 | ⟨j, hj, h5, h6, h7⟩
      · exact Or.inl h4
      · refine Or.inr ⟨j, hj, h5, h6, ?_⟩
        have n1 : j ≠ b := fun e => by rw [← e, h7] at fb; exact absurd fb (nI_pos (by omega))
        have n2 : j ≠ a := fun e => by rw [← e, h7] at fa; exact absurd fa (nI_pos (by omega))
        rw [pO_wed (by decide), if_neg (fun z => n1 z.1), if_neg (fun z => n2 z.1)]
        exact h7
theorem VK.prt {r : Rw} (h : VK r) {a b : Nat} (ha : a < nP r) (hb : b < nP r) (eab : pO r a 3 = nI b) : VK (parR r a b) := by
  have h8 := h.2.1
  refine ⟨by rw [nP_par]; unfold parR; rw [pU_lo (by decide), pU_lo (by decide)]; exact h.1, by rw [nP_par]; exact h8, fun p hp => ?_⟩
  rw [nP_par] at hp ⊢
  rw [pO_par (by decide), pO_par (by decide), pO_par (by decide), pO_par (by decide)]
  obtain ⟨h1, h2, h3, h4⟩ := h.2.2 p hp
  simp only [show ¬ (0 = 3) by decide, show ¬ (1 = 3) by decide, show ¬ (2 = 3) by decide, and_false, if_false, and_true]
  refine ⟨h1, h2, h3, ?_⟩
  by_cases q : p = b
  · rw [if_pos q]; exact Or.inl rfl
  · rw [if_neg q]
    by_cases q2 : p = a
    · rw [if_pos q2]; exact Or.inl rfl
    · rw [if_neg q2]
      rcases h4 with h4 | ⟨j, hj, h5, h6, h7⟩
      · exact Or.inl h4
      · refine Or.inr ⟨j, hj, h5, h6, ?_⟩
        have n1 : j ≠ b := fun e => by
          rw [e] at h7
          have := h.sym (a := b) (c := a) hb ha eab
          rw [this] at h7
          exact q2 (eq_nI h7 (by omega) (by omega)).symm
        have n2 : j ≠ a := fun e => by
          rw [e, eab] at h7
          exact q (eq_nI h7 (by omega) (by omega)).symm
        rw [pO_par (by decide), if_neg (fun z => n1 z.1), if_neg (fun z => n2 z.1)]
        exact h7
theorem VK.kid {r : Rw} (h : VK r) {i : Nat} (hi : i < nP r) {x : Int32} (hx : x = -1 ∨ ∃ j, j < i ∧ x = nI j) : VK (pU r i 2 x) := by
  refine ⟨by rw [nP_pU, pU_lo (by decide)]; exact h.1, by rw [nP_pU]; exact h.2.1, fun p hp => ?_⟩
  rw [nP_pU] at hp ⊢
  rw [pO_pU (by decide) (by decide), pO_pU (by decide) (by decide), pO_pU (by decide) (by decide), pO_pU (by decide) (by decide)]
  obtain ⟨h1, h2, h3, h4⟩ := h.2.2 p hp
  simp only [show ¬ (0 = 2) by decide, show ¬ (1 = 2) by decide, show ¬ (3 = 2) by decide, and_false, if_false, and_true]
  refine ⟨h1, h2, ?_, ?_⟩
  · by_cases q : p = i
    · subst q; rw [if_pos rfl]; exact hx
    · rw [if_neg q]; exact h3
  · rcases h4 with h4 | ⟨j, hj, h5, h6, h7⟩
    · exact Or.inl h4
    · exact Or.inr ⟨j, hj, h5, h6, by rw [pO_pU (by decide) (by decide), if_neg (fun z => by omega)]; exact h7⟩
theorem cntB_t {f : Nat → Bool} {n : Nat} (h : f n = true) : cntB f (n + 1) = cntB f n + 1 := by show _ + _ = _; rw [if_pos h]
theorem cntB_f {f : Nat → Bool} {n : Nat} (h : f n = false) : cntB f (n + 1) = cntB f n := by show _ + _ = _; rw [if_neg (by rw [h]; decide)]; rfl
theorem kin1 {σ : z_M} {r : Rw} : KinR σ 1 r ↔ σ 2 0 = r 2 ∧ ∀ p, p < nP r → σ 3 p = pO r p 0 ∧ σ 4 p = pO r p 1 ∧ σ 5 p = pO r p 2 ∧ σ 6 p = pO r p 3 := Iff.rfl
theorem KinR.ms {σ σ' : z_M} {r : Rw} {G : List Nat} (h : KinR σ 1 r) (hs : MS G σ σ') (h2 : 2 ∉ G ∧ 3 ∉ G ∧ 4 ∉ G ∧ 5 ∉ G ∧ 6 ∉ G) : KinR σ' 1 r := by
  refine ⟨by rw [hs _ h2.1]; exact h.1, fun p hp => ?_⟩
  rw [hs _ h2.2.1, hs _ h2.2.2.1, hs _ h2.2.2.2.1, hs _ h2.2.2.2.2]
  exact h.2 p hp
theorem MeaR.ms {σ σ' : z_M} {r : Rw} {G : List Nat} (h : MeaR σ 1 r) (hs : MS G σ σ') (h2 : 7 ∉ G) : MeaR σ' 1 r := by
  intro i j hi hj
  rw [hs _ h2]; exact h i j hi hj
set_option maxHeartbeats 400000 in
set_option maxRecDepth 10000 in
theorem kX1_isSet {l : Launch} {E : z_E} (σ : z_M) (x : Int32) : z_C l E shC 0 yX1_isSet cX1_isSet 2 (some FieldType.boolean) [.ref (z_ad E 2), .int x] σ (z_Pp (bI (0 ≤ x ∧ x < (1 : Int32) <<< (σ 2 0 &&& 31))) σ) := by
  refine z_intro iX1_isSet (Nat.le_of_ble_eq_true rfl) (fun K F => ?_)
  refine z_iload_n F dX1_isSet_0 1 rfl 1 rfl ?_
  refine z_if_lt F dX1_isSet_1 18 (by decide) 4 rfl (fun h1 => ?_) (fun h1 => ?_)
  · skip
    refine z_iconst F dX1_isSet_18 0 (by decide) 19 rfl ?_
    refine z_rpz F dX1_isSet_19 (by first | rfl | exact bIn) ?_ rfl
    first | (refine (bI_t ?_).symm; simp only [Int32.lt_iff_toInt_lt, Int32.le_iff_toInt_le, ← Int32.toInt_inj, Int32.reduceToInt] at *; omega) | (refine (bI_f ?_).symm; simp only [Int32.lt_iff_toInt_lt, Int32.le_iff_toInt_le, ← Int32.toInt_inj, Int32.reduceToInt] at *; omega)
  · skip
    refine z_iload_n F dX1_isSet_4 1 rfl 5 rfl ?_
    refine z_iconst F dX1_isSet_5 1 (by decide) 6 rfl ?_
    refine z_aload_n F dX1_isSet_6 0 rfl 7 rfl ?_
    refine z_getI F zc1 dX1_isSet_7 rfl 0 (by decide) (by decide) (.inl m_109) rfl 10 rfl ?_
    refine z_ishl F dX1_isSet_10 11 rfl ?_
    refine z_icmp_ge F dX1_isSet_11 18 (by decide) 14 rfl (fun h11 => ?_) (fun h11 => ?_)
    · skip
      refine z_iconst F dX1_isSet_18 0 (by decide) 19 rfl ?_
      refine z_rpz F dX1_isSet_19 (by first | rfl | exact bIn) ?_ rfl
      first | (refine (bI_t ?_).symm; simp only [Int32.lt_iff_toInt_lt, Int32.le_iff_toInt_le, ← Int32.toInt_inj, Int32.reduceToInt] at *; omega) | (refine (bI_f ?_).symm; simp only [Int32.lt_iff_toInt_lt, Int32.le_iff_toInt_le, ← Int32.toInt_inj, Int32.reduceToInt] at *; omega)
    · skip
      refine z_iconst F dX1_isSet_14 1 (by decide) 15 rfl ?_
      refine z_goto F dX1_isSet_15 19 (by decide) ?_
      refine z_rpz F dX1_isSet_19 (by first | rfl | exact bIn) ?_ rfl
      first | (refine (bI_t ?_).symm; simp only [Int32.lt_iff_toInt_lt, Int32.le_iff_toInt_le, ← Int32.toInt_inj, Int32.reduceToInt] at *; omega) | (refine (bI_f ?_).symm; simp only [Int32.lt_iff_toInt_lt, Int32.le_iff_toInt_le, ← Int32.toInt_inj, Int32.reduceToInt] at *; omega)
set_option maxHeartbeats 400000 in
set_option maxRecDepth 10000 in
theorem kX1_giveParent {l : Launch} {E : z_E} (σ : z_M) {r : Rw} (hK : KinR σ 1 r) (hV : VK r) {i : Nat} (hi : i < nP r) {x : Int32} (hx : x = -1 ∨ ∃ j, j < i ∧ x = nI j) : z_C l E shC 3 yX1_giveParent cX1_giveParent 3 none [.ref (z_ad E 2), .int (nI i), .int x] σ (z_Pv (fun σ' => MS [5, 7] σ σ' ∧ KinR σ' 1 (pU r i 2 x) ∧ MeaR σ' 1 (pU r i 2 x))) := by
  refine z_intro iX1_giveParent (Nat.le_of_ble_eq_true rfl) (fun K F => ?_)
  have h8 := hV.2.1
  have hK1 : KinR (z_u2 σ 5 i x) 1 (pU r i 2 x) := by
    refine kin1.mpr ⟨by rw [u2_o (by decide), pU_lo (by decide)]; exact hK.1, fun p hp => ?_⟩
    rw [nP_pU] at hp
    rw [pO_pU (by decide) (by decide), pO_pU (by decide) (by decide), pO_pU (by decide) (by decide), pO_pU (by decide) (by decide), u2_o (by decide), u2_o (by decide), u2_at, u2_o (by decide)]
    obtain ⟨h1, h2, h3, h4⟩ := (kin1.mp hK).2 p hp
    simp only [show ¬ (0 = 2) by decide, show ¬ (1 = 2) by decide, show ¬ (3 = 2) by decide, and_false, if_false, and_true, true_and, h1, h2, h3, h4]
  refine z_aload_n F dX1_giveParent_0 0 rfl 1 rfl ?_
  refine z_getR F zc1 dX1_giveParent_1 rfl 3 (by decide) (by decide) (.inl m_118) rfl (by decide) 4 rfl ?_
  refine z_iload_n F dX1_giveParent_4 1 rfl 5 rfl ?_
  refine z_iload_n F dX1_giveParent_5 2 rfl 6 rfl ?_
  refine z_iast F dX1_giveParent_6 rfl (vp_in_nI (by omega) (by decide)) 7 rfl ?_
  rw [nI_clamp (by omega)]
  refine z_aload_n F dX1_giveParent_7 0 rfl 8 rfl ?_
  refine z_callVv F dX1_giveParent_8 m_343 iX1_measure jX1_measure rfl zc1 rfl (kX1_measure _ hK1 (hV.kid hi hx)) rfl (by decide) (Nat.le_of_ble_eq_true rfl) 11 rfl (fun s8 c8 => ?_)
  refine z_rv F dX1_giveParent_11 ?_
  exact ⟨((MS.rf.u2 (by decide)).tr (c8.1.sub (fun o ho => List.mem_cons_of_mem _ ho))), hK1.ms c8.1 (by decide), c8.2⟩
set_option maxHeartbeats 400000 in
set_option maxRecDepth 10000 in
theorem kX1_add {l : Launch} {E : z_E} (σ : z_M) {r : Rw} (hK : KinR σ 1 r) (hV : VK r) (hn : nP r < 8) {k m : Nat} {par : Int32} (hk : k ≤ 6) (hm : m ≤ 9) (hp : par = -1 ∨ ∃ j, j < nP r ∧ par = nI j) : z_C l E shC 3 yX1_add cX1_add 5 (some FieldType.int) [.ref (z_ad E 2), .int (nI k), .int (nI m), .int par] σ (z_Pi (fun x σ' => x = nI (nP r) ∧ MS [2, 3, 4, 5, 6, 7] σ σ' ∧ KinR σ' 1 (addR r (nI k) (nI m) par) ∧ MeaR σ' 1 (addR r (nI k) (nI m) par))) := by
  refine z_intro iX1_add (Nat.le_of_ble_eq_true rfl) (fun K F => ?_)
  have h8 := hV.2.1
  have hc : σ 2 0 = nI (nP r) := hK.1.trans hV.1
  have hK1 : KinR (z_u2 (z_u2 (z_u2 (z_u2 (z_u2 σ 3 (nP r) (nI k)) 4 (nP r) (nI m)) 5 (nP r) par) 6 (nP r) (-1)) 2 0 (nI (nP r) + 1)) 1 (addR r (nI k) (nI m) par) := by
    refine kin1.mpr ⟨by rw [u2_same, add2, hV.1], fun p hp => ?_⟩
    rw [nP_add hV] at hp
    rw [pO_add (by decide), pO_add (by decide), pO_add (by decide), pO_add (by decide)]
    simp only [u2_at, show ¬ (3 = 2) by decide, show ¬ (4 = 2) by decide, show ¬ (5 = 2) by decide, show ¬ (6 = 2) by decide, show ¬ (3 = 6) by decide, show ¬ (4 = 6) by decide, show ¬ (5 = 6) by decide, show ¬ (3 = 5) by decide, show ¬ (4 = 5) by decide, show ¬ (3 = 4) by decide, show ¬ (6 = 5) by decide, show ¬ (6 = 4) by decide, show ¬ (6 = 3) by decide, show ¬ (5 = 4) by decide, show ¬ (5 = 3) by decide, show ¬ (4 = 3) by decide, false_and, if_false, true_and]
    by_cases q : p = nP r
    · simp [q]
    · simp only [q, if_false]
      exact (kin1.mp hK).2 p (by omega)
  refine z_aload_n F dX1_add_0 0 rfl 1 rfl ?_
  refine z_getI F zc1 dX1_add_1 rfl 0 (by decide) (by decide) (.inl m_109) rfl 4 rfl ?_
  rw [hc]
  refine z_istore F dX1_add_4 [(0, _), (1, _), (2, _), (3, _), (4, _)] rfl (by decide) 6 rfl ?_
  refine z_aload_n F dX1_add_6 0 rfl 7 rfl ?_
  refine z_getR F zc1 dX1_add_7 rfl 1 (by decide) (by decide) (.inl m_112) rfl (by decide) 10 rfl ?_
  refine z_iload F dX1_add_10 4 rfl 12 rfl ?_
  refine z_iload_n F dX1_add_12 1 rfl 13 rfl ?_
  refine z_iast F dX1_add_13 rfl (vp_in_nI (by omega) (by decide)) 14 rfl ?_
  refine z_aload_n F dX1_add_14 0 rfl 15 rfl ?_
  refine z_getR F zc1 dX1_add_15 rfl 2 (by decide) (by decide) (.inl m_115) rfl (by decide) 18 rfl ?_
  refine z_iload F dX1_add_18 4 rfl 20 rfl ?_
  refine z_iload_n F dX1_add_20 2 rfl 21 rfl ?_
  refine z_iast F dX1_add_21 rfl (vp_in_nI (by omega) (by decide)) 22 rfl ?_
  refine z_aload_n F dX1_add_22 0 rfl 23 rfl ?_
  refine z_getR F zc1 dX1_add_23 rfl 3 (by decide) (by decide) (.inl m_118) rfl (by decide) 26 rfl ?_
  refine z_iload F dX1_add_26 4 rfl 28 rfl ?_
  refine z_iload_n F dX1_add_28 3 rfl 29 rfl ?_
  refine z_iast F dX1_add_29 rfl (vp_in_nI (by omega) (by decide)) 30 rfl ?_
  refine z_aload_n F dX1_add_30 0 rfl 31 rfl ?_
  refine z_getR F zc1 dX1_add_31 rfl 4 (by decide) (by decide) (.inl m_121) rfl (by decide) 34 rfl ?_
  refine z_iload F dX1_add_34 4 rfl 36 rfl ?_
  refine z_iconst F dX1_add_36 (-1) (by decide) 37 rfl ?_
  refine z_iast F dX1_add_37 rfl (vp_in_nI (by omega) (by decide)) 38 rfl ?_
  rw [nI_clamp (by omega)]
  refine z_aload_n F dX1_add_38 0 rfl 39 rfl ?_
  refine z_dup F dX1_add_39 rfl 40 rfl ?_
  refine z_getI F zc1 dX1_add_40 rfl 0 (by decide) (by decide) (.inl m_109) rfl 43 rfl ?_
  rw [u2_o (by decide), u2_o (by decide), u2_o (by decide), u2_o (by decide), hc]
  refine z_iconst F dX1_add_43 1 (by decide) 44 rfl ?_
  refine z_iadd F dX1_add_44 45 rfl ?_
  refine z_putI F zc1 dX1_add_45 rfl 0 (by decide) (by decide) (.inl m_109) rfl rfl z_pI 48 rfl ?_
  refine z_aload_n F dX1_add_48 0 rfl 49 rfl ?_
  refine z_callVv F dX1_add_49 m_343 iX1_measure jX1_measure rfl zc1 rfl (kX1_measure _ hK1 (hV.add hn hk hm hp)) rfl (by decide) (Nat.le_of_ble_eq_true rfl) 52 rfl (fun s49 c49 => ?_)
  refine z_iload F dX1_add_52 4 rfl 54 rfl ?_
  refine z_ri F dX1_add_54 ?_
  exact ⟨rfl, (((((MS.rf.u2 (by decide)).u2 (by decide)).u2 (by decide)).u2 (by decide)).u2 (by decide)).tr (c49.1.sub (fun o ho => by simp at ho; subst ho; decide)), hK1.ms c49.1 (by decide), c49.2⟩
set_option maxHeartbeats 400000 in
set_option maxRecDepth 10000 in
theorem kX1_join {l : Launch} {E : z_E} (σ : z_M) {r : Rw} (hK : KinR σ 1 r) (hV : VK r) {a b : Nat} (ha : a < nP r) (hb : b < nP r) (hab : a ≠ b) (fa : pO r a 3 < 0) (fb : pO r b 3 < 0) : z_C l E shC 3 yX1_join cX1_join 3 none [.ref (z_ad E 2), .int (nI a), .int (nI b)] σ (z_Pv (fun σ' => MS [6, 7] σ σ' ∧ KinR σ' 1 (wedR r a b) ∧ MeaR σ' 1 (wedR r a b))) := by
  refine z_intro iX1_join (Nat.le_of_ble_eq_true rfl) (fun K F => ?_)
  have h8 := hV.2.1
  have hK1 : KinR (z_u2 (z_u2 σ 6 a (nI b)) 6 b (nI a)) 1 (wedR r a b) := by
    refine kin1.mpr ⟨by rw [u2_o (by decide), u2_o (by decide)]; unfold wedR; rw [pU_lo (by decide), pU_lo (by decide)]; exact hK.1, fun p hp => ?_⟩
    rw [nP_wed] at hp
    rw [pO_wed (by decide), pO_wed (by decide), pO_wed (by decide), pO_wed (by decide), u2_o (by decide), u2_o (by decide), u2_o (by decide), u2_o (by decide), u2_o (by decide), u2_o (by decide), u2_at, u2_at]
    obtain ⟨h1, h2, h3, h4⟩ := (kin1.mp hK).2 p hp
    simp only [show ¬ (0 = 3) by decide, show ¬ (1 = 3) by decide, show ¬ (2 = 3) by decide, and_false, if_false, and_true, true_and, h1, h2, h3, h4]
  refine z_aload_n F dX1_join_0 0 rfl 1 rfl ?_
  refine z_getR F zc1 dX1_join_1 rfl 4 (by decide) (by decide) (.inl m_121) rfl (by decide) 4 rfl ?_
  refine z_iload_n F dX1_join_4 1 rfl 5 rfl ?_
  refine z_iload_n F dX1_join_5 2 rfl 6 rfl ?_
  refine z_iast F dX1_join_6 rfl (vp_in_nI (by omega) (by decide)) 7 rfl ?_
  rw [nI_clamp (by omega)]
  refine z_aload_n F dX1_join_7 0 rfl 8 rfl ?_
  refine z_getR F zc1 dX1_join_8 rfl 4 (by decide) (by decide) (.inl m_121) rfl (by decide) 11 rfl ?_
  refine z_iload_n F dX1_join_11 2 rfl 12 rfl ?_
  refine z_iload_n F dX1_join_12 1 rfl 13 rfl ?_
  refine z_iast F dX1_join_13 rfl (vp_in_nI (by omega) (by decide)) 14 rfl ?_
  rw [nI_clamp (by omega)]
  refine z_aload_n F dX1_join_14 0 rfl 15 rfl ?_
  refine z_callVv F dX1_join_15 m_343 iX1_measure jX1_measure rfl zc1 rfl (kX1_measure _ hK1 (hV.wed ha hb hab fa fb)) rfl (by decide) (Nat.le_of_ble_eq_true rfl) 18 rfl (fun s15 c15 => ?_)
  refine z_rv F dX1_join_18 ?_
  exact ⟨((MS.rf.u2 (by decide)).u2 (by decide)).tr (c15.1.sub (fun o ho => by simp at ho; subst ho; decide)), hK1.ms c15.1 (by decide), c15.2⟩
set_option maxHeartbeats 400000 in
set_option maxRecDepth 10000 in
theorem kX1_part {l : Launch} {E : z_E} (σ : z_M) {r : Rw} (hK : KinR σ 1 r) (hV : VK r) {a b : Nat} (ha : a < nP r) (hb : b < nP r) (eab : pO r a 3 = nI b) : z_C l E shC 3 yX1_part cX1_part 3 none [.ref (z_ad E 2), .int (nI a), .int (nI b)] σ (z_Pv (fun σ' => MS [6, 7] σ σ' ∧ KinR σ' 1 (parR r a b) ∧ MeaR σ' 1 (parR r a b))) := by
  refine z_intro iX1_part (Nat.le_of_ble_eq_true rfl) (fun K F => ?_)
  have h8 := hV.2.1
  have hK1 : KinR (z_u2 (z_u2 σ 6 a (-1)) 6 b (-1)) 1 (parR r a b) := by
    refine kin1.mpr ⟨by rw [u2_o (by decide), u2_o (by decide)]; unfold parR; rw [pU_lo (by decide), pU_lo (by decide)]; exact hK.1, fun p hp => ?_⟩
    rw [nP_par] at hp
    rw [pO_par (by decide), pO_par (by decide), pO_par (by decide), pO_par (by decide), u2_o (by decide), u2_o (by decide), u2_o (by decide), u2_o (by decide), u2_o (by decide), u2_o (by decide), u2_at, u2_at]
    obtain ⟨h1, h2, h3, h4⟩ := (kin1.mp hK).2 p hp
    simp only [show ¬ (0 = 3) by decide, show ¬ (1 = 3) by decide, show ¬ (2 = 3) by decide, and_false, if_false, and_true, true_and, h1, h2, h3, h4]
  refine z_aload_n F dX1_part_0 0 rfl 1 rfl ?_
  refine z_getR F zc1 dX1_part_1 rfl 4 (by decide) (by decide) (.inl m_121) rfl (by decide) 4 rfl ?_
  refine z_iload_n F dX1_part_4 1 rfl 5 rfl ?_
  refine z_iconst F dX1_part_5 (-1) (by decide) 6 rfl ?_
  refine z_iast F dX1_part_6 rfl (vp_in_nI (by omega) (by decide)) 7 rfl ?_
  rw [nI_clamp (by omega)]
  refine z_aload_n F dX1_part_7 0 rfl 8 rfl ?_
  refine z_getR F zc1 dX1_part_8 rfl 4 (by decide) (by decide) (.inl m_121) rfl (by decide) 11 rfl ?_
  refine z_iload_n F dX1_part_11 2 rfl 12 rfl ?_
  refine z_iconst F dX1_part_12 (-1) (by decide) 13 rfl ?_
  refine z_iast F dX1_part_13 rfl (vp_in_nI (by omega) (by decide)) 14 rfl ?_
  rw [nI_clamp (by omega)]
  refine z_aload_n F dX1_part_14 0 rfl 15 rfl ?_
  refine z_callVv F dX1_part_15 m_343 iX1_measure jX1_measure rfl zc1 rfl (kX1_measure _ hK1 (hV.prt ha hb eab)) rfl (by decide) (Nat.le_of_ble_eq_true rfl) 18 rfl (fun s15 c15 => ?_)
  refine z_rv F dX1_part_18 ?_
  exact ⟨((MS.rf.u2 (by decide)).u2 (by decide)).tr (c15.1.sub (fun o ho => by simp at ho; subst ho; decide)), hK1.ms c15.1 (by decide), c15.2⟩
set_option maxHeartbeats 400000 in
set_option maxRecDepth 10000 in
theorem kX1_nearTo {l : Launch} {E : z_E} (σ : z_M) {r : Rw} (hK : KinR σ 1 r) (hV : VK r) (hM : MeaR σ 1 r) {i : Nat} (hi : i < nP r) : z_C l E shC 1 yX1_nearTo cX1_nearTo 4 (some FieldType.int) [.ref (z_ad E 2), .int (nI i)] σ (z_Pp (nI (nearN r i)) σ) := by
  refine z_intro iX1_nearTo (Nat.le_of_ble_eq_true rfl) (fun K F => ?_)
  have h8 := hV.2.1
  have hc : σ 2 0 = nI (nP r) := hK.1.trans hV.1
  have loop4 : ∀ (f : Nat) (j c : Nat) (_ : 8 < j + f) (_ : j ≤ nP r) (_ : c = cntB (fun b => b != i && adj r i b) j), z_X l K E shC 1 4 (z_Pp (nI (nearN r i)) σ) 4 [(0, .ref (z_ad E 2)), (1, .int (nI i)), (2, .int (nI c)), (3, .int (nI j))] [] σ := by
    intro f
    induction f with
    | zero =>
      intro j c hf hj hct
      omega
    | succ f ih =>
      intro j c hf hj hct
      refine z_iload_n F dX1_nearTo_4 3 rfl 5 rfl ?_
      refine z_aload_n F dX1_nearTo_5 0 rfl 6 rfl ?_
      refine z_getI F zc1 dX1_nearTo_6 rfl 0 (by decide) (by decide) (.inl m_109) rfl 9 rfl ?_
      refine z_icmp_ge F dX1_nearTo_9 31 (by decide) 12 rfl (fun h9 => ?_) (fun h9 => ?_)
      · skip
        refine z_iload_n F dX1_nearTo_31 2 rfl 32 rfl ?_
        refine z_rp F dX1_nearTo_32 ?_ rfl
        have hjn : j = nP r := by have := le_nI (hc ▸ h9) (by omega) (by omega); omega
        subst hjn; rw [hct]; rfl
      · skip
        have hjn : j < nP r := nle_nI (hc ▸ h9) (by omega) (by omega)
        have nd := near_d hV (b := j) hi
        have d40 : dS r i j ≤ 40 := dst_le _ _ _ _
        refine z_aload_n F dX1_nearTo_12 0 rfl 13 rfl ?_
        refine z_iload_n F dX1_nearTo_13 1 rfl 14 rfl ?_
        refine z_iload_n F dX1_nearTo_14 3 rfl 15 rfl ?_
        refine z_callVp F dX1_nearTo_15 m_359 iX1_between jX1_between rfl zc1 rfl (kX1_between σ (i := i) (j := j) (by omega) (by have := nle_nI (hc ▸ h9) (by omega) (by omega); omega)) rfl (by decide) (Nat.le_of_ble_eq_true rfl) 18 rfl ?_
        rw [show σ 7 (i * 8 + j) = nI (dS r i j) from hM i j hi hjn]
        refine z_iconst F dX1_nearTo_18 1 (by decide) 19 rfl ?_
        refine z_icmp_ne F dX1_nearTo_19 25 (by decide) 22 rfl (fun h19 => ?_) (fun h19 => ?_)
        · skip
          refine z_iinc F dX1_nearTo_25 3 rfl 1 (by decide) [(0, _), (1, _), (2, _), (3, _)] rfl (by decide) 28 rfl ?_
          refine z_goto F dX1_nearTo_28 4 (by decide) ?_
          simp only [nI_1]
          first
            | exact ih (j + 1) (c + 1) (by omega) (by omega) (by rw [cntB_t (f := fun b => b != i && adj r i b) (nd.symm.trans (decide_eq_true (eq_nI (h19 : nI (dS r i j) = nI 1) (by omega) (by decide)))), hct])
            | exact ih (j + 1) c (by omega) (by omega) (by rw [cntB_f (f := fun b => b != i && adj r i b) (nd.symm.trans (decide_eq_false (fun z => h19 (by rw [z]; rfl)))), hct])
        · skip
          refine z_iinc F dX1_nearTo_22 2 rfl 1 (by decide) [(0, _), (1, _), (2, _), (3, _)] rfl (by decide) 25 rfl ?_
          refine z_iinc F dX1_nearTo_25 3 rfl 1 (by decide) [(0, _), (1, _), (2, _), (3, _)] rfl (by decide) 28 rfl ?_
          refine z_goto F dX1_nearTo_28 4 (by decide) ?_
          simp only [nI_1]
          first
            | exact ih (j + 1) (c + 1) (by omega) (by omega) (by rw [cntB_t (f := fun b => b != i && adj r i b) (nd.symm.trans (decide_eq_true (eq_nI (h19 : nI (dS r i j) = nI 1) (by omega) (by decide)))), hct])
            | exact ih (j + 1) c (by omega) (by omega) (by rw [cntB_f (f := fun b => b != i && adj r i b) (nd.symm.trans (decide_eq_false (fun z => h19 (by rw [z]; rfl)))), hct])
  refine z_iconst F dX1_nearTo_0 0 (by decide) 1 rfl ?_
  refine z_istore_n F dX1_nearTo_1 [(0, _), (1, _), (2, _)] rfl (by decide) 2 rfl ?_
  refine z_iconst F dX1_nearTo_2 0 (by decide) 3 rfl ?_
  refine z_istore_n F dX1_nearTo_3 [(0, _), (1, _), (2, _), (3, _)] rfl (by decide) 4 rfl ?_
  exact loop4 9 0 0 (by omega) (by omega) rfl
set_option maxHeartbeats 400000 in
set_option maxRecDepth 10000 in
theorem kX1_byMarriage {l : Launch} {E : z_E} (σ : z_M) {r : Rw} (hK : KinR σ 1 r) (hV : VK r) (hM : MeaR σ 1 r) {i j a b : Nat} (hi : i < nP r) (hj : j < nP r) (ha : a < nP r) (hb : b < nP r) : z_C l E shC 1 yX1_byMarriage cX1_byMarriage 7 (some FieldType.int) [.ref (z_ad E 2), .int (nI i), .int (nI j), .int (nI a), .int (nI b)] σ (z_Pp (nI (dadd (dS r) a b i j)) σ) := by
  refine z_intro iX1_byMarriage (Nat.le_of_ble_eq_true rfl) (fun K F => ?_)
  have h8 := hV.2.1
  have d1 := dst_le (nP r) (adj r) i a
  have d2 := dst_le (nP r) (adj r) b j
  have d3 := dst_le (nP r) (adj r) i b
  have d4 := dst_le (nP r) (adj r) a j
  have d5 := dst_le (nP r) (adj r) i j
  refine z_aload_n F dX1_byMarriage_0 0 rfl 1 rfl ?_
  refine z_iload_n F dX1_byMarriage_1 1 rfl 2 rfl ?_
  refine z_iload_n F dX1_byMarriage_2 3 rfl 3 rfl ?_
  refine z_callVp F dX1_byMarriage_3 m_359 iX1_between jX1_between rfl zc1 rfl (kX1_between σ (i := i) (j := a) (by omega) (by omega)) rfl (by decide) (Nat.le_of_ble_eq_true rfl) 6 rfl ?_
  rw [show σ 7 (i * 8 + a) = nI (dS r i a) from hM i a hi ha]
  refine z_iconst F dX1_byMarriage_6 1 (by decide) 7 rfl ?_
  refine z_iadd F dX1_byMarriage_7 8 rfl ?_
  rw [nI_1]
  refine z_aload_n F dX1_byMarriage_8 0 rfl 9 rfl ?_
  refine z_iload F dX1_byMarriage_9 4 rfl 11 rfl ?_
  refine z_iload_n F dX1_byMarriage_11 2 rfl 12 rfl ?_
  refine z_callVp F dX1_byMarriage_12 m_359 iX1_between jX1_between rfl zc1 rfl (kX1_between σ (i := b) (j := j) (by omega) (by omega)) rfl (by decide) (Nat.le_of_ble_eq_true rfl) 15 rfl ?_
  rw [show σ 7 (b * 8 + j) = nI (dS r b j) from hM b j hb hj]
  refine z_iadd F dX1_byMarriage_15 16 rfl ?_
  rw [nI_add]
  refine z_istore F dX1_byMarriage_16 [(0, _), (1, _), (2, _), (3, _), (4, _), (5, _)] rfl (by decide) 18 rfl ?_
  refine z_aload_n F dX1_byMarriage_18 0 rfl 19 rfl ?_
  refine z_iload_n F dX1_byMarriage_19 1 rfl 20 rfl ?_
  refine z_iload F dX1_byMarriage_20 4 rfl 22 rfl ?_
  refine z_callVp F dX1_byMarriage_22 m_359 iX1_between jX1_between rfl zc1 rfl (kX1_between σ (i := i) (j := b) (by omega) (by omega)) rfl (by decide) (Nat.le_of_ble_eq_true rfl) 25 rfl ?_
  rw [show σ 7 (i * 8 + b) = nI (dS r i b) from hM i b hi hb]
  refine z_iconst F dX1_byMarriage_25 1 (by decide) 26 rfl ?_
  refine z_iadd F dX1_byMarriage_26 27 rfl ?_
  rw [nI_1]
  refine z_aload_n F dX1_byMarriage_27 0 rfl 28 rfl ?_
  refine z_iload_n F dX1_byMarriage_28 3 rfl 29 rfl ?_
  refine z_iload_n F dX1_byMarriage_29 2 rfl 30 rfl ?_
  refine z_callVp F dX1_byMarriage_30 m_359 iX1_between jX1_between rfl zc1 rfl (kX1_between σ (i := a) (j := j) (by omega) (by omega)) rfl (by decide) (Nat.le_of_ble_eq_true rfl) 33 rfl ?_
  rw [show σ 7 (a * 8 + j) = nI (dS r a j) from hM a j ha hj]
  refine z_iadd F dX1_byMarriage_33 34 rfl ?_
  rw [nI_add]
  refine z_istore F dX1_byMarriage_34 [(0, _), (1, _), (2, _), (3, _), (4, _), (5, _), (6, _)] rfl (by decide) 36 rfl ?_
  refine z_aload_n F dX1_byMarriage_36 0 rfl 37 rfl ?_
  refine z_iload_n F dX1_byMarriage_37 1 rfl 38 rfl ?_
  refine z_iload_n F dX1_byMarriage_38 2 rfl 39 rfl ?_
  refine z_callVp F dX1_byMarriage_39 m_359 iX1_between jX1_between rfl zc1 rfl (kX1_between σ (i := i) (j := j) (by omega) (by omega)) rfl (by decide) (Nat.le_of_ble_eq_true rfl) 42 rfl ?_
  rw [show σ 7 (i * 8 + j) = nI (dS r i j) from hM i j hi hj]
  refine z_iload F dX1_byMarriage_42 5 rfl 44 rfl ?_
  refine z_iload F dX1_byMarriage_44 6 rfl 46 rfl ?_
  refine z_min F dX1_byMarriage_46 m_363 m_364 m_76 m_365 (by decide) (Nat.le_of_ble_eq_true rfl) 49 rfl ?_
  rw [min_nI (by unfold dS; omega) (by unfold dS; omega)]
  refine z_min F dX1_byMarriage_49 m_363 m_364 m_76 m_365 (by decide) (Nat.le_of_ble_eq_true rfl) 52 rfl ?_
  rw [min_nI (by unfold dS; omega) (by unfold dS; omega)]
  refine z_rp F dX1_byMarriage_52 ?_ rfl
  congr 1; try (unfold dadd; omega)
set_option maxHeartbeats 400000 in
set_option maxRecDepth 10000 in
theorem kX1_copyA {l : Launch} {E : z_E} (σ : z_M)  : z_C l E shC 2 yX1_copy cX1_copy 2 none [.ref (z_ad E 2), .ref (z_ad E 26)] σ (z_Pv (fun σ' => MS [2, 3, 4, 5, 6, 7] σ σ' ∧ σ' 2 0 = σ 26 0 ∧ (∀ k, k < 8 → σ' 3 k = σ 27 k ∧ σ' 4 k = σ 28 k ∧ σ' 5 k = σ 29 k ∧ σ' 6 k = σ 30 k) ∧ ∀ k, k < 64 → σ' 7 k = σ 31 k)) := by
  refine z_intro iX1_copy (Nat.le_of_ble_eq_true rfl) (fun K F => ?_)
  refine z_aload_n F dX1_copy_0 0 rfl 1 rfl ?_
  refine z_aload_n F dX1_copy_1 1 rfl 2 rfl ?_
  refine z_getI F zc1 dX1_copy_2 rfl 0 (by decide) (by decide) (.inl m_109) rfl 5 rfl ?_
  refine z_putI F zc1 dX1_copy_5 rfl 0 (by decide) (by decide) (.inl m_109) rfl rfl z_pI 8 rfl ?_
  refine z_aload_n F dX1_copy_8 1 rfl 9 rfl ?_
  refine z_getR F zc1 dX1_copy_9 rfl 1 (by decide) (by decide) (.inl m_112) rfl (by decide) 12 rfl ?_
  refine z_iconst F dX1_copy_12 0 (by decide) 13 rfl ?_
  refine z_aload_n F dX1_copy_13 0 rfl 14 rfl ?_
  refine z_getR F zc1 dX1_copy_14 rfl 1 (by decide) (by decide) (.inl m_112) rfl (by decide) 17 rfl ?_
  refine z_iconst F dX1_copy_17 0 (by decide) 18 rfl ?_
  refine z_bipush F dX1_copy_18 8 (by decide) 20 rfl ?_
  refine z_copyi F dX1_copy_20 m_900 m_639 m_638 m_87 rfl rfl (by decide) (by decide) (by decide) (by decide) (by decide) (by decide) (Nat.le_of_ble_eq_true rfl) 23 rfl ?_
  refine z_aload_n F dX1_copy_23 1 rfl 24 rfl ?_
  refine z_getR F zc1 dX1_copy_24 rfl 2 (by decide) (by decide) (.inl m_115) rfl (by decide) 27 rfl ?_
  refine z_iconst F dX1_copy_27 0 (by decide) 28 rfl ?_
  refine z_aload_n F dX1_copy_28 0 rfl 29 rfl ?_
  refine z_getR F zc1 dX1_copy_29 rfl 2 (by decide) (by decide) (.inl m_115) rfl (by decide) 32 rfl ?_
  refine z_iconst F dX1_copy_32 0 (by decide) 33 rfl ?_
  refine z_bipush F dX1_copy_33 8 (by decide) 35 rfl ?_
  refine z_copyi F dX1_copy_35 m_900 m_639 m_638 m_87 rfl rfl (by decide) (by decide) (by decide) (by decide) (by decide) (by decide) (Nat.le_of_ble_eq_true rfl) 38 rfl ?_
  refine z_aload_n F dX1_copy_38 1 rfl 39 rfl ?_
  refine z_getR F zc1 dX1_copy_39 rfl 3 (by decide) (by decide) (.inl m_118) rfl (by decide) 42 rfl ?_
  refine z_iconst F dX1_copy_42 0 (by decide) 43 rfl ?_
  refine z_aload_n F dX1_copy_43 0 rfl 44 rfl ?_
  refine z_getR F zc1 dX1_copy_44 rfl 3 (by decide) (by decide) (.inl m_118) rfl (by decide) 47 rfl ?_
  refine z_iconst F dX1_copy_47 0 (by decide) 48 rfl ?_
  refine z_bipush F dX1_copy_48 8 (by decide) 50 rfl ?_
  refine z_copyi F dX1_copy_50 m_900 m_639 m_638 m_87 rfl rfl (by decide) (by decide) (by decide) (by decide) (by decide) (by decide) (Nat.le_of_ble_eq_true rfl) 53 rfl ?_
  refine z_aload_n F dX1_copy_53 1 rfl 54 rfl ?_
  refine z_getR F zc1 dX1_copy_54 rfl 4 (by decide) (by decide) (.inl m_121) rfl (by decide) 57 rfl ?_
  refine z_iconst F dX1_copy_57 0 (by decide) 58 rfl ?_
  refine z_aload_n F dX1_copy_58 0 rfl 59 rfl ?_
  refine z_getR F zc1 dX1_copy_59 rfl 4 (by decide) (by decide) (.inl m_121) rfl (by decide) 62 rfl ?_
  refine z_iconst F dX1_copy_62 0 (by decide) 63 rfl ?_
  refine z_bipush F dX1_copy_63 8 (by decide) 65 rfl ?_
  refine z_copyi F dX1_copy_65 m_900 m_639 m_638 m_87 rfl rfl (by decide) (by decide) (by decide) (by decide) (by decide) (by decide) (Nat.le_of_ble_eq_true rfl) 68 rfl ?_
  refine z_aload_n F dX1_copy_68 1 rfl 69 rfl ?_
  refine z_getR F zc1 dX1_copy_69 rfl 5 (by decide) (by decide) (.inl m_123) rfl (by decide) 72 rfl ?_
  refine z_iconst F dX1_copy_72 0 (by decide) 73 rfl ?_
  refine z_aload_n F dX1_copy_73 0 rfl 74 rfl ?_
  refine z_getR F zc1 dX1_copy_74 rfl 5 (by decide) (by decide) (.inl m_123) rfl (by decide) 77 rfl ?_
  refine z_iconst F dX1_copy_77 0 (by decide) 78 rfl ?_
  refine z_aload_n F dX1_copy_78 0 rfl 79 rfl ?_
  refine z_getR F zc1 dX1_copy_79 rfl 5 (by decide) (by decide) (.inl m_123) rfl (by decide) 82 rfl ?_
  refine z_alen F dX1_copy_82 rfl 64 (by decide) 83 rfl ?_
  refine z_copyi F dX1_copy_83 m_900 m_639 m_638 m_87 rfl rfl (by decide) (by decide) (by decide) (by decide) (by decide) (by decide) (Nat.le_of_ble_eq_true rfl) 86 rfl ?_
  refine z_rv F dX1_copy_86 ?_
  refine ⟨((((((MS.rf.u2 (by decide)).up (by decide)).up (by decide)).up (by decide)).up (by decide)).up (by decide)), ?_, fun k hk => ?_, fun k hk => ?_⟩
  · simp [z_up, z_u2, upd]
  · simp [z_up, z_u2, upd, pk_cpy_in, hk]
  · simp [z_up, z_u2, upd, pk_cpy_in, hk]
set_option maxHeartbeats 400000 in
set_option maxRecDepth 10000 in
theorem kX1_copyB {l : Launch} {E : z_E} (σ : z_M)  : z_C l E shC 2 yX1_copy cX1_copy 2 none [.ref (z_ad E 26), .ref (z_ad E 2)] σ (z_Pv (fun σ' => MS [26, 27, 28, 29, 30, 31] σ σ' ∧ σ' 26 0 = σ 2 0 ∧ (∀ k, k < 8 → σ' 27 k = σ 3 k ∧ σ' 28 k = σ 4 k ∧ σ' 29 k = σ 5 k ∧ σ' 30 k = σ 6 k) ∧ ∀ k, k < 64 → σ' 31 k = σ 7 k)) := by
  refine z_intro iX1_copy (Nat.le_of_ble_eq_true rfl) (fun K F => ?_)
  refine z_aload_n F dX1_copy_0 0 rfl 1 rfl ?_
  refine z_aload_n F dX1_copy_1 1 rfl 2 rfl ?_
  refine z_getI F zc1 dX1_copy_2 rfl 0 (by decide) (by decide) (.inl m_109) rfl 5 rfl ?_
  refine z_putI F zc1 dX1_copy_5 rfl 0 (by decide) (by decide) (.inl m_109) rfl rfl z_pI 8 rfl ?_
  refine z_aload_n F dX1_copy_8 1 rfl 9 rfl ?_
  refine z_getR F zc1 dX1_copy_9 rfl 1 (by decide) (by decide) (.inl m_112) rfl (by decide) 12 rfl ?_
  refine z_iconst F dX1_copy_12 0 (by decide) 13 rfl ?_
  refine z_aload_n F dX1_copy_13 0 rfl 14 rfl ?_
  refine z_getR F zc1 dX1_copy_14 rfl 1 (by decide) (by decide) (.inl m_112) rfl (by decide) 17 rfl ?_
  refine z_iconst F dX1_copy_17 0 (by decide) 18 rfl ?_
  refine z_bipush F dX1_copy_18 8 (by decide) 20 rfl ?_
  refine z_copyi F dX1_copy_20 m_900 m_639 m_638 m_87 rfl rfl (by decide) (by decide) (by decide) (by decide) (by decide) (by decide) (Nat.le_of_ble_eq_true rfl) 23 rfl ?_
  refine z_aload_n F dX1_copy_23 1 rfl 24 rfl ?_
  refine z_getR F zc1 dX1_copy_24 rfl 2 (by decide) (by decide) (.inl m_115) rfl (by decide) 27 rfl ?_
  refine z_iconst F dX1_copy_27 0 (by decide) 28 rfl ?_
  refine z_aload_n F dX1_copy_28 0 rfl 29 rfl ?_
  refine z_getR F zc1 dX1_copy_29 rfl 2 (by decide) (by decide) (.inl m_115) rfl (by decide) 32 rfl ?_
  refine z_iconst F dX1_copy_32 0 (by decide) 33 rfl ?_
  refine z_bipush F dX1_copy_33 8 (by decide) 35 rfl ?_
  refine z_copyi F dX1_copy_35 m_900 m_639 m_638 m_87 rfl rfl (by decide) (by decide) (by decide) (by decide) (by decide) (by decide) (Nat.le_of_ble_eq_true rfl) 38 rfl ?_
  refine z_aload_n F dX1_copy_38 1 rfl 39 rfl ?_
  refine z_getR F zc1 dX1_copy_39 rfl 3 (by decide) (by decide) (.inl m_118) rfl (by decide) 42 rfl ?_
  refine z_iconst F dX1_copy_42 0 (by decide) 43 rfl ?_
  refine z_aload_n F dX1_copy_43 0 rfl 44 rfl ?_
  refine z_getR F zc1 dX1_copy_44 rfl 3 (by decide) (by decide) (.inl m_118) rfl (by decide) 47 rfl ?_
  refine z_iconst F dX1_copy_47 0 (by decide) 48 rfl ?_
  refine z_bipush F dX1_copy_48 8 (by decide) 50 rfl ?_
  refine z_copyi F dX1_copy_50 m_900 m_639 m_638 m_87 rfl rfl (by decide) (by decide) (by decide) (by decide) (by decide) (by decide) (Nat.le_of_ble_eq_true rfl) 53 rfl ?_
  refine z_aload_n F dX1_copy_53 1 rfl 54 rfl ?_
  refine z_getR F zc1 dX1_copy_54 rfl 4 (by decide) (by decide) (.inl m_121) rfl (by decide) 57 rfl ?_
  refine z_iconst F dX1_copy_57 0 (by decide) 58 rfl ?_
  refine z_aload_n F dX1_copy_58 0 rfl 59 rfl ?_
  refine z_getR F zc1 dX1_copy_59 rfl 4 (by decide) (by decide) (.inl m_121) rfl (by decide) 62 rfl ?_
  refine z_iconst F dX1_copy_62 0 (by decide) 63 rfl ?_
  refine z_bipush F dX1_copy_63 8 (by decide) 65 rfl ?_
  refine z_copyi F dX1_copy_65 m_900 m_639 m_638 m_87 rfl rfl (by decide) (by decide) (by decide) (by decide) (by decide) (by decide) (Nat.le_of_ble_eq_true rfl) 68 rfl ?_
  refine z_aload_n F dX1_copy_68 1 rfl 69 rfl ?_
  refine z_getR F zc1 dX1_copy_69 rfl 5 (by decide) (by decide) (.inl m_123) rfl (by decide) 72 rfl ?_
  refine z_iconst F dX1_copy_72 0 (by decide) 73 rfl ?_
  refine z_aload_n F dX1_copy_73 0 rfl 74 rfl ?_
  refine z_getR F zc1 dX1_copy_74 rfl 5 (by decide) (by decide) (.inl m_123) rfl (by decide) 77 rfl ?_
  refine z_iconst F dX1_copy_77 0 (by decide) 78 rfl ?_
  refine z_aload_n F dX1_copy_78 0 rfl 79 rfl ?_
  refine z_getR F zc1 dX1_copy_79 rfl 5 (by decide) (by decide) (.inl m_123) rfl (by decide) 82 rfl ?_
  refine z_alen F dX1_copy_82 rfl 64 (by decide) 83 rfl ?_
  refine z_copyi F dX1_copy_83 m_900 m_639 m_638 m_87 rfl rfl (by decide) (by decide) (by decide) (by decide) (by decide) (by decide) (Nat.le_of_ble_eq_true rfl) 86 rfl ?_
  refine z_rv F dX1_copy_86 ?_
  refine ⟨((((((MS.rf.u2 (by decide)).up (by decide)).up (by decide)).up (by decide)).up (by decide)).up (by decide)), ?_, fun k hk => ?_, fun k hk => ?_⟩
  · simp [z_up, z_u2, upd]
  · simp [z_up, z_u2, upd, pk_cpy_in, hk]
  · simp [z_up, z_u2, upd, pk_cpy_in, hk]
