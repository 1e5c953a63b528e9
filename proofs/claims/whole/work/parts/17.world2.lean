/-! World: odds, fits, draws, images; Kin: the marriage that brings two nearest -/
def allB (f : Nat → Bool) : Nat → Bool
  | 0 => true
  | n + 1 => allB f n && f n
def thruN (r : Rw) (i : Nat) : Nat := cntB (fun o => o != i && decide (veilS r o i ≤ sightS r i)) (nP r)
/-- whether one lets down so many as g tells, q numbers -/
def soB (r : Rw) (i : Nat) (g : Nat → Int32) (q : Nat) : Bool := allB (fun k => decide (k < nP r) && decide (g k = veilS r i k)) q
def fitN (r : Rw) (i : Nat) (g : Nat → Int32) (q : Nat) : Nat := setOf (fun j => soB (pU r i 2 (nI j)) i g q) i
theorem allB_f {f : Nat → Bool} {j : Nat} (h : f j = false) : ∀ {n : Nat}, j < n → allB f n = false
  | n + 1, hn => by
    show (allB f n && f n) = false
    rcases Nat.lt_or_ge j n with q | q
    · rw [allB_f h q]; rfl
    · have : j = n := by omega
      subst this; rw [h]; simp
theorem pU_back {r : Rw} {i w : Nat} {v : Int32} : pU (pU r i w v) i w (pO r i w) = r := by
  funext k; unfold pU pO; rw [upd_at, upd_at]; by_cases q : k = 19 + 5 * i + w <;> simp [q]
theorem pU_pU {r : Rw} {i w : Nat} {v v' : Int32} : pU (pU r i w v) i w v' = pU r i w v' := by
  funext k; unfold pU; rw [upd_at, upd_at, upd_at]; by_cases q : k = 19 + 5 * i + w <;> simp [q]
theorem pU_19 {r : Rw} {i w k : Nat} {v : Int32} (h : i < 8) (hw : w < 5) (hk : k < 19 ∨ 59 ≤ k) : pU r i w v k = r k := by unfold pU; rw [upd_at, if_neg (by omega)]
theorem NowR_kid {σ σ' : z_M} {r : Rw} {i : Nat} {x : Int32} (h : NowR σ r) (hi : i < nP r) (hx : x = -1 ∨ ∃ j, j < i ∧ x = nI j) (hs : MS [5, 7] σ σ') (hK : KinR σ' 1 (pU r i 2 x)) (hM : MeaR σ' 1 (pU r i 2 x)) : NowR σ' (pU r i 2 x) := by
  have h8 := h.2.2.1.2.1
  have hi8 : i < 8 := by omega
  obtain ⟨a1, a2, a3, a4, a5, a6, a7, a8, a9⟩ := h
  have eq : ∀ k, k < 19 ∨ 59 ≤ k → pU r i 2 x k = r k := fun k hk => pU_19 hi8 (by decide) hk
  have ecL : ∀ u, cL (pU r i 2 x) u = cL r u := fun u => by unfold cL; rw [eq _ (by omega)]
  have edp : ∀ at0, 143 ≤ at0 → ∀ k, dpR (pU r i 2 x) at0 k = dpR r at0 k := by
    intro at0 ha k
    induction k with
    | zero => rfl
    | succ k ih => show dpS _ _ = dpS _ _; rw [ih, eq _ (by omega)]
  have eVC : ∀ u, VC r u → VC (pU r i 2 x) u := by
    intro u hv
    unfold VC at hv ⊢
    rw [ecL, eq _ (by omega), edp _ (by omega)]
    refine ⟨hv.1, hv.2.1, fun k hk => ?_, hv.2.2.2⟩
    rw [eq _ (by omega), eq _ (by omega), edp _ (by omega)]
    exact hv.2.2.1 k hk
  refine ⟨hK, hM, a3.kid hi hx, ⟨?_, fun k hk => ?_⟩, ⟨?_, fun k hk => ?_⟩, eVC 0 a6, eVC 1 a7, fun k hk => ?_, fun k hk => ?_⟩
  · rw [hs (1 + 13 + 4 * 0) (by decide), eq _ (by omega)]; exact a4.1
  · rw [ecL] at hk; rw [hs (1 + 14 + 4 * 0) (by decide), eq _ (by omega), eq _ (by omega)]; exact a4.2 k hk
  · rw [hs (1 + 13 + 4 * 1) (by decide), eq _ (by omega)]; exact a5.1
  · rw [ecL] at hk; rw [hs (1 + 14 + 4 * 1) (by decide), eq _ (by omega), eq _ (by omega)]; exact a5.2 k hk
  · rw [hs (1 + 9) (by decide), hs (1 + 10) (by decide), eq _ (by omega), eq _ (by omega)]; exact a8 k hk
  · rw [eq _ (by omega), eq _ (by omega)]; exact a9 k hk
/-- a draw -/
def dzS (z : Int32) : Int32 := z * 1103515245 + 12345
def doS (z : Int32) : Int32 := (z.toUInt32 >>> ((8 : Int32).toUInt32 &&& Int32.toUInt32 31)).toInt32
def rem8 (v : Int32) : Int32 := v - v / 8 * 8
def drR (r : Rw) : Rw := upd (upd (upd r 1 (dzS (dzS (r 1)))) (7 + 2 * ((r 0).toNatClampNeg % 6)) (rem8 (doS (dzS (r 1))))) (8 + 2 * ((r 0).toNatClampNeg % 6)) (rem8 (doS (dzS (dzS (r 1)))))
theorem do_rng (z : Int32) : ∃ a, a < 8 ∧ rem8 (doS z) = nI a := by
  obtain ⟨n, hn, rfl⟩ : ∃ n, n < 2 ^ 32 ∧ z = nI n := ⟨z.toBitVec.toNat, z.toBitVec.isLt, by
    apply Int32.toBitVec_inj.mp
    show z.toBitVec = BitVec.ofNat 32 z.toBitVec.toNat
    rw [BitVec.ofNat_toNat, BitVec.setWidth_eq]⟩
  have e : doS (nI n) = nI (n / 2 ^ 8) := pk_ushrN hn 8 8 (by decide)
  refine ⟨n / 2 ^ 8 % 8, Nat.mod_lt _ (by decide), ?_⟩
  rw [e]
  exact pk_rem (a := n / 2 ^ 8) (d := 8) (by omega) (by decide) (by decide)
/-- MATCH: all free pairs below place q (8 a + b), in order -/
def mOkB (r : Rw) (q : Nat) : Bool := decide (q / 8 < q % 8) && decide (q % 8 < nP r) && decide (pO r (q / 8) 3 < 0) && decide (pO r (q % 8) 3 < 0)
def mS (r : Rw) (i j : Nat) : Nat → Nat × Nat
  | 0 => (dS r i j, 100)
  | q + 1 => let s := mS r i j q; if mOkB r q = true ∧ dS (wedR r (q / 8) (q % 8)) i j < s.1 then (dS (wedR r (q / 8) (q % 8)) i j, 10 * (q / 8) + q % 8) else s
theorem mS_cut {r : Rw} {i j q : Nat} : ∀ {m : Nat}, q ≤ m → (∀ k, q ≤ k → k < m → mOkB r k = false) → mS r i j m = mS r i j q
  | 0, h, _ => by have : q = 0 := by omega
                  subst this; rfl
  | m + 1, h, hf => by
    rcases Nat.lt_or_ge m q with z | z
    · have : q = m + 1 := by omega
      subst this; rfl
    · show (if mOkB r m = true ∧ _ then _ else mS r i j m) = _
      rw [if_neg (fun w => by rw [hf m z (by omega)] at w; exact absurd w.1 (by decide)), mS_cut z (fun k h1 h2 => hf k h1 (by omega))]
theorem mS_rng (r : Rw) (i j : Nat) : ∀ q, q ≤ 64 → (mS r i j q).1 ≤ dS r i j ∧ (mS r i j q).1 ≤ 40 ∧ ((mS r i j q).2 = 100 ∧ (mS r i j q).1 = dS r i j ∨ (mS r i j q).2 < 88 ∧ (mS r i j q).1 < dS r i j ∧ (q = 0 ∨ (mS r i j q).2 ≤ 10 * ((q - 1) / 8) + (q - 1) % 8))
  | 0, _ => ⟨Nat.le_refl _, dst_le _ _ _ _, Or.inl ⟨rfl, rfl⟩⟩
  | q + 1, hq => by
    have ih := mS_rng r i j q (by omega)
    by_cases h : mOkB r q = true ∧ dS (wedR r (q / 8) (q % 8)) i j < (mS r i j q).1
    · have e : mS r i j (q + 1) = (dS (wedR r (q / 8) (q % 8)) i j, 10 * (q / 8) + q % 8) := if_pos h
      rw [e]
      have h2 := h.2
      have i1 := ih.1
      have i2 := ih.2.1
      have e1 : dS (wedR r (q / 8) (q % 8)) i j ≤ dS r i j := by omega
      have e2 : dS (wedR r (q / 8) (q % 8)) i j ≤ 40 := by omega
      have e3 : 10 * (q / 8) + q % 8 < 88 := by omega
      have e4 : dS (wedR r (q / 8) (q % 8)) i j < dS r i j := by omega
      refine ⟨e1, e2, Or.inr ⟨e3, e4, Or.inr ?_⟩⟩
      show 10 * (q / 8) + q % 8 ≤ 10 * (q / 8) + q % 8
      exact Nat.le_refl _
    · have e : mS r i j (q + 1) = mS r i j q := if_neg h
      rw [e]
      refine ⟨ih.1, ih.2.1, ?_⟩
      rcases ih.2.2 with z | ⟨z1, z2, z3⟩
      · exact Or.inl z
      · refine Or.inr ⟨z1, z2, Or.inr ?_⟩
        show (mS r i j q).2 ≤ 10 * (q / 8) + q % 8
        rcases z3 with z3 | z3
        · subst z3; exact absurd z2 (Nat.lt_irrefl _)
        · omega
theorem adj_wed {r : Rw} (h : VK r) {a b : Nat} (ha : a < nP r) (hb : b < nP r) (hab : a ≠ b) (fa : pO r a 3 < 0) (fb : pO r b 3 < 0) (i j : Nat) (hi : i < nP r) (hj : j < nP r) : adj (wedR r a b) i j = true ↔ adj r i j = true ∨ (i = a ∧ j = b) ∨ (i = b ∧ j = a) := by
  have h8 := h.2.1
  unfold adj
  rw [decide_eq_true_iff, decide_eq_true_iff, pO_wed (by decide), pO_wed (by decide), pO_wed (by decide)]
  simp only [show ¬ (2 = 3) by decide, and_false, if_false, and_true]
  by_cases q : i = b
  · subst q
    rw [if_pos rfl]
    constructor
    · rintro (z | z | z)
      · exact Or.inl (Or.inl z)
      · exact Or.inl (Or.inr (Or.inl z))
      · exact Or.inr (Or.inr ⟨rfl, (eq_nI z (by omega) (by omega)).symm⟩)
    · rintro ((z | z | z) | ⟨z1, z2⟩ | ⟨z1, z2⟩)
      · exact Or.inl z
      · exact Or.inr (Or.inl z)
      · exact absurd fb (by rw [z]; exact nI_pos (by omega))
      · exact absurd z1.symm hab
      · exact Or.inr (Or.inr (by rw [z2]))
  · rw [if_neg q]
    by_cases q2 : i = a
    · subst q2
      rw [if_pos rfl]
      constructor
      · rintro (z | z | z)
        · exact Or.inl (Or.inl z)
        · exact Or.inl (Or.inr (Or.inl z))
        · exact Or.inr (Or.inl ⟨rfl, (eq_nI z (by omega) (by omega)).symm⟩)
      · rintro ((z | z | z) | ⟨z1, z2⟩ | ⟨z1, z2⟩)
        · exact Or.inl z
        · exact Or.inr (Or.inl z)
        · exact absurd fa (by rw [z]; exact nI_pos (by omega))
        · exact Or.inr (Or.inr (by rw [z2]))
        · exact absurd z1 hab
    · rw [if_neg q2]
      constructor
      · exact fun z => Or.inl z
      · rintro (z | ⟨z1, z2⟩ | ⟨z1, z2⟩)
        · exact z
        · exact absurd z1 q2
        · exact absurd z1 q
theorem dS_wed {r : Rw} (h : VK r) {a b i j : Nat} (ha : a < nP r) (hb : b < nP r) (hab : a ≠ b) (fa : pO r a 3 < 0) (fb : pO r b 3 < 0) (hi : i < nP r) (hj : j < nP r) : dadd (dS r) a b i j = dS (wedR r a b) i j := by
  have h1 := ((dst_ok (nP r) (adj r)).add ha hb hab (adj_wed h ha hb hab fa fb)).eqd hi hj
  unfold dS
  rw [nP_wed]
  exact h1
/-- what bestMatch keeps: 100 times the STEPS, and the pair -/
def mV (s : Nat × Nat) : Nat := s.1 * 100 + if s.2 = 100 then 0 else s.2
theorem mV_step {r : Rw} (h : VK r) {i j q : Nat} (hi : i < nP r) (hj : j < nP r) (hq : q < 64) (ho : mOkB r q = true) : min (mV (mS r i j q)) (dadd (dS r) (q / 8) (q % 8) i j * 100 + (q / 8 * 10 + q % 8)) = mV (mS r i j (q + 1)) := by
  unfold mOkB at ho
  simp only [Bool.and_eq_true, decide_eq_true_eq] at ho
  obtain ⟨⟨⟨h1, h2⟩, h3⟩, h4⟩ := ho
  have hok : mOkB r q = true := by unfold mOkB; simp [h1, h2, h3, h4]
  rw [dS_wed h (by omega) h2 (by omega) h3 h4 hi hj]
  have rg := mS_rng r i j q (by omega)
  by_cases z : dS (wedR r (q / 8) (q % 8)) i j < (mS r i j q).1
  · have e : mS r i j (q + 1) = (dS (wedR r (q / 8) (q % 8)) i j, 10 * (q / 8) + q % 8) := if_pos ⟨hok, z⟩
    rw [e]
    unfold mV
    dsimp only
    rw [if_neg (show ¬ 10 * (q / 8) + q % 8 = 100 by omega)]
    split <;> omega
  · have e : mS r i j (q + 1) = mS r i j q := if_neg (fun w => z w.2)
    rw [e]
    unfold mV
    rcases rg.2.2 with w | ⟨w1, w2, w3⟩
    · rw [if_pos w.1]; omega
    · rw [if_neg (by omega)]
      rcases w3 with w3 | w3
      · subst w3; simp only [mS] at w2; omega
      · omega
set_option maxHeartbeats 1000000 in
set_option maxRecDepth 10000 in
theorem kX1_bestMatch {l : Launch} {E : z_E} (σ : z_M) {r : Rw} (hK : KinR σ 1 r) (hV : VK r) (hM : MeaR σ 1 r) {i j : Nat} (hi : i < nP r) (hj : j < nP r) : z_C l E shC 2 yX1_bestMatch cX1_bestMatch 7 (some FieldType.int) [.ref (z_ad E 2), .int (nI i), .int (nI j)] σ (z_Pp (if (mS r i j 64).2 = 100 then -1 else nI (mV (mS r i j 64))) σ) := by
  refine z_intro iX1_bestMatch (Nat.le_of_ble_eq_true rfl) (fun K F => ?_)
  have h8 := hV.2.1
  have hc : σ 2 0 = nI (nP r) := hK.1.trans hV.1
  have hfree : ∀ q, q < nP r → σ 6 q = pO r q 3 := fun q hq => ((kin1.mp hK).2 q hq).2.2.2
  have d40 : dS r i j ≤ 40 := dst_le _ _ _ _
  have loop16 : ∀ (f : Nat) (a V : Nat) (_ : 8 < a + f) (_ : a ≤ nP r) (_ : V = mV (mS r i j (8 * a))), z_X l K E shC 2 7 (z_Pp (if (mS r i j 64).2 = 100 then -1 else nI (mV (mS r i j 64))) σ) 16 [(0, .ref (z_ad E 2)), (1, .int (nI i)), (2, .int (nI j)), (3, .int (nI (dS r i j * 100))), (4, .int (nI V)), (5, .int (nI a))] [] σ := by
    intro f
    induction f with
    | zero =>
      intro a V hf ha hV2
      omega
    | succ f ih =>
      intro a V hf ha hV2
      have loop31 : ∀ (g : Nat) (b U : Nat) (_ : 8 < b + g) (_ : a < nP r) (_ : a < b) (_ : b ≤ nP r) (_ : U = mV (mS r i j (8 * a + b))), z_X l K E shC 2 7 (z_Pp (if (mS r i j 64).2 = 100 then -1 else nI (mV (mS r i j 64))) σ) 31 [(0, .ref (z_ad E 2)), (1, .int (nI i)), (2, .int (nI j)), (3, .int (nI (dS r i j * 100))), (4, .int (nI U)), (5, .int (nI a)), (6, .int (nI b))] [] σ := by
        intro g
        induction g with
        | zero =>
          intro b U hg han hab hb hU
          omega
        | succ g ih2 =>
          intro b U hg han hab hb hU
          have rg := mS_rng r i j (8 * a + b) (by omega)
          have hU2 : U < 5000 := by rw [hU]; unfold mV; split <;> omega
          refine z_iload F dX1_bestMatch_31 6 rfl 33 rfl ?_
          refine z_aload_n F dX1_bestMatch_33 0 rfl 34 rfl ?_
          refine z_getI F zc1 dX1_bestMatch_34 rfl 0 (by decide) (by decide) (.inl m_109) rfl 37 rfl ?_
          refine z_icmp_ge F dX1_bestMatch_37 93 (by decide) 40 rfl (fun h37 => ?_) (fun h37 => ?_)
          · skip
            refine z_iinc F dX1_bestMatch_93 5 rfl 1 (by decide) [(0, _), (1, _), (2, _), (3, _), (4, _), (5, _), (6, _)] rfl (by decide) 96 rfl ?_
            refine z_goto F dX1_bestMatch_96 16 (by decide) ?_
            have hbn : b = nP r := by have := le_nI (hc ▸ h37) (by omega) (by omega); omega
            rw [nI_1]
            refine z_sub [0, 1, 2, 3, 4, 5] rfl (ih (a + 1) U (by omega) (by omega) ?_)
            rw [hU, mS_cut (q := 8 * a + b) (m := 8 * (a + 1)) (by omega) (fun k h1 h2 => ?_)]
            unfold mOkB
            have e2 : b ≤ k % 8 := by omega
            have e3 : ¬ k % 8 < nP r := by omega
            simp [e3]
          · skip
            have hbn : b < nP r := nle_nI (hc ▸ h37) (by omega) (by omega)
            have q1 : (8 * a + b) / 8 = a := by omega
            have q2 : (8 * a + b) % 8 = b := by omega
            have f1 := hfree a (by omega)
            have f2 := hfree b (by omega)
            refine z_aload_n F dX1_bestMatch_40 0 rfl 41 rfl ?_
            refine z_iload F dX1_bestMatch_41 5 rfl 43 rfl ?_
            refine z_callVp F dX1_bestMatch_43 m_726 iX1_isFree jX1_isFree rfl zc1 rfl (kX1_isFree σ (j := a) (by omega)) rfl (by decide) (Nat.le_of_ble_eq_true rfl) 46 rfl ?_
            refine z_if_eq F dX1_bestMatch_46 87 (by decide) 49 rfl (fun h46 => ?_) (fun h46 => ?_)
            · skip
              have h46 := bI0.mp h46
              refine z_iinc F dX1_bestMatch_87 6 rfl 1 (by decide) [(0, _), (1, _), (2, _), (3, _), (4, _), (5, _), (6, _)] rfl (by decide) 90 rfl ?_
              refine z_goto F dX1_bestMatch_90 31 (by decide) ?_
              have ho : mOkB r (8 * a + b) = false := by
                unfold mOkB
                rw [q1, q2, ← f1, ← f2]
                simp [h46]
              rw [nI_1]
              exact ih2 (b + 1) U (by omega) han (by omega) (by omega) (by rw [hU, ← Nat.add_assoc, mS_cut (q := 8 * a + b) (m := 8 * a + b + 1) (by omega) (fun k h1 h2 => (show k = 8 * a + b by omega) ▸ ho)])
            · skip
              have h46 := bI1.mp h46
              refine z_aload_n F dX1_bestMatch_49 0 rfl 50 rfl ?_
              refine z_iload F dX1_bestMatch_50 6 rfl 52 rfl ?_
              refine z_callVp F dX1_bestMatch_52 m_726 iX1_isFree jX1_isFree rfl zc1 rfl (kX1_isFree σ (j := b) (by omega)) rfl (by decide) (Nat.le_of_ble_eq_true rfl) 55 rfl ?_
              refine z_if_eq F dX1_bestMatch_55 87 (by decide) 58 rfl (fun h55 => ?_) (fun h55 => ?_)
              · skip
                have h55 := bI0.mp h55
                refine z_iinc F dX1_bestMatch_87 6 rfl 1 (by decide) [(0, _), (1, _), (2, _), (3, _), (4, _), (5, _), (6, _)] rfl (by decide) 90 rfl ?_
                refine z_goto F dX1_bestMatch_90 31 (by decide) ?_
                have ho : mOkB r (8 * a + b) = false := by
                  unfold mOkB
                  rw [q1, q2, ← f1, ← f2]
                  simp [h55]
                rw [nI_1]
                exact ih2 (b + 1) U (by omega) han (by omega) (by omega) (by rw [hU, ← Nat.add_assoc, mS_cut (q := 8 * a + b) (m := 8 * a + b + 1) (by omega) (fun k h1 h2 => (show k = 8 * a + b by omega) ▸ ho)])
              · skip
                have h55 := bI1.mp h55
                have ho : mOkB r (8 * a + b) = true := by
                  unfold mOkB
                  rw [q1, q2, ← f1, ← f2]
                  simp [hab, hbn, h46, h55]
                have hst := mV_step hV hi hj (by omega) ho
                rw [q1, q2, ← hU] at hst
                have db : dadd (dS r) a b i j ≤ 40 := by unfold dadd; omega
                refine z_iload F dX1_bestMatch_58 4 rfl 60 rfl ?_
                refine z_aload_n F dX1_bestMatch_60 0 rfl 61 rfl ?_
                refine z_iload_n F dX1_bestMatch_61 1 rfl 62 rfl ?_
                refine z_iload_n F dX1_bestMatch_62 2 rfl 63 rfl ?_
                refine z_iload F dX1_bestMatch_63 5 rfl 65 rfl ?_
                refine z_iload F dX1_bestMatch_65 6 rfl 67 rfl ?_
                refine z_callVp F dX1_bestMatch_67 m_727 iX1_byMarriage jX1_byMarriage rfl zc1 rfl (kX1_byMarriage σ hK hV hM hi hj han (by omega)) rfl (by decide) (Nat.le_of_ble_eq_true rfl) 70 rfl ?_
                refine z_bipush F dX1_bestMatch_70 100 (by decide) 72 rfl ?_
                rw [show (100 : Int32) = nI 100 from rfl]
                refine z_imul F dX1_bestMatch_72 73 rfl ?_
                rw [pk_mul]
                refine z_iload F dX1_bestMatch_73 5 rfl 75 rfl ?_
                refine z_bipush F dX1_bestMatch_75 10 (by decide) 77 rfl ?_
                rw [show (10 : Int32) = nI 10 from rfl]
                refine z_imul F dX1_bestMatch_77 78 rfl ?_
                rw [pk_mul]
                refine z_iadd F dX1_bestMatch_78 79 rfl ?_
                rw [nI_add]
                refine z_iload F dX1_bestMatch_79 6 rfl 81 rfl ?_
                refine z_iadd F dX1_bestMatch_81 82 rfl ?_
                rw [nI_add]
                refine z_min F dX1_bestMatch_82 m_363 m_364 m_76 m_365 (by decide) (Nat.le_of_ble_eq_true rfl) 85 rfl ?_
                rw [min_nI (by omega) (by omega), show dadd (dS r) a b i j * 100 + a * 10 + b = dadd (dS r) a b i j * 100 + (a * 10 + b) by omega, hst]
                refine z_istore F dX1_bestMatch_85 [(0, _), (1, _), (2, _), (3, _), (4, _), (5, _), (6, _)] rfl (by decide) 87 rfl ?_
                refine z_iinc F dX1_bestMatch_87 6 rfl 1 (by decide) [(0, _), (1, _), (2, _), (3, _), (4, _), (5, _), (6, _)] rfl (by decide) 90 rfl ?_
                refine z_goto F dX1_bestMatch_90 31 (by decide) ?_
                rw [nI_1]
                exact ih2 (b + 1) _ (by omega) han (by omega) (by omega) rfl
      refine z_iload F dX1_bestMatch_16 5 rfl 18 rfl ?_
      refine z_aload_n F dX1_bestMatch_18 0 rfl 19 rfl ?_
      refine z_getI F zc1 dX1_bestMatch_19 rfl 0 (by decide) (by decide) (.inl m_109) rfl 22 rfl ?_
      refine z_icmp_ge F dX1_bestMatch_22 99 (by decide) 25 rfl (fun h22 => ?_) (fun h22 => ?_)
      · skip
        refine z_iload F dX1_bestMatch_99 4 rfl 101 rfl ?_
        refine z_iload_n F dX1_bestMatch_101 3 rfl 102 rfl ?_
        refine z_icmp_ge F dX1_bestMatch_102 110 (by decide) 105 rfl (fun h102 => ?_) (fun h102 => ?_)
        · skip
          refine z_iconst F dX1_bestMatch_110 (-1) (by decide) 111 rfl ?_
          refine z_rp F dX1_bestMatch_111 ?_ rfl
          have han : a = nP r := by have := le_nI (hc ▸ h22) (by omega) (by omega); omega
          have rg := mS_rng r i j (8 * a) (by omega)
          have e64 : mS r i j 64 = mS r i j (8 * a) := mS_cut (by omega) (fun k h1 h2 => by
            unfold mOkB
            have e3 : k % 8 < k / 8 + 1 ∨ ¬ k % 8 < nP r := by omega
            rcases e3 with e3 | e3
            · simp [show ¬ k / 8 < k % 8 by omega]
            · simp [e3])
          rw [e64]
          have hV3 : V < 5000 := by rw [hV2]; unfold mV; split <;> omega
          have hlt : dS r i j * 100 ≤ V := le_nI h102 (by omega) (by omega)
          rw [if_pos]
          rcases rg.2.2 with w | w
          · exact w.1
          · rw [hV2] at hlt; unfold mV at hlt; rw [if_neg (by omega)] at hlt; omega
        · skip
          refine z_iload F dX1_bestMatch_105 4 rfl 107 rfl ?_
          refine z_goto F dX1_bestMatch_107 111 (by decide) ?_
          refine z_rp F dX1_bestMatch_111 ?_ rfl
          have han : a = nP r := by have := le_nI (hc ▸ h22) (by omega) (by omega); omega
          have rg := mS_rng r i j (8 * a) (by omega)
          have e64 : mS r i j 64 = mS r i j (8 * a) := mS_cut (by omega) (fun k h1 h2 => by
            unfold mOkB
            have e3 : k % 8 < k / 8 + 1 ∨ ¬ k % 8 < nP r := by omega
            rcases e3 with e3 | e3
            · simp [show ¬ k / 8 < k % 8 by omega]
            · simp [e3])
          rw [e64]
          have hV3 : V < 5000 := by rw [hV2]; unfold mV; split <;> omega
          have hlt : V < dS r i j * 100 := (nI_ltI (by omega) (by omega)).mp (i_nle.mp h102)
          rw [if_neg, ← hV2]
          intro z
          rcases rg.2.2 with w | w
          · rw [hV2] at hlt; unfold mV at hlt; rw [if_pos z] at hlt; omega
          · omega
      · skip
        have han : a < nP r := nle_nI (hc ▸ h22) (by omega) (by omega)
        refine z_iload F dX1_bestMatch_25 5 rfl 27 rfl ?_
        refine z_iconst F dX1_bestMatch_27 1 (by decide) 28 rfl ?_
        refine z_iadd F dX1_bestMatch_28 29 rfl ?_
        refine z_istore F dX1_bestMatch_29 [(0, _), (1, _), (2, _), (3, _), (4, _), (5, _), (6, _)] rfl (by decide) 31 rfl ?_
        rw [nI_1]
        refine loop31 9 (a + 1) V (by omega) han (by omega) (by omega) ?_
        rw [hV2, mS_cut (q := 8 * a) (m := 8 * a + (a + 1)) (by omega) (fun k h1 h2 => ?_)]
        unfold mOkB
        simp [show ¬ k / 8 < k % 8 by omega]
  refine z_aload_n F dX1_bestMatch_0 0 rfl 1 rfl ?_
  refine z_iload_n F dX1_bestMatch_1 1 rfl 2 rfl ?_
  refine z_iload_n F dX1_bestMatch_2 2 rfl 3 rfl ?_
  refine z_callVp F dX1_bestMatch_3 m_359 iX1_between jX1_between rfl zc1 rfl (kX1_between σ (i := i) (j := j) (by omega) (by omega)) rfl (by decide) (Nat.le_of_ble_eq_true rfl) 6 rfl ?_
  rw [show σ 7 (i * 8 + j) = nI (dS r i j) from hM i j hi hj]
  refine z_bipush F dX1_bestMatch_6 100 (by decide) 8 rfl ?_
  refine z_imul F dX1_bestMatch_8 9 rfl ?_
  rw [show (100 : Int32) = nI 100 from rfl, pk_mul]
  refine z_istore_n F dX1_bestMatch_9 [(0, _), (1, _), (2, _), (3, _)] rfl (by decide) 10 rfl ?_
  refine z_iload_n F dX1_bestMatch_10 3 rfl 11 rfl ?_
  refine z_istore F dX1_bestMatch_11 [(0, _), (1, _), (2, _), (3, _), (4, _)] rfl (by decide) 13 rfl ?_
  refine z_iconst F dX1_bestMatch_13 0 (by decide) 14 rfl ?_
  refine z_istore F dX1_bestMatch_14 [(0, _), (1, _), (2, _), (3, _), (4, _), (5, _)] rfl (by decide) 16 rfl ?_
  exact loop16 9 0 (dS r i j * 100) (by omega) (by omega) rfl
set_option maxHeartbeats 400000 in
set_option maxRecDepth 10000 in
theorem kX8_throughTo {l : Launch} {E : z_E} (σ : z_M) {r : Rw} (hN : NowR σ r) (hC : CrsR σ 8 9 r) {i : Nat} (hi : i < nP r) : z_C l E shC 4 yX8_throughTo cX8_throughTo 5 (some FieldType.int) [.ref (z_ad E 1), .int (nI i)] σ (z_Pi (fun x σ' => x = nI (thruN r i) ∧ MS [16, 20] σ σ')) := by
  refine z_intro iX8_throughTo (Nat.le_of_ble_eq_true rfl) (fun K F => ?_)
  have h8 := hN.2.2.1.2.1
  have hc : σ 2 0 = nI (nP r) := hN.1.1.trans hN.2.2.1.1
  have loop15 : ∀ (f : Nat) (j : Nat) (τ : z_M) (_ : 8 < j + f) (_ : j ≤ nP r) (_ : MS [16, 20] σ τ), z_X l K E shC 4 5 (z_Pi (fun x σ' => x = nI (thruN r i) ∧ MS [16, 20] σ σ')) 15 [(0, .ref (z_ad E 1)), (1, .int (nI i)), (2, .int (sightS r i)), (3, .int (nI (cntB (fun o => o != i && decide (veilS r o i ≤ sightS r i)) j))), (4, .int (nI j))] [] τ := by
    intro f
    induction f with
    | zero =>
      intro j τ hf hj hs
      omega
    | succ f ih =>
      intro j τ hf hj hs
      have e0 : τ 2 0 = nI (nP r) := (hs 2 (by decide) ▸ hc : τ 2 0 = nI (nP r))
      have hN2 := hN.ms hs (by decide)
      have hy2 : τ 8 0 = r 0 := (congrFun (hs 8 (by decide)) 0).trans hC.1
      refine z_iload F dX8_throughTo_15 4 rfl 17 rfl ?_
      refine z_aload_n F dX8_throughTo_17 0 rfl 18 rfl ?_
      refine z_getR F zc7 dX8_throughTo_18 rfl 0 (by decide) (by decide) (.inl m_199) rfl (by decide) 21 rfl ?_
      refine z_getI F zc1 dX8_throughTo_21 rfl 0 (by decide) (by decide) (.inr ⟨_, m_111⟩) rfl 24 rfl ?_
      refine z_icmp_ge F dX8_throughTo_24 57 (by decide) 27 rfl (fun h24 => ?_) (fun h24 => ?_)
      · skip
        refine z_iload_n F dX8_throughTo_57 3 rfl 58 rfl ?_
        refine z_ri F dX8_throughTo_58 ?_
        have hjn : j = nP r := by have := le_nI (e0 ▸ h24) (by omega) (by omega); omega
        subst hjn; exact ⟨rfl, hs⟩
      · skip
        have hjn : j < nP r := nle_nI (e0 ▸ h24) (by omega) (by omega)
        refine z_iload F dX8_throughTo_27 4 rfl 29 rfl ?_
        refine z_iload_n F dX8_throughTo_29 1 rfl 30 rfl ?_
        refine z_icmp_eq F dX8_throughTo_30 51 (by decide) 33 rfl (fun h30 => ?_) (fun h30 => ?_)
        · skip
          refine z_iinc F dX8_throughTo_51 4 rfl 1 (by decide) [(0, _), (1, _), (2, _), (3, _), (4, _)] rfl (by decide) 54 rfl ?_
          refine z_goto F dX8_throughTo_54 15 (by decide) ?_
          have e := cntB_f (f := fun o => o != i && decide (veilS r o i ≤ sightS r i)) (n := j) (by simp [eq_nI h30 (by omega) (by omega)])
          rw [nI_1, ← e]
          exact ih (j + 1) τ (by omega) (by omega) hs
        · skip
          refine z_aload_n F dX8_throughTo_33 0 rfl 34 rfl ?_
          refine z_iload F dX8_throughTo_34 4 rfl 36 rfl ?_
          refine z_iload_n F dX8_throughTo_36 1 rfl 37 rfl ?_
          refine z_aload_n F dX8_throughTo_37 0 rfl 38 rfl ?_
          refine z_getR F zc7 dX8_throughTo_38 rfl 1 (by decide) (by decide) (.inl m_201) rfl (by decide) 41 rfl ?_
          refine z_callVi F dX8_throughTo_41 m_669 iX8_veilsOf jX8_veilsOf rfl zc7 rfl (kX8_veilsOfN τ hN2 hy2 hjn hi) rfl (by decide) (Nat.le_of_ble_eq_true rfl) 44 rfl (fun r41 s41 c41 => ?_)
          obtain ⟨rfl, m41⟩ := c41
          refine z_iload_n F dX8_throughTo_44 2 rfl 45 rfl ?_
          refine z_icmp_gt F dX8_throughTo_45 51 (by decide) 48 rfl (fun h45 => ?_) (fun h45 => ?_)
          · skip
            refine z_iinc F dX8_throughTo_51 4 rfl 1 (by decide) [(0, _), (1, _), (2, _), (3, _), (4, _)] rfl (by decide) 54 rfl ?_
            refine z_goto F dX8_throughTo_54 15 (by decide) ?_
            have e := cntB_f (f := fun o => o != i && decide (veilS r o i ≤ sightS r i)) (n := j) (by simp [i_nle.mpr h45])
            rw [nI_1, ← e]
            exact ih (j + 1) s41 (by omega) (by omega) (hs.tr (m41.sub (by decide)))
          · skip
            refine z_iinc F dX8_throughTo_48 3 rfl 1 (by decide) [(0, _), (1, _), (2, _), (3, _), (4, _)] rfl (by decide) 51 rfl ?_
            refine z_iinc F dX8_throughTo_51 4 rfl 1 (by decide) [(0, _), (1, _), (2, _), (3, _), (4, _)] rfl (by decide) 54 rfl ?_
            refine z_goto F dX8_throughTo_54 15 (by decide) ?_
            have e := cntB_t (f := fun o => o != i && decide (veilS r o i ≤ sightS r i)) (n := j) (by simp [i_nlt.mp h45, show ¬ j = i from fun z => h30 (by rw [z])])
            rw [nI_1, nI_1, ← e]
            exact ih (j + 1) s41 (by omega) (by omega) (hs.tr (m41.sub (by decide)))
  refine z_aload_n F dX8_throughTo_0 0 rfl 1 rfl ?_
  refine z_iload_n F dX8_throughTo_1 1 rfl 2 rfl ?_
  refine z_aload_n F dX8_throughTo_2 0 rfl 3 rfl ?_
  refine z_getR F zc7 dX8_throughTo_3 rfl 1 (by decide) (by decide) (.inl m_201) rfl (by decide) 6 rfl ?_
  refine z_callVi F dX8_throughTo_6 m_670 iX8_sightOf jX8_sightOf rfl zc7 rfl (kX8_sightOfN σ hN hC.1 hC.2.1 hi) rfl (by decide) (Nat.le_of_ble_eq_true rfl) 9 rfl (fun r6 s6 c6 => ?_)
  obtain ⟨rfl, m6⟩ := c6
  refine z_istore_n F dX8_throughTo_9 [(0, _), (1, _), (2, _)] rfl (by decide) 10 rfl ?_
  refine z_iconst F dX8_throughTo_10 0 (by decide) 11 rfl ?_
  refine z_istore_n F dX8_throughTo_11 [(0, _), (1, _), (2, _), (3, _)] rfl (by decide) 12 rfl ?_
  refine z_iconst F dX8_throughTo_12 0 (by decide) 13 rfl ?_
  refine z_istore F dX8_throughTo_13 [(0, _), (1, _), (2, _), (3, _), (4, _)] rfl (by decide) 15 rfl ?_
  exact loop15 9 0 s6 (by omega) (by omega) (m6.sub (by decide))
set_option maxHeartbeats 400000 in
set_option maxRecDepth 10000 in
theorem kX8_wouldLet {l : Launch} {E : z_E} (σ : z_M) {r : Rw} (hN : NowR σ r) (hC : CrsR σ 8 9 r) {ro aa : Nat} (hr : shC[ro]? = some (6, 2, [some aa, none])) (ha : shC[aa]? = some (0, 24, [])) (ha9 : aa ≠ 999) (hro : ro ∉ [5, 6, 7, 16]) (haa : aa ∉ [5, 6, 7, 16]) {q : Nat} (hq : σ ro 1 = nI q) (hq24 : q ≤ 24) {i : Nat} (hi : i < nP r) : z_C l E shC 4 yX8_wouldLet cX8_wouldLet 4 (some FieldType.boolean) [.ref (z_ad E 1), .int (nI i), .ref (z_ad E ro)] σ (z_Pi (fun x σ' => x = bI (soB r i (σ aa) q = true) ∧ MS [16] σ σ')) := by
  refine z_intro iX8_wouldLet (Nat.le_of_ble_eq_true rfl) (fun K F => ?_)
  have h8 := hN.2.2.1.2.1
  have hc : σ 2 0 = nI (nP r) := hN.1.1.trans hN.2.2.1.1
  have g1 : ro ∉ [16] := fun z => hro (by simp at z; subst z; decide)
  have g2 : aa ∉ [16] := fun z => haa (by simp at z; subst z; decide)
  have loop2 : ∀ (f : Nat) (j : Nat) (τ : z_M) (_ : 24 < j + f) (_ : j ≤ q) (_ : MS [16] σ τ) (_ : soB r i (σ aa) j = true), z_X l K E shC 4 4 (z_Pi (fun x σ' => x = bI (soB r i (σ aa) q = true) ∧ MS [16] σ σ')) 2 [(0, .ref (z_ad E 1)), (1, .int (nI i)), (2, .ref (z_ad E ro)), (3, .int (nI j))] [] τ := by
    intro f
    induction f with
    | zero =>
      intro j τ hf hj hs hso
      omega
    | succ f ih =>
      intro j τ hf hj hs hso
      have e0 : τ 2 0 = nI (nP r) := (hs 2 (by decide) ▸ hc : τ 2 0 = nI (nP r))
      have hN2 := hN.ms hs (by decide)
      have hy2 : τ 8 0 = r 0 := (congrFun (hs 8 (by decide)) 0).trans hC.1
      have eq : τ ro 1 = nI q := (congrFun (hs ro g1) 1).trans hq
      refine z_iload_n F dX8_wouldLet_2 3 rfl 3 rfl ?_
      refine z_aload_n F dX8_wouldLet_3 2 rfl 4 rfl ?_
      refine z_callVp F dX8_wouldLet_4 m_789 iX4_size jX4_size rfl zc3 hr (kX4_size τ (S := shC) (r := ro) (a := aa) (cap := 24) hr ha ha9) rfl (by decide) (Nat.le_of_ble_eq_true rfl) 7 rfl ?_
      rw [eq]
      refine z_icmp_ge F dX8_wouldLet_7 47 (by decide) 10 rfl (fun h7 => ?_) (fun h7 => ?_)
      · skip
        refine z_iconst F dX8_wouldLet_47 1 (by decide) 48 rfl ?_
        refine z_riz F dX8_wouldLet_48 (by first | rfl | exact bIn) ?_
        have hjq : j = q := by have := le_nI h7 (by omega) (by omega); omega
        subst hjq; exact ⟨(bI_t hso).symm, hs⟩
      · skip
        have hjq : j < q := nle_nI h7 (by omega) (by omega)
        refine z_aload_n F dX8_wouldLet_10 0 rfl 11 rfl ?_
        refine z_getR F zc7 dX8_wouldLet_11 rfl 0 (by decide) (by decide) (.inl m_199) rfl (by decide) 14 rfl ?_
        refine z_iload_n F dX8_wouldLet_14 3 rfl 15 rfl ?_
        refine z_callVp F dX8_wouldLet_15 m_668 iX1_has jX1_has rfl zc1 rfl (kX1_has τ (nI j)) rfl (by decide) (Nat.le_of_ble_eq_true rfl) 18 rfl ?_
        refine z_if_eq F dX8_wouldLet_18 39 (by decide) 21 rfl (fun h18 => ?_) (fun h18 => ?_)
        · skip
          have h18 := bI0.mp h18
          refine z_iconst F dX8_wouldLet_39 0 (by decide) 40 rfl ?_
          refine z_riz F dX8_wouldLet_40 (by first | rfl | exact bIn) ?_
          refine ⟨(bI_f ?_).symm, hs⟩
          rw [show soB r i (σ aa) q = false from allB_f (j := j) (by
            have : ¬ j < nP r := fun z => h18 (by rw [e0]; exact isP_nI z (by omega))
            simp [this]) hjq]
          decide
        · skip
          have h18 := bI1.mp h18
          rw [e0] at h18
          have hjn : j < nP r := (nI_ltI (by omega) (by omega)).mp h18.2
          refine z_aload_n F dX8_wouldLet_21 0 rfl 22 rfl ?_
          refine z_iload_n F dX8_wouldLet_22 1 rfl 23 rfl ?_
          refine z_iload_n F dX8_wouldLet_23 3 rfl 24 rfl ?_
          refine z_aload_n F dX8_wouldLet_24 0 rfl 25 rfl ?_
          refine z_getR F zc7 dX8_wouldLet_25 rfl 1 (by decide) (by decide) (.inl m_201) rfl (by decide) 28 rfl ?_
          refine z_callVi F dX8_wouldLet_28 m_669 iX8_veilsOf jX8_veilsOf rfl zc7 rfl (kX8_veilsOfN τ hN2 hy2 hi hjn) rfl (by decide) (Nat.le_of_ble_eq_true rfl) 31 rfl (fun r28 s28 c28 => ?_)
          obtain ⟨rfl, m28⟩ := c28
          refine z_aload_n F dX8_wouldLet_31 2 rfl 32 rfl ?_
          refine z_iload_n F dX8_wouldLet_32 3 rfl 33 rfl ?_
          refine z_callVp F dX8_wouldLet_33 m_790 iX4_at jX4_at rfl zc3 hr (kX4_at s28 (S := shC) (r := ro) (a := aa) (cap := 24) hr ha ha9 (n := q) ((congrFun (m28 ro g1) 1).trans eq) hq24 (by decide) (nI j)) rfl (by decide) (Nat.le_of_ble_eq_true rfl) 36 rfl ?_
          rw [show rAt s28 ro aa (nI j) = σ aa j from by unfold rAt; rw [(congrFun (m28 ro g1) 1).trans eq, if_pos (isP_nI hjq (by omega)), nI_clamp (by omega), m28 aa g2, hs aa g2]]
          refine z_icmp_eq F dX8_wouldLet_36 41 (by decide) 39 rfl (fun h36 => ?_) (fun h36 => ?_)
          · skip
            refine z_iinc F dX8_wouldLet_41 3 rfl 1 (by decide) [(0, _), (1, _), (2, _), (3, _)] rfl (by decide) 44 rfl ?_
            refine z_goto F dX8_wouldLet_44 2 (by decide) ?_
            rw [nI_1]
            exact ih (j + 1) s28 (by omega) (by omega) (hs.tr m28) (by show (soB r i (σ aa) j && _) = true; rw [hso]; simp [hjn, h36])
          · skip
            refine z_iconst F dX8_wouldLet_39 0 (by decide) 40 rfl ?_
            refine z_riz F dX8_wouldLet_40 (by first | rfl | exact bIn) ?_
            refine ⟨(bI_f ?_).symm, hs.tr m28⟩
            rw [show soB r i (σ aa) q = false from allB_f (j := j) (by simp [Ne.symm h36]) hjq]
            decide
  refine z_iconst F dX8_wouldLet_0 0 (by decide) 1 rfl ?_
  refine z_istore_n F dX8_wouldLet_1 [(0, _), (1, _), (2, _), (3, _)] rfl (by decide) 2 rfl ?_
  exact loop2 25 0 σ (by omega) (by omega) MS.rf rfl
set_option maxHeartbeats 1000000 in
set_option maxRecDepth 10000 in
theorem kX8_parentsFitting {l : Launch} {E : z_E} (σ : z_M) {r : Rw} (hN : NowR σ r) (hC : CrsR σ 8 9 r) {ro aa : Nat} (hr : shC[ro]? = some (6, 2, [some aa, none])) (ha : shC[aa]? = some (0, 24, [])) (ha9 : aa ≠ 999) (hro : ro ∉ [5, 6, 7, 16]) (haa : aa ∉ [5, 6, 7, 16]) {q : Nat} (hq : σ ro 1 = nI q) (hq24 : q ≤ 24) {i : Nat} (hi : i < nP r) : z_C l E shC 5 yX8_parentsFitting cX8_parentsFitting 6 (some FieldType.int) [.ref (z_ad E 1), .ref (z_ad E ro), .int (nI i)] σ (z_Pi (fun x σ' => x = nI (fitN r i (σ aa) q) ∧ MS [5, 7, 16] σ σ' ∧ NowR σ' r)) := by
  refine z_intro iX8_parentsFitting (Nat.le_of_ble_eq_true rfl) (fun K F => ?_)
  have h8 := hN.2.2.1.2.1
  have hVK := hN.2.2.1
  have hp := ((kin1.mp hN.1).2 i hi).2.2.1
  have hpar := (hVK.2.2 i hi).2.2.1
  have g1 : ro ∉ [5, 7, 16] := fun z => hro (by simp at z ⊢; omega)
  have g2 : aa ∉ [5, 7, 16] := fun z => haa (by simp at z ⊢; omega)
  have g3 : ro ∉ [5, 7] := fun z => hro (by simp at z ⊢; omega)
  have g4 : aa ∉ [5, 7] := fun z => haa (by simp at z ⊢; omega)
  have back : pU r i 2 (pO r i 2) = r := by
    funext k; unfold pU pO; rw [upd_at]; by_cases q : k = 19 + 5 * i + 2 <;> simp [q]
  have loop16 : ∀ (f : Nat) (j : Nat) (τ : z_M) (y : Int32) (_ : 8 < j + f) (_ : j ≤ i) (_ : MS [5, 7, 16] σ τ) (_ : y = -1 ∨ ∃ k, k < i ∧ y = nI k) (_ : NowR τ (pU r i 2 y)), z_X l K E shC 5 6 (z_Pi (fun x σ' => x = nI (fitN r i (σ aa) q) ∧ MS [5, 7, 16] σ σ' ∧ NowR σ' r)) 16 [(0, .ref (z_ad E 1)), (1, .ref (z_ad E ro)), (2, .int (nI i)), (3, .int (nI (setOf (fun j => soB (pU r i 2 (nI j)) i (σ aa) q) j))), (4, .int (pO r i 2)), (5, .int (nI j))] [] τ := by
    intro f
    induction f with
    | zero =>
      intro j τ y hf hj hs hyy hN2
      omega
    | succ f ih =>
      intro j τ y hf hj hs hyy hN2
      have hi2 : i < nP (pU r i 2 y) := by rw [nP_pU]; exact hi
      refine z_iload F dX8_parentsFitting_16 5 rfl 18 rfl ?_
      refine z_iload_n F dX8_parentsFitting_18 2 rfl 19 rfl ?_
      refine z_icmp_ge F dX8_parentsFitting_19 54 (by decide) 22 rfl (fun h19 => ?_) (fun h19 => ?_)
      · skip
        refine z_aload_n F dX8_parentsFitting_54 0 rfl 55 rfl ?_
        refine z_getR F zc7 dX8_parentsFitting_55 rfl 0 (by decide) (by decide) (.inl m_199) rfl (by decide) 58 rfl ?_
        refine z_iload_n F dX8_parentsFitting_58 2 rfl 59 rfl ?_
        refine z_iload F dX8_parentsFitting_59 4 rfl 61 rfl ?_
        refine z_callVv F dX8_parentsFitting_61 m_784 iX1_giveParent jX1_giveParent rfl zc1 rfl (kX1_giveParent τ hN2.1 hN2.2.2.1 hi2 (x := pO r i 2) hpar) rfl (by decide) (Nat.le_of_ble_eq_true rfl) 64 rfl (fun s61 c61 => ?_)
        refine z_iload_n F dX8_parentsFitting_64 3 rfl 65 rfl ?_
        refine z_ri F dX8_parentsFitting_65 ?_
        have hji : j = i := by have := le_nI h19 (by omega) (by omega); omega
        subst hji
        refine ⟨rfl, hs.tr (c61.1.sub (by decide)), ?_⟩
        have := NowR_kid hN2 hi2 hpar c61.1 c61.2.1 c61.2.2
        rw [pU_pU, back] at this
        exact this
      · skip
        have hji : j < i := nle_nI h19 (by omega) (by omega)
        refine z_aload_n F dX8_parentsFitting_22 0 rfl 23 rfl ?_
        refine z_getR F zc7 dX8_parentsFitting_23 rfl 0 (by decide) (by decide) (.inl m_199) rfl (by decide) 26 rfl ?_
        refine z_iload_n F dX8_parentsFitting_26 2 rfl 27 rfl ?_
        refine z_iload F dX8_parentsFitting_27 5 rfl 29 rfl ?_
        refine z_callVv F dX8_parentsFitting_29 m_784 iX1_giveParent jX1_giveParent rfl zc1 rfl (kX1_giveParent τ hN2.1 hN2.2.2.1 hi2 (x := nI j) (Or.inr ⟨j, hji, rfl⟩)) rfl (by decide) (Nat.le_of_ble_eq_true rfl) 32 rfl (fun s29 c29 => ?_)
        have hN3 : NowR s29 (pU r i 2 (nI j)) := by
          have := NowR_kid hN2 hi2 (Or.inr ⟨j, hji, rfl⟩) c29.1 c29.2.1 c29.2.2
          rw [pU_pU] at this; exact this
        have hi3 : i < nP (pU r i 2 (nI j)) := by rw [nP_pU]; exact hi
        have hs3 : MS [5, 7, 16] σ s29 := hs.tr (c29.1.sub (by decide))
        have hC3 : CrsR s29 8 9 (pU r i 2 (nI j)) := by
          have := hC.ms hs3 (by decide) (by decide)
          refine ⟨by rw [pU_lo (by decide)]; exact this.1, by rw [pU_lo (by decide)]; exact this.2.1, by rw [pU_lo (by decide)]; exact this.2.2.1, fun p hp => ?_⟩
          rw [nP_pU, pO_pU (by decide) (by decide), if_neg (show ¬ (p = i ∧ 4 = 2) from fun z => absurd z.2 (by decide))]
          exact this.2.2.2 p hp
        refine z_aload_n F dX8_parentsFitting_32 0 rfl 33 rfl ?_
        refine z_iload_n F dX8_parentsFitting_33 2 rfl 34 rfl ?_
        refine z_aload_n F dX8_parentsFitting_34 1 rfl 35 rfl ?_
        refine z_callVi F dX8_parentsFitting_35 m_785 iX8_wouldLet jX8_wouldLet rfl zc7 rfl (kX8_wouldLet s29 hN3 hC3 hr ha ha9 hro haa (q := q) ((congrFun ((hs.tr (c29.1.sub (by decide))) ro g1) 1).trans hq) hq24 hi3) rfl (by decide) (Nat.le_of_ble_eq_true rfl) 38 rfl (fun r35 s35 c35 => ?_)
        obtain ⟨e35, m35⟩ := c35
        rw [show s29 aa = σ aa from hs3 aa g2] at e35
        subst e35
        refine z_if_eq F dX8_parentsFitting_38 48 (by decide) 41 rfl (fun h38 => ?_) (fun h38 => ?_)
        · skip
          have h38 := bI0.mp h38
          refine z_iinc F dX8_parentsFitting_48 5 rfl 1 (by decide) [(0, _), (1, _), (2, _), (3, _), (4, _), (5, _)] rfl (by decide) 51 rfl ?_
          refine z_goto F dX8_parentsFitting_51 16 (by decide) ?_
          have e := setOf_f (f := fun j => soB (pU r i 2 (nI j)) i (σ aa) q) (n := j) (by simpa using h38)
          rw [nI_1, ← e]
          exact ih (j + 1) s35 (nI j) (by omega) (by omega) (hs3.tr (m35.sub (by decide))) (Or.inr ⟨j, hji, rfl⟩) (hN3.ms m35 (by decide))
        · skip
          have h38 := bI1.mp h38
          refine z_iload_n F dX8_parentsFitting_41 3 rfl 42 rfl ?_
          refine z_iconst F dX8_parentsFitting_42 1 (by decide) 43 rfl ?_
          refine z_iload F dX8_parentsFitting_43 5 rfl 45 rfl ?_
          refine z_ishl F dX8_parentsFitting_45 46 rfl ?_
          refine z_ior F dX8_parentsFitting_46 47 rfl ?_
          refine z_istore_n F dX8_parentsFitting_47 [(0, _), (1, _), (2, _), (3, _), (4, _), (5, _)] rfl (by decide) 48 rfl ?_
          refine z_iinc F dX8_parentsFitting_48 5 rfl 1 (by decide) [(0, _), (1, _), (2, _), (3, _), (4, _), (5, _)] rfl (by decide) 51 rfl ?_
          refine z_goto F dX8_parentsFitting_51 16 (by decide) ?_
          have e := setOf_t (f := fun j => soB (pU r i 2 (nI j)) i (σ aa) q) (n := j) h38
          rw [shl_nI j (by omega), or_nI, nI_1, ← e]
          exact ih (j + 1) s35 (nI j) (by omega) (by omega) (hs3.tr (m35.sub (by decide))) (Or.inr ⟨j, hji, rfl⟩) (hN3.ms m35 (by decide))
  refine z_iconst F dX8_parentsFitting_0 0 (by decide) 1 rfl ?_
  refine z_istore_n F dX8_parentsFitting_1 [(0, _), (1, _), (2, _), (3, _)] rfl (by decide) 2 rfl ?_
  refine z_aload_n F dX8_parentsFitting_2 0 rfl 3 rfl ?_
  refine z_getR F zc7 dX8_parentsFitting_3 rfl 0 (by decide) (by decide) (.inl m_199) rfl (by decide) 6 rfl ?_
  refine z_getR F zc1 dX8_parentsFitting_6 rfl 3 (by decide) (by decide) (.inr ⟨_, m_120⟩) rfl (by decide) 9 rfl ?_
  refine z_iload_n F dX8_parentsFitting_9 2 rfl 10 rfl ?_
  refine z_iald F dX8_parentsFitting_10 rfl (vp_in_nI (by omega) (by decide)) 11 rfl ?_
  rw [nI_clamp (by omega), hp]
  refine z_istore F dX8_parentsFitting_11 [(0, _), (1, _), (2, _), (3, _), (4, _)] rfl (by decide) 13 rfl ?_
  refine z_iconst F dX8_parentsFitting_13 0 (by decide) 14 rfl ?_
  refine z_istore F dX8_parentsFitting_14 [(0, _), (1, _), (2, _), (3, _), (4, _), (5, _)] rfl (by decide) 16 rfl ?_
  exact loop16 9 0 σ (pO r i 2) (by omega) (by omega) MS.rf hpar (by rw [back]; exact hN)
set_option maxHeartbeats 400000 in
set_option maxRecDepth 10000 in
theorem kX8_drawMeeting {l : Launch} {E : z_E} (σ : z_M) {r : Rw} (hy : ∃ y, y ≤ 9999 ∧ r 0 = nI y) (h0 : σ 8 0 = r 0) : z_C l E shC 2 yX8_drawMeeting cX8_drawMeeting 2 none [.ref (z_ad E 1)] σ (z_Pu (z_u2 (z_u2 (z_u2 (z_u2 σ 1 7 (dzS (σ 1 7))) 10 ((r 0).toNatClampNeg % 6) (rem8 (doS (dzS (σ 1 7))))) 1 7 (dzS (dzS (σ 1 7)))) 11 ((r 0).toNatClampNeg % 6) (rem8 (doS (dzS (dzS (σ 1 7))))))) := by
  refine z_intro iX8_drawMeeting (Nat.le_of_ble_eq_true rfl) (fun K F => ?_)
  obtain ⟨y, hy, ey⟩ := hy
  rw [ey, nI_clamp (by omega)]
  have hy6 : y % 6 < 6 := Nat.mod_lt _ (by decide)
  refine z_aload_n F dX8_drawMeeting_0 0 rfl 1 rfl ?_
  refine z_getR F zc7 dX8_drawMeeting_1 rfl 1 (by decide) (by decide) (.inl m_201) rfl (by decide) 4 rfl ?_
  refine z_getI F zc0 dX8_drawMeeting_4 rfl 0 (by decide) (by decide) (.inr ⟨_, m_145⟩) rfl 7 rfl ?_
  rw [h0, ey]
  refine z_callSp F dX8_drawMeeting_7 m_658 iX8_placeOf m_659 rfl (kX8_placeOf σ (y := y) (by omega)) rfl (by decide) (Nat.le_of_ble_eq_true rfl) 10 rfl ?_
  refine z_istore_n F dX8_drawMeeting_10 [(0, _), (1, _)] rfl (by decide) 11 rfl ?_
  refine z_aload_n F dX8_drawMeeting_11 0 rfl 12 rfl ?_
  refine z_getR F zc7 dX8_drawMeeting_12 rfl 2 (by decide) (by decide) (.inl m_203) rfl (by decide) 15 rfl ?_
  refine z_iload_n F dX8_drawMeeting_15 1 rfl 16 rfl ?_
  refine z_aload_n F dX8_drawMeeting_16 0 rfl 17 rfl ?_
  refine z_callVi F dX8_drawMeeting_17 m_689 iX8_draw jX8_draw rfl zc7 rfl (kX8_draw σ) rfl (by decide) (Nat.le_of_ble_eq_true rfl) 20 rfl (fun r17 s17 c17 => ?_)
  obtain ⟨rfl, rfl⟩ := c17
  refine z_bipush F dX8_drawMeeting_20 8 (by decide) 22 rfl ?_
  refine z_irem F dX8_drawMeeting_22 (by decide) 23 rfl ?_
  refine z_iast F dX8_drawMeeting_23 rfl (vp_in_nI (by omega) (by decide)) 24 rfl ?_
  rw [nI_clamp (by omega)]
  refine z_aload_n F dX8_drawMeeting_24 0 rfl 25 rfl ?_
  refine z_getR F zc7 dX8_drawMeeting_25 rfl 3 (by decide) (by decide) (.inl m_205) rfl (by decide) 28 rfl ?_
  refine z_iload_n F dX8_drawMeeting_28 1 rfl 29 rfl ?_
  refine z_aload_n F dX8_drawMeeting_29 0 rfl 30 rfl ?_
  refine z_callVi F dX8_drawMeeting_30 m_689 iX8_draw jX8_draw rfl zc7 rfl (kX8_draw _) rfl (by decide) (Nat.le_of_ble_eq_true rfl) 33 rfl (fun r30 s30 c30 => ?_)
  obtain ⟨rfl, rfl⟩ := c30
  refine z_bipush F dX8_drawMeeting_33 8 (by decide) 35 rfl ?_
  refine z_irem F dX8_drawMeeting_35 (by decide) 36 rfl ?_
  refine z_iast F dX8_drawMeeting_36 rfl (vp_in_nI (by omega) (by decide)) 37 rfl ?_
  rw [nI_clamp (by omega)]
  refine z_ru F dX8_drawMeeting_37 ?_
  rw [u2_o (show (1 : Nat) ≠ 10 by decide), u2_same]; rfl
set_option maxHeartbeats 400000 in
set_option maxRecDepth 10000 in
theorem kX0_copyA {l : Launch} {E : z_E} (σ : z_M)  : z_C l E shC 2 yX0_copy cX0_copy 2 none [.ref (z_ad E 8), .ref (z_ad E 32)] σ (z_Pv (fun σ' => MS [8, 9] σ σ' ∧ (∀ k, k < 3 → σ' 8 k = σ 32 k) ∧ ∀ k, k < 8 → σ' 9 k = σ 33 k)) := by
  refine z_intro iX0_copy (Nat.le_of_ble_eq_true rfl) (fun K F => ?_)
  refine z_aload_n F dX0_copy_0 0 rfl 1 rfl ?_
  refine z_aload_n F dX0_copy_1 1 rfl 2 rfl ?_
  refine z_getI F zc0 dX0_copy_2 rfl 0 (by decide) (by decide) (.inl m_144) rfl 5 rfl ?_
  refine z_putI F zc0 dX0_copy_5 rfl 0 (by decide) (by decide) (.inl m_144) rfl rfl z_pI 8 rfl ?_
  refine z_aload_n F dX0_copy_8 0 rfl 9 rfl ?_
  refine z_aload_n F dX0_copy_9 1 rfl 10 rfl ?_
  refine z_getI F zc0 dX0_copy_10 rfl 1 (by decide) (by decide) (.inl m_147) rfl 13 rfl ?_
  refine z_putI F zc0 dX0_copy_13 rfl 1 (by decide) (by decide) (.inl m_147) rfl rfl z_pI 16 rfl ?_
  refine z_aload_n F dX0_copy_16 0 rfl 17 rfl ?_
  refine z_aload_n F dX0_copy_17 1 rfl 18 rfl ?_
  refine z_getI F zc0 dX0_copy_18 rfl 2 (by decide) (by decide) (.inl m_150) rfl 21 rfl ?_
  refine z_putI F zc0 dX0_copy_21 rfl 2 (by decide) (by decide) (.inl m_150) rfl rfl z_pI 24 rfl ?_
  refine z_aload_n F dX0_copy_24 1 rfl 25 rfl ?_
  refine z_getR F zc0 dX0_copy_25 rfl 3 (by decide) (by decide) (.inl m_153) rfl (by decide) 28 rfl ?_
  refine z_iconst F dX0_copy_28 0 (by decide) 29 rfl ?_
  refine z_aload_n F dX0_copy_29 0 rfl 30 rfl ?_
  refine z_getR F zc0 dX0_copy_30 rfl 3 (by decide) (by decide) (.inl m_153) rfl (by decide) 33 rfl ?_
  refine z_iconst F dX0_copy_33 0 (by decide) 34 rfl ?_
  refine z_bipush F dX0_copy_34 8 (by decide) 36 rfl ?_
  refine z_copyi F dX0_copy_36 m_710 m_639 m_638 m_87 rfl rfl (by decide) (by decide) (by decide) (by decide) (by decide) (by decide) (Nat.le_of_ble_eq_true rfl) 39 rfl ?_
  refine z_rv F dX0_copy_39 ?_
  refine ⟨((((MS.rf.u2 (by decide)).u2 (by decide)).u2 (by decide)).up (by decide)), fun k hk => ?_, fun k hk => ?_⟩
  · have : k = 0 ∨ k = 1 ∨ k = 2 := by omega
    rcases this with rfl | rfl | rfl <;> simp [z_up, z_u2, upd]
  · simp [z_up, z_u2, upd, pk_cpy_in, hk]
set_option maxHeartbeats 400000 in
set_option maxRecDepth 10000 in
theorem kX0_copyB {l : Launch} {E : z_E} (σ : z_M)  : z_C l E shC 2 yX0_copy cX0_copy 2 none [.ref (z_ad E 32), .ref (z_ad E 8)] σ (z_Pv (fun σ' => MS [32, 33] σ σ' ∧ (∀ k, k < 3 → σ' 32 k = σ 8 k) ∧ ∀ k, k < 8 → σ' 33 k = σ 9 k)) := by
  refine z_intro iX0_copy (Nat.le_of_ble_eq_true rfl) (fun K F => ?_)
  refine z_aload_n F dX0_copy_0 0 rfl 1 rfl ?_
  refine z_aload_n F dX0_copy_1 1 rfl 2 rfl ?_
  refine z_getI F zc0 dX0_copy_2 rfl 0 (by decide) (by decide) (.inl m_144) rfl 5 rfl ?_
  refine z_putI F zc0 dX0_copy_5 rfl 0 (by decide) (by decide) (.inl m_144) rfl rfl z_pI 8 rfl ?_
  refine z_aload_n F dX0_copy_8 0 rfl 9 rfl ?_
  refine z_aload_n F dX0_copy_9 1 rfl 10 rfl ?_
  refine z_getI F zc0 dX0_copy_10 rfl 1 (by decide) (by decide) (.inl m_147) rfl 13 rfl ?_
  refine z_putI F zc0 dX0_copy_13 rfl 1 (by decide) (by decide) (.inl m_147) rfl rfl z_pI 16 rfl ?_
  refine z_aload_n F dX0_copy_16 0 rfl 17 rfl ?_
  refine z_aload_n F dX0_copy_17 1 rfl 18 rfl ?_
  refine z_getI F zc0 dX0_copy_18 rfl 2 (by decide) (by decide) (.inl m_150) rfl 21 rfl ?_
  refine z_putI F zc0 dX0_copy_21 rfl 2 (by decide) (by decide) (.inl m_150) rfl rfl z_pI 24 rfl ?_
  refine z_aload_n F dX0_copy_24 1 rfl 25 rfl ?_
  refine z_getR F zc0 dX0_copy_25 rfl 3 (by decide) (by decide) (.inl m_153) rfl (by decide) 28 rfl ?_
  refine z_iconst F dX0_copy_28 0 (by decide) 29 rfl ?_
  refine z_aload_n F dX0_copy_29 0 rfl 30 rfl ?_
  refine z_getR F zc0 dX0_copy_30 rfl 3 (by decide) (by decide) (.inl m_153) rfl (by decide) 33 rfl ?_
  refine z_iconst F dX0_copy_33 0 (by decide) 34 rfl ?_
  refine z_bipush F dX0_copy_34 8 (by decide) 36 rfl ?_
  refine z_copyi F dX0_copy_36 m_710 m_639 m_638 m_87 rfl rfl (by decide) (by decide) (by decide) (by decide) (by decide) (by decide) (Nat.le_of_ble_eq_true rfl) 39 rfl ?_
  refine z_rv F dX0_copy_39 ?_
  refine ⟨((((MS.rf.u2 (by decide)).u2 (by decide)).u2 (by decide)).up (by decide)), fun k hk => ?_, fun k hk => ?_⟩
  · have : k = 0 ∨ k = 1 ∨ k = 2 := by omega
    rcases this with rfl | rfl | rfl <;> simp [z_up, z_u2, upd]
  · simp [z_up, z_u2, upd, pk_cpy_in, hk]
set_option maxHeartbeats 400000 in
set_option maxRecDepth 10000 in
theorem kX0_copyT {l : Launch} {E : z_E} (σ : z_M)  : z_C l E shC 2 yX0_copy cX0_copy 2 none [.ref (z_ad E 49), .ref (z_ad E 8)] σ (z_Pv (fun σ' => MS [49, 50] σ σ' ∧ (∀ k, k < 3 → σ' 49 k = σ 8 k) ∧ ∀ k, k < 8 → σ' 50 k = σ 9 k)) := by
  refine z_intro iX0_copy (Nat.le_of_ble_eq_true rfl) (fun K F => ?_)
  refine z_aload_n F dX0_copy_0 0 rfl 1 rfl ?_
  refine z_aload_n F dX0_copy_1 1 rfl 2 rfl ?_
  refine z_getI F zc0 dX0_copy_2 rfl 0 (by decide) (by decide) (.inl m_144) rfl 5 rfl ?_
  refine z_putI F zc0 dX0_copy_5 rfl 0 (by decide) (by decide) (.inl m_144) rfl rfl z_pI 8 rfl ?_
  refine z_aload_n F dX0_copy_8 0 rfl 9 rfl ?_
  refine z_aload_n F dX0_copy_9 1 rfl 10 rfl ?_
  refine z_getI F zc0 dX0_copy_10 rfl 1 (by decide) (by decide) (.inl m_147) rfl 13 rfl ?_
  refine z_putI F zc0 dX0_copy_13 rfl 1 (by decide) (by decide) (.inl m_147) rfl rfl z_pI 16 rfl ?_
  refine z_aload_n F dX0_copy_16 0 rfl 17 rfl ?_
  refine z_aload_n F dX0_copy_17 1 rfl 18 rfl ?_
  refine z_getI F zc0 dX0_copy_18 rfl 2 (by decide) (by decide) (.inl m_150) rfl 21 rfl ?_
  refine z_putI F zc0 dX0_copy_21 rfl 2 (by decide) (by decide) (.inl m_150) rfl rfl z_pI 24 rfl ?_
  refine z_aload_n F dX0_copy_24 1 rfl 25 rfl ?_
  refine z_getR F zc0 dX0_copy_25 rfl 3 (by decide) (by decide) (.inl m_153) rfl (by decide) 28 rfl ?_
  refine z_iconst F dX0_copy_28 0 (by decide) 29 rfl ?_
  refine z_aload_n F dX0_copy_29 0 rfl 30 rfl ?_
  refine z_getR F zc0 dX0_copy_30 rfl 3 (by decide) (by decide) (.inl m_153) rfl (by decide) 33 rfl ?_
  refine z_iconst F dX0_copy_33 0 (by decide) 34 rfl ?_
  refine z_bipush F dX0_copy_34 8 (by decide) 36 rfl ?_
  refine z_copyi F dX0_copy_36 m_710 m_639 m_638 m_87 rfl rfl (by decide) (by decide) (by decide) (by decide) (by decide) (by decide) (Nat.le_of_ble_eq_true rfl) 39 rfl ?_
  refine z_rv F dX0_copy_39 ?_
  refine ⟨((((MS.rf.u2 (by decide)).u2 (by decide)).u2 (by decide)).up (by decide)), fun k hk => ?_, fun k hk => ?_⟩
  · have : k = 0 ∨ k = 1 ∨ k = 2 := by omega
    rcases this with rfl | rfl | rfl <;> simp [z_up, z_u2, upd]
  · simp [z_up, z_u2, upd, pk_cpy_in, hk]
