/-! what goes by in a YEAR; the two sides' common words -/
def mod8 (y : Int32) : Int32 := y - y / 8 * 8
def orS (f : Nat → Nat) : Nat → Nat
  | 0 => 0
  | n + 1 => orS f n ||| f n
def sumS (f : Nat → Nat) : Nat → Nat
  | 0 => 0
  | n + 1 => sumS f n + f n
/-- how many VEILS one lets down for another, SIGHT of one -/
def veilS (r : Rw) (p q : Nat) : Int32 := givS r 0 (letS (pO r p 0) (pO r p 1) (nI (dS r p q))) (nI (dS r p q)) (mod8 (r 0))
def sightS (r : Rw) (p : Nat) : Int32 := givS r 1 (eyeS (pO r p 0) (pO r p 1) (nI (nearN r p)) (r 0)) (mod8 (r 0)) (r 3 / 10)
def MtR (σ : z_M) (b : Nat) (r : Rw) : Prop := ∀ k, k < 6 → σ (b + 9) k = r (7 + 2 * k) ∧ σ (b + 10) k = r (8 + 2 * k)
def VM (r : Rw) : Prop := ∀ k, k < 6 → (∃ a, a < 8 ∧ r (7 + 2 * k) = nI a) ∧ (∃ a, a < 8 ∧ r (8 + 2 * k) = nI a)
def CrsR (σ : z_M) (cr sn : Nat) (r : Rw) : Prop := σ cr 0 = r 0 ∧ σ cr 1 = r 3 ∧ σ cr 2 = r 4 ∧ ∀ p, p < 8 → σ sn p = if p < nP r then pO r p 4 else 0
def VT (Y : Nat) (r : Rw) : Prop := (∃ y, y ≤ Y ∧ r 0 = nI y) ∧ (∃ c, c ≤ 999 ∧ r 3 = nI c) ∧ (∃ o, o ≤ 40 ∧ r 4 = nI o) ∧ ∀ p, p < nP r → ∃ s, s < 2 ^ nP r ∧ pO r p 4 = nI s
/-- what stays while YEARS go by -/
def NowR (σ : z_M) (r : Rw) : Prop := KinR σ 1 r ∧ MeaR σ 1 r ∧ VK r ∧ TxR σ 1 0 r ∧ TxR σ 1 1 r ∧ VC r 0 ∧ VC r 1 ∧ MtR σ 1 r ∧ VM r
def eqK (r r' : Rw) : Prop := r' 2 = r 2 ∧ (∀ p w, w < 4 → pO r' p w = pO r p w) ∧ (∀ k, 7 ≤ k → k < 19 → r' k = r k) ∧ ∀ k, 143 ≤ k → r' k = r k
theorem eqK.rf {r : Rw} : eqK r r := ⟨rfl, fun _ _ _ => rfl, fun _ _ _ => rfl, fun _ _ => rfl⟩
theorem eqK.tr {r s t : Rw} (h : eqK r s) (h2 : eqK s t) : eqK r t := ⟨h2.1.trans h.1, fun p w hw => (h2.2.1 p w hw).trans (h.2.1 p w hw), fun k h3 h4 => (h2.2.2.1 k h3 h4).trans (h.2.2.1 k h3 h4), fun k h3 => (h2.2.2.2 k h3).trans (h.2.2.2 k h3)⟩
theorem eqK_nP {r r' : Rw} (h : eqK r r') : nP r' = nP r := by unfold nP; rw [h.1]
theorem eqK_dS {r r' : Rw} (h : eqK r r') : dS r' = dS r := by
  funext a b
  unfold dS
  have e : adj r' = adj r := by
    funext x y
    unfold adj
    rw [h.2.1 x 2 (by decide), h.2.1 y 2 (by decide), h.2.1 x 3 (by decide)]
  rw [e, eqK_nP h]
theorem eqK_near {r r' : Rw} (h : eqK r r') (p : Nat) : nearN r' p = nearN r p := by
  unfold nearN
  rw [eqK_nP h]
  have e : adj r' = adj r := by
    funext x y
    unfold adj
    rw [h.2.1 x 2 (by decide), h.2.1 y 2 (by decide), h.2.1 x 3 (by decide)]
  rw [e]
theorem eqK_dp {r r' : Rw} (h : eqK r r') {at0 : Nat} (ha : 143 ≤ at0) : ∀ k, dpR r' at0 k = dpR r at0 k
  | 0 => rfl
  | k + 1 => by show dpS _ _ = dpS _ _; rw [eqK_dp h ha k, h.2.2.2 _ (by omega)]
theorem eqK_ev {r r' : Rw} (h : eqK r r') {at0 : Nat} (ha : 143 ≤ at0) (fa : Nat → Int32) : ∀ k, evR r' at0 fa k = evR r at0 fa k
  | 0 => rfl
  | k + 1 => by show evS _ _ _ _ = evS _ _ _ _; rw [eqK_ev h ha fa k, h.2.2.2 _ (by omega), h.2.2.2 _ (by omega)]
theorem eqK_cL {r r' : Rw} (h : eqK r r') (u : Nat) : cL r' u = cL r u := by unfold cL; rw [h.2.2.2 _ (by omega)]
theorem eqK_giv {r r' : Rw} (h : eqK r r') (u : Nat) (a b c : Int32) : givS r' u a b c = givS r u a b c := by unfold givS; rw [eqK_cL h, eqK_ev h (by omega)]
theorem eqK_VC {r r' : Rw} (h : eqK r r') {u : Nat} (hv : VC r u) : VC r' u := by
  unfold VC at hv ⊢
  rw [eqK_cL h, h.2.2.2 _ (by omega), eqK_dp h (by omega)]
  refine ⟨hv.1, hv.2.1, fun k hk => ?_, hv.2.2.2⟩
  rw [h.2.2.2 _ (by omega), h.2.2.2 _ (by omega), eqK_dp h (by omega)]
  exact hv.2.2.1 k hk
theorem eqK_TxR {σ : z_M} {b u : Nat} {r r' : Rw} (h : eqK r r') (ht : TxR σ b u r) : TxR σ b u r' := by
  unfold TxR at ht ⊢
  rw [eqK_cL h, h.2.2.2 _ (by omega)]
  refine ⟨ht.1, fun k hk => ?_⟩
  rw [h.2.2.2 _ (by omega), h.2.2.2 _ (by omega)]
  exact ht.2 k hk
theorem eqK_VK {r r' : Rw} (h : eqK r r') (hv : VK r) : VK r' := by
  unfold VK at hv ⊢
  rw [eqK_nP h, h.1]
  refine ⟨hv.1, hv.2.1, fun p hp => ?_⟩
  rw [h.2.1 p 0 (by decide), h.2.1 p 1 (by decide), h.2.1 p 2 (by decide), h.2.1 p 3 (by decide)]
  obtain ⟨h1, h2, h3, h4⟩ := hv.2.2 p hp
  refine ⟨h1, h2, h3, ?_⟩
  rcases h4 with h4 | ⟨j, a1, a2, a3, a4⟩
  · exact Or.inl h4
  · exact Or.inr ⟨j, a1, a2, a3, by rw [h.2.1 j 3 (by decide)]; exact a4⟩
theorem eqK_KinR {σ : z_M} {b : Nat} {r r' : Rw} (h : eqK r r') (hv : KinR σ b r) : KinR σ b r' := by
  unfold KinR at hv ⊢
  rw [eqK_nP h, h.1]
  refine ⟨hv.1, fun p hp => ?_⟩
  rw [h.2.1 p 0 (by decide), h.2.1 p 1 (by decide), h.2.1 p 2 (by decide), h.2.1 p 3 (by decide)]
  exact hv.2 p hp
theorem eqK_MeaR {σ : z_M} {b : Nat} {r r' : Rw} (h : eqK r r') (hv : MeaR σ b r) : MeaR σ b r' := by
  unfold MeaR at hv ⊢
  rw [eqK_nP h, eqK_dS h]; exact hv
theorem eqK_MtR {σ : z_M} {b : Nat} {r r' : Rw} (h : eqK r r') (hv : MtR σ b r) : MtR σ b r' := fun k hk => by
  rw [h.2.2.1 _ (by omega) (by omega), h.2.2.1 _ (by omega) (by omega)]; exact hv k hk
theorem eqK_VM {r r' : Rw} (h : eqK r r') (hv : VM r) : VM r' := fun k hk => by
  rw [h.2.2.1 _ (by omega) (by omega), h.2.2.1 _ (by omega) (by omega)]; exact hv k hk
theorem eqK_Now {σ : z_M} {r r' : Rw} (h : eqK r r') (hv : NowR σ r) : NowR σ r' :=
  ⟨eqK_KinR h hv.1, eqK_MeaR h hv.2.1, eqK_VK h hv.2.2.1, eqK_TxR h hv.2.2.2.1, eqK_TxR h hv.2.2.2.2.1, eqK_VC h hv.2.2.2.2.2.1, eqK_VC h hv.2.2.2.2.2.2.1, eqK_MtR h hv.2.2.2.2.2.2.2.1, eqK_VM h hv.2.2.2.2.2.2.2.2⟩
theorem NowR.ms {σ σ' : z_M} {r : Rw} {G : List Nat} (h : NowR σ r) (hs : MS G σ σ') (h2 : ∀ o, o ∈ [2, 3, 4, 5, 6, 7, 10, 11, 14, 15, 18, 19] → o ∉ G) : NowR σ' r := by
  obtain ⟨a1, a2, a3, a4, a5, a6, a7, a8, a9⟩ := h
  refine ⟨a1.ms hs ⟨h2 _ (by decide), h2 _ (by decide), h2 _ (by decide), h2 _ (by decide), h2 _ (by decide)⟩, a2.ms hs (h2 _ (by decide)), a3, ?_, ?_, a6, a7, ?_, a9⟩
  · refine ⟨?_, fun k hk => ?_⟩
    · rw [hs (1 + 13 + 4 * 0) (h2 14 (by decide))]; exact a4.1
    · rw [hs (1 + 14 + 4 * 0) (h2 15 (by decide))]; exact a4.2 k hk
  · refine ⟨?_, fun k hk => ?_⟩
    · rw [hs (1 + 13 + 4 * 1) (h2 18 (by decide))]; exact a5.1
    · rw [hs (1 + 14 + 4 * 1) (h2 19 (by decide))]; exact a5.2 k hk
  · intro k hk
    rw [hs (1 + 9) (h2 10 (by decide)), hs (1 + 10) (h2 11 (by decide))]; exact a8 k hk
theorem CrsR.ms {σ σ' : z_M} {cr sn : Nat} {r : Rw} {G : List Nat} (h : CrsR σ cr sn r) (hs : MS G σ σ') (h1 : cr ∉ G) (h2 : sn ∉ G) : CrsR σ' cr sn r := by
  obtain ⟨a1, a2, a3, a4⟩ := h
  exact ⟨by rw [hs _ h1]; exact a1, by rw [hs _ h1]; exact a2, by rw [hs _ h1]; exact a3, fun p hp => by rw [hs _ h2]; exact a4 p hp⟩
/-- a YEAR with a MEETING of a, who looks, and b -/
def wrS (r : Rw) (a b : Nat) : Int32 := if r 3 < veilS r b a then r 3 else veilS r b a
def goM1 (r : Rw) (a b : Nat) : Rw := if a ≠ b ∧ a < nP r ∧ b < nP r then upd (pU r a 4 (if wrS r a b ≤ sightS r a then pO r a 4 ||| (1 : Int32) <<< (nI b &&& 31) else pO r a 4)) 3 (r 3 - wrS r a b) else r
def goM (r : Rw) (a b : Nat) : Rw := upd (upd (goM1 r a b) 3 (if 999 < goM1 r a b 3 + goM1 r a b 4 then 999 else goM1 r a b 3 + goM1 r a b 4)) 0 (r 0 + 1)
def goS (r : Rw) : Rw := goM r (r (7 + 2 * ((r 0).toNatClampNeg % 6))).toNatClampNeg (r (8 + 2 * ((r 0).toNatClampNeg % 6))).toNatClampNeg
def goN : Nat → Rw → Rw
  | 0, r => r
  | k + 1, r => goS (goN k r)
theorem goM_0 {r : Rw} {a b : Nat} : goM r a b 0 = r 0 + 1 := by unfold goM; rw [upd_at, if_pos rfl]
theorem goM_3 {r : Rw} {a b : Nat} : goM r a b 3 = if 999 < goM1 r a b 3 + goM1 r a b 4 then 999 else goM1 r a b 3 + goM1 r a b 4 := by unfold goM; rw [upd_at, if_neg (show ¬ (3 : Nat) = 0 by decide), upd_at, if_pos rfl]
theorem goM_4 {r : Rw} {a b : Nat} : goM r a b 4 = goM1 r a b 4 := by unfold goM; rw [upd_at, if_neg (show ¬ (4 : Nat) = 0 by decide), upd_at, if_neg (show ¬ (4 : Nat) = 3 by decide)]
theorem pO_u3 {f : Rw} {v : Int32} {p w : Nat} : pO (upd f 3 v) p w = pO f p w := by unfold pO; rw [upd_at, if_neg (by omega)]
theorem pO_goM {r : Rw} {a b p w : Nat} : pO (goM r a b) p w = pO (goM1 r a b) p w := by unfold goM pO; rw [upd_at, if_neg (by omega), upd_at, if_neg (by omega)]
theorem or_two_pow {s j : Nat} (h : s < 2 ^ j) : s ||| 2 ^ j = s + 2 ^ j := by
  apply Nat.eq_of_testBit_eq
  intro i
  rw [Nat.testBit_or, Nat.testBit_two_pow, Nat.add_comm]
  rcases Nat.lt_trichotomy i j with q | q | q
  · rw [Nat.testBit_two_pow_add_gt q, decide_eq_false (by omega)]; simp
  · subst q
    rw [Nat.testBit_two_pow_add_eq, Nat.testBit_lt_two_pow h]; simp
  · rw [Nat.testBit_lt_two_pow (Nat.lt_of_lt_of_le h (Nat.pow_le_pow_right (by decide) (by omega))), decide_eq_false (by omega), Nat.testBit_lt_two_pow]
    · rfl
    · have : 2 ^ j + s < 2 ^ (j + 1) := by rw [Nat.pow_succ]; omega
      exact Nat.lt_of_lt_of_le this (Nat.pow_le_pow_right (by decide) q)
theorem setOf_t {f : Nat → Bool} {n : Nat} (h : f n = true) : setOf f (n + 1) = setOf f n ||| 2 ^ n := by rw [or_two_pow (setOf_lt f n)]; show _ + _ = _; rw [if_pos h]
theorem setOf_f {f : Nat → Bool} {n : Nat} (h : f n = false) : setOf f (n + 1) = setOf f n := by show _ + _ = _; rw [if_neg (by rw [h]; decide)]; rfl
theorem orS_s {f : Nat → Nat} {n : Nat} : orS f (n + 1) = orS f n ||| f n := rfl
theorem eqK_upd {r : Rw} {k : Nat} {v : Int32} (h : k = 0 ∨ k = 3 ∨ k = 4) : eqK r (upd r k v) := by
  refine ⟨by rw [upd_at, if_neg (by omega)], fun p w hw => ?_, fun j h1 h2 => by rw [upd_at, if_neg (by omega)], fun j h1 => by rw [upd_at, if_neg (by omega)]⟩
  unfold pO; rw [upd_at, if_neg (by omega)]
theorem eqK_pU {r : Rw} {a : Nat} {v : Int32} (ha : a < 8) : eqK r (pU r a 4 v) := by
  refine ⟨pU_lo (by decide), fun p w hw => by rw [pO_pU (by decide) (by omega), if_neg (by omega)], fun j h1 h2 => pU_lo (by omega), fun j h1 => ?_⟩
  unfold pU; rw [upd_at, if_neg (by omega)]
theorem eqK_goM1 {r : Rw} {a b : Nat} (ha : a < 8) : eqK r (goM1 r a b) := by
  unfold goM1
  split
  · exact (eqK_pU ha).tr (eqK_upd (Or.inr (Or.inl rfl)))
  · exact eqK.rf
theorem eqK_goM {r : Rw} {a b : Nat} (ha : a < 8) : eqK r (goM r a b) := ((eqK_goM1 ha).tr (eqK_upd (Or.inr (Or.inl rfl)))).tr (eqK_upd (Or.inl rfl))
theorem held_rng (v : Int32) : ∃ h, h ≤ 40 ∧ heldS v = nI h := by
  unfold heldS
  by_cases h : v < 0
  · exact ⟨0, by omega, by rw [if_pos h]; rfl⟩
  · rw [if_neg h]
    obtain ⟨j, hj, rfl⟩ := nI_of h
    by_cases h2 : (40 : Int32) < nI j
    · exact ⟨40, by omega, by rw [if_pos h2]; rfl⟩
    · refine ⟨j, ?_, by rw [if_neg h2]⟩
      rcases Nat.lt_or_ge 40 j with q | q
      · exact absurd (nI_lt (a := 40) q hj) h2
      · exact q
theorem or_lt {s b n : Nat} (hs : s < 2 ^ n) (hb : b < n) : s ||| 2 ^ b < 2 ^ n := Nat.or_lt_two_pow hs (Nat.pow_lt_pow_right (by decide) hb)
theorem VT_goM {r : Rw} {Y : Nat} (h : VT Y r) (hY : Y < 100000) (hV : VK r) {a b : Nat} (ha : a < 8) : VT (Y + 1) (goM r a b) := by
  obtain ⟨⟨y, hy, ey⟩, ⟨c, hc, ec⟩, ⟨o, ho, eo⟩, hs⟩ := h
  have h8 := hV.2.1
  have n1 : nP (goM r a b) = nP r := eqK_nP (eqK_goM ha)
  have e1 : ∃ c1, c1 ≤ 999 ∧ goM1 r a b 3 = nI c1 := by
    unfold goM1
    split
    · obtain ⟨w, hw, ew⟩ := held_rng (if 0 < cL r 0 then (evR r (143 + 121 * 0) (fa3 (letS (pO r b 0) (pO r b 1) (nI (dS r b a))) (nI (dS r b a)) (mod8 (r 0))) (cL r 0)).getLastD 0 else letS (pO r b 0) (pO r b 1) (nI (dS r b a)))
      have ev : veilS r b a = nI w := ew
      rw [upd_at, if_pos rfl]
      unfold wrS
      rw [ev, ec]
      by_cases q : c < w
      · rw [if_pos (nI_lt q (by omega))]; exact ⟨0, by omega, by rw [pk_sub (Nat.le_refl _)]; simp⟩
      · rw [if_neg (nI_nlt (by omega) (by omega))]; exact ⟨c - w, by omega, pk_sub (by omega)⟩
    · exact ⟨c, hc, ec⟩
  have e2 : goM1 r a b 4 = nI o := by
    unfold goM1
    split
    · rw [upd_at, if_neg (by decide), pU_lo (by decide)]; exact eo
    · exact eo
  obtain ⟨c1, hc1, ec1⟩ := e1
  refine ⟨⟨y + 1, by omega, ?_⟩, ?_, ⟨o, ho, ?_⟩, fun p hp => ?_⟩
  · unfold goM; rw [upd_at, if_pos rfl, ey, nI_1]
  · unfold goM; rw [upd_at, if_neg (by decide), upd_at, if_pos rfl, ec1, e2, nI_add]
    by_cases q : 999 < c1 + o
    · rw [if_pos (show (999 : Int32) < nI (c1 + o) from nI_lt (a := 999) q (by omega))]; exact ⟨999, by omega, rfl⟩
    · rw [if_neg (show ¬ (999 : Int32) < nI (c1 + o) from nI_nlt (a := 999) (by omega) (by decide))]; exact ⟨c1 + o, by omega, rfl⟩
  · unfold goM; rw [upd_at, if_neg (by decide), upd_at, if_neg (by decide)]; exact e2
  · rw [n1] at hp ⊢
    have e3 : pO (goM r a b) p 4 = pO (goM1 r a b) p 4 := by
      unfold goM pO; rw [upd_at, if_neg (by omega), upd_at, if_neg (by omega)]
    rw [e3]
    unfold goM1
    split
    · rename_i hcond
      have e4 : ∀ (f : Rw) (v : Int32), pO (upd f 3 v) p 4 = pO f p 4 := fun f v => by unfold pO; rw [upd_at, if_neg (by omega)]
      rw [e4, pO_pU (by decide) (by decide)]
      split
      · obtain ⟨s, hs1, es⟩ := hs a hcond.2.1
        split
        · exact ⟨s ||| 2 ^ b, or_lt hs1 hcond.2.2, by rw [es, shl_nI b (by omega), or_nI]⟩
        · exact ⟨s, hs1, es⟩
      · exact hs p hp
    · exact hs p hp
theorem NowR_go {σ : z_M} {r : Rw} (h : NowR σ r) {a b : Nat} (ha : a < 8) : NowR σ (goM r a b) := eqK_Now (eqK_goM ha) h
/-- the MEETING of a YEAR -/
theorem VM.at {r : Rw} (h : VM r) (y : Nat) : ∃ a b, a < 8 ∧ b < 8 ∧ r (7 + 2 * (y % 6)) = nI a ∧ r (8 + 2 * (y % 6)) = nI b := by
  obtain ⟨⟨a, ha, ea⟩, ⟨b, hb, eb⟩⟩ := h (y % 6) (Nat.mod_lt _ (by decide))
  exact ⟨a, b, ha, hb, ea, eb⟩
theorem goS_lt {r : Rw} (h : VM r) : (r (7 + 2 * ((r 0).toNatClampNeg % 6))).toNatClampNeg < 8 := by
  obtain ⟨a, b, ha, hb, ea, eb⟩ := h.at (r 0).toNatClampNeg
  rw [ea, nI_clamp (by omega)]; exact ha
theorem eqK_goS {r : Rw} (h : VM r) : eqK r (goS r) := eqK_goM (goS_lt h)
theorem eqK_goN {r : Rw} (h : VM r) : ∀ k, eqK r (goN k r)
  | 0 => eqK.rf
  | k + 1 => (eqK_goN h k).tr (eqK_goS (eqK_VM (eqK_goN h k) h))
theorem VT_goS {r : Rw} {Y : Nat} (h : VT Y r) (hY : Y < 100000) (hV : VK r) (hM : VM r) : VT (Y + 1) (goS r) := VT_goM h hY hV (goS_lt hM)
theorem VT_goN {r : Rw} {Y : Nat} (h : VT Y r) (hY : Y < 99000) (hV : VK r) (hM : VM r) : ∀ k, k < 1000 → VT (Y + k) (goN k r)
  | 0, _ => h
  | k + 1, hk => VT_goS (VT_goN h hY hV hM k (by omega)) (show Y + k < 100000 by omega) (eqK_VK (eqK_goN hM k) hV) (eqK_VM (eqK_goN hM k) hM)
/-- whom one has SEEN, as a number -/
def sN (r : Rw) (p : Nat) : Nat := if p < nP r then (pO r p 4).toNatClampNeg else 0
theorem sN_lt {r : Rw} {Y : Nat} (h : VT Y r) (hV : VK r) (p : Nat) : sN r p < 2 ^ nP r ∧ sN r p < 256 ∧ (p < nP r → pO r p 4 = nI (sN r p)) := by
  have h8 := hV.2.1
  have h256 : 2 ^ nP r ≤ 2 ^ 8 := Nat.pow_le_pow_right (by decide) h8
  unfold sN
  by_cases q : p < nP r
  · obtain ⟨s, hs, es⟩ := h.2.2.2 p q
    rw [if_pos q, es, nI_clamp (by omega)]
    exact ⟨hs, by omega, fun _ => rfl⟩
  · rw [if_neg q]
    exact ⟨Nat.two_pow_pos _, by omega, fun z => absurd z q⟩
theorem CrsR.sn {σ : z_M} {cr sn : Nat} {r : Rw} {Y : Nat} (h : CrsR σ cr sn r) (hT : VT Y r) (hV : VK r) : ∀ p, p < 8 → σ sn p = nI (sN r p) := by
  intro p hp
  rw [h.2.2.2 p hp]
  by_cases q : p < nP r
  · rw [if_pos q]; exact (sN_lt hT hV p).2.2 q
  · rw [if_neg q]; unfold sN; rw [if_neg q]; rfl
theorem setOf_cut {f : Nat → Bool} {n : Nat} : ∀ {m : Nat}, n ≤ m → (∀ i, n ≤ i → f i = false) → setOf f m = setOf f n
  | 0, h, _ => by have : n = 0 := by omega
                  subst this; rfl
  | m + 1, h, hf => by
    rcases Nat.lt_or_ge m n with q | q
    · have : n = m + 1 := by omega
      subst this; rfl
    · show setOf f m + _ = _
      rw [hf m q, setOf_cut q hf]; rfl
theorem orS_cut {f : Nat → Nat} {n : Nat} : ∀ {m : Nat}, n ≤ m → (∀ i, n ≤ i → f i = 0) → orS f m = orS f n
  | 0, h, _ => by have : n = 0 := by omega
                  subst this; rfl
  | m + 1, h, hf => by
    rcases Nat.lt_or_ge m n with q | q
    · have : n = m + 1 := by omega
      subst this; rfl
    · show orS f m ||| _ = _
      rw [hf m q, orS_cut q hf, Nat.or_zero]
theorem sumS_cut {f : Nat → Nat} {n : Nat} : ∀ {m : Nat}, n ≤ m → (∀ i, n ≤ i → f i = 0) → sumS f m = sumS f n
  | 0, h, _ => by have : n = 0 := by omega
                  subst this; rfl
  | m + 1, h, hf => by
    rcases Nat.lt_or_ge m n with q | q
    · have : n = m + 1 := by omega
      subst this; rfl
    · show sumS f m + _ = _
      rw [hf m q, sumS_cut q hf, Nat.add_zero]
theorem orS_lt {f : Nat → Nat} {b : Nat} : ∀ {m : Nat}, (∀ i, i < m → f i < 2 ^ b) → orS f m < 2 ^ b
  | 0, _ => Nat.two_pow_pos _
  | m + 1, h => Nat.or_lt_two_pow (orS_lt (fun i hi => h i (by omega))) (h m (by omega))
theorem sumS_le {f : Nat → Nat} {c : Nat} : ∀ {m : Nat}, (∀ i, i < m → f i ≤ c) → sumS f m ≤ m * c
  | 0, _ => by simp [sumS]
  | m + 1, h => by
    have h1 := sumS_le (m := m) (fun i hi => h i (by omega))
    have h2 := h m (by omega)
    show sumS f m + f m ≤ (m + 1) * c
    rw [Nat.succ_mul]; omega
/-- who has SEEN one; all whom a set has SEEN; how many all have SEEN -/
def seersN (r : Rw) (p : Nat) : Nat := setOf (fun o => (sN r o).testBit p) (nP r)
def seenN (r : Rw) (s : Nat) : Nat := orS (fun p => if s.testBit p then sN r p else 0) (nP r)
def allN (r : Rw) : Nat := sumS (fun p => pcN (sN r p)) (nP r)
theorem sN_out {r : Rw} {p : Nat} (h : nP r ≤ p) : sN r p = 0 := by unfold sN; rw [if_neg (by omega)]
theorem xor_nI (a b : Nat) : nI a ^^^ nI b = nI (a ^^^ b) := by
  apply Int32.toBitVec_inj.mp
  show BitVec.ofNat 32 a ^^^ BitVec.ofNat 32 b = BitVec.ofNat 32 (a ^^^ b)
  rw [BitVec.ofNat_xor]
set_option maxHeartbeats 4000000 in
set_option maxRecDepth 10000 in
theorem kJ6_bitCount_0f7a4 {l : Launch} {E : z_E} (σ : z_M) {S : z_Sh} {s : Nat} (hs : s < 256) : z_C l E S 0 yJ6_bitCount_0f7a4 cJ6_bitCount_0f7a4 1 (some FieldType.int) [.int (nI s)] σ (z_Pp (nI (pcN s)) σ) := by
  refine z_intro iJ6_bitCount_0f7a4 (Nat.le_of_ble_eq_true rfl) (fun K F => ?_)
  refine z_iload_n F dJ6_bitCount_0f7a4_0 0 rfl 1 rfl ?_
  refine z_iload_n F dJ6_bitCount_0f7a4_1 0 rfl 2 rfl ?_
  refine z_iconst F dJ6_bitCount_0f7a4_2 1 (by decide) 3 rfl ?_
  refine z_iushr F dJ6_bitCount_0f7a4_3 4 rfl ?_
  refine z_ldcw F dJ6_bitCount_0f7a4_4 m_678 7 rfl ?_
  refine z_iand F dJ6_bitCount_0f7a4_7 8 rfl ?_
  refine z_isub F dJ6_bitCount_0f7a4_8 9 rfl ?_
  refine z_istore_n F dJ6_bitCount_0f7a4_9 [(0, _)] rfl (by decide) 10 rfl ?_
  refine z_iload_n F dJ6_bitCount_0f7a4_10 0 rfl 11 rfl ?_
  refine z_ldcw F dJ6_bitCount_0f7a4_11 m_679 14 rfl ?_
  refine z_iand F dJ6_bitCount_0f7a4_14 15 rfl ?_
  refine z_iload_n F dJ6_bitCount_0f7a4_15 0 rfl 16 rfl ?_
  refine z_iconst F dJ6_bitCount_0f7a4_16 2 (by decide) 17 rfl ?_
  refine z_iushr F dJ6_bitCount_0f7a4_17 18 rfl ?_
  refine z_ldcw F dJ6_bitCount_0f7a4_18 m_679 21 rfl ?_
  refine z_iand F dJ6_bitCount_0f7a4_21 22 rfl ?_
  refine z_iadd F dJ6_bitCount_0f7a4_22 23 rfl ?_
  refine z_istore_n F dJ6_bitCount_0f7a4_23 [(0, _)] rfl (by decide) 24 rfl ?_
  refine z_iload_n F dJ6_bitCount_0f7a4_24 0 rfl 25 rfl ?_
  refine z_iload_n F dJ6_bitCount_0f7a4_25 0 rfl 26 rfl ?_
  refine z_iconst F dJ6_bitCount_0f7a4_26 4 (by decide) 27 rfl ?_
  refine z_iushr F dJ6_bitCount_0f7a4_27 28 rfl ?_
  refine z_iadd F dJ6_bitCount_0f7a4_28 29 rfl ?_
  refine z_ldcw F dJ6_bitCount_0f7a4_29 m_680 32 rfl ?_
  refine z_iand F dJ6_bitCount_0f7a4_32 33 rfl ?_
  refine z_istore_n F dJ6_bitCount_0f7a4_33 [(0, _)] rfl (by decide) 34 rfl ?_
  refine z_iload_n F dJ6_bitCount_0f7a4_34 0 rfl 35 rfl ?_
  refine z_iload_n F dJ6_bitCount_0f7a4_35 0 rfl 36 rfl ?_
  refine z_bipush F dJ6_bitCount_0f7a4_36 8 (by decide) 38 rfl ?_
  refine z_iushr F dJ6_bitCount_0f7a4_38 39 rfl ?_
  refine z_iadd F dJ6_bitCount_0f7a4_39 40 rfl ?_
  refine z_istore_n F dJ6_bitCount_0f7a4_40 [(0, _)] rfl (by decide) 41 rfl ?_
  refine z_iload_n F dJ6_bitCount_0f7a4_41 0 rfl 42 rfl ?_
  refine z_iload_n F dJ6_bitCount_0f7a4_42 0 rfl 43 rfl ?_
  refine z_bipush F dJ6_bitCount_0f7a4_43 16 (by decide) 45 rfl ?_
  refine z_iushr F dJ6_bitCount_0f7a4_45 46 rfl ?_
  refine z_iadd F dJ6_bitCount_0f7a4_46 47 rfl ?_
  refine z_istore_n F dJ6_bitCount_0f7a4_47 [(0, _)] rfl (by decide) 48 rfl ?_
  refine z_iload_n F dJ6_bitCount_0f7a4_48 0 rfl 49 rfl ?_
  refine z_bipush F dJ6_bitCount_0f7a4_49 63 (by decide) 51 rfl ?_
  refine z_iand F dJ6_bitCount_0f7a4_51 52 rfl ?_
  refine z_rp F dJ6_bitCount_0f7a4_52 ?_ rfl
  clear F
  revert hs; revert s; decide +kernel
set_option maxHeartbeats 400000 in
set_option maxRecDepth 10000 in
theorem kJ9_floorMod_7cf53 {l : Launch} {E : z_E} (σ : z_M) {S : z_Sh} {y : Nat} (hy : y < 2 ^ 30) : z_C l E S 0 yJ9_floorMod_7cf53 cJ9_floorMod_7cf53 3 (some FieldType.int) [.int (nI y), .int 6] σ (z_Pp (nI (y % 6)) σ) := by
  refine z_intro iJ9_floorMod_7cf53 (Nat.le_of_ble_eq_true rfl) (fun K F => ?_)
  refine z_iload_n F dJ9_floorMod_7cf53_0 0 rfl 1 rfl ?_
  refine z_iload_n F dJ9_floorMod_7cf53_1 1 rfl 2 rfl ?_
  refine z_irem F dJ9_floorMod_7cf53_2 (by decide) 3 rfl ?_
  refine z_istore_n F dJ9_floorMod_7cf53_3 [(0, _), (1, _), (2, _)] rfl (by decide) 4 rfl ?_
  refine z_iload_n F dJ9_floorMod_7cf53_4 0 rfl 5 rfl ?_
  refine z_iload_n F dJ9_floorMod_7cf53_5 1 rfl 6 rfl ?_
  refine z_ixor F dJ9_floorMod_7cf53_6 7 rfl ?_
  refine z_if_ge F dJ9_floorMod_7cf53_7 18 (by decide) 10 rfl (fun h7 => ?_) (fun h7 => ?_)
  · skip
    refine z_iload_n F dJ9_floorMod_7cf53_18 2 rfl 19 rfl ?_
    refine z_rp F dJ9_floorMod_7cf53_19 ?_ rfl
    exact pk_rem (a := y) (d := 6) (by omega) (by decide) (by decide)
  · skip
    exact absurd (by rw [show (6 : Int32) = nI 6 from rfl, xor_nI]; exact nI_pos' (Nat.lt_of_lt_of_le (Nat.xor_lt_two_pow hy (by decide : 6 < 2 ^ 30)) (by decide))) h7
set_option maxHeartbeats 400000 in
set_option maxRecDepth 10000 in
theorem kX8_placeOf {l : Launch} {E : z_E} (σ : z_M) {S : z_Sh} {y : Nat} (hy : y < 2 ^ 30) : z_C l E S 1 yX8_placeOf cX8_placeOf 1 (some FieldType.int) [.int (nI y)] σ (z_Pp (nI (y % 6)) σ) := by
  refine z_intro iX8_placeOf (Nat.le_of_ble_eq_true rfl) (fun K F => ?_)
  refine z_iload_n F dX8_placeOf_0 0 rfl 1 rfl ?_
  refine z_bipush F dX8_placeOf_1 6 (by decide) 3 rfl ?_
  refine z_callSp F dX8_placeOf_3 m_661 iJ9_floorMod_7cf53 m_662 rfl (kJ9_floorMod_7cf53 σ hy) rfl (by decide) (Nat.le_of_ble_eq_true rfl) 6 rfl ?_
  refine z_rp F dX8_placeOf_6 ?_ rfl
  rfl
set_option maxHeartbeats 400000 in
set_option maxRecDepth 10000 in
theorem kX8_draw {l : Launch} {E : z_E} (σ : z_M)  : z_C l E shC 0 yX8_draw cX8_draw 1 (some FieldType.int) [.ref (z_ad E 1)] σ (z_Pi (fun x σ' => x = ((σ 1 7 * 1103515245 + 12345).toUInt32 >>> ((8 : Int32).toUInt32 &&& Int32.toUInt32 31)).toInt32 ∧ σ' = z_u2 σ 1 7 (σ 1 7 * 1103515245 + 12345))) := by
  refine z_intro iX8_draw (Nat.le_of_ble_eq_true rfl) (fun K F => ?_)
  refine z_aload_n F dX8_draw_0 0 rfl 1 rfl ?_
  refine z_aload_n F dX8_draw_1 0 rfl 2 rfl ?_
  refine z_getI F zc7 dX8_draw_2 rfl 7 (by decide) (by decide) (.inl m_213) rfl 5 rfl ?_
  refine z_ldc F dX8_draw_5 m_693 7 rfl ?_
  refine z_imul F dX8_draw_7 8 rfl ?_
  refine z_sipush F dX8_draw_8 12345 (by decide) 11 rfl ?_
  refine z_iadd F dX8_draw_11 12 rfl ?_
  refine z_putI F zc7 dX8_draw_12 rfl 7 (by decide) (by decide) (.inl m_213) rfl rfl z_pI 15 rfl ?_
  refine z_aload_n F dX8_draw_15 0 rfl 16 rfl ?_
  refine z_getI F zc7 dX8_draw_16 rfl 7 (by decide) (by decide) (.inl m_213) rfl 19 rfl ?_
  refine z_bipush F dX8_draw_19 8 (by decide) 21 rfl ?_
  refine z_iushr F dX8_draw_21 22 rfl ?_
  refine z_ri F dX8_draw_22 ?_
  exact ⟨by rw [u2_same], rfl⟩
set_option maxHeartbeats 400000 in
set_option maxRecDepth 10000 in
theorem kX0_seenTogetherN {l : Launch} {E : z_E} (σ : z_M) {s : Nat → Nat} (hs : ∀ p, p < 8 → σ 9 p = nI (s p)) (hs8 : ∀ p, s p < 256) : z_C l E shC 1 yX0_seenTogether cX0_seenTogether 3 (some FieldType.int) [.ref (z_ad E 8)] σ (z_Pp (nI (sumS (fun p => pcN (s p)) 8)) σ) := by
  refine z_intro iX0_seenTogether (Nat.le_of_ble_eq_true rfl) (fun K F => ?_)
  have loop4 : ∀ (f : Nat) (j : Nat) (_ : 8 < j + f) (_ : j ≤ 8), z_X l K E shC 1 3 (z_Pp (nI (sumS (fun p => pcN (s p)) 8)) σ) 4 [(0, .ref (z_ad E 8)), (1, .int (nI (sumS (fun p => pcN (s p)) j))), (2, .int (nI j))] [] σ := by
    intro f
    induction f with
    | zero =>
      intro j hf hj
      omega
    | succ f ih =>
      intro j hf hj
      refine z_iload_n F dX0_seenTogether_4 2 rfl 5 rfl ?_
      refine z_bipush F dX0_seenTogether_5 8 (by decide) 7 rfl ?_
      refine z_icmp_ge F dX0_seenTogether_7 28 (by decide) 10 rfl (fun h7 => ?_) (fun h7 => ?_)
      · skip
        refine z_iload_n F dX0_seenTogether_28 1 rfl 29 rfl ?_
        refine z_rp F dX0_seenTogether_29 ?_ rfl
        have hj8 : j = 8 := by have := le_nI (a := 8) h7 (by omega) (by omega); omega
        subst hj8; rfl
      · skip
        have hj8 : j < 8 := nle_nI (a := 8) h7 (by omega) (by omega)
        refine z_iload_n F dX0_seenTogether_10 1 rfl 11 rfl ?_
        refine z_aload_n F dX0_seenTogether_11 0 rfl 12 rfl ?_
        refine z_getR F zc0 dX0_seenTogether_12 rfl 3 (by decide) (by decide) (.inl m_153) rfl (by decide) 15 rfl ?_
        refine z_iload_n F dX0_seenTogether_15 2 rfl 16 rfl ?_
        refine z_iald F dX0_seenTogether_16 rfl (vp_in_nI hj8 (by decide)) 17 rfl ?_
        rw [nI_clamp (by omega), hs j hj8]
        refine z_callSp F dX0_seenTogether_17 m_675 iJ6_bitCount_0f7a4 m_676 rfl (kJ6_bitCount_0f7a4 σ (hs8 j)) rfl (by decide) (Nat.le_of_ble_eq_true rfl) 20 rfl ?_
        refine z_iadd F dX0_seenTogether_20 21 rfl ?_
        refine z_istore_n F dX0_seenTogether_21 [(0, _), (1, _), (2, _)] rfl (by decide) 22 rfl ?_
        refine z_iinc F dX0_seenTogether_22 2 rfl 1 (by decide) [(0, _), (1, _), (2, _)] rfl (by decide) 25 rfl ?_
        refine z_goto F dX0_seenTogether_25 4 (by decide) ?_
        rw [nI_1, nI_add]
        exact ih (j + 1) (by omega) (by omega)
  refine z_iconst F dX0_seenTogether_0 0 (by decide) 1 rfl ?_
  refine z_istore_n F dX0_seenTogether_1 [(0, _), (1, _)] rfl (by decide) 2 rfl ?_
  refine z_iconst F dX0_seenTogether_2 0 (by decide) 3 rfl ?_
  refine z_istore_n F dX0_seenTogether_3 [(0, _), (1, _), (2, _)] rfl (by decide) 4 rfl ?_
  exact loop4 9 0 (by omega) (by omega)
set_option maxHeartbeats 400000 in
set_option maxRecDepth 10000 in
theorem kX0_seersOfN {l : Launch} {E : z_E} (σ : z_M) {s : Nat → Nat} (hs : ∀ p, p < 8 → σ 9 p = nI (s p)) (hs8 : ∀ p, s p < 256) {q : Nat} (hq : q < 8) : z_C l E shC 1 yX0_seersOf cX0_seersOf 4 (some FieldType.int) [.ref (z_ad E 8), .int (nI q)] σ (z_Pp (nI (setOf (fun o => (s o).testBit q) 8)) σ) := by
  refine z_intro iX0_seersOf (Nat.le_of_ble_eq_true rfl) (fun K F => ?_)
  have loop4 : ∀ (f : Nat) (j : Nat) (_ : 8 < j + f) (_ : j ≤ 8), z_X l K E shC 1 4 (z_Pp (nI (setOf (fun o => (s o).testBit q) 8)) σ) 4 [(0, .ref (z_ad E 8)), (1, .int (nI q)), (2, .int (nI (setOf (fun o => (s o).testBit q) j))), (3, .int (nI j))] [] σ := by
    intro f
    induction f with
    | zero =>
      intro j hf hj
      omega
    | succ f ih =>
      intro j hf hj
      refine z_iload_n F dX0_seersOf_4 3 rfl 5 rfl ?_
      refine z_bipush F dX0_seersOf_5 8 (by decide) 7 rfl ?_
      refine z_icmp_ge F dX0_seersOf_7 35 (by decide) 10 rfl (fun h7 => ?_) (fun h7 => ?_)
      · skip
        refine z_iload_n F dX0_seersOf_35 2 rfl 36 rfl ?_
        refine z_rp F dX0_seersOf_36 ?_ rfl
        have hj8 : j = 8 := by have := le_nI (a := 8) h7 (by omega) (by omega); omega
        subst hj8; rfl
      · skip
        have hj8 : j < 8 := nle_nI (a := 8) h7 (by omega) (by omega)
        refine z_aload_n F dX0_seersOf_10 0 rfl 11 rfl ?_
        refine z_getR F zc0 dX0_seersOf_11 rfl 3 (by decide) (by decide) (.inl m_153) rfl (by decide) 14 rfl ?_
        refine z_iload_n F dX0_seersOf_14 3 rfl 15 rfl ?_
        refine z_iald F dX0_seersOf_15 rfl (vp_in_nI hj8 (by decide)) 16 rfl ?_
        rw [nI_clamp (by omega), hs j hj8]
        refine z_iload_n F dX0_seersOf_16 1 rfl 17 rfl ?_
        refine z_callSNp F dX0_seersOf_17 m_739 iX9_isIn m_716 rfl (kX9_isIn σ _ _) rfl (by decide) (Nat.le_of_ble_eq_true rfl) 20 rfl ?_
        rw [bit_nI (s j) (hs8 j) q hq]
        refine z_if_eq F dX0_seersOf_20 29 (by decide) 23 rfl (fun h20 => ?_) (fun h20 => ?_)
        · skip
          have h20 := bI0.mp h20
          refine z_iinc F dX0_seersOf_29 3 rfl 1 (by decide) [(0, _), (1, _), (2, _), (3, _)] rfl (by decide) 32 rfl ?_
          refine z_goto F dX0_seersOf_32 4 (by decide) ?_
          have hb : (s j).testBit q = false := by
            cases hh : (s j).testBit q
            · rfl
            · rw [hh] at h20; exact absurd (by decide) h20
          have e : setOf (fun o => (s o).testBit q) (j + 1) = setOf (fun o => (s o).testBit q) j := setOf_f hb
          rw [nI_1, ← e]
          exact ih (j + 1) (by omega) (by omega)
        · skip
          have h20 := bI1.mp h20
          refine z_iload_n F dX0_seersOf_23 2 rfl 24 rfl ?_
          refine z_iconst F dX0_seersOf_24 1 (by decide) 25 rfl ?_
          refine z_iload_n F dX0_seersOf_25 3 rfl 26 rfl ?_
          refine z_ishl F dX0_seersOf_26 27 rfl ?_
          refine z_ior F dX0_seersOf_27 28 rfl ?_
          refine z_istore_n F dX0_seersOf_28 [(0, _), (1, _), (2, _), (3, _)] rfl (by decide) 29 rfl ?_
          refine z_iinc F dX0_seersOf_29 3 rfl 1 (by decide) [(0, _), (1, _), (2, _), (3, _)] rfl (by decide) 32 rfl ?_
          refine z_goto F dX0_seersOf_32 4 (by decide) ?_
          have hb : (s j).testBit q = true := by
            cases hh : (s j).testBit q
            · rw [hh] at h20; exact absurd rfl h20
            · rfl
          have e : setOf (fun o => (s o).testBit q) (j + 1) = setOf (fun o => (s o).testBit q) j ||| 2 ^ j := setOf_t hb
          rw [shl_nI j (by omega), or_nI, nI_1, ← e]
          exact ih (j + 1) (by omega) (by omega)
  refine z_iconst F dX0_seersOf_0 0 (by decide) 1 rfl ?_
  refine z_istore_n F dX0_seersOf_1 [(0, _), (1, _), (2, _)] rfl (by decide) 2 rfl ?_
  refine z_iconst F dX0_seersOf_2 0 (by decide) 3 rfl ?_
  refine z_istore_n F dX0_seersOf_3 [(0, _), (1, _), (2, _), (3, _)] rfl (by decide) 4 rfl ?_
  exact loop4 9 0 (by omega) (by omega)
set_option maxHeartbeats 400000 in
set_option maxRecDepth 10000 in
theorem kX0_seenByN {l : Launch} {E : z_E} (σ : z_M) {s : Nat → Nat} (hs : ∀ p, p < 8 → σ 9 p = nI (s p)) (hs8 : ∀ p, s p < 256) {q : Nat} (hq : q < 256) : z_C l E shC 1 yX0_seenBy cX0_seenBy 4 (some FieldType.int) [.ref (z_ad E 8), .int (nI q)] σ (z_Pp (nI (orS (fun p => if q.testBit p then s p else 0) 8)) σ) := by
  refine z_intro iX0_seenBy (Nat.le_of_ble_eq_true rfl) (fun K F => ?_)
  have loop4 : ∀ (f : Nat) (j : Nat) (_ : 8 < j + f) (_ : j ≤ 8), z_X l K E shC 1 4 (z_Pp (nI (orS (fun p => if q.testBit p then s p else 0) 8)) σ) 4 [(0, .ref (z_ad E 8)), (1, .int (nI q)), (2, .int (nI (orS (fun p => if q.testBit p then s p else 0) j))), (3, .int (nI j))] [] σ := by
    intro f
    induction f with
    | zero =>
      intro j hf hj
      omega
    | succ f ih =>
      intro j hf hj
      refine z_iload_n F dX0_seenBy_4 3 rfl 5 rfl ?_
      refine z_bipush F dX0_seenBy_5 8 (by decide) 7 rfl ?_
      refine z_icmp_ge F dX0_seenBy_7 33 (by decide) 10 rfl (fun h7 => ?_) (fun h7 => ?_)
      · skip
        refine z_iload_n F dX0_seenBy_33 2 rfl 34 rfl ?_
        refine z_rp F dX0_seenBy_34 ?_ rfl
        have hj8 : j = 8 := by have := le_nI (a := 8) h7 (by omega) (by omega); omega
        subst hj8; rfl
      · skip
        have hj8 : j < 8 := nle_nI (a := 8) h7 (by omega) (by omega)
        refine z_iload_n F dX0_seenBy_10 1 rfl 11 rfl ?_
        refine z_iload_n F dX0_seenBy_11 3 rfl 12 rfl ?_
        refine z_callSNp F dX0_seenBy_12 m_739 iX9_isIn m_716 rfl (kX9_isIn σ _ _) rfl (by decide) (Nat.le_of_ble_eq_true rfl) 15 rfl ?_
        rw [bit_nI q hq j hj8]
        refine z_if_eq F dX0_seenBy_15 27 (by decide) 18 rfl (fun h15 => ?_) (fun h15 => ?_)
        · skip
          have h15 := bI0.mp h15
          refine z_iinc F dX0_seenBy_27 3 rfl 1 (by decide) [(0, _), (1, _), (2, _), (3, _)] rfl (by decide) 30 rfl ?_
          refine z_goto F dX0_seenBy_30 4 (by decide) ?_
          have hb : q.testBit j = false := by
            cases hh : q.testBit j
            · rfl
            · rw [hh] at h15; exact absurd (by decide) h15
          have e : orS (fun p => if q.testBit p then s p else 0) (j + 1) = orS (fun p => if q.testBit p then s p else 0) j := by rw [orS_s, show (if q.testBit j then s j else 0) = 0 from if_neg (by rw [hb]; decide), Nat.or_zero]
          rw [nI_1, ← e]
          exact ih (j + 1) (by omega) (by omega)
        · skip
          have h15 := bI1.mp h15
          refine z_iload_n F dX0_seenBy_18 2 rfl 19 rfl ?_
          refine z_aload_n F dX0_seenBy_19 0 rfl 20 rfl ?_
          refine z_getR F zc0 dX0_seenBy_20 rfl 3 (by decide) (by decide) (.inl m_153) rfl (by decide) 23 rfl ?_
          refine z_iload_n F dX0_seenBy_23 3 rfl 24 rfl ?_
          refine z_iald F dX0_seenBy_24 rfl (vp_in_nI hj8 (by decide)) 25 rfl ?_
          rw [nI_clamp (by omega), hs j hj8]
          refine z_ior F dX0_seenBy_25 26 rfl ?_
          refine z_istore_n F dX0_seenBy_26 [(0, _), (1, _), (2, _), (3, _)] rfl (by decide) 27 rfl ?_
          refine z_iinc F dX0_seenBy_27 3 rfl 1 (by decide) [(0, _), (1, _), (2, _), (3, _)] rfl (by decide) 30 rfl ?_
          refine z_goto F dX0_seenBy_30 4 (by decide) ?_
          have hb : q.testBit j = true := by
            cases hh : q.testBit j
            · rw [hh] at h15; exact absurd rfl h15
            · rfl
          have e : orS (fun p => if q.testBit p then s p else 0) (j + 1) = orS (fun p => if q.testBit p then s p else 0) j ||| s j := by rw [orS_s]; congr 1; exact if_pos hb
          rw [or_nI, nI_1, ← e]
          exact ih (j + 1) (by omega) (by omega)
  refine z_iconst F dX0_seenBy_0 0 (by decide) 1 rfl ?_
  refine z_istore_n F dX0_seenBy_1 [(0, _), (1, _), (2, _)] rfl (by decide) 2 rfl ?_
  refine z_iconst F dX0_seenBy_2 0 (by decide) 3 rfl ?_
  refine z_istore_n F dX0_seenBy_3 [(0, _), (1, _), (2, _), (3, _)] rfl (by decide) 4 rfl ?_
  exact loop4 9 0 (by omega) (by omega)
set_option maxHeartbeats 400000 in
set_option maxRecDepth 10000 in
theorem kX8_veilsOfN {l : Launch} {E : z_E} (σ : z_M) {r : Rw} (hN : NowR σ r) (hy : σ 8 0 = r 0) {i j : Nat} (hi : i < nP r) (hj : j < nP r) : z_C l E shC 3 yX8_veilsOf cX8_veilsOf 6 (some FieldType.int) [.ref (z_ad E 1), .int (nI i), .int (nI j), .ref (z_ad E 8)] σ (z_Pi (fun x σ' => x = veilS r i j ∧ MS [16] σ σ')) := by
  refine z_intro iX8_veilsOf (Nat.le_of_ble_eq_true rfl) (fun K F => ?_)
  have h8 := hN.2.2.1.2.1
  have hk := (kin1.mp hN.1).2 i hi
  refine z_aload_n F dX8_veilsOf_0 0 rfl 1 rfl ?_
  refine z_getR F zc7 dX8_veilsOf_1 rfl 0 (by decide) (by decide) (.inl m_199) rfl (by decide) 4 rfl ?_
  refine z_iload_n F dX8_veilsOf_4 1 rfl 5 rfl ?_
  refine z_iload_n F dX8_veilsOf_5 2 rfl 6 rfl ?_
  refine z_callVp F dX8_veilsOf_6 m_472 iX1_between jX1_between rfl zc1 rfl (kX1_between σ (i := i) (j := j) (by omega) (by omega)) rfl (by decide) (Nat.le_of_ble_eq_true rfl) 9 rfl ?_
  rw [show σ 7 (i * 8 + j) = nI (dS r i j) from hN.2.1 i j hi hj]
  refine z_istore F dX8_veilsOf_9 [(0, _), (1, _), (2, _), (3, _), (4, _)] rfl (by decide) 11 rfl ?_
  refine z_aload_n F dX8_veilsOf_11 0 rfl 12 rfl ?_
  refine z_getR F zc7 dX8_veilsOf_12 rfl 0 (by decide) (by decide) (.inl m_199) rfl (by decide) 15 rfl ?_
  refine z_getR F zc1 dX8_veilsOf_15 rfl 1 (by decide) (by decide) (.inr ⟨_, m_113⟩) rfl (by decide) 18 rfl ?_
  refine z_iload_n F dX8_veilsOf_18 1 rfl 19 rfl ?_
  refine z_iald F dX8_veilsOf_19 rfl (vp_in_nI (by omega) (by decide)) 20 rfl ?_
  rw [nI_clamp (by omega), hk.1]
  refine z_aload_n F dX8_veilsOf_20 0 rfl 21 rfl ?_
  refine z_getR F zc7 dX8_veilsOf_21 rfl 0 (by decide) (by decide) (.inl m_199) rfl (by decide) 24 rfl ?_
  refine z_getR F zc1 dX8_veilsOf_24 rfl 2 (by decide) (by decide) (.inr ⟨_, m_116⟩) rfl (by decide) 27 rfl ?_
  refine z_iload_n F dX8_veilsOf_27 1 rfl 28 rfl ?_
  refine z_iald F dX8_veilsOf_28 rfl (vp_in_nI (by omega) (by decide)) 29 rfl ?_
  rw [nI_clamp (by omega), hk.2.1]
  refine z_iload F dX8_veilsOf_29 4 rfl 31 rfl ?_
  refine z_callSp F dX8_veilsOf_31 m_473 iX2_letDown m_474 rfl (kX2_letDown σ _ _ _) rfl (by decide) (Nat.le_of_ble_eq_true rfl) 34 rfl ?_
  refine z_istore F dX8_veilsOf_34 [(0, _), (1, _), (2, _), (3, _), (4, _), (5, _)] rfl (by decide) 36 rfl ?_
  refine z_aload_n F dX8_veilsOf_36 0 rfl 37 rfl ?_
  refine z_iconst F dX8_veilsOf_37 0 (by decide) 38 rfl ?_
  refine z_iload F dX8_veilsOf_38 5 rfl 40 rfl ?_
  refine z_iload F dX8_veilsOf_40 4 rfl 42 rfl ?_
  refine z_aload_n F dX8_veilsOf_42 3 rfl 43 rfl ?_
  refine z_getI F zc0 dX8_veilsOf_43 rfl 0 (by decide) (by decide) (.inr ⟨_, m_145⟩) rfl 46 rfl ?_
  rw [hy]
  refine z_bipush F dX8_veilsOf_46 8 (by decide) 48 rfl ?_
  refine z_irem F dX8_veilsOf_48 (by decide) 49 rfl ?_
  refine z_callVi F dX8_veilsOf_49 m_382 iX8_gives jX8_gives rfl zc7 rfl (kX8_givesA σ hN.2.2.2.1 hN.2.2.2.2.2.1 _ _ _) rfl (by decide) (Nat.le_of_ble_eq_true rfl) 52 rfl (fun r49 s49 c49 => ?_)
  refine z_ri F dX8_veilsOf_52 ?_
  exact c49
set_option maxHeartbeats 400000 in
set_option maxRecDepth 10000 in
theorem kX8_sightOfN {l : Launch} {E : z_E} (σ : z_M) {r : Rw} (hN : NowR σ r) (hy : σ 8 0 = r 0) (hcl : σ 8 1 = r 3) {i : Nat} (hi : i < nP r) : z_C l E shC 3 yX8_sightOf cX8_sightOf 4 (some FieldType.int) [.ref (z_ad E 1), .int (nI i), .ref (z_ad E 8)] σ (z_Pi (fun x σ' => x = sightS r i ∧ MS [20] σ σ')) := by
  refine z_intro iX8_sightOf (Nat.le_of_ble_eq_true rfl) (fun K F => ?_)
  have h8 := hN.2.2.1.2.1
  have hk := (kin1.mp hN.1).2 i hi
  refine z_aload_n F dX8_sightOf_0 0 rfl 1 rfl ?_
  refine z_getR F zc7 dX8_sightOf_1 rfl 0 (by decide) (by decide) (.inl m_199) rfl (by decide) 4 rfl ?_
  refine z_getR F zc1 dX8_sightOf_4 rfl 1 (by decide) (by decide) (.inr ⟨_, m_113⟩) rfl (by decide) 7 rfl ?_
  refine z_iload_n F dX8_sightOf_7 1 rfl 8 rfl ?_
  refine z_iald F dX8_sightOf_8 rfl (vp_in_nI (by omega) (by decide)) 9 rfl ?_
  rw [nI_clamp (by omega), hk.1]
  refine z_aload_n F dX8_sightOf_9 0 rfl 10 rfl ?_
  refine z_getR F zc7 dX8_sightOf_10 rfl 0 (by decide) (by decide) (.inl m_199) rfl (by decide) 13 rfl ?_
  refine z_getR F zc1 dX8_sightOf_13 rfl 2 (by decide) (by decide) (.inr ⟨_, m_116⟩) rfl (by decide) 16 rfl ?_
  refine z_iload_n F dX8_sightOf_16 1 rfl 17 rfl ?_
  refine z_iald F dX8_sightOf_17 rfl (vp_in_nI (by omega) (by decide)) 18 rfl ?_
  rw [nI_clamp (by omega), hk.2.1]
  refine z_aload_n F dX8_sightOf_18 0 rfl 19 rfl ?_
  refine z_getR F zc7 dX8_sightOf_19 rfl 0 (by decide) (by decide) (.inl m_199) rfl (by decide) 22 rfl ?_
  refine z_iload_n F dX8_sightOf_22 1 rfl 23 rfl ?_
  refine z_callVp F dX8_sightOf_23 m_375 iX1_nearTo jX1_nearTo rfl zc1 rfl (kX1_nearTo σ hN.1 hN.2.2.1 hN.2.1 hi) rfl (by decide) (Nat.le_of_ble_eq_true rfl) 26 rfl ?_
  refine z_aload_n F dX8_sightOf_26 2 rfl 27 rfl ?_
  refine z_getI F zc0 dX8_sightOf_27 rfl 0 (by decide) (by decide) (.inr ⟨_, m_145⟩) rfl 30 rfl ?_
  rw [hy]
  refine z_callSp F dX8_sightOf_30 m_379 iX2_lookThrough m_380 rfl (kX2_lookThrough σ _ _ _ _) rfl (by decide) (Nat.le_of_ble_eq_true rfl) 33 rfl ?_
  refine z_istore_n F dX8_sightOf_33 [(0, _), (1, _), (2, _), (3, _)] rfl (by decide) 34 rfl ?_
  refine z_aload_n F dX8_sightOf_34 0 rfl 35 rfl ?_
  refine z_iconst F dX8_sightOf_35 1 (by decide) 36 rfl ?_
  refine z_iload_n F dX8_sightOf_36 3 rfl 37 rfl ?_
  refine z_aload_n F dX8_sightOf_37 2 rfl 38 rfl ?_
  refine z_getI F zc0 dX8_sightOf_38 rfl 0 (by decide) (by decide) (.inr ⟨_, m_145⟩) rfl 41 rfl ?_
  rw [hy]
  refine z_bipush F dX8_sightOf_41 8 (by decide) 43 rfl ?_
  refine z_irem F dX8_sightOf_43 (by decide) 44 rfl ?_
  refine z_aload_n F dX8_sightOf_44 2 rfl 45 rfl ?_
  refine z_getI F zc0 dX8_sightOf_45 rfl 1 (by decide) (by decide) (.inr ⟨_, m_148⟩) rfl 48 rfl ?_
  rw [hcl]
  refine z_bipush F dX8_sightOf_48 10 (by decide) 50 rfl ?_
  refine z_idiv F dX8_sightOf_50 (by decide) 51 rfl ?_
  refine z_callVi F dX8_sightOf_51 m_382 iX8_gives jX8_gives rfl zc7 rfl (kX8_givesB σ hN.2.2.2.2.1 hN.2.2.2.2.2.2.1 _ _ _) rfl (by decide) (Nat.le_of_ble_eq_true rfl) 54 rfl (fun r51 s51 c51 => ?_)
  refine z_ri F dX8_sightOf_54 ?_
  exact c51
set_option maxHeartbeats 1000000 in
set_option maxRecDepth 10000 in
theorem kX8_passYearN {l : Launch} {E : z_E} (σ : z_M) {r : Rw} (hN : NowR σ r) (hC : CrsR σ 8 9 r) {a b : Nat} (ha : a < 8) (hb : b < 8) : z_C l E shC 4 yX8_passYear cX8_passYear 5 none [.ref (z_ad E 1), .ref (z_ad E 8), .int (nI a), .int (nI b)] σ (z_Pv (fun σ' => MS [8, 9, 16, 20] σ σ' ∧ CrsR σ' 8 9 (goM r a b))) := by
  refine z_intro iX8_passYear (Nat.le_of_ble_eq_true rfl) (fun K F => ?_)
  have h8 := hN.2.2.1.2.1
  have hc : σ 2 0 = nI (nP r) := hN.1.1.trans hN.2.2.1.1
  have fin : ∀ (τ : z_M), CrsR τ 8 9 (goM1 r a b) → MS [8, 9, 16, 20] σ τ → MS [8, 9, 16, 20] σ (z_u2 (z_u2 τ 8 1 (if 999 < τ 8 1 + τ 8 2 then 999 else τ 8 1 + τ 8 2)) 8 0 (τ 8 0 + 1)) ∧ CrsR (z_u2 (z_u2 τ 8 1 (if 999 < τ 8 1 + τ 8 2 then 999 else τ 8 1 + τ 8 2)) 8 0 (τ 8 0 + 1)) 8 9 (goM r a b) := by
    intro τ hq hs
    have e0 : goM1 r a b 0 = r 0 := by
      unfold goM1
      split
      · rw [upd_at, if_neg (by decide), pU_lo (by decide)]
      · rfl
    refine ⟨(hs.u2 (by decide)).u2 (by decide), ?_, ?_, ?_, fun p hp => ?_⟩
    · rw [u2_same, hq.1, e0, goM_0]
    · rw [u2_k (by decide), u2_same, hq.2.1, hq.2.2.1, goM_3]
    · rw [u2_k (by decide), u2_k (by decide), hq.2.2.1, goM_4]
    · rw [u2_o (by decide), u2_o (by decide), hq.2.2.2 p hp, eqK_nP (eqK_goM ha), eqK_nP (eqK_goM1 ha), pO_goM]
  refine z_iload_n F dX8_passYear_0 2 rfl 1 rfl ?_
  refine z_iload_n F dX8_passYear_1 3 rfl 2 rfl ?_
  refine z_icmp_eq F dX8_passYear_2 77 (by decide) 5 rfl (fun h2 => ?_) (fun h2 => ?_)
  · skip
    refine z_aload_n F dX8_passYear_77 1 rfl 78 rfl ?_
    refine z_aload_n F dX8_passYear_78 1 rfl 79 rfl ?_
    refine z_getI F zc0 dX8_passYear_79 rfl 1 (by decide) (by decide) (.inr ⟨_, m_148⟩) rfl 82 rfl ?_
    refine z_aload_n F dX8_passYear_82 1 rfl 83 rfl ?_
    refine z_getI F zc0 dX8_passYear_83 rfl 2 (by decide) (by decide) (.inr ⟨_, m_151⟩) rfl 86 rfl ?_
    refine z_iadd F dX8_passYear_86 87 rfl ?_
    refine z_sipush F dX8_passYear_87 999 (by decide) 90 rfl ?_
    refine z_min F dX8_passYear_90 m_408 m_364 m_76 m_365 (by decide) (Nat.le_of_ble_eq_true rfl) 93 rfl ?_
    refine z_putI F zc0 dX8_passYear_93 rfl 1 (by decide) (by decide) (.inr ⟨_, m_148⟩) rfl rfl z_pI 96 rfl ?_
    refine z_aload_n F dX8_passYear_96 1 rfl 97 rfl ?_
    refine z_dup F dX8_passYear_97 rfl 98 rfl ?_
    refine z_getI F zc0 dX8_passYear_98 rfl 0 (by decide) (by decide) (.inr ⟨_, m_145⟩) rfl 101 rfl ?_
    refine z_iconst F dX8_passYear_101 1 (by decide) 102 rfl ?_
    refine z_iadd F dX8_passYear_102 103 rfl ?_
    refine z_putI F zc0 dX8_passYear_103 rfl 0 (by decide) (by decide) (.inr ⟨_, m_145⟩) rfl rfl z_pI 106 rfl ?_
    refine z_rv F dX8_passYear_106 ?_
    refine fin σ ?_ MS.rf
    have e1 : goM1 r a b = r := by
      unfold goM1
      rw [if_neg]
      rintro ⟨q1, q2, q3⟩
      exact q1 (eq_nI h2 (by omega) (by omega))
    rw [e1]; exact hC
  · skip
    refine z_aload_n F dX8_passYear_5 0 rfl 6 rfl ?_
    refine z_getR F zc7 dX8_passYear_6 rfl 0 (by decide) (by decide) (.inl m_199) rfl (by decide) 9 rfl ?_
    refine z_iload_n F dX8_passYear_9 2 rfl 10 rfl ?_
    refine z_callVp F dX8_passYear_10 m_668 iX1_has jX1_has rfl zc1 rfl (kX1_has σ _) rfl (by decide) (Nat.le_of_ble_eq_true rfl) 13 rfl ?_
    refine z_if_eq F dX8_passYear_13 77 (by decide) 16 rfl (fun h13 => ?_) (fun h13 => ?_)
    · skip
      have h13 := bI0.mp h13
      refine z_aload_n F dX8_passYear_77 1 rfl 78 rfl ?_
      refine z_aload_n F dX8_passYear_78 1 rfl 79 rfl ?_
      refine z_getI F zc0 dX8_passYear_79 rfl 1 (by decide) (by decide) (.inr ⟨_, m_148⟩) rfl 82 rfl ?_
      refine z_aload_n F dX8_passYear_82 1 rfl 83 rfl ?_
      refine z_getI F zc0 dX8_passYear_83 rfl 2 (by decide) (by decide) (.inr ⟨_, m_151⟩) rfl 86 rfl ?_
      refine z_iadd F dX8_passYear_86 87 rfl ?_
      refine z_sipush F dX8_passYear_87 999 (by decide) 90 rfl ?_
      refine z_min F dX8_passYear_90 m_408 m_364 m_76 m_365 (by decide) (Nat.le_of_ble_eq_true rfl) 93 rfl ?_
      refine z_putI F zc0 dX8_passYear_93 rfl 1 (by decide) (by decide) (.inr ⟨_, m_148⟩) rfl rfl z_pI 96 rfl ?_
      refine z_aload_n F dX8_passYear_96 1 rfl 97 rfl ?_
      refine z_dup F dX8_passYear_97 rfl 98 rfl ?_
      refine z_getI F zc0 dX8_passYear_98 rfl 0 (by decide) (by decide) (.inr ⟨_, m_145⟩) rfl 101 rfl ?_
      refine z_iconst F dX8_passYear_101 1 (by decide) 102 rfl ?_
      refine z_iadd F dX8_passYear_102 103 rfl ?_
      refine z_putI F zc0 dX8_passYear_103 rfl 0 (by decide) (by decide) (.inr ⟨_, m_145⟩) rfl rfl z_pI 106 rfl ?_
      refine z_rv F dX8_passYear_106 ?_
      refine fin σ ?_ MS.rf
      have e1 : goM1 r a b = r := by
        unfold goM1
        rw [if_neg]
        rintro ⟨q1, q2, q3⟩
        rw [hc] at h13; exact h13 (isP_nI q2 (by omega))
      rw [e1]; exact hC
    · skip
      have h13 := bI1.mp h13
      refine z_aload_n F dX8_passYear_16 0 rfl 17 rfl ?_
      refine z_getR F zc7 dX8_passYear_17 rfl 0 (by decide) (by decide) (.inl m_199) rfl (by decide) 20 rfl ?_
      refine z_iload_n F dX8_passYear_20 3 rfl 21 rfl ?_
      refine z_callVp F dX8_passYear_21 m_668 iX1_has jX1_has rfl zc1 rfl (kX1_has σ _) rfl (by decide) (Nat.le_of_ble_eq_true rfl) 24 rfl ?_
      refine z_if_eq F dX8_passYear_24 77 (by decide) 27 rfl (fun h24 => ?_) (fun h24 => ?_)
      · skip
        have h24 := bI0.mp h24
        refine z_aload_n F dX8_passYear_77 1 rfl 78 rfl ?_
        refine z_aload_n F dX8_passYear_78 1 rfl 79 rfl ?_
        refine z_getI F zc0 dX8_passYear_79 rfl 1 (by decide) (by decide) (.inr ⟨_, m_148⟩) rfl 82 rfl ?_
        refine z_aload_n F dX8_passYear_82 1 rfl 83 rfl ?_
        refine z_getI F zc0 dX8_passYear_83 rfl 2 (by decide) (by decide) (.inr ⟨_, m_151⟩) rfl 86 rfl ?_
        refine z_iadd F dX8_passYear_86 87 rfl ?_
        refine z_sipush F dX8_passYear_87 999 (by decide) 90 rfl ?_
        refine z_min F dX8_passYear_90 m_408 m_364 m_76 m_365 (by decide) (Nat.le_of_ble_eq_true rfl) 93 rfl ?_
        refine z_putI F zc0 dX8_passYear_93 rfl 1 (by decide) (by decide) (.inr ⟨_, m_148⟩) rfl rfl z_pI 96 rfl ?_
        refine z_aload_n F dX8_passYear_96 1 rfl 97 rfl ?_
        refine z_dup F dX8_passYear_97 rfl 98 rfl ?_
        refine z_getI F zc0 dX8_passYear_98 rfl 0 (by decide) (by decide) (.inr ⟨_, m_145⟩) rfl 101 rfl ?_
        refine z_iconst F dX8_passYear_101 1 (by decide) 102 rfl ?_
        refine z_iadd F dX8_passYear_102 103 rfl ?_
        refine z_putI F zc0 dX8_passYear_103 rfl 0 (by decide) (by decide) (.inr ⟨_, m_145⟩) rfl rfl z_pI 106 rfl ?_
        refine z_rv F dX8_passYear_106 ?_
        refine fin σ ?_ MS.rf
        have e1 : goM1 r a b = r := by
          unfold goM1
          rw [if_neg]
          rintro ⟨q1, q2, q3⟩
          rw [hc] at h24; exact h24 (isP_nI q3 (by omega))
        rw [e1]; exact hC
      · skip
        have h24 := bI1.mp h24
        rw [hc] at h13 h24
        have han : a < nP r := (nI_ltI (by omega) (by omega)).mp h13.2
        have hbn : b < nP r := (nI_ltI (by omega) (by omega)).mp h24.2
        have hab : a ≠ b := fun e => h2 (by rw [e])
        refine z_aload_n F dX8_passYear_27 0 rfl 28 rfl ?_
        refine z_iload_n F dX8_passYear_28 3 rfl 29 rfl ?_
        refine z_iload_n F dX8_passYear_29 2 rfl 30 rfl ?_
        refine z_aload_n F dX8_passYear_30 1 rfl 31 rfl ?_
        refine z_callVi F dX8_passYear_31 m_669 iX8_veilsOf jX8_veilsOf rfl zc7 rfl (kX8_veilsOfN σ hN hC.1 hbn han) rfl (by decide) (Nat.le_of_ble_eq_true rfl) 34 rfl (fun r31 s31 c31 => ?_)
        obtain ⟨rfl, m31⟩ := c31
        refine z_aload_n F dX8_passYear_34 1 rfl 35 rfl ?_
        refine z_getI F zc0 dX8_passYear_35 rfl 1 (by decide) (by decide) (.inr ⟨_, m_148⟩) rfl 38 rfl ?_
        refine z_min F dX8_passYear_38 m_408 m_364 m_76 m_365 (by decide) (Nat.le_of_ble_eq_true rfl) 41 rfl ?_
        rw [show s31 8 1 = r 3 from (congrFun (m31 8 (by decide)) 1).trans hC.2.1]
        refine z_istore F dX8_passYear_41 [(0, _), (1, _), (2, _), (3, _), (4, _)] rfl (by decide) 43 rfl ?_
        rw [show (if r 3 < veilS r b a then r 3 else veilS r b a) = wrS r a b from rfl]
        refine z_iload F dX8_passYear_43 4 rfl 45 rfl ?_
        refine z_aload_n F dX8_passYear_45 0 rfl 46 rfl ?_
        refine z_iload_n F dX8_passYear_46 2 rfl 47 rfl ?_
        refine z_aload_n F dX8_passYear_47 1 rfl 48 rfl ?_
        refine z_callVi F dX8_passYear_48 m_670 iX8_sightOf jX8_sightOf rfl zc7 rfl (kX8_sightOfN s31 (hN.ms m31 (by decide)) ((congrFun (m31 8 (by decide)) 0).trans hC.1) ((congrFun (m31 8 (by decide)) 1).trans hC.2.1) han) rfl (by decide) (Nat.le_of_ble_eq_true rfl) 51 rfl (fun r48 s48 c48 => ?_)
        obtain ⟨rfl, m48⟩ := c48
        refine z_icmp_gt F dX8_passYear_51 66 (by decide) 54 rfl (fun h51 => ?_) (fun h51 => ?_)
        · skip
          refine z_aload_n F dX8_passYear_66 1 rfl 67 rfl ?_
          refine z_dup F dX8_passYear_67 rfl 68 rfl ?_
          refine z_getI F zc0 dX8_passYear_68 rfl 1 (by decide) (by decide) (.inr ⟨_, m_148⟩) rfl 71 rfl ?_
          refine z_iload F dX8_passYear_71 4 rfl 73 rfl ?_
          refine z_isub F dX8_passYear_73 74 rfl ?_
          refine z_putI F zc0 dX8_passYear_74 rfl 1 (by decide) (by decide) (.inr ⟨_, m_148⟩) rfl rfl z_pI 77 rfl ?_
          refine z_aload_n F dX8_passYear_77 1 rfl 78 rfl ?_
          refine z_aload_n F dX8_passYear_78 1 rfl 79 rfl ?_
          refine z_getI F zc0 dX8_passYear_79 rfl 1 (by decide) (by decide) (.inr ⟨_, m_148⟩) rfl 82 rfl ?_
          refine z_aload_n F dX8_passYear_82 1 rfl 83 rfl ?_
          refine z_getI F zc0 dX8_passYear_83 rfl 2 (by decide) (by decide) (.inr ⟨_, m_151⟩) rfl 86 rfl ?_
          refine z_iadd F dX8_passYear_86 87 rfl ?_
          refine z_sipush F dX8_passYear_87 999 (by decide) 90 rfl ?_
          refine z_min F dX8_passYear_90 m_408 m_364 m_76 m_365 (by decide) (Nat.le_of_ble_eq_true rfl) 93 rfl ?_
          refine z_putI F zc0 dX8_passYear_93 rfl 1 (by decide) (by decide) (.inr ⟨_, m_148⟩) rfl rfl z_pI 96 rfl ?_
          refine z_aload_n F dX8_passYear_96 1 rfl 97 rfl ?_
          refine z_dup F dX8_passYear_97 rfl 98 rfl ?_
          refine z_getI F zc0 dX8_passYear_98 rfl 0 (by decide) (by decide) (.inr ⟨_, m_145⟩) rfl 101 rfl ?_
          refine z_iconst F dX8_passYear_101 1 (by decide) 102 rfl ?_
          refine z_iadd F dX8_passYear_102 103 rfl ?_
          refine z_putI F zc0 dX8_passYear_103 rfl 0 (by decide) (by decide) (.inr ⟨_, m_145⟩) rfl rfl z_pI 106 rfl ?_
          refine z_rv F dX8_passYear_106 ?_
          have m1 : MS [8, 9, 16, 20] σ s48 := (m31.sub (by decide)).tr (m48.sub (by decide))
          have hC4 : CrsR s48 8 9 r := (hC.ms m31 (by decide) (by decide)).ms m48 (by decide) (by decide)
          refine fin _ ?_ (m1.u2 (o := 8) (by decide))
          have e1 : goM1 r a b = upd (pU r a 4 (pO r a 4)) 3 (r 3 - wrS r a b) := by unfold goM1; rw [if_pos ⟨hab, han, hbn⟩, if_neg (i_nle.mpr h51)]
          have e4 : pU r a 4 (pO r a 4) = r := by funext k; unfold pU pO; rw [upd_at]; by_cases q : k = 19 + 5 * a + 4 <;> simp [q]
          rw [e1, e4]
          refine ⟨?_, ?_, ?_, fun p hp => ?_⟩
          · rw [u2_k (by decide), hC4.1, upd_at, if_neg (by decide)]
          · rw [u2_same, hC4.2.1, upd_at, if_pos rfl]
          · rw [u2_k (by decide), hC4.2.2.1, upd_at, if_neg (by decide)]
          · have e2 : nP (upd r 3 (r 3 - wrS r a b)) = nP r := by unfold nP; rw [upd_at, if_neg (by decide)]
            rw [u2_o (by decide), hC4.2.2.2 p hp, e2, pO_u3]
        · skip
          have m1 : MS [8, 9, 16, 20] σ s48 := (m31.sub (by decide)).tr (m48.sub (by decide))
          have hC4 : CrsR s48 8 9 r := (hC.ms m31 (by decide) (by decide)).ms m48 (by decide) (by decide)
          refine z_aload_n F dX8_passYear_54 1 rfl 55 rfl ?_
          refine z_getR F zc0 dX8_passYear_55 rfl 3 (by decide) (by decide) (.inr ⟨_, m_155⟩) rfl (by decide) 58 rfl ?_
          refine z_iload_n F dX8_passYear_58 2 rfl 59 rfl ?_
          refine z_dup2 F dX8_passYear_59 rfl rfl 60 rfl ?_
          refine z_iald F dX8_passYear_60 rfl (vp_in_nI (by omega) (by decide)) 61 rfl ?_
          rw [nI_clamp (by omega), hC4.2.2.2 a (by omega), if_pos han]
          refine z_iconst F dX8_passYear_61 1 (by decide) 62 rfl ?_
          refine z_iload_n F dX8_passYear_62 3 rfl 63 rfl ?_
          refine z_ishl F dX8_passYear_63 64 rfl ?_
          refine z_ior F dX8_passYear_64 65 rfl ?_
          refine z_iast F dX8_passYear_65 rfl (vp_in_nI (by omega) (by decide)) 66 rfl ?_
          refine z_aload_n F dX8_passYear_66 1 rfl 67 rfl ?_
          refine z_dup F dX8_passYear_67 rfl 68 rfl ?_
          refine z_getI F zc0 dX8_passYear_68 rfl 1 (by decide) (by decide) (.inr ⟨_, m_148⟩) rfl 71 rfl ?_
          refine z_iload F dX8_passYear_71 4 rfl 73 rfl ?_
          refine z_isub F dX8_passYear_73 74 rfl ?_
          refine z_putI F zc0 dX8_passYear_74 rfl 1 (by decide) (by decide) (.inr ⟨_, m_148⟩) rfl rfl z_pI 77 rfl ?_
          refine z_aload_n F dX8_passYear_77 1 rfl 78 rfl ?_
          refine z_aload_n F dX8_passYear_78 1 rfl 79 rfl ?_
          refine z_getI F zc0 dX8_passYear_79 rfl 1 (by decide) (by decide) (.inr ⟨_, m_148⟩) rfl 82 rfl ?_
          refine z_aload_n F dX8_passYear_82 1 rfl 83 rfl ?_
          refine z_getI F zc0 dX8_passYear_83 rfl 2 (by decide) (by decide) (.inr ⟨_, m_151⟩) rfl 86 rfl ?_
          refine z_iadd F dX8_passYear_86 87 rfl ?_
          refine z_sipush F dX8_passYear_87 999 (by decide) 90 rfl ?_
          refine z_min F dX8_passYear_90 m_408 m_364 m_76 m_365 (by decide) (Nat.le_of_ble_eq_true rfl) 93 rfl ?_
          refine z_putI F zc0 dX8_passYear_93 rfl 1 (by decide) (by decide) (.inr ⟨_, m_148⟩) rfl rfl z_pI 96 rfl ?_
          refine z_aload_n F dX8_passYear_96 1 rfl 97 rfl ?_
          refine z_dup F dX8_passYear_97 rfl 98 rfl ?_
          refine z_getI F zc0 dX8_passYear_98 rfl 0 (by decide) (by decide) (.inr ⟨_, m_145⟩) rfl 101 rfl ?_
          refine z_iconst F dX8_passYear_101 1 (by decide) 102 rfl ?_
          refine z_iadd F dX8_passYear_102 103 rfl ?_
          refine z_putI F zc0 dX8_passYear_103 rfl 0 (by decide) (by decide) (.inr ⟨_, m_145⟩) rfl rfl z_pI 106 rfl ?_
          refine z_rv F dX8_passYear_106 ?_
          rw [nI_clamp (by omega)]
          refine fin _ ?_ ((m1.u2 (o := 9) (by decide)).u2 (o := 8) (by decide))
          have e1 : goM1 r a b = upd (pU r a 4 (pO r a 4 ||| (1 : Int32) <<< (nI b &&& 31))) 3 (r 3 - wrS r a b) := by unfold goM1; rw [if_pos ⟨hab, han, hbn⟩, if_pos (i_nlt.mp h51)]
          rw [e1]
          refine ⟨?_, ?_, ?_, fun p hp => ?_⟩
          · rw [u2_k (by decide), u2_o (by decide), hC4.1, upd_at, if_neg (by decide), pU_lo (by decide)]
          · rw [u2_same, u2_o (by decide), hC4.2.1, upd_at, if_pos rfl]
          · rw [u2_k (by decide), u2_o (by decide), hC4.2.2.1, upd_at, if_neg (by decide), pU_lo (by decide)]
          · rw [u2_o (by decide), u2_at]
            have e2 : nP (upd (pU r a 4 (pO r a 4 ||| (1 : Int32) <<< (nI b &&& 31))) 3 (r 3 - wrS r a b)) = nP r := by unfold nP; rw [upd_at, if_neg (by decide), pU_lo (by decide)]
            have e3 : pO (upd (pU r a 4 (pO r a 4 ||| (1 : Int32) <<< (nI b &&& 31))) 3 (r 3 - wrS r a b)) p 4 = if p = a ∧ 4 = 4 then (pO r a 4 ||| (1 : Int32) <<< (nI b &&& 31)) else pO r p 4 := by
              rw [← pO_pU (r := r) (by decide) (by decide)]; unfold pO; rw [upd_at, if_neg (by omega)]
            rw [e2, e3, hC4.2.2.2 p hp]
            by_cases q : p = a
            · subst q; simp [han]
            · simp [q]
set_option maxHeartbeats 400000 in
set_option maxRecDepth 10000 in
theorem kX8_passYearsN {l : Launch} {E : z_E} (σ : z_M) {r : Rw} (hN : NowR σ r) (hC : CrsR σ 8 9 r) {Y : Nat} (hT : VT Y r) (hY : Y < 99000) {n : Nat} (hn : n < 1000) : z_C l E shC 5 yX8_passYears cX8_passYears 5 none [.ref (z_ad E 1), .ref (z_ad E 8), .int (nI n)] σ (z_Pv (fun σ' => MS [8, 9, 16, 20] σ σ' ∧ CrsR σ' 8 9 (goN n r))) := by
  refine z_intro iX8_passYears (Nat.le_of_ble_eq_true rfl) (fun K F => ?_)
  have loop2 : ∀ (f : Nat) (j : Nat) (τ : z_M) (_ : n < j + f) (_ : j ≤ n) (_ : MS [8, 9, 16, 20] σ τ) (_ : CrsR τ 8 9 (goN j r)), z_X l K E shC 5 5 (z_Pv (fun σ' => MS [8, 9, 16, 20] σ σ' ∧ CrsR σ' 8 9 (goN n r))) 2 [(0, .ref (z_ad E 1)), (1, .ref (z_ad E 8)), (2, .int (nI n)), (3, .int (nI j))] [] τ := by
    intro f
    induction f with
    | zero =>
      intro j τ hf hj hs hC2
      omega
    | succ f ih =>
      intro j τ hf hj hs hC2
      have hVM := hN.2.2.2.2.2.2.2.2
      have hk := eqK_goN hVM j
      have hT2 := VT_goN hT hY hN.2.2.1 hVM j (by omega)
      obtain ⟨y, hy, ey⟩ := hT2.1
      have hN2 : NowR τ (goN j r) := eqK_Now hk (hN.ms hs (by decide))
      obtain ⟨a, b, ha, hb, ea, eb⟩ := (eqK_VM hk hVM).at y
      have hm := (show MtR τ 1 (goN j r) from hN2.2.2.2.2.2.2.2.1) (y % 6) (Nat.mod_lt _ (by decide))
      have m1 : τ 10 (y % 6) = nI a := hm.1.trans ea
      have m2 : τ 11 (y % 6) = nI b := hm.2.trans eb
      have hy6 : y % 6 < 6 := Nat.mod_lt _ (by decide)
      have hgo : goN (j + 1) r = goM (goN j r) a b := by
        show goS (goN j r) = _
        unfold goS
        rw [ey, nI_clamp (by omega), ea, eb, nI_clamp (by omega), nI_clamp (by omega)]
      refine z_iload_n F dX8_passYears_2 3 rfl 3 rfl ?_
      refine z_iload_n F dX8_passYears_3 2 rfl 4 rfl ?_
      refine z_icmp_ge F dX8_passYears_4 41 (by decide) 7 rfl (fun h4 => ?_) (fun h4 => ?_)
      · skip
        refine z_rv F dX8_passYears_41 ?_
        have hj2 : j = n := by have := le_nI h4 (by omega) (by omega); omega
        subst hj2; exact ⟨hs, hC2⟩
      · skip
        refine z_aload_n F dX8_passYears_7 1 rfl 8 rfl ?_
        refine z_getI F zc0 dX8_passYears_8 rfl 0 (by decide) (by decide) (.inr ⟨_, m_145⟩) rfl 11 rfl ?_
        rw [hC2.1, ey]
        refine z_callSp F dX8_passYears_11 m_658 iX8_placeOf m_659 rfl (kX8_placeOf τ (by omega)) rfl (by decide) (Nat.le_of_ble_eq_true rfl) 14 rfl ?_
        refine z_istore F dX8_passYears_14 [(0, _), (1, _), (2, _), (3, _), (4, _)] rfl (by decide) 16 rfl ?_
        refine z_aload_n F dX8_passYears_16 0 rfl 17 rfl ?_
        refine z_aload_n F dX8_passYears_17 1 rfl 18 rfl ?_
        refine z_aload_n F dX8_passYears_18 0 rfl 19 rfl ?_
        refine z_getR F zc7 dX8_passYears_19 rfl 2 (by decide) (by decide) (.inl m_203) rfl (by decide) 22 rfl ?_
        refine z_iload F dX8_passYears_22 4 rfl 24 rfl ?_
        refine z_iald F dX8_passYears_24 rfl (vp_in_nI (by omega) (by decide)) 25 rfl ?_
        rw [nI_clamp (by omega), m1]
        refine z_aload_n F dX8_passYears_25 0 rfl 26 rfl ?_
        refine z_getR F zc7 dX8_passYears_26 rfl 3 (by decide) (by decide) (.inl m_205) rfl (by decide) 29 rfl ?_
        refine z_iload F dX8_passYears_29 4 rfl 31 rfl ?_
        refine z_iald F dX8_passYears_31 rfl (vp_in_nI (by omega) (by decide)) 32 rfl ?_
        rw [nI_clamp (by omega), m2]
        refine z_callVv F dX8_passYears_32 m_664 iX8_passYear jX8_passYear rfl zc7 rfl (kX8_passYearN τ hN2 hC2 ha hb) rfl (by decide) (Nat.le_of_ble_eq_true rfl) 35 rfl (fun s32 c32 => ?_)
        refine z_iinc F dX8_passYears_35 3 rfl 1 (by decide) [(0, _), (1, _), (2, _), (3, _), (4, _)] rfl (by decide) 38 rfl ?_
        refine z_goto F dX8_passYears_38 2 (by decide) ?_
        have hjn : j < n := nle_nI h4 (by omega) (by omega)
        rw [nI_1]
        exact z_sub [0, 1, 2, 3] rfl (ih (j + 1) s32 (by omega) (by omega) (hs.tr c32.1) (by rw [hgo]; exact c32.2))
  refine z_iconst F dX8_passYears_0 0 (by decide) 1 rfl ?_
  refine z_istore_n F dX8_passYears_1 [(0, _), (1, _), (2, _), (3, _)] rfl (by decide) 2 rfl ?_
  exact loop2 (n + 1) 0 σ (by omega) (by omega) MS.rf hC
set_option maxHeartbeats 400000 in
set_option maxRecDepth 10000 in
theorem kX0_seenTogetherT {l : Launch} {E : z_E} (σ : z_M) {s : Nat → Nat} (hs : ∀ p, p < 8 → σ 50 p = nI (s p)) (hs8 : ∀ p, s p < 256) : z_C l E shC 1 yX0_seenTogether cX0_seenTogether 3 (some FieldType.int) [.ref (z_ad E 49)] σ (z_Pp (nI (sumS (fun p => pcN (s p)) 8)) σ) := by
  refine z_intro iX0_seenTogether (Nat.le_of_ble_eq_true rfl) (fun K F => ?_)
  have loop4 : ∀ (f : Nat) (j : Nat) (_ : 8 < j + f) (_ : j ≤ 8), z_X l K E shC 1 3 (z_Pp (nI (sumS (fun p => pcN (s p)) 8)) σ) 4 [(0, .ref (z_ad E 49)), (1, .int (nI (sumS (fun p => pcN (s p)) j))), (2, .int (nI j))] [] σ := by
    intro f
    induction f with
    | zero =>
      intro j hf hj
      omega
    | succ f ih =>
      intro j hf hj
      refine z_iload_n F dX0_seenTogether_4 2 rfl 5 rfl ?_
      refine z_bipush F dX0_seenTogether_5 8 (by decide) 7 rfl ?_
      refine z_icmp_ge F dX0_seenTogether_7 28 (by decide) 10 rfl (fun h7 => ?_) (fun h7 => ?_)
      · skip
        refine z_iload_n F dX0_seenTogether_28 1 rfl 29 rfl ?_
        refine z_rp F dX0_seenTogether_29 ?_ rfl
        have hj8 : j = 8 := by have := le_nI (a := 8) h7 (by omega) (by omega); omega
        subst hj8; rfl
      · skip
        have hj8 : j < 8 := nle_nI (a := 8) h7 (by omega) (by omega)
        refine z_iload_n F dX0_seenTogether_10 1 rfl 11 rfl ?_
        refine z_aload_n F dX0_seenTogether_11 0 rfl 12 rfl ?_
        refine z_getR F zc0 dX0_seenTogether_12 rfl 3 (by decide) (by decide) (.inl m_153) rfl (by decide) 15 rfl ?_
        refine z_iload_n F dX0_seenTogether_15 2 rfl 16 rfl ?_
        refine z_iald F dX0_seenTogether_16 rfl (vp_in_nI hj8 (by decide)) 17 rfl ?_
        rw [nI_clamp (by omega), hs j hj8]
        refine z_callSp F dX0_seenTogether_17 m_675 iJ6_bitCount_0f7a4 m_676 rfl (kJ6_bitCount_0f7a4 σ (hs8 j)) rfl (by decide) (Nat.le_of_ble_eq_true rfl) 20 rfl ?_
        refine z_iadd F dX0_seenTogether_20 21 rfl ?_
        refine z_istore_n F dX0_seenTogether_21 [(0, _), (1, _), (2, _)] rfl (by decide) 22 rfl ?_
        refine z_iinc F dX0_seenTogether_22 2 rfl 1 (by decide) [(0, _), (1, _), (2, _)] rfl (by decide) 25 rfl ?_
        refine z_goto F dX0_seenTogether_25 4 (by decide) ?_
        rw [nI_1, nI_add]
        exact ih (j + 1) (by omega) (by omega)
  refine z_iconst F dX0_seenTogether_0 0 (by decide) 1 rfl ?_
  refine z_istore_n F dX0_seenTogether_1 [(0, _), (1, _)] rfl (by decide) 2 rfl ?_
  refine z_iconst F dX0_seenTogether_2 0 (by decide) 3 rfl ?_
  refine z_istore_n F dX0_seenTogether_3 [(0, _), (1, _), (2, _)] rfl (by decide) 4 rfl ?_
  exact loop4 9 0 (by omega) (by omega)
set_option maxHeartbeats 400000 in
set_option maxRecDepth 10000 in
theorem kX0_seersOfT {l : Launch} {E : z_E} (σ : z_M) {s : Nat → Nat} (hs : ∀ p, p < 8 → σ 50 p = nI (s p)) (hs8 : ∀ p, s p < 256) {q : Nat} (hq : q < 8) : z_C l E shC 1 yX0_seersOf cX0_seersOf 4 (some FieldType.int) [.ref (z_ad E 49), .int (nI q)] σ (z_Pp (nI (setOf (fun o => (s o).testBit q) 8)) σ) := by
  refine z_intro iX0_seersOf (Nat.le_of_ble_eq_true rfl) (fun K F => ?_)
  have loop4 : ∀ (f : Nat) (j : Nat) (_ : 8 < j + f) (_ : j ≤ 8), z_X l K E shC 1 4 (z_Pp (nI (setOf (fun o => (s o).testBit q) 8)) σ) 4 [(0, .ref (z_ad E 49)), (1, .int (nI q)), (2, .int (nI (setOf (fun o => (s o).testBit q) j))), (3, .int (nI j))] [] σ := by
    intro f
    induction f with
    | zero =>
      intro j hf hj
      omega
    | succ f ih =>
      intro j hf hj
      refine z_iload_n F dX0_seersOf_4 3 rfl 5 rfl ?_
      refine z_bipush F dX0_seersOf_5 8 (by decide) 7 rfl ?_
      refine z_icmp_ge F dX0_seersOf_7 35 (by decide) 10 rfl (fun h7 => ?_) (fun h7 => ?_)
      · skip
        refine z_iload_n F dX0_seersOf_35 2 rfl 36 rfl ?_
        refine z_rp F dX0_seersOf_36 ?_ rfl
        have hj8 : j = 8 := by have := le_nI (a := 8) h7 (by omega) (by omega); omega
        subst hj8; rfl
      · skip
        have hj8 : j < 8 := nle_nI (a := 8) h7 (by omega) (by omega)
        refine z_aload_n F dX0_seersOf_10 0 rfl 11 rfl ?_
        refine z_getR F zc0 dX0_seersOf_11 rfl 3 (by decide) (by decide) (.inl m_153) rfl (by decide) 14 rfl ?_
        refine z_iload_n F dX0_seersOf_14 3 rfl 15 rfl ?_
        refine z_iald F dX0_seersOf_15 rfl (vp_in_nI hj8 (by decide)) 16 rfl ?_
        rw [nI_clamp (by omega), hs j hj8]
        refine z_iload_n F dX0_seersOf_16 1 rfl 17 rfl ?_
        refine z_callSNp F dX0_seersOf_17 m_739 iX9_isIn m_716 rfl (kX9_isIn σ _ _) rfl (by decide) (Nat.le_of_ble_eq_true rfl) 20 rfl ?_
        rw [bit_nI (s j) (hs8 j) q hq]
        refine z_if_eq F dX0_seersOf_20 29 (by decide) 23 rfl (fun h20 => ?_) (fun h20 => ?_)
        · skip
          have h20 := bI0.mp h20
          refine z_iinc F dX0_seersOf_29 3 rfl 1 (by decide) [(0, _), (1, _), (2, _), (3, _)] rfl (by decide) 32 rfl ?_
          refine z_goto F dX0_seersOf_32 4 (by decide) ?_
          have hb : (s j).testBit q = false := by
            cases hh : (s j).testBit q
            · rfl
            · rw [hh] at h20; exact absurd (by decide) h20
          have e : setOf (fun o => (s o).testBit q) (j + 1) = setOf (fun o => (s o).testBit q) j := setOf_f hb
          rw [nI_1, ← e]
          exact ih (j + 1) (by omega) (by omega)
        · skip
          have h20 := bI1.mp h20
          refine z_iload_n F dX0_seersOf_23 2 rfl 24 rfl ?_
          refine z_iconst F dX0_seersOf_24 1 (by decide) 25 rfl ?_
          refine z_iload_n F dX0_seersOf_25 3 rfl 26 rfl ?_
          refine z_ishl F dX0_seersOf_26 27 rfl ?_
          refine z_ior F dX0_seersOf_27 28 rfl ?_
          refine z_istore_n F dX0_seersOf_28 [(0, _), (1, _), (2, _), (3, _)] rfl (by decide) 29 rfl ?_
          refine z_iinc F dX0_seersOf_29 3 rfl 1 (by decide) [(0, _), (1, _), (2, _), (3, _)] rfl (by decide) 32 rfl ?_
          refine z_goto F dX0_seersOf_32 4 (by decide) ?_
          have hb : (s j).testBit q = true := by
            cases hh : (s j).testBit q
            · rw [hh] at h20; exact absurd rfl h20
            · rfl
          have e : setOf (fun o => (s o).testBit q) (j + 1) = setOf (fun o => (s o).testBit q) j ||| 2 ^ j := setOf_t hb
          rw [shl_nI j (by omega), or_nI, nI_1, ← e]
          exact ih (j + 1) (by omega) (by omega)
  refine z_iconst F dX0_seersOf_0 0 (by decide) 1 rfl ?_
  refine z_istore_n F dX0_seersOf_1 [(0, _), (1, _), (2, _)] rfl (by decide) 2 rfl ?_
  refine z_iconst F dX0_seersOf_2 0 (by decide) 3 rfl ?_
  refine z_istore_n F dX0_seersOf_3 [(0, _), (1, _), (2, _), (3, _)] rfl (by decide) 4 rfl ?_
  exact loop4 9 0 (by omega) (by omega)
set_option maxHeartbeats 400000 in
set_option maxRecDepth 10000 in
theorem kX0_seenByT {l : Launch} {E : z_E} (σ : z_M) {s : Nat → Nat} (hs : ∀ p, p < 8 → σ 50 p = nI (s p)) (hs8 : ∀ p, s p < 256) {q : Nat} (hq : q < 256) : z_C l E shC 1 yX0_seenBy cX0_seenBy 4 (some FieldType.int) [.ref (z_ad E 49), .int (nI q)] σ (z_Pp (nI (orS (fun p => if q.testBit p then s p else 0) 8)) σ) := by
  refine z_intro iX0_seenBy (Nat.le_of_ble_eq_true rfl) (fun K F => ?_)
  have loop4 : ∀ (f : Nat) (j : Nat) (_ : 8 < j + f) (_ : j ≤ 8), z_X l K E shC 1 4 (z_Pp (nI (orS (fun p => if q.testBit p then s p else 0) 8)) σ) 4 [(0, .ref (z_ad E 49)), (1, .int (nI q)), (2, .int (nI (orS (fun p => if q.testBit p then s p else 0) j))), (3, .int (nI j))] [] σ := by
    intro f
    induction f with
    | zero =>
      intro j hf hj
      omega
    | succ f ih =>
      intro j hf hj
      refine z_iload_n F dX0_seenBy_4 3 rfl 5 rfl ?_
      refine z_bipush F dX0_seenBy_5 8 (by decide) 7 rfl ?_
      refine z_icmp_ge F dX0_seenBy_7 33 (by decide) 10 rfl (fun h7 => ?_) (fun h7 => ?_)
      · skip
        refine z_iload_n F dX0_seenBy_33 2 rfl 34 rfl ?_
        refine z_rp F dX0_seenBy_34 ?_ rfl
        have hj8 : j = 8 := by have := le_nI (a := 8) h7 (by omega) (by omega); omega
        subst hj8; rfl
      · skip
        have hj8 : j < 8 := nle_nI (a := 8) h7 (by omega) (by omega)
        refine z_iload_n F dX0_seenBy_10 1 rfl 11 rfl ?_
        refine z_iload_n F dX0_seenBy_11 3 rfl 12 rfl ?_
        refine z_callSNp F dX0_seenBy_12 m_739 iX9_isIn m_716 rfl (kX9_isIn σ _ _) rfl (by decide) (Nat.le_of_ble_eq_true rfl) 15 rfl ?_
        rw [bit_nI q hq j hj8]
        refine z_if_eq F dX0_seenBy_15 27 (by decide) 18 rfl (fun h15 => ?_) (fun h15 => ?_)
        · skip
          have h15 := bI0.mp h15
          refine z_iinc F dX0_seenBy_27 3 rfl 1 (by decide) [(0, _), (1, _), (2, _), (3, _)] rfl (by decide) 30 rfl ?_
          refine z_goto F dX0_seenBy_30 4 (by decide) ?_
          have hb : q.testBit j = false := by
            cases hh : q.testBit j
            · rfl
            · rw [hh] at h15; exact absurd (by decide) h15
          have e : orS (fun p => if q.testBit p then s p else 0) (j + 1) = orS (fun p => if q.testBit p then s p else 0) j := by rw [orS_s, show (if q.testBit j then s j else 0) = 0 from if_neg (by rw [hb]; decide), Nat.or_zero]
          rw [nI_1, ← e]
          exact ih (j + 1) (by omega) (by omega)
        · skip
          have h15 := bI1.mp h15
          refine z_iload_n F dX0_seenBy_18 2 rfl 19 rfl ?_
          refine z_aload_n F dX0_seenBy_19 0 rfl 20 rfl ?_
          refine z_getR F zc0 dX0_seenBy_20 rfl 3 (by decide) (by decide) (.inl m_153) rfl (by decide) 23 rfl ?_
          refine z_iload_n F dX0_seenBy_23 3 rfl 24 rfl ?_
          refine z_iald F dX0_seenBy_24 rfl (vp_in_nI hj8 (by decide)) 25 rfl ?_
          rw [nI_clamp (by omega), hs j hj8]
          refine z_ior F dX0_seenBy_25 26 rfl ?_
          refine z_istore_n F dX0_seenBy_26 [(0, _), (1, _), (2, _), (3, _)] rfl (by decide) 27 rfl ?_
          refine z_iinc F dX0_seenBy_27 3 rfl 1 (by decide) [(0, _), (1, _), (2, _), (3, _)] rfl (by decide) 30 rfl ?_
          refine z_goto F dX0_seenBy_30 4 (by decide) ?_
          have hb : q.testBit j = true := by
            cases hh : q.testBit j
            · rw [hh] at h15; exact absurd rfl h15
            · rfl
          have e : orS (fun p => if q.testBit p then s p else 0) (j + 1) = orS (fun p => if q.testBit p then s p else 0) j ||| s j := by rw [orS_s]; congr 1; exact if_pos hb
          rw [or_nI, nI_1, ← e]
          exact ih (j + 1) (by omega) (by omega)
  refine z_iconst F dX0_seenBy_0 0 (by decide) 1 rfl ?_
  refine z_istore_n F dX0_seenBy_1 [(0, _), (1, _), (2, _)] rfl (by decide) 2 rfl ?_
  refine z_iconst F dX0_seenBy_2 0 (by decide) 3 rfl ?_
  refine z_istore_n F dX0_seenBy_3 [(0, _), (1, _), (2, _), (3, _)] rfl (by decide) 4 rfl ?_
  exact loop4 9 0 (by omega) (by omega)
set_option maxHeartbeats 400000 in
set_option maxRecDepth 10000 in
theorem kX8_veilsOfT {l : Launch} {E : z_E} (σ : z_M) {r : Rw} (hN : NowR σ r) (hy : σ 49 0 = r 0) {i j : Nat} (hi : i < nP r) (hj : j < nP r) : z_C l E shC 3 yX8_veilsOf cX8_veilsOf 6 (some FieldType.int) [.ref (z_ad E 1), .int (nI i), .int (nI j), .ref (z_ad E 49)] σ (z_Pi (fun x σ' => x = veilS r i j ∧ MS [16] σ σ')) := by
  refine z_intro iX8_veilsOf (Nat.le_of_ble_eq_true rfl) (fun K F => ?_)
  have h8 := hN.2.2.1.2.1
  have hk := (kin1.mp hN.1).2 i hi
  refine z_aload_n F dX8_veilsOf_0 0 rfl 1 rfl ?_
  refine z_getR F zc7 dX8_veilsOf_1 rfl 0 (by decide) (by decide) (.inl m_199) rfl (by decide) 4 rfl ?_
  refine z_iload_n F dX8_veilsOf_4 1 rfl 5 rfl ?_
  refine z_iload_n F dX8_veilsOf_5 2 rfl 6 rfl ?_
  refine z_callVp F dX8_veilsOf_6 m_472 iX1_between jX1_between rfl zc1 rfl (kX1_between σ (i := i) (j := j) (by omega) (by omega)) rfl (by decide) (Nat.le_of_ble_eq_true rfl) 9 rfl ?_
  rw [show σ 7 (i * 8 + j) = nI (dS r i j) from hN.2.1 i j hi hj]
  refine z_istore F dX8_veilsOf_9 [(0, _), (1, _), (2, _), (3, _), (4, _)] rfl (by decide) 11 rfl ?_
  refine z_aload_n F dX8_veilsOf_11 0 rfl 12 rfl ?_
  refine z_getR F zc7 dX8_veilsOf_12 rfl 0 (by decide) (by decide) (.inl m_199) rfl (by decide) 15 rfl ?_
  refine z_getR F zc1 dX8_veilsOf_15 rfl 1 (by decide) (by decide) (.inr ⟨_, m_113⟩) rfl (by decide) 18 rfl ?_
  refine z_iload_n F dX8_veilsOf_18 1 rfl 19 rfl ?_
  refine z_iald F dX8_veilsOf_19 rfl (vp_in_nI (by omega) (by decide)) 20 rfl ?_
  rw [nI_clamp (by omega), hk.1]
  refine z_aload_n F dX8_veilsOf_20 0 rfl 21 rfl ?_
  refine z_getR F zc7 dX8_veilsOf_21 rfl 0 (by decide) (by decide) (.inl m_199) rfl (by decide) 24 rfl ?_
  refine z_getR F zc1 dX8_veilsOf_24 rfl 2 (by decide) (by decide) (.inr ⟨_, m_116⟩) rfl (by decide) 27 rfl ?_
  refine z_iload_n F dX8_veilsOf_27 1 rfl 28 rfl ?_
  refine z_iald F dX8_veilsOf_28 rfl (vp_in_nI (by omega) (by decide)) 29 rfl ?_
  rw [nI_clamp (by omega), hk.2.1]
  refine z_iload F dX8_veilsOf_29 4 rfl 31 rfl ?_
  refine z_callSp F dX8_veilsOf_31 m_473 iX2_letDown m_474 rfl (kX2_letDown σ _ _ _) rfl (by decide) (Nat.le_of_ble_eq_true rfl) 34 rfl ?_
  refine z_istore F dX8_veilsOf_34 [(0, _), (1, _), (2, _), (3, _), (4, _), (5, _)] rfl (by decide) 36 rfl ?_
  refine z_aload_n F dX8_veilsOf_36 0 rfl 37 rfl ?_
  refine z_iconst F dX8_veilsOf_37 0 (by decide) 38 rfl ?_
  refine z_iload F dX8_veilsOf_38 5 rfl 40 rfl ?_
  refine z_iload F dX8_veilsOf_40 4 rfl 42 rfl ?_
  refine z_aload_n F dX8_veilsOf_42 3 rfl 43 rfl ?_
  refine z_getI F zc0 dX8_veilsOf_43 rfl 0 (by decide) (by decide) (.inr ⟨_, m_145⟩) rfl 46 rfl ?_
  rw [hy]
  refine z_bipush F dX8_veilsOf_46 8 (by decide) 48 rfl ?_
  refine z_irem F dX8_veilsOf_48 (by decide) 49 rfl ?_
  refine z_callVi F dX8_veilsOf_49 m_382 iX8_gives jX8_gives rfl zc7 rfl (kX8_givesA σ hN.2.2.2.1 hN.2.2.2.2.2.1 _ _ _) rfl (by decide) (Nat.le_of_ble_eq_true rfl) 52 rfl (fun r49 s49 c49 => ?_)
  refine z_ri F dX8_veilsOf_52 ?_
  exact c49
set_option maxHeartbeats 400000 in
set_option maxRecDepth 10000 in
theorem kX8_sightOfT {l : Launch} {E : z_E} (σ : z_M) {r : Rw} (hN : NowR σ r) (hy : σ 49 0 = r 0) (hcl : σ 49 1 = r 3) {i : Nat} (hi : i < nP r) : z_C l E shC 3 yX8_sightOf cX8_sightOf 4 (some FieldType.int) [.ref (z_ad E 1), .int (nI i), .ref (z_ad E 49)] σ (z_Pi (fun x σ' => x = sightS r i ∧ MS [20] σ σ')) := by
  refine z_intro iX8_sightOf (Nat.le_of_ble_eq_true rfl) (fun K F => ?_)
  have h8 := hN.2.2.1.2.1
  have hk := (kin1.mp hN.1).2 i hi
  refine z_aload_n F dX8_sightOf_0 0 rfl 1 rfl ?_
  refine z_getR F zc7 dX8_sightOf_1 rfl 0 (by decide) (by decide) (.inl m_199) rfl (by decide) 4 rfl ?_
  refine z_getR F zc1 dX8_sightOf_4 rfl 1 (by decide) (by decide) (.inr ⟨_, m_113⟩) rfl (by decide) 7 rfl ?_
  refine z_iload_n F dX8_sightOf_7 1 rfl 8 rfl ?_
  refine z_iald F dX8_sightOf_8 rfl (vp_in_nI (by omega) (by decide)) 9 rfl ?_
  rw [nI_clamp (by omega), hk.1]
  refine z_aload_n F dX8_sightOf_9 0 rfl 10 rfl ?_
  refine z_getR F zc7 dX8_sightOf_10 rfl 0 (by decide) (by decide) (.inl m_199) rfl (by decide) 13 rfl ?_
  refine z_getR F zc1 dX8_sightOf_13 rfl 2 (by decide) (by decide) (.inr ⟨_, m_116⟩) rfl (by decide) 16 rfl ?_
  refine z_iload_n F dX8_sightOf_16 1 rfl 17 rfl ?_
  refine z_iald F dX8_sightOf_17 rfl (vp_in_nI (by omega) (by decide)) 18 rfl ?_
  rw [nI_clamp (by omega), hk.2.1]
  refine z_aload_n F dX8_sightOf_18 0 rfl 19 rfl ?_
  refine z_getR F zc7 dX8_sightOf_19 rfl 0 (by decide) (by decide) (.inl m_199) rfl (by decide) 22 rfl ?_
  refine z_iload_n F dX8_sightOf_22 1 rfl 23 rfl ?_
  refine z_callVp F dX8_sightOf_23 m_375 iX1_nearTo jX1_nearTo rfl zc1 rfl (kX1_nearTo σ hN.1 hN.2.2.1 hN.2.1 hi) rfl (by decide) (Nat.le_of_ble_eq_true rfl) 26 rfl ?_
  refine z_aload_n F dX8_sightOf_26 2 rfl 27 rfl ?_
  refine z_getI F zc0 dX8_sightOf_27 rfl 0 (by decide) (by decide) (.inr ⟨_, m_145⟩) rfl 30 rfl ?_
  rw [hy]
  refine z_callSp F dX8_sightOf_30 m_379 iX2_lookThrough m_380 rfl (kX2_lookThrough σ _ _ _ _) rfl (by decide) (Nat.le_of_ble_eq_true rfl) 33 rfl ?_
  refine z_istore_n F dX8_sightOf_33 [(0, _), (1, _), (2, _), (3, _)] rfl (by decide) 34 rfl ?_
  refine z_aload_n F dX8_sightOf_34 0 rfl 35 rfl ?_
  refine z_iconst F dX8_sightOf_35 1 (by decide) 36 rfl ?_
  refine z_iload_n F dX8_sightOf_36 3 rfl 37 rfl ?_
  refine z_aload_n F dX8_sightOf_37 2 rfl 38 rfl ?_
  refine z_getI F zc0 dX8_sightOf_38 rfl 0 (by decide) (by decide) (.inr ⟨_, m_145⟩) rfl 41 rfl ?_
  rw [hy]
  refine z_bipush F dX8_sightOf_41 8 (by decide) 43 rfl ?_
  refine z_irem F dX8_sightOf_43 (by decide) 44 rfl ?_
  refine z_aload_n F dX8_sightOf_44 2 rfl 45 rfl ?_
  refine z_getI F zc0 dX8_sightOf_45 rfl 1 (by decide) (by decide) (.inr ⟨_, m_148⟩) rfl 48 rfl ?_
  rw [hcl]
  refine z_bipush F dX8_sightOf_48 10 (by decide) 50 rfl ?_
  refine z_idiv F dX8_sightOf_50 (by decide) 51 rfl ?_
  refine z_callVi F dX8_sightOf_51 m_382 iX8_gives jX8_gives rfl zc7 rfl (kX8_givesB σ hN.2.2.2.2.1 hN.2.2.2.2.2.2.1 _ _ _) rfl (by decide) (Nat.le_of_ble_eq_true rfl) 54 rfl (fun r51 s51 c51 => ?_)
  refine z_ri F dX8_sightOf_54 ?_
  exact c51
set_option maxHeartbeats 1000000 in
set_option maxRecDepth 10000 in
theorem kX8_passYearT {l : Launch} {E : z_E} (σ : z_M) {r : Rw} (hN : NowR σ r) (hC : CrsR σ 49 50 r) {a b : Nat} (ha : a < 8) (hb : b < 8) : z_C l E shC 4 yX8_passYear cX8_passYear 5 none [.ref (z_ad E 1), .ref (z_ad E 49), .int (nI a), .int (nI b)] σ (z_Pv (fun σ' => MS [49, 50, 16, 20] σ σ' ∧ CrsR σ' 49 50 (goM r a b))) := by
  refine z_intro iX8_passYear (Nat.le_of_ble_eq_true rfl) (fun K F => ?_)
  have h8 := hN.2.2.1.2.1
  have hc : σ 2 0 = nI (nP r) := hN.1.1.trans hN.2.2.1.1
  have fin : ∀ (τ : z_M), CrsR τ 49 50 (goM1 r a b) → MS [49, 50, 16, 20] σ τ → MS [49, 50, 16, 20] σ (z_u2 (z_u2 τ 49 1 (if 999 < τ 49 1 + τ 49 2 then 999 else τ 49 1 + τ 49 2)) 49 0 (τ 49 0 + 1)) ∧ CrsR (z_u2 (z_u2 τ 49 1 (if 999 < τ 49 1 + τ 49 2 then 999 else τ 49 1 + τ 49 2)) 49 0 (τ 49 0 + 1)) 49 50 (goM r a b) := by
    intro τ hq hs
    have e0 : goM1 r a b 0 = r 0 := by
      unfold goM1
      split
      · rw [upd_at, if_neg (by decide), pU_lo (by decide)]
      · rfl
    refine ⟨(hs.u2 (by decide)).u2 (by decide), ?_, ?_, ?_, fun p hp => ?_⟩
    · rw [u2_same, hq.1, e0, goM_0]
    · rw [u2_k (by decide), u2_same, hq.2.1, hq.2.2.1, goM_3]
    · rw [u2_k (by decide), u2_k (by decide), hq.2.2.1, goM_4]
    · rw [u2_o (by decide), u2_o (by decide), hq.2.2.2 p hp, eqK_nP (eqK_goM ha), eqK_nP (eqK_goM1 ha), pO_goM]
  refine z_iload_n F dX8_passYear_0 2 rfl 1 rfl ?_
  refine z_iload_n F dX8_passYear_1 3 rfl 2 rfl ?_
  refine z_icmp_eq F dX8_passYear_2 77 (by decide) 5 rfl (fun h2 => ?_) (fun h2 => ?_)
  · skip
    refine z_aload_n F dX8_passYear_77 1 rfl 78 rfl ?_
    refine z_aload_n F dX8_passYear_78 1 rfl 79 rfl ?_
    refine z_getI F zc0 dX8_passYear_79 rfl 1 (by decide) (by decide) (.inr ⟨_, m_148⟩) rfl 82 rfl ?_
    refine z_aload_n F dX8_passYear_82 1 rfl 83 rfl ?_
    refine z_getI F zc0 dX8_passYear_83 rfl 2 (by decide) (by decide) (.inr ⟨_, m_151⟩) rfl 86 rfl ?_
    refine z_iadd F dX8_passYear_86 87 rfl ?_
    refine z_sipush F dX8_passYear_87 999 (by decide) 90 rfl ?_
    refine z_min F dX8_passYear_90 m_408 m_364 m_76 m_365 (by decide) (Nat.le_of_ble_eq_true rfl) 93 rfl ?_
    refine z_putI F zc0 dX8_passYear_93 rfl 1 (by decide) (by decide) (.inr ⟨_, m_148⟩) rfl rfl z_pI 96 rfl ?_
    refine z_aload_n F dX8_passYear_96 1 rfl 97 rfl ?_
    refine z_dup F dX8_passYear_97 rfl 98 rfl ?_
    refine z_getI F zc0 dX8_passYear_98 rfl 0 (by decide) (by decide) (.inr ⟨_, m_145⟩) rfl 101 rfl ?_
    refine z_iconst F dX8_passYear_101 1 (by decide) 102 rfl ?_
    refine z_iadd F dX8_passYear_102 103 rfl ?_
    refine z_putI F zc0 dX8_passYear_103 rfl 0 (by decide) (by decide) (.inr ⟨_, m_145⟩) rfl rfl z_pI 106 rfl ?_
    refine z_rv F dX8_passYear_106 ?_
    refine fin σ ?_ MS.rf
    have e1 : goM1 r a b = r := by
      unfold goM1
      rw [if_neg]
      rintro ⟨q1, q2, q3⟩
      exact q1 (eq_nI h2 (by omega) (by omega))
    rw [e1]; exact hC
  · skip
    refine z_aload_n F dX8_passYear_5 0 rfl 6 rfl ?_
    refine z_getR F zc7 dX8_passYear_6 rfl 0 (by decide) (by decide) (.inl m_199) rfl (by decide) 9 rfl ?_
    refine z_iload_n F dX8_passYear_9 2 rfl 10 rfl ?_
    refine z_callVp F dX8_passYear_10 m_668 iX1_has jX1_has rfl zc1 rfl (kX1_has σ _) rfl (by decide) (Nat.le_of_ble_eq_true rfl) 13 rfl ?_
    refine z_if_eq F dX8_passYear_13 77 (by decide) 16 rfl (fun h13 => ?_) (fun h13 => ?_)
    · skip
      have h13 := bI0.mp h13
      refine z_aload_n F dX8_passYear_77 1 rfl 78 rfl ?_
      refine z_aload_n F dX8_passYear_78 1 rfl 79 rfl ?_
      refine z_getI F zc0 dX8_passYear_79 rfl 1 (by decide) (by decide) (.inr ⟨_, m_148⟩) rfl 82 rfl ?_
      refine z_aload_n F dX8_passYear_82 1 rfl 83 rfl ?_
      refine z_getI F zc0 dX8_passYear_83 rfl 2 (by decide) (by decide) (.inr ⟨_, m_151⟩) rfl 86 rfl ?_
      refine z_iadd F dX8_passYear_86 87 rfl ?_
      refine z_sipush F dX8_passYear_87 999 (by decide) 90 rfl ?_
      refine z_min F dX8_passYear_90 m_408 m_364 m_76 m_365 (by decide) (Nat.le_of_ble_eq_true rfl) 93 rfl ?_
      refine z_putI F zc0 dX8_passYear_93 rfl 1 (by decide) (by decide) (.inr ⟨_, m_148⟩) rfl rfl z_pI 96 rfl ?_
      refine z_aload_n F dX8_passYear_96 1 rfl 97 rfl ?_
      refine z_dup F dX8_passYear_97 rfl 98 rfl ?_
      refine z_getI F zc0 dX8_passYear_98 rfl 0 (by decide) (by decide) (.inr ⟨_, m_145⟩) rfl 101 rfl ?_
      refine z_iconst F dX8_passYear_101 1 (by decide) 102 rfl ?_
      refine z_iadd F dX8_passYear_102 103 rfl ?_
      refine z_putI F zc0 dX8_passYear_103 rfl 0 (by decide) (by decide) (.inr ⟨_, m_145⟩) rfl rfl z_pI 106 rfl ?_
      refine z_rv F dX8_passYear_106 ?_
      refine fin σ ?_ MS.rf
      have e1 : goM1 r a b = r := by
        unfold goM1
        rw [if_neg]
        rintro ⟨q1, q2, q3⟩
        rw [hc] at h13; exact h13 (isP_nI q2 (by omega))
      rw [e1]; exact hC
    · skip
      have h13 := bI1.mp h13
      refine z_aload_n F dX8_passYear_16 0 rfl 17 rfl ?_
      refine z_getR F zc7 dX8_passYear_17 rfl 0 (by decide) (by decide) (.inl m_199) rfl (by decide) 20 rfl ?_
      refine z_iload_n F dX8_passYear_20 3 rfl 21 rfl ?_
      refine z_callVp F dX8_passYear_21 m_668 iX1_has jX1_has rfl zc1 rfl (kX1_has σ _) rfl (by decide) (Nat.le_of_ble_eq_true rfl) 24 rfl ?_
      refine z_if_eq F dX8_passYear_24 77 (by decide) 27 rfl (fun h24 => ?_) (fun h24 => ?_)
      · skip
        have h24 := bI0.mp h24
        refine z_aload_n F dX8_passYear_77 1 rfl 78 rfl ?_
        refine z_aload_n F dX8_passYear_78 1 rfl 79 rfl ?_
        refine z_getI F zc0 dX8_passYear_79 rfl 1 (by decide) (by decide) (.inr ⟨_, m_148⟩) rfl 82 rfl ?_
        refine z_aload_n F dX8_passYear_82 1 rfl 83 rfl ?_
        refine z_getI F zc0 dX8_passYear_83 rfl 2 (by decide) (by decide) (.inr ⟨_, m_151⟩) rfl 86 rfl ?_
        refine z_iadd F dX8_passYear_86 87 rfl ?_
        refine z_sipush F dX8_passYear_87 999 (by decide) 90 rfl ?_
        refine z_min F dX8_passYear_90 m_408 m_364 m_76 m_365 (by decide) (Nat.le_of_ble_eq_true rfl) 93 rfl ?_
        refine z_putI F zc0 dX8_passYear_93 rfl 1 (by decide) (by decide) (.inr ⟨_, m_148⟩) rfl rfl z_pI 96 rfl ?_
        refine z_aload_n F dX8_passYear_96 1 rfl 97 rfl ?_
        refine z_dup F dX8_passYear_97 rfl 98 rfl ?_
        refine z_getI F zc0 dX8_passYear_98 rfl 0 (by decide) (by decide) (.inr ⟨_, m_145⟩) rfl 101 rfl ?_
        refine z_iconst F dX8_passYear_101 1 (by decide) 102 rfl ?_
        refine z_iadd F dX8_passYear_102 103 rfl ?_
        refine z_putI F zc0 dX8_passYear_103 rfl 0 (by decide) (by decide) (.inr ⟨_, m_145⟩) rfl rfl z_pI 106 rfl ?_
        refine z_rv F dX8_passYear_106 ?_
        refine fin σ ?_ MS.rf
        have e1 : goM1 r a b = r := by
          unfold goM1
          rw [if_neg]
          rintro ⟨q1, q2, q3⟩
          rw [hc] at h24; exact h24 (isP_nI q3 (by omega))
        rw [e1]; exact hC
      · skip
        have h24 := bI1.mp h24
        rw [hc] at h13 h24
        have han : a < nP r := (nI_ltI (by omega) (by omega)).mp h13.2
        have hbn : b < nP r := (nI_ltI (by omega) (by omega)).mp h24.2
        have hab : a ≠ b := fun e => h2 (by rw [e])
        refine z_aload_n F dX8_passYear_27 0 rfl 28 rfl ?_
        refine z_iload_n F dX8_passYear_28 3 rfl 29 rfl ?_
        refine z_iload_n F dX8_passYear_29 2 rfl 30 rfl ?_
        refine z_aload_n F dX8_passYear_30 1 rfl 31 rfl ?_
        refine z_callVi F dX8_passYear_31 m_669 iX8_veilsOf jX8_veilsOf rfl zc7 rfl (kX8_veilsOfT σ hN hC.1 hbn han) rfl (by decide) (Nat.le_of_ble_eq_true rfl) 34 rfl (fun r31 s31 c31 => ?_)
        obtain ⟨rfl, m31⟩ := c31
        refine z_aload_n F dX8_passYear_34 1 rfl 35 rfl ?_
        refine z_getI F zc0 dX8_passYear_35 rfl 1 (by decide) (by decide) (.inr ⟨_, m_148⟩) rfl 38 rfl ?_
        refine z_min F dX8_passYear_38 m_408 m_364 m_76 m_365 (by decide) (Nat.le_of_ble_eq_true rfl) 41 rfl ?_
        rw [show s31 49 1 = r 3 from (congrFun (m31 49 (by decide)) 1).trans hC.2.1]
        refine z_istore F dX8_passYear_41 [(0, _), (1, _), (2, _), (3, _), (4, _)] rfl (by decide) 43 rfl ?_
        rw [show (if r 3 < veilS r b a then r 3 else veilS r b a) = wrS r a b from rfl]
        refine z_iload F dX8_passYear_43 4 rfl 45 rfl ?_
        refine z_aload_n F dX8_passYear_45 0 rfl 46 rfl ?_
        refine z_iload_n F dX8_passYear_46 2 rfl 47 rfl ?_
        refine z_aload_n F dX8_passYear_47 1 rfl 48 rfl ?_
        refine z_callVi F dX8_passYear_48 m_670 iX8_sightOf jX8_sightOf rfl zc7 rfl (kX8_sightOfT s31 (hN.ms m31 (by decide)) ((congrFun (m31 49 (by decide)) 0).trans hC.1) ((congrFun (m31 49 (by decide)) 1).trans hC.2.1) han) rfl (by decide) (Nat.le_of_ble_eq_true rfl) 51 rfl (fun r48 s48 c48 => ?_)
        obtain ⟨rfl, m48⟩ := c48
        refine z_icmp_gt F dX8_passYear_51 66 (by decide) 54 rfl (fun h51 => ?_) (fun h51 => ?_)
        · skip
          refine z_aload_n F dX8_passYear_66 1 rfl 67 rfl ?_
          refine z_dup F dX8_passYear_67 rfl 68 rfl ?_
          refine z_getI F zc0 dX8_passYear_68 rfl 1 (by decide) (by decide) (.inr ⟨_, m_148⟩) rfl 71 rfl ?_
          refine z_iload F dX8_passYear_71 4 rfl 73 rfl ?_
          refine z_isub F dX8_passYear_73 74 rfl ?_
          refine z_putI F zc0 dX8_passYear_74 rfl 1 (by decide) (by decide) (.inr ⟨_, m_148⟩) rfl rfl z_pI 77 rfl ?_
          refine z_aload_n F dX8_passYear_77 1 rfl 78 rfl ?_
          refine z_aload_n F dX8_passYear_78 1 rfl 79 rfl ?_
          refine z_getI F zc0 dX8_passYear_79 rfl 1 (by decide) (by decide) (.inr ⟨_, m_148⟩) rfl 82 rfl ?_
          refine z_aload_n F dX8_passYear_82 1 rfl 83 rfl ?_
          refine z_getI F zc0 dX8_passYear_83 rfl 2 (by decide) (by decide) (.inr ⟨_, m_151⟩) rfl 86 rfl ?_
          refine z_iadd F dX8_passYear_86 87 rfl ?_
          refine z_sipush F dX8_passYear_87 999 (by decide) 90 rfl ?_
          refine z_min F dX8_passYear_90 m_408 m_364 m_76 m_365 (by decide) (Nat.le_of_ble_eq_true rfl) 93 rfl ?_
          refine z_putI F zc0 dX8_passYear_93 rfl 1 (by decide) (by decide) (.inr ⟨_, m_148⟩) rfl rfl z_pI 96 rfl ?_
          refine z_aload_n F dX8_passYear_96 1 rfl 97 rfl ?_
          refine z_dup F dX8_passYear_97 rfl 98 rfl ?_
          refine z_getI F zc0 dX8_passYear_98 rfl 0 (by decide) (by decide) (.inr ⟨_, m_145⟩) rfl 101 rfl ?_
          refine z_iconst F dX8_passYear_101 1 (by decide) 102 rfl ?_
          refine z_iadd F dX8_passYear_102 103 rfl ?_
          refine z_putI F zc0 dX8_passYear_103 rfl 0 (by decide) (by decide) (.inr ⟨_, m_145⟩) rfl rfl z_pI 106 rfl ?_
          refine z_rv F dX8_passYear_106 ?_
          have m1 : MS [49, 50, 16, 20] σ s48 := (m31.sub (by decide)).tr (m48.sub (by decide))
          have hC4 : CrsR s48 49 50 r := (hC.ms m31 (by decide) (by decide)).ms m48 (by decide) (by decide)
          refine fin _ ?_ (m1.u2 (o := 49) (by decide))
          have e1 : goM1 r a b = upd (pU r a 4 (pO r a 4)) 3 (r 3 - wrS r a b) := by unfold goM1; rw [if_pos ⟨hab, han, hbn⟩, if_neg (i_nle.mpr h51)]
          have e4 : pU r a 4 (pO r a 4) = r := by funext k; unfold pU pO; rw [upd_at]; by_cases q : k = 19 + 5 * a + 4 <;> simp [q]
          rw [e1, e4]
          refine ⟨?_, ?_, ?_, fun p hp => ?_⟩
          · rw [u2_k (by decide), hC4.1, upd_at, if_neg (by decide)]
          · rw [u2_same, hC4.2.1, upd_at, if_pos rfl]
          · rw [u2_k (by decide), hC4.2.2.1, upd_at, if_neg (by decide)]
          · have e2 : nP (upd r 3 (r 3 - wrS r a b)) = nP r := by unfold nP; rw [upd_at, if_neg (by decide)]
            rw [u2_o (by decide), hC4.2.2.2 p hp, e2, pO_u3]
        · skip
          have m1 : MS [49, 50, 16, 20] σ s48 := (m31.sub (by decide)).tr (m48.sub (by decide))
          have hC4 : CrsR s48 49 50 r := (hC.ms m31 (by decide) (by decide)).ms m48 (by decide) (by decide)
          refine z_aload_n F dX8_passYear_54 1 rfl 55 rfl ?_
          refine z_getR F zc0 dX8_passYear_55 rfl 3 (by decide) (by decide) (.inr ⟨_, m_155⟩) rfl (by decide) 58 rfl ?_
          refine z_iload_n F dX8_passYear_58 2 rfl 59 rfl ?_
          refine z_dup2 F dX8_passYear_59 rfl rfl 60 rfl ?_
          refine z_iald F dX8_passYear_60 rfl (vp_in_nI (by omega) (by decide)) 61 rfl ?_
          rw [nI_clamp (by omega), hC4.2.2.2 a (by omega), if_pos han]
          refine z_iconst F dX8_passYear_61 1 (by decide) 62 rfl ?_
          refine z_iload_n F dX8_passYear_62 3 rfl 63 rfl ?_
          refine z_ishl F dX8_passYear_63 64 rfl ?_
          refine z_ior F dX8_passYear_64 65 rfl ?_
          refine z_iast F dX8_passYear_65 rfl (vp_in_nI (by omega) (by decide)) 66 rfl ?_
          refine z_aload_n F dX8_passYear_66 1 rfl 67 rfl ?_
          refine z_dup F dX8_passYear_67 rfl 68 rfl ?_
          refine z_getI F zc0 dX8_passYear_68 rfl 1 (by decide) (by decide) (.inr ⟨_, m_148⟩) rfl 71 rfl ?_
          refine z_iload F dX8_passYear_71 4 rfl 73 rfl ?_
          refine z_isub F dX8_passYear_73 74 rfl ?_
          refine z_putI F zc0 dX8_passYear_74 rfl 1 (by decide) (by decide) (.inr ⟨_, m_148⟩) rfl rfl z_pI 77 rfl ?_
          refine z_aload_n F dX8_passYear_77 1 rfl 78 rfl ?_
          refine z_aload_n F dX8_passYear_78 1 rfl 79 rfl ?_
          refine z_getI F zc0 dX8_passYear_79 rfl 1 (by decide) (by decide) (.inr ⟨_, m_148⟩) rfl 82 rfl ?_
          refine z_aload_n F dX8_passYear_82 1 rfl 83 rfl ?_
          refine z_getI F zc0 dX8_passYear_83 rfl 2 (by decide) (by decide) (.inr ⟨_, m_151⟩) rfl 86 rfl ?_
          refine z_iadd F dX8_passYear_86 87 rfl ?_
          refine z_sipush F dX8_passYear_87 999 (by decide) 90 rfl ?_
          refine z_min F dX8_passYear_90 m_408 m_364 m_76 m_365 (by decide) (Nat.le_of_ble_eq_true rfl) 93 rfl ?_
          refine z_putI F zc0 dX8_passYear_93 rfl 1 (by decide) (by decide) (.inr ⟨_, m_148⟩) rfl rfl z_pI 96 rfl ?_
          refine z_aload_n F dX8_passYear_96 1 rfl 97 rfl ?_
          refine z_dup F dX8_passYear_97 rfl 98 rfl ?_
          refine z_getI F zc0 dX8_passYear_98 rfl 0 (by decide) (by decide) (.inr ⟨_, m_145⟩) rfl 101 rfl ?_
          refine z_iconst F dX8_passYear_101 1 (by decide) 102 rfl ?_
          refine z_iadd F dX8_passYear_102 103 rfl ?_
          refine z_putI F zc0 dX8_passYear_103 rfl 0 (by decide) (by decide) (.inr ⟨_, m_145⟩) rfl rfl z_pI 106 rfl ?_
          refine z_rv F dX8_passYear_106 ?_
          rw [nI_clamp (by omega)]
          refine fin _ ?_ ((m1.u2 (o := 50) (by decide)).u2 (o := 49) (by decide))
          have e1 : goM1 r a b = upd (pU r a 4 (pO r a 4 ||| (1 : Int32) <<< (nI b &&& 31))) 3 (r 3 - wrS r a b) := by unfold goM1; rw [if_pos ⟨hab, han, hbn⟩, if_pos (i_nlt.mp h51)]
          rw [e1]
          refine ⟨?_, ?_, ?_, fun p hp => ?_⟩
          · rw [u2_k (by decide), u2_o (by decide), hC4.1, upd_at, if_neg (by decide), pU_lo (by decide)]
          · rw [u2_same, u2_o (by decide), hC4.2.1, upd_at, if_pos rfl]
          · rw [u2_k (by decide), u2_o (by decide), hC4.2.2.1, upd_at, if_neg (by decide), pU_lo (by decide)]
          · rw [u2_o (by decide), u2_at]
            have e2 : nP (upd (pU r a 4 (pO r a 4 ||| (1 : Int32) <<< (nI b &&& 31))) 3 (r 3 - wrS r a b)) = nP r := by unfold nP; rw [upd_at, if_neg (by decide), pU_lo (by decide)]
            have e3 : pO (upd (pU r a 4 (pO r a 4 ||| (1 : Int32) <<< (nI b &&& 31))) 3 (r 3 - wrS r a b)) p 4 = if p = a ∧ 4 = 4 then (pO r a 4 ||| (1 : Int32) <<< (nI b &&& 31)) else pO r p 4 := by
              rw [← pO_pU (r := r) (by decide) (by decide)]; unfold pO; rw [upd_at, if_neg (by omega)]
            rw [e2, e3, hC4.2.2.2 p hp]
            by_cases q : p = a
            · subst q; simp [han]
            · simp [q]
set_option maxHeartbeats 400000 in
set_option maxRecDepth 10000 in
theorem kX8_passYearsT {l : Launch} {E : z_E} (σ : z_M) {r : Rw} (hN : NowR σ r) (hC : CrsR σ 49 50 r) {Y : Nat} (hT : VT Y r) (hY : Y < 99000) {n : Nat} (hn : n < 1000) : z_C l E shC 5 yX8_passYears cX8_passYears 5 none [.ref (z_ad E 1), .ref (z_ad E 49), .int (nI n)] σ (z_Pv (fun σ' => MS [49, 50, 16, 20] σ σ' ∧ CrsR σ' 49 50 (goN n r))) := by
  refine z_intro iX8_passYears (Nat.le_of_ble_eq_true rfl) (fun K F => ?_)
  have loop2 : ∀ (f : Nat) (j : Nat) (τ : z_M) (_ : n < j + f) (_ : j ≤ n) (_ : MS [49, 50, 16, 20] σ τ) (_ : CrsR τ 49 50 (goN j r)), z_X l K E shC 5 5 (z_Pv (fun σ' => MS [49, 50, 16, 20] σ σ' ∧ CrsR σ' 49 50 (goN n r))) 2 [(0, .ref (z_ad E 1)), (1, .ref (z_ad E 49)), (2, .int (nI n)), (3, .int (nI j))] [] τ := by
    intro f
    induction f with
    | zero =>
      intro j τ hf hj hs hC2
      omega
    | succ f ih =>
      intro j τ hf hj hs hC2
      have hVM := hN.2.2.2.2.2.2.2.2
      have hk := eqK_goN hVM j
      have hT2 := VT_goN hT hY hN.2.2.1 hVM j (by omega)
      obtain ⟨y, hy, ey⟩ := hT2.1
      have hN2 : NowR τ (goN j r) := eqK_Now hk (hN.ms hs (by decide))
      obtain ⟨a, b, ha, hb, ea, eb⟩ := (eqK_VM hk hVM).at y
      have hm := (show MtR τ 1 (goN j r) from hN2.2.2.2.2.2.2.2.1) (y % 6) (Nat.mod_lt _ (by decide))
      have m1 : τ 10 (y % 6) = nI a := hm.1.trans ea
      have m2 : τ 11 (y % 6) = nI b := hm.2.trans eb
      have hy6 : y % 6 < 6 := Nat.mod_lt _ (by decide)
      have hgo : goN (j + 1) r = goM (goN j r) a b := by
        show goS (goN j r) = _
        unfold goS
        rw [ey, nI_clamp (by omega), ea, eb, nI_clamp (by omega), nI_clamp (by omega)]
      refine z_iload_n F dX8_passYears_2 3 rfl 3 rfl ?_
      refine z_iload_n F dX8_passYears_3 2 rfl 4 rfl ?_
      refine z_icmp_ge F dX8_passYears_4 41 (by decide) 7 rfl (fun h4 => ?_) (fun h4 => ?_)
      · skip
        refine z_rv F dX8_passYears_41 ?_
        have hj2 : j = n := by have := le_nI h4 (by omega) (by omega); omega
        subst hj2; exact ⟨hs, hC2⟩
      · skip
        refine z_aload_n F dX8_passYears_7 1 rfl 8 rfl ?_
        refine z_getI F zc0 dX8_passYears_8 rfl 0 (by decide) (by decide) (.inr ⟨_, m_145⟩) rfl 11 rfl ?_
        rw [hC2.1, ey]
        refine z_callSp F dX8_passYears_11 m_658 iX8_placeOf m_659 rfl (kX8_placeOf τ (by omega)) rfl (by decide) (Nat.le_of_ble_eq_true rfl) 14 rfl ?_
        refine z_istore F dX8_passYears_14 [(0, _), (1, _), (2, _), (3, _), (4, _)] rfl (by decide) 16 rfl ?_
        refine z_aload_n F dX8_passYears_16 0 rfl 17 rfl ?_
        refine z_aload_n F dX8_passYears_17 1 rfl 18 rfl ?_
        refine z_aload_n F dX8_passYears_18 0 rfl 19 rfl ?_
        refine z_getR F zc7 dX8_passYears_19 rfl 2 (by decide) (by decide) (.inl m_203) rfl (by decide) 22 rfl ?_
        refine z_iload F dX8_passYears_22 4 rfl 24 rfl ?_
        refine z_iald F dX8_passYears_24 rfl (vp_in_nI (by omega) (by decide)) 25 rfl ?_
        rw [nI_clamp (by omega), m1]
        refine z_aload_n F dX8_passYears_25 0 rfl 26 rfl ?_
        refine z_getR F zc7 dX8_passYears_26 rfl 3 (by decide) (by decide) (.inl m_205) rfl (by decide) 29 rfl ?_
        refine z_iload F dX8_passYears_29 4 rfl 31 rfl ?_
        refine z_iald F dX8_passYears_31 rfl (vp_in_nI (by omega) (by decide)) 32 rfl ?_
        rw [nI_clamp (by omega), m2]
        refine z_callVv F dX8_passYears_32 m_664 iX8_passYear jX8_passYear rfl zc7 rfl (kX8_passYearT τ hN2 hC2 ha hb) rfl (by decide) (Nat.le_of_ble_eq_true rfl) 35 rfl (fun s32 c32 => ?_)
        refine z_iinc F dX8_passYears_35 3 rfl 1 (by decide) [(0, _), (1, _), (2, _), (3, _), (4, _)] rfl (by decide) 38 rfl ?_
        refine z_goto F dX8_passYears_38 2 (by decide) ?_
        have hjn : j < n := nle_nI h4 (by omega) (by omega)
        rw [nI_1]
        exact z_sub [0, 1, 2, 3] rfl (ih (j + 1) s32 (by omega) (by omega) (hs.tr c32.1) (by rw [hgo]; exact c32.2))
  refine z_iconst F dX8_passYears_0 0 (by decide) 1 rfl ?_
  refine z_istore_n F dX8_passYears_1 [(0, _), (1, _), (2, _), (3, _)] rfl (by decide) 2 rfl ?_
  exact loop2 (n + 1) 0 σ (by omega) (by omega) MS.rf hC
