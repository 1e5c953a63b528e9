/-! what keeps of the relation when a part of the row changes -/
theorem adjE {r r' : Rw} (hp : ∀ p w, p < 8 → w < 4 → pO r' p w = pO r p w) {i j : Nat} (hi : i < 8) (hj : j < 8) : adj r' i j = adj r i j := by
  unfold adj; rw [hp i 2 hi (by decide), hp j 2 hj (by decide), hp i 3 hi (by decide)]
theorem dSE {r r' : Rw} (h2 : r' 2 = r 2) (hp : ∀ p w, p < 8 → w < 4 → pO r' p w = pO r p w) (h8 : nP r ≤ 8) {i j : Nat} (hj : j < nP r) : dS r' i j = dS r i j := by
  unfold dS
  rw [show nP r' = nP r by unfold nP; rw [h2]]
  exact dst_congr (fun a c ha hc => adjE hp (by omega) (by omega)) hj
theorem kinE {σ : z_M} {b : Nat} {r r' : Rw} (h2 : r' 2 = r 2) (hp : ∀ p w, p < 8 → w < 4 → pO r' p w = pO r p w) (hv : VK r) (hk : KinR σ b r) (hm : MeaR σ b r) : KinR σ b r' ∧ MeaR σ b r' ∧ VK r' := by
  have e : nP r' = nP r := by unfold nP; rw [h2]
  have h8 := hv.2.1
  refine ⟨⟨by rw [h2]; exact hk.1, fun p hp2 => ?_⟩, fun i j hi hj => ?_, ?_⟩
  · rw [e] at hp2
    rw [hp p 0 (by omega) (by decide), hp p 1 (by omega) (by decide), hp p 2 (by omega) (by decide), hp p 3 (by omega) (by decide)]; exact hk.2 p hp2
  · rw [e] at hi hj
    rw [dSE h2 hp h8 hj]; exact hm i j hi hj
  · refine ⟨by rw [h2, e]; exact hv.1, by rw [e]; exact h8, fun p hp2 => ?_⟩
    rw [e] at hp2 ⊢
    rw [hp p 0 (by omega) (by decide), hp p 1 (by omega) (by decide), hp p 2 (by omega) (by decide), hp p 3 (by omega) (by decide)]
    obtain ⟨h3, h4, h5, h6⟩ := hv.2.2 p hp2
    refine ⟨h3, h4, h5, ?_⟩
    rcases h6 with h6 | ⟨j, hj, h7, h9, h10⟩
    · exact Or.inl h6
    · exact Or.inr ⟨j, hj, h7, h9, by rw [hp j 3 (by omega) (by decide)]; exact h10⟩
theorem txQ {σ : z_M} {b u : Nat} {r r' : Rw} (h : ∀ k, 143 + 121 * u ≤ k → k < 143 + 121 * u + 121 → r' k = r k) (hv : VC r u) (ht : TxR σ b u r) : TxR σ b u r' := by
  have e : cL r' u = cL r u := by unfold cL; rw [h _ (by omega) (by omega)]
  have h60 := hv.2.1
  unfold TxR at ht ⊢
  rw [e, h _ (by omega) (by omega)]
  refine ⟨ht.1, fun k hk => ?_⟩
  rw [h _ (by omega) (by omega), h _ (by omega) (by omega)]
  exact ht.2 k hk
theorem dpQ {r r' : Rw} {at0 : Nat} : ∀ k, (∀ j, j < k → r' (at0 + 1 + j) = r (at0 + 1 + j)) → dpR r' at0 k = dpR r at0 k
  | 0, _ => rfl
  | k + 1, h => by show dpS _ _ = dpS _ _; rw [dpQ k (fun j hj => h j (by omega)), h k (by omega)]
theorem vcQ {u : Nat} {r r' : Rw} (h : ∀ k, 143 + 121 * u ≤ k → k < 143 + 121 * u + 121 → r' k = r k) (hv : VC r u) : VC r' u := by
  have e : cL r' u = cL r u := by unfold cL; rw [h _ (by omega) (by omega)]
  have h60 := hv.2.1
  unfold VC at hv ⊢
  rw [e, h _ (by omega) (by omega), dpQ (cL r u) (fun j hj => h _ (by omega) (by omega))]
  refine ⟨hv.1, hv.2.1, fun k hk => ?_, hv.2.2.2⟩
  rw [h _ (by omega) (by omega), h _ (by omega) (by omega), dpQ k (fun j hj => h _ (by omega) (by omega))]
  exact hv.2.2.1 k hk
theorem Rel.put {σ σ' μ : z_M} {r' : Rw} {G : List Nat} (h : Rel σ μ) (hs : MS G σ σ') (hG : ∀ o, o ∈ robj → o ∉ G)
    (k : KinR σ' 1 r' ∧ MeaR σ' 1 r' ∧ VK r') (t0 : TxR σ' 1 0 r' ∧ VC r' 0) (t1 : TxR σ' 1 1 r' ∧ VC r' 1) (m : MtR σ' 1 r' ∧ VM r') (c : CrsR σ' 8 9 r' ∧ VT 9999 r') (tp : TapR σ' 1 r') (w : WaiR σ' 1 r') (x : VX r') (z : σ' 1 7 = r' 1) : Rel σ' (z_up μ 1 r') :=
  h.wor hs hG ⟨k.1, k.2.1, t0.1, t1.1, m.1, c.1, tp, w, z⟩ ⟨k.2.2, t0.2, t1.2, m.2, c.2, x⟩
theorem Rel.kkin {σ σ' μ : z_M} {r' : Rw} {G : List Nat} (h : Rel σ μ) (hs : MS G σ σ') (hG : ∀ o, o ∈ [2, 3, 4, 5, 6, 7] → o ∉ G) (h2 : r' 2 = μ 1 2) (hp : ∀ p w, p < 8 → w < 4 → pO r' p w = pO (μ 1) p w) : KinR σ' 1 r' ∧ MeaR σ' 1 r' ∧ VK r' :=
  kinE h2 hp h.vk (h.1.1.ms hs ⟨hG 2 (by decide), hG 3 (by decide), hG 4 (by decide), hG 5 (by decide), hG 6 (by decide)⟩) (h.1.2.1.ms hs (hG 7 (by decide)))
theorem TxR.ms {σ σ' : z_M} {u : Nat} {r : Rw} {G : List Nat} (h : TxR σ 1 u r) (hs : MS G σ σ') (h1 : 1 + 13 + 4 * u ∉ G) (h2 : 1 + 14 + 4 * u ∉ G) : TxR σ' 1 u r :=
  ⟨(congrFun (hs _ h1) 1).trans h.1, fun k hk => (congrFun (hs _ h2) k).trans (h.2 k hk)⟩
theorem Rel.ktx0 {σ σ' μ : z_M} {r' : Rw} {G : List Nat} (h : Rel σ μ) (hs : MS G σ σ') (h1 : 14 ∉ G) (h2 : 15 ∉ G) (he : ∀ k, 143 ≤ k → k < 264 → r' k = μ 1 k) : TxR σ' 1 0 r' ∧ VC r' 0 :=
  ⟨txQ (fun k a c => he k (by omega) (by omega)) h.2.1.2.1 (h.1.2.2.1.ms hs h1 h2), vcQ (fun k a c => he k (by omega) (by omega)) h.2.1.2.1⟩
theorem Rel.ktx1 {σ σ' μ : z_M} {r' : Rw} {G : List Nat} (h : Rel σ μ) (hs : MS G σ σ') (h1 : 18 ∉ G) (h2 : 19 ∉ G) (he : ∀ k, 264 ≤ k → k < 385 → r' k = μ 1 k) : TxR σ' 1 1 r' ∧ VC r' 1 :=
  ⟨txQ (fun k a c => he k (by omega) (by omega)) h.2.1.2.2.1 (h.1.2.2.2.1.ms hs h1 h2), vcQ (fun k a c => he k (by omega) (by omega)) h.2.1.2.2.1⟩
theorem Rel.kmt {σ σ' μ : z_M} {r' : Rw} {G : List Nat} (h : Rel σ μ) (hs : MS G σ σ') (h1 : 10 ∉ G) (h2 : 11 ∉ G) (he : ∀ k, 7 ≤ k → k < 19 → r' k = μ 1 k) : MtR σ' 1 r' ∧ VM r' :=
  ⟨mtE he (fun k hk => ⟨(congrFun (hs 10 h1) k).trans (h.1.2.2.2.2.1 k hk).1, (congrFun (hs 11 h2) k).trans (h.1.2.2.2.2.1 k hk).2⟩), vmE he h.2.1.2.2.2.1⟩
theorem Rel.kcr {σ σ' μ : z_M} {r' : Rw} {G : List Nat} (h : Rel σ μ) (hs : MS G σ σ') (h1 : 8 ∉ G) (h2 : 9 ∉ G) (e0 : r' 0 = μ 1 0) (e2 : r' 2 = μ 1 2) (e3 : r' 3 = μ 1 3) (e4 : r' 4 = μ 1 4) (hp : ∀ p, p < 8 → pO r' p 4 = pO (μ 1) p 4) : CrsR σ' 8 9 r' ∧ VT 9999 r' :=
  ⟨crE e0 e2 e3 e4 hp (h.crs.ms hs h1 h2), vtE e0 e2 e3 e4 hp h.n8 h.vt⟩
theorem Rel.ktp {σ σ' μ : z_M} {r' : Rw} {G : List Nat} (h : Rel σ μ) (hs : MS G σ σ') (h1 : 21 ∉ G) (h2 : 22 ∉ G) (h5 : r' 5 = μ 1 5) (he : ∀ k, 59 ≤ k → k < 119 → r' k = μ 1 k) : TapR σ' 1 r' :=
  tpE h5 he h.vx ⟨(congrFun (hs 21 h1) 1).trans h.tap.1, fun k hk => (congrFun (hs 22 h2) k).trans (h.tap.2 k hk)⟩
theorem Rel.kwa {σ σ' μ : z_M} {r' : Rw} {G : List Nat} (h : Rel σ μ) (hs : MS G σ σ') (h1 : 23 ∉ G) (h2 : 24 ∉ G) (h6 : r' 6 = μ 1 6) (he : ∀ k, 119 ≤ k → k < 143 → r' k = μ 1 k) : WaiR σ' 1 r' :=
  waE h6 he h.vx ⟨(congrFun (hs 23 h1) 1).trans h.wai.1, fun k hk => (congrFun (hs 24 h2) k).trans (h.wai.2 k hk)⟩
/-- kin alone has changed -/
theorem Rel.kin {σ σ' μ : z_M} {r' : Rw} (h : Rel σ μ) (hs : MS [2, 3, 4, 5, 6, 7] σ σ') (hk : KinR σ' 1 r') (hm : MeaR σ' 1 r') (hv : VK r') (lo : ∀ k, k < 19 → k ≠ 2 → r' k = μ 1 k) (hi : ∀ k, 59 ≤ k → r' k = μ 1 k) (hn : nP (μ 1) ≤ nP r') (h4 : ∀ p, p < nP r' → pO r' p 4 = if p < nP (μ 1) then pO (μ 1) p 4 else 0) : Rel σ' (z_up μ 1 r') := by
  have hc := h.crs.ms hs (by decide) (by decide)
  have ht := h.vt
  refine h.put hs (by decide) ⟨hk, hm, hv⟩ (h.ktx0 hs (by decide) (by decide) (fun k a _ => hi k (by omega))) (h.ktx1 hs (by decide) (by decide) (fun k a _ => hi k (by omega))) (h.kmt hs (by decide) (by decide) (fun k a c => lo k (by omega) (by omega))) ⟨⟨?_, ?_, ?_, fun p hp => ?_⟩, ?_, ?_, ?_, fun p hp => ?_⟩ (h.ktp hs (by decide) (by decide) (lo 5 (by decide) (by decide)) (fun k a _ => hi k a)) (h.kwa hs (by decide) (by decide) (lo 6 (by decide) (by decide)) (fun k a _ => hi k (by omega))) (vxE (lo 5 (by decide) (by decide)) (lo 6 (by decide) (by decide)) (fun k a _ => hi k a) h.vx) ?_
  · rw [lo 0 (by decide) (by decide)]; exact hc.1
  · rw [lo 3 (by decide) (by decide)]; exact hc.2.1
  · rw [lo 4 (by decide) (by decide)]; exact hc.2.2.1
  · rw [hc.2.2.2 p hp]
    by_cases q : p < nP r'
    · rw [if_pos q, h4 p q]
    · rw [if_neg q, if_neg (by omega)]
  · rw [lo 0 (by decide) (by decide)]; exact ht.1
  · rw [lo 3 (by decide) (by decide)]; exact ht.2.1
  · rw [lo 4 (by decide) (by decide)]; exact ht.2.2.1
  · rw [h4 p hp]
    by_cases q : p < nP (μ 1)
    · rw [if_pos q]
      obtain ⟨s, hs1, hs2⟩ := ht.2.2.2 p q
      exact ⟨s, Nat.lt_of_lt_of_le hs1 (Nat.pow_le_pow_right (by decide) hn), hs2⟩
    · rw [if_neg q]; exact ⟨0, Nat.two_pow_pos _, rfl⟩
  · rw [lo 1 (by decide) (by decide)]
    exact (congrFun (hs 1 (by decide)) 7).trans h.1.2.2.2.2.2.2.2.2
/-- years alone have passed -/
def eqC (r r' : Rw) : Prop := eqK r r' ∧ r' 1 = r 1 ∧ r' 5 = r 5 ∧ r' 6 = r 6 ∧ ∀ k, 59 ≤ k → k < 143 → r' k = r k
theorem eqC.rf {r : Rw} : eqC r r := ⟨eqK.rf, rfl, rfl, rfl, fun _ _ _ => rfl⟩
theorem eqC.tr {r s t : Rw} (h : eqC r s) (h2 : eqC s t) : eqC r t := ⟨h.1.tr h2.1, h2.2.1.trans h.2.1, h2.2.2.1.trans h.2.2.1, h2.2.2.2.1.trans h.2.2.2.1, fun k h3 h4 => (h2.2.2.2.2 k h3 h4).trans (h.2.2.2.2 k h3 h4)⟩
theorem eqC.up {r : Rw} {k : Nat} {v : Int32} (h : k = 0 ∨ k = 3 ∨ k = 4) : eqC r (upd r k v) :=
  ⟨eqK_upd h, by rw [upd_at, if_neg (by omega)], by rw [upd_at, if_neg (by omega)], by rw [upd_at, if_neg (by omega)], fun j h1 h2 => by rw [upd_at, if_neg (by omega)]⟩
theorem eqC.sn {r : Rw} {a : Nat} {v : Int32} (ha : a < 8) : eqC r (pU r a 4 v) :=
  ⟨eqK_pU ha, pU_19 ha (by decide) (by omega), pU_19 ha (by decide) (by omega), pU_19 ha (by decide) (by omega), fun j h1 h2 => pU_19 ha (by decide) (by omega)⟩
theorem eqC.go1 {r : Rw} {a b : Nat} (ha : a < 8) : eqC r (goM1 r a b) := by
  unfold goM1; split
  · exact (eqC.sn ha).tr (eqC.up (Or.inr (Or.inl rfl)))
  · exact eqC.rf
theorem eqC.go {r : Rw} {a b : Nat} (ha : a < 8) : eqC r (goM r a b) := ((eqC.go1 ha).tr (eqC.up (Or.inr (Or.inl rfl)))).tr (eqC.up (Or.inl rfl))
theorem eqC.goN {r : Rw} (h : VM r) : ∀ k, eqC r (goN k r)
  | 0 => eqC.rf
  | k + 1 => (eqC.goN h k).tr (eqC.go (goS_lt (eqK_VM (eqK_goN h k) h)))
theorem Rel.yrs {σ σ' μ : z_M} {r' : Rw} (h : Rel σ μ) (hs : MS [8, 9, 16, 20] σ σ') (he : eqC (μ 1) r') (hc : CrsR σ' 8 9 r') (ht : VT 9999 r') : Rel σ' (z_up μ 1 r') :=
  h.put hs (by decide) (h.kkin hs (by decide) he.1.1 (fun p w _ hw => he.1.2.1 p w hw)) (h.ktx0 hs (by decide) (by decide) (fun k a _ => he.1.2.2.2 k (by omega))) (h.ktx1 hs (by decide) (by decide) (fun k a _ => he.1.2.2.2 k (by omega))) (h.kmt hs (by decide) (by decide) he.1.2.2.1) ⟨hc, ht⟩ (h.ktp hs (by decide) (by decide) he.2.2.1 (fun k a c => he.2.2.2.2 k a (by omega))) (h.kwa hs (by decide) (by decide) he.2.2.2.1 (fun k a c => he.2.2.2.2 k (by omega) c)) (vxE he.2.2.1 he.2.2.2.1 (fun k a c => he.2.2.2.2 k a (by omega)) h.vx) (by rw [he.2.1]; exact (congrFun (hs 1 (by decide)) 7).trans h.1.2.2.2.2.2.2.2.2)
/-- the row alone outside of kin, by a place -/
theorem Rel.z {σ μ : z_M} (h : Rel σ μ) (v : Int32) : Rel (z_u2 σ 1 7 v) (z_up μ 1 (upd (μ 1) 1 v)) := by
  have hs : MS [1] σ (z_u2 σ 1 7 v) := MS.rf.u2 (by decide)
  have e : ∀ k, k ≠ 1 → upd (μ 1) 1 v k = μ 1 k := fun k hk => by rw [upd_at, if_neg hk]
  exact h.put hs (by decide) (h.kkin hs (by decide) (e 2 (by decide)) (fun p w hp hw => pO_hi (Or.inl (by decide)) hp (by omega))) (h.ktx0 hs (by decide) (by decide) (fun k a _ => e k (by omega))) (h.ktx1 hs (by decide) (by decide) (fun k a _ => e k (by omega))) (h.kmt hs (by decide) (by decide) (fun k a _ => e k (by omega))) (h.kcr hs (by decide) (by decide) (e 0 (by decide)) (e 2 (by decide)) (e 3 (by decide)) (e 4 (by decide)) (fun p hp => pO_hi (Or.inl (by decide)) hp (by decide))) (h.ktp hs (by decide) (by decide) (e 5 (by decide)) (fun k a _ => e k (by omega))) (h.kwa hs (by decide) (by decide) (e 6 (by decide)) (fun k a _ => e k (by omega))) (vxE (e 5 (by decide)) (e 6 (by decide)) (fun k a _ => e k (by omega)) h.vx) (by rw [u2_same, upd_at, if_pos rfl])
theorem Rel.meet {σ σ' μ : z_M} {r' : Rw} (h : Rel σ μ) (hs : MS [10, 11] σ σ') (he : ∀ k, k < 7 ∨ 19 ≤ k → r' k = μ 1 k) (m : MtR σ' 1 r' ∧ VM r') : Rel σ' (z_up μ 1 r') := by
  have hp : ∀ p w, pO r' p w = pO (μ 1) p w := fun p w => he _ (by omega)
  exact h.put hs (by decide) (h.kkin hs (by decide) (he 2 (by decide)) (fun p w _ _ => hp p w)) (h.ktx0 hs (by decide) (by decide) (fun k a _ => he k (by omega))) (h.ktx1 hs (by decide) (by decide) (fun k a _ => he k (by omega))) m (h.kcr hs (by decide) (by decide) (he 0 (by decide)) (he 2 (by decide)) (he 3 (by decide)) (he 4 (by decide)) (fun p _ => hp p 4)) (h.ktp hs (by decide) (by decide) (he 5 (by decide)) (fun k a _ => he k (by omega))) (h.kwa hs (by decide) (by decide) (he 6 (by decide)) (fun k a _ => he k (by omega))) (vxE (he 5 (by decide)) (he 6 (by decide)) (fun k a _ => he k (by omega)) h.vx) (by rw [he 1 (by decide)]; exact (congrFun (hs 1 (by decide)) 7).trans h.1.2.2.2.2.2.2.2.2)
theorem Rel.tape {σ σ' μ : z_M} {r' : Rw} (h : Rel σ μ) (hs : MS [21, 22, 51, 52, 53] σ σ') (he : ∀ k, k ≠ 5 → k < 59 ∨ 119 ≤ k → r' k = μ 1 k) (tp : TapR σ' 1 r') (x : VX r') : Rel σ' (z_up μ 1 r') := by
  have hp : ∀ p w, p < 8 → w < 5 → pO r' p w = pO (μ 1) p w := fun p w hp hw => he _ (by omega) (by omega)
  exact h.put hs (by decide) (h.kkin hs (by decide) (he 2 (by decide) (by decide)) (fun p w hp1 hw => hp p w hp1 (by omega))) (h.ktx0 hs (by decide) (by decide) (fun k a _ => he k (by omega) (by omega))) (h.ktx1 hs (by decide) (by decide) (fun k a _ => he k (by omega) (by omega))) (h.kmt hs (by decide) (by decide) (fun k a _ => he k (by omega) (by omega))) (h.kcr hs (by decide) (by decide) (he 0 (by decide) (by decide)) (he 2 (by decide) (by decide)) (he 3 (by decide) (by decide)) (he 4 (by decide) (by decide)) (fun p hp1 => hp p 4 hp1 (by decide))) tp (h.kwa hs (by decide) (by decide) (he 6 (by decide) (by decide)) (fun k a _ => he k (by omega) (by omega))) x (by rw [he 1 (by decide) (by decide)]; exact (congrFun (hs 1 (by decide)) 7).trans h.1.2.2.2.2.2.2.2.2)
theorem Rel.wait {σ σ' μ : z_M} {r' : Rw} {G : List Nat} (h : Rel σ μ) (hs : MS G σ σ') (hG : ∀ o, o ∈ robj ++ [1, 2, 3, 4, 5, 6, 7, 8, 9, 10, 11, 14, 15, 18, 19, 21, 22] → o ∉ G) (he : ∀ k, k ≠ 6 → k < 119 ∨ 143 ≤ k → r' k = μ 1 k) (w : WaiR σ' 1 r') (x : VX r') : Rel σ' (z_up μ 1 r') := by
  have hp : ∀ p w, p < 8 → w < 5 → pO r' p w = pO (μ 1) p w := fun p w hp hw => he _ (by omega) (by omega)
  exact h.put hs (fun o ho => hG o (List.mem_append_left _ ho)) (h.kkin hs (fun o ho => hG o (List.mem_append_right _ (by simp at ho ⊢; omega))) (he 2 (by decide) (by decide)) (fun p w hp1 hw => hp p w hp1 (by omega))) (h.ktx0 hs (hG 14 (by decide)) (hG 15 (by decide)) (fun k a _ => he k (by omega) (by omega))) (h.ktx1 hs (hG 18 (by decide)) (hG 19 (by decide)) (fun k a _ => he k (by omega) (by omega))) (h.kmt hs (hG 10 (by decide)) (hG 11 (by decide)) (fun k a _ => he k (by omega) (by omega))) (h.kcr hs (hG 8 (by decide)) (hG 9 (by decide)) (he 0 (by decide) (by decide)) (he 2 (by decide) (by decide)) (he 3 (by decide) (by decide)) (he 4 (by decide) (by decide)) (fun p hp1 => hp p 4 hp1 (by decide))) (h.ktp hs (hG 21 (by decide)) (hG 22 (by decide)) (he 5 (by decide) (by decide)) (fun k a _ => he k (by omega) (by omega))) w x (by rw [he 1 (by decide) (by decide)]; exact (congrFun (hs 1 (hG 1 (by decide))) 7).trans h.1.2.2.2.2.2.2.2.2)
theorem Rel.txt {σ σ' μ : z_M} {r' : Rw} {G : List Nat} (h : Rel σ μ) (hs : MS G σ σ') (hG : ∀ o, o ∈ robj ++ [1, 2, 3, 4, 5, 6, 7, 8, 9, 10, 11, 21, 22, 23, 24] → o ∉ G) (he : ∀ k, k < 143 → r' k = μ 1 k) (t0 : TxR σ' 1 0 r' ∧ VC r' 0) (t1 : TxR σ' 1 1 r' ∧ VC r' 1) : Rel σ' (z_up μ 1 r') := by
  have hp : ∀ p w, p < 8 → w < 5 → pO r' p w = pO (μ 1) p w := fun p w hp hw => he _ (by omega)
  exact h.put hs (fun o ho => hG o (List.mem_append_left _ ho)) (h.kkin hs (fun o ho => hG o (List.mem_append_right _ (by simp at ho ⊢; omega))) (he 2 (by decide)) (fun p w hp1 hw => hp p w hp1 (by omega))) t0 t1 (h.kmt hs (hG 10 (by decide)) (hG 11 (by decide)) (fun k a _ => he k (by omega))) (h.kcr hs (hG 8 (by decide)) (hG 9 (by decide)) (he 0 (by decide)) (he 2 (by decide)) (he 3 (by decide)) (he 4 (by decide)) (fun p hp1 => hp p 4 hp1 (by decide))) (h.ktp hs (hG 21 (by decide)) (hG 22 (by decide)) (he 5 (by decide)) (fun k a _ => he k (by omega))) (h.kwa hs (hG 23 (by decide)) (hG 24 (by decide)) (he 6 (by decide)) (fun k a _ => he k (by omega))) (vxE (he 5 (by decide)) (he 6 (by decide)) (fun k a _ => he k (by omega)) h.vx) (by rw [he 1 (by decide)]; exact (congrFun (hs 1 (hG 1 (by decide))) 7).trans h.1.2.2.2.2.2.2.2.2)
