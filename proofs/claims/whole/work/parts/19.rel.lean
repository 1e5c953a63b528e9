/-! the relation of the two memories: class (σ) and reference (μ) -/
def tN (r : Rw) : Nat := (r 5).toNatClampNeg
def wN (r : Rw) : Nat := (r 6).toNatClampNeg
def TapR (σ : z_M) (b : Nat) (r : Rw) : Prop := σ (b + 20) 1 = r 5 ∧ ∀ k, k < tN r → σ (b + 21) k = r (59 + k)
def WaiR (σ : z_M) (b : Nat) (r : Rw) : Prop := σ (b + 22) 1 = r 6 ∧ ∀ k, k < wN r → σ (b + 23) k = r (119 + k)
def VX (r : Rw) : Prop := r 5 = nI (tN r) ∧ tN r ≤ 60 ∧ (∀ k, k < tN r → ∃ c, c < 256 ∧ r (59 + k) = nI c) ∧ r 6 = nI (wN r) ∧ wN r ≤ 24
def WorR (σ : z_M) (b : Nat) (r : Rw) : Prop := KinR σ b r ∧ MeaR σ b r ∧ TxR σ b 0 r ∧ TxR σ b 1 r ∧ MtR σ b r ∧ CrsR σ (b + 7) (b + 8) r ∧ TapR σ b r ∧ WaiR σ b r ∧ σ b 7 = r 1
def VW (r : Rw) : Prop := VK r ∧ VC r 0 ∧ VC r 1 ∧ VM r ∧ VT 9999 r ∧ VX r
def ShR (σ μ : z_M) : Prop := ∀ s, s < 4 → σ (58 + 3 * s) 1 = μ 5 s ∧ σ (59 + 3 * s) 1 = μ 6 s ∧ (∃ q, q ≤ 24 ∧ μ 6 s = nI q ∧ ∀ k, k < q → σ (60 + 3 * s) k = μ 7 (24 * s + k)) ∧ (μ 5 s = 0 ∨ μ 5 s = 8 ∨ μ 5 s = 16 ∨ μ 5 s = 32)
def TrR (σ μ : z_M) : Prop := σ 55 1 = μ 0 18 ∧ ∃ q, q ≤ 30 ∧ μ 0 18 = nI q ∧ ∀ k, k < q → σ 56 k = μ 12 k
def RestR (σ μ : z_M) : Prop := σ 0 7 = μ 0 3 ∧ (μ 0 3 = 0 ∨ (WorR σ 25 (μ 2) ∧ VW (μ 2))) ∧ (∀ k, 1 ≤ k → k ≤ 6 → σ 70 k = μ 4 k) ∧ ShR σ μ ∧ TrR σ μ
def Rel (σ μ : z_M) : Prop := WorR σ 1 (μ 1) ∧ VW (μ 1) ∧ RestR σ μ
theorem Rel.now {σ μ : z_M} (h : Rel σ μ) : NowR σ (μ 1) := ⟨h.1.1, h.1.2.1, h.2.1.1, h.1.2.2.1, h.1.2.2.2.1, h.2.1.2.1, h.2.1.2.2.1, h.1.2.2.2.2.1, h.2.1.2.2.2.1⟩
theorem Rel.crs {σ μ : z_M} (h : Rel σ μ) : CrsR σ 8 9 (μ 1) := h.1.2.2.2.2.2.1
theorem Rel.vk {σ μ : z_M} (h : Rel σ μ) : VK (μ 1) := h.2.1.1
theorem Rel.vt {σ μ : z_M} (h : Rel σ μ) : VT 9999 (μ 1) := h.2.1.2.2.2.2.1
theorem Rel.vx {σ μ : z_M} (h : Rel σ μ) : VX (μ 1) := h.2.1.2.2.2.2.2
theorem Rel.tap {σ μ : z_M} (h : Rel σ μ) : TapR σ 1 (μ 1) := h.1.2.2.2.2.2.2.1
theorem Rel.wai {σ μ : z_M} (h : Rel σ μ) : WaiR σ 1 (μ 1) := h.1.2.2.2.2.2.2.2.1
theorem Rel.n8 {σ μ : z_M} (h : Rel σ μ) : nP (μ 1) ≤ 8 := h.2.1.1.2.1
theorem Rel.cnt {σ μ : z_M} (h : Rel σ μ) : σ 2 0 = nI (nP (μ 1)) := h.1.1.1.trans h.2.1.1.1
def wobj (b : Nat) : List Nat := [b, b + 1, b + 2, b + 3, b + 4, b + 5, b + 6, b + 7, b + 8, b + 9, b + 10, b + 13, b + 14, b + 17, b + 18, b + 20, b + 21, b + 22, b + 23]
theorem WorR.ms {σ σ' : z_M} {b : Nat} {r : Rw} {G : List Nat} (h : WorR σ b r) (hs : MS G σ σ') (h2 : ∀ o, o ∈ wobj b → o ∉ G) : WorR σ' b r := by
  obtain ⟨a1, a2, a3, a4, a5, a6, a7, a8, a9⟩ := h
  have e : ∀ o, o ∈ wobj b → σ' o = σ o := fun o ho => hs o (h2 o ho)
  refine ⟨⟨?_, fun p hp => ?_⟩, fun i j hi hj => ?_, ⟨?_, fun k hk => ?_⟩, ⟨?_, fun k hk => ?_⟩, fun k hk => ?_, ⟨?_, ?_, ?_, fun p hp => ?_⟩, ⟨?_, fun k hk => ?_⟩, ⟨?_, fun k hk => ?_⟩, ?_⟩
  · rw [e (b + 1) (by simp [wobj])]; exact a1.1
  · rw [e (b + 2) (by simp [wobj]), e (b + 3) (by simp [wobj]), e (b + 4) (by simp [wobj]), e (b + 5) (by simp [wobj])]; exact a1.2 p hp
  · rw [e (b + 6) (by simp [wobj])]; exact a2 i j hi hj
  · rw [e (b + 13 + 4 * 0) (by simp [wobj])]; exact a3.1
  · rw [e (b + 14 + 4 * 0) (by simp [wobj])]; exact a3.2 k hk
  · rw [e (b + 13 + 4 * 1) (by simp [wobj])]; exact a4.1
  · rw [e (b + 14 + 4 * 1) (by simp [wobj])]; exact a4.2 k hk
  · rw [e (b + 9) (by simp [wobj]), e (b + 10) (by simp [wobj])]; exact a5 k hk
  · rw [e (b + 7) (by simp [wobj])]; exact a6.1
  · rw [e (b + 7) (by simp [wobj])]; exact a6.2.1
  · rw [e (b + 7) (by simp [wobj])]; exact a6.2.2.1
  · rw [e (b + 8) (by simp [wobj])]; exact a6.2.2.2 p hp
  · rw [e (b + 20) (by simp [wobj])]; exact a7.1
  · rw [e (b + 21) (by simp [wobj])]; exact a7.2 k hk
  · rw [e (b + 22) (by simp [wobj])]; exact a8.1
  · rw [e (b + 23) (by simp [wobj])]; exact a8.2 k hk
  · rw [e b (by simp [wobj])]; exact a9
def robj : List Nat := [0, 70, 55, 56, 58, 59, 60, 61, 62, 63, 64, 65, 66, 67, 68, 69] ++ wobj 25
theorem RestR.ms {σ σ' μ : z_M} {G : List Nat} (h : RestR σ μ) (hs : MS G σ σ') (h2 : ∀ o, o ∈ robj → o ∉ G) : RestR σ' μ := by
  obtain ⟨a1, a2, a3, a4, a5⟩ := h
  have e : ∀ o, o ∈ robj → σ' o = σ o := fun o ho => hs o (h2 o ho)
  refine ⟨by rw [e 0 (by decide)]; exact a1, ?_, fun k h1 h2 => by rw [e 70 (by decide)]; exact a3 k h1 h2, fun s hs4 => ?_, ⟨by rw [e 55 (by decide)]; exact a5.1, ?_⟩⟩
  · rcases a2 with z | z
    · exact Or.inl z
    · exact Or.inr ⟨z.1.ms hs (fun o ho => h2 o (List.mem_append_right _ ho)), z.2⟩
  · have hs3 : s = 0 ∨ s = 1 ∨ s = 2 ∨ s = 3 := by omega
    have := a4 s hs4
    rcases hs3 with rfl | rfl | rfl | rfl
    · rw [e (58 + 3 * 0) (by decide), e (59 + 3 * 0) (by decide), e (60 + 3 * 0) (by decide)]; exact this
    · rw [e (58 + 3 * 1) (by decide), e (59 + 3 * 1) (by decide), e (60 + 3 * 1) (by decide)]; exact this
    · rw [e (58 + 3 * 2) (by decide), e (59 + 3 * 2) (by decide), e (60 + 3 * 2) (by decide)]; exact this
    · rw [e (58 + 3 * 3) (by decide), e (59 + 3 * 3) (by decide), e (60 + 3 * 3) (by decide)]; exact this
  · rw [e 56 (by decide)]; exact a5.2
theorem RestR.row {σ μ : z_M} {r : Rw} (h : RestR σ μ) : RestR σ (z_up μ 1 r) := by
  obtain ⟨a1, a2, a3, a4, a5⟩ := h
  unfold RestR ShR TrR
  rw [up_o (show (0 : Nat) ≠ 1 by decide), up_o (show (2 : Nat) ≠ 1 by decide), up_o (show (4 : Nat) ≠ 1 by decide), up_o (show (5 : Nat) ≠ 1 by decide), up_o (show (6 : Nat) ≠ 1 by decide), up_o (show (7 : Nat) ≠ 1 by decide), up_o (show (12 : Nat) ≠ 1 by decide)]
  exact ⟨a1, a2, a3, a4, a5⟩
/-- nothing of the reference's state has changed, garbage alone of the class's -/
theorem Rel.gar {σ σ' μ : z_M} {G : List Nat} (h : Rel σ μ) (hs : MS G σ σ') (h1 : ∀ o, o ∈ wobj 1 → o ∉ G) (h2 : ∀ o, o ∈ robj → o ∉ G) : Rel σ' μ := ⟨h.1.ms hs h1, h.2.1, h.2.2.ms hs h2⟩
theorem Rel.wor {σ σ' μ : z_M} {G : List Nat} {r : Rw} (h : Rel σ μ) (hs : MS G σ σ') (h2 : ∀ o, o ∈ robj → o ∉ G) (hw : WorR σ' 1 r) (hv : VW r) : Rel σ' (z_up μ 1 r) :=
  ⟨by rw [up_same]; exact hw, by rw [up_same]; exact hv, (h.2.2.ms hs h2).row⟩
def LO (k : Nat) : Int32 := -1000000000 - nI k
def erM (μ : z_M) (k : Nat) : z_M := z_u2 μ 4 k (μ 4 k + 1)
abbrev Op : Type := Int32 × z_M
def er (μ : z_M) (k : Nat) : Op := (LO k, erM μ k)
theorem Rel.fail {σ μ : z_M} (h : Rel σ μ) {k : Nat} (h1 : 1 ≤ k) (h6 : k ≤ 6) : Rel (z_u2 σ 70 k (σ 70 k + 1)) (erM μ k) := by
  obtain ⟨w, v, a1, a2, a3, a4, a5⟩ := h
  have hm : MS [70] σ (z_u2 σ 70 k (σ 70 k + 1)) := MS.rf.u2 (by decide)
  have e : ∀ q, q ≠ 4 → erM μ k q = μ q := fun q hq => u2_o hq
  have e2 : ∀ q, q ≠ 70 → z_u2 σ 70 k (σ 70 k + 1) q = σ q := fun q hq => u2_o hq
  refine ⟨by rw [e 1 (by decide)]; exact w.ms hm (by decide), by rw [e 1 (by decide)]; exact v, by rw [e2 0 (by decide), e 0 (by decide)]; exact a1, ?_, fun j h3 h4 => ?_, ?_, ?_⟩
  · rw [e 0 (by decide), e 2 (by decide)]
    rcases a2 with z | z
    · exact Or.inl z
    · exact Or.inr ⟨z.1.ms hm (by decide), z.2⟩
  · unfold erM
    rw [u2_at, u2_at]
    by_cases q : j = k
    · rw [if_pos ⟨rfl, q⟩, if_pos ⟨rfl, q⟩, a3 k h1 h6]
    · rw [if_neg (fun z => q z.2), if_neg (fun z => q z.2)]; exact a3 j h3 h4
  · intro s hs
    rw [e 5 (by decide), e 6 (by decide), e 7 (by decide), e2 _ (by omega), e2 _ (by omega), e2 _ (by omega)]; exact a4 s hs
  · unfold TrR
    rw [e 0 (by decide), e 12 (by decide), e2 55 (by decide), e2 56 (by decide)]; exact a5
/-! what of a row each part looks at -/
theorem txE {σ : z_M} {b u : Nat} {r r' : Rw} (h : ∀ k, 143 ≤ k → r' k = r k) (ht : TxR σ b u r) : TxR σ b u r' := by
  have e : cL r' u = cL r u := by unfold cL; rw [h _ (by omega)]
  unfold TxR at ht ⊢
  rw [e, h _ (by omega)]
  refine ⟨ht.1, fun k hk => ?_⟩
  rw [h _ (by omega), h _ (by omega)]
  exact ht.2 k hk
theorem dpE {r r' : Rw} (h : ∀ k, 143 ≤ k → r' k = r k) {at0 : Nat} (ha : 143 ≤ at0) : ∀ k, dpR r' at0 k = dpR r at0 k
  | 0 => rfl
  | k + 1 => by show dpS _ _ = dpS _ _; rw [dpE h ha k, h _ (by omega)]
theorem vcE {u : Nat} {r r' : Rw} (h : ∀ k, 143 ≤ k → r' k = r k) (hv : VC r u) : VC r' u := by
  have e : cL r' u = cL r u := by unfold cL; rw [h _ (by omega)]
  unfold VC at hv ⊢
  rw [e, h _ (by omega), dpE h (by omega)]
  refine ⟨hv.1, hv.2.1, fun k hk => ?_, hv.2.2.2⟩
  rw [h _ (by omega), h _ (by omega), dpE h (by omega)]
  exact hv.2.2.1 k hk
theorem mtE {σ : z_M} {b : Nat} {r r' : Rw} (h : ∀ k, 7 ≤ k → k < 19 → r' k = r k) (hv : MtR σ b r) : MtR σ b r' := fun k hk => by
  rw [h _ (by omega) (by omega), h _ (by omega) (by omega)]; exact hv k hk
theorem vmE {r r' : Rw} (h : ∀ k, 7 ≤ k → k < 19 → r' k = r k) (hv : VM r) : VM r' := fun k hk => by
  rw [h _ (by omega) (by omega), h _ (by omega) (by omega)]; exact hv k hk
theorem tpE {σ : z_M} {b : Nat} {r r' : Rw} (h5 : r' 5 = r 5) (h : ∀ k, 59 ≤ k → k < 119 → r' k = r k) (hx : VX r) (hv : TapR σ b r) : TapR σ b r' := by
  have e : tN r' = tN r := by unfold tN; rw [h5]
  refine ⟨by rw [h5]; exact hv.1, fun k hk => ?_⟩
  rw [e] at hk
  have := hx.2.1
  rw [h _ (by omega) (by omega)]; exact hv.2 k hk
theorem waE {σ : z_M} {b : Nat} {r r' : Rw} (h6 : r' 6 = r 6) (h : ∀ k, 119 ≤ k → k < 143 → r' k = r k) (hx : VX r) (hv : WaiR σ b r) : WaiR σ b r' := by
  have e : wN r' = wN r := by unfold wN; rw [h6]
  refine ⟨by rw [h6]; exact hv.1, fun k hk => ?_⟩
  rw [e] at hk
  have := hx.2.2.2.2
  rw [h _ (by omega) (by omega)]; exact hv.2 k hk
theorem vxE {r r' : Rw} (h5 : r' 5 = r 5) (h6 : r' 6 = r 6) (h : ∀ k, 59 ≤ k → k < 119 → r' k = r k) (hx : VX r) : VX r' := by
  have e : tN r' = tN r := by unfold tN; rw [h5]
  have e2 : wN r' = wN r := by unfold wN; rw [h6]
  unfold VX at hx ⊢
  rw [e, e2, h5, h6]
  refine ⟨hx.1, hx.2.1, fun k hk => ?_, hx.2.2.2⟩
  have := hx.2.1
  rw [h _ (by omega) (by omega)]; exact hx.2.2.1 k hk
theorem crE {σ : z_M} {cr sn : Nat} {r r' : Rw} (h0 : r' 0 = r 0) (h2 : r' 2 = r 2) (h3 : r' 3 = r 3) (h4 : r' 4 = r 4) (h : ∀ p, p < 8 → pO r' p 4 = pO r p 4) (hv : CrsR σ cr sn r) : CrsR σ cr sn r' := by
  have e : nP r' = nP r := by unfold nP; rw [h2]
  refine ⟨by rw [h0]; exact hv.1, by rw [h3]; exact hv.2.1, by rw [h4]; exact hv.2.2.1, fun p hp => ?_⟩
  rw [e, h p hp]; exact hv.2.2.2 p hp
theorem vtE {Y : Nat} {r r' : Rw} (h0 : r' 0 = r 0) (h2 : r' 2 = r 2) (h3 : r' 3 = r 3) (h4 : r' 4 = r 4) (h : ∀ p, p < 8 → pO r' p 4 = pO r p 4) (h8 : nP r ≤ 8) (hv : VT Y r) : VT Y r' := by
  have e : nP r' = nP r := by unfold nP; rw [h2]
  refine ⟨by rw [h0]; exact hv.1, by rw [h3]; exact hv.2.1, by rw [h4]; exact hv.2.2.1, fun p hp => ?_⟩
  rw [e] at hp ⊢
  rw [h p (by omega)]; exact hv.2.2.2 p hp
theorem pO_hi {r : Rw} {k : Nat} {v : Int32} (h : k < 19 ∨ 59 ≤ k) {p w : Nat} (hp : p < 8) (hw : w < 5) : pO (upd r k v) p w = pO r p w := by unfold pO; rw [upd_at, if_neg (by omega)]
