/-! the two worlds at the beginning -/
section ZO
def n_s0 : z_M := fun o => if o = 11 ∨ o = 35 then upd (upd (upd (upd (upd (upd (fun _ => 0) 0 1) 1 1) 2 1) 3 1) 4 1) 5 1 else if o = 8 ∨ o = 32 ∨ o = 49 then (fun k => if k = 1 then 100 else if k = 2 then 5 else 0) else if o = 1 ∨ o = 25 then (fun k => if k = 7 then 1 else 0) else fun _ => 0
def n_m0 : z_M := fun o => if o = 1 then upd (upd (upd (upd (upd (upd (upd (upd (upd (fun _ => 0) 1 1) 3 100) 4 5) 8 1) 10 1) 12 1) 14 1) 16 1) 18 1 else fun _ => 0
def n_l9 (h : Nat) (v : g_S9) : List Nat := [h, v.1 0, v.2.1 0 1, v.2.1 0 2, v.2.1 0 3, v.2.1 0 4, v.2.1 0 5, v.2.1 0 6, v.2.1 0 7, v.2.1 0 8, v.2.1 0 9, v.2.1 0 10, v.2.1 0 11, v.2.1 0 12, v.2.1 0 13, v.2.1 0 14, v.2.1 0 15, v.2.1 0 16, v.2.1 0 17, v.2.1 0 18, v.2.1 0 19, v.2.1 0 20, v.2.1 0 21, v.2.1 0 22, v.2.1 0 23, v.1 1, v.2.1 1 1, v.2.1 1 2, v.2.1 1 3, v.2.1 1 4, v.2.1 1 5, v.2.1 1 6, v.2.1 1 7, v.2.1 1 8, v.2.1 1 9, v.2.1 1 10, v.2.1 1 11, v.2.1 1 12, v.2.1 1 13, v.2.1 1 14, v.2.1 1 15, v.2.1 1 16, v.2.1 1 17, v.2.1 1 18, v.2.1 1 19, v.2.1 1 20, v.2.1 1 21, v.2.1 1 22, v.2.1 1 23, v.1 2, v.2.1 2 1, v.1 3, v.2.1 3 1, v.2.1 3 2, v.1 4, v.2.1 4 1, v.2.1 4 2, v.1 9, v.1 5, v.2.1 5 1, v.2.1 5 2, v.1 6, v.2.1 6 1, v.2.1 6 2, v.1 7, v.2.1 7 1, v.2.1 7 2, v.1 8, v.2.1 8 1, v.2.1 8 2, v.1 10]
def n_l10 (h : Nat) (u : Nat → Nat) : List Nat := [h, u 1, u 2, u 3, u 4, u 5, u 6, u 7, u 8, u 9, u 10, u 11, u 12]
def n_a9 (ext : Nat → Nat) (h : Nat) (v : g_S9) (o : Nat) : Nat := if o < 1000 then (n_l9 h v).getD o 0 else ext o
def n_a10 (ext : Nat → Nat) (h : Nat) (u : Nat → Nat) (o : Nat) : Nat := if o < 1000 then (n_l10 h u).getD o 0 else ext o
theorem n_ra2 (ad : Nat → Nat) (a b : Nat) : va_up (va_up (fun _ => none) 0 (some (ad a))) 1 (some (ad b)) = z_ra ad [some a, some b] := by
  funext j
  match j with
  | 0 => rfl
  | 1 => rfl
  | n + 2 => simp [va_up, z_ra]
theorem n_ra4 (ad : Nat → Nat) (a b c d : Nat) : va_up (va_up (va_up (va_up (fun _ => none) 0 (some (ad a))) 1 (some (ad b))) 2 (some (ad c))) 3 (some (ad d)) = z_ra ad [some a, some b, some c, some d] := by
  funext j
  match j with
  | 0 => rfl
  | 1 => rfl
  | 2 => rfl
  | 3 => rfl
  | n + 4 => simp [va_up, z_ra]
set_option maxHeartbeats 4000000 in
set_option maxRecDepth 100000 in
theorem n_w9 {D : va_G} {cI : ClassId} {ext : Nat → Nat} {h sa : Nat} {v : g_S9} (hs : ext 1000 = sa) : gX9_W cI h sa v = z_ws (D, cI, v.2.2.1, v.2.2.2, n_a9 ext h v) shC n_s0 := by
  subst hs
  simp only [gX9_W, gX8_W, gX0_W, gX3_W, gX7_W, gX5_W, List.cons_append, List.nil_append]
  rw [show va_up (va_up (fun _ => none) 0 (some (v.2.1 0 12))) 1 (some (v.2.1 0 16)) = z_ra (n_a9 ext h v) [some 13, some 17] from n_ra2 (n_a9 ext h v) 13 17,
    show va_up (va_up (fun _ => none) 0 (some (v.2.1 1 12))) 1 (some (v.2.1 1 16)) = z_ra (n_a9 ext h v) [some 37, some 41] from n_ra2 (n_a9 ext h v) 37 41,
    show va_up (va_up (va_up (va_up (fun _ => none) 0 (some (v.1 5))) 1 (some (v.1 6))) 2 (some (v.1 7))) 3 (some (v.1 8)) = z_ra (n_a9 ext h v) [some 58, some 61, some 64, some 67] from n_ra4 (n_a9 ext h v) 58 61 64 67]
  rfl
set_option maxHeartbeats 4000000 in
set_option maxRecDepth 100000 in
theorem n_w10 {D : va_G} {cI cT cS : ClassId} {ext : Nat → Nat} {h : Nat} {u : Nat → Nat} : gX10_W cI h u = z_ws (D, cI, cT, cS, n_a10 ext h u) shM n_m0 := by
  rfl
set_option maxRecDepth 100000 in
theorem n_rel : Rel n_s0 n_m0 := by
  have e0 : nP (n_m0 1) = 0 := by decide
  have et : tN (n_m0 1) = 0 := by decide
  have ew : wN (n_m0 1) = 0 := by decide
  have ec0 : cL (n_m0 1) 0 = 0 := by decide
  have ec1 : cL (n_m0 1) 1 = 0 := by decide
  refine ⟨⟨⟨by decide, fun q hq => ?_⟩, fun i j hi hj => ?_, ⟨by decide, fun k hk => ?_⟩, ⟨by decide, fun k hk => ?_⟩, ?_, ⟨by decide, by decide, by decide, ?_⟩, ⟨by decide, fun k hk => ?_⟩, ⟨by decide, fun k hk => ?_⟩, by decide⟩, ⟨⟨by decide, by decide, fun q hq => ?_⟩, ⟨by decide, by decide, fun k hk => ?_, fun hk => ?_⟩, ⟨by decide, by decide, fun k hk => ?_, fun hk => ?_⟩, ?_, ⟨⟨0, by decide, by decide⟩, ⟨100, by decide, by decide⟩, ⟨5, by decide, by decide⟩, fun q hq => ?_⟩, ⟨by decide, by decide, fun k hk => ?_, by decide, by decide⟩⟩, ⟨by decide, Or.inl (by decide), ?_, ?_, ⟨by decide, 0, by decide, by decide, fun k hk => ?_⟩⟩⟩
  all_goals first
    | (exfalso; rw [e0] at *; omega)
    | (exfalso; rw [et] at *; omega)
    | (exfalso; rw [ew] at *; omega)
    | (exfalso; rw [ec0] at *; omega)
    | (exfalso; rw [ec1] at *; omega)
    | (exfalso; omega)
    | skip
  · exact (by decide : ∀ k, k < 6 → n_s0 10 k = n_m0 1 (7 + 2 * k) ∧ n_s0 11 k = n_m0 1 (8 + 2 * k))
  · intro q hq
    rw [e0, if_neg (by omega)]
    exact (by decide : ∀ q, q < 8 → n_s0 9 q = 0) q hq
  · intro k hk
    exact ⟨⟨0, by decide, (by decide : ∀ k, k < 6 → n_m0 1 (7 + 2 * k) = nI 0) k hk⟩, ⟨1, by decide, (by decide : ∀ k, k < 6 → n_m0 1 (8 + 2 * k) = nI 1) k hk⟩⟩
  · intro k h1 h2
    rfl
  · intro s hs
    have h1 : s = 0 ∨ s = 1 ∨ s = 2 ∨ s = 3 := by omega
    rcases h1 with rfl | rfl | rfl | rfl <;> exact ⟨by decide, by decide, ⟨0, by decide, by decide, fun k hk => by omega⟩, Or.inl (by decide)⟩
end ZO
