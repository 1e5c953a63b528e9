def R_law : String := "VeilStepsLaw"
def lw_P (b : Addr) (xs : List Int32) (args : Array Value) (s : State) : Prop := args = #[.ref b] ∧ s.IntsAt b xs ∧ xs.length ≤ 3072 ∧ (Jvm.Cond.and given_1 narrow_1).before args s = true
def lw_Q (_ : Array Value) (s : State) (o : Outcome) (t : State) : Prop := o = .returned (some (.int 1)) ∧ Framed s o t [] 600000 7302250
def lw_Z (below : List Frame) (a : Array Value) (s : State) : State → Prop := fun t => ∃ o, t.status = .running ∧ Ended t below o ∧ lw_Q a s o t
/-- the law's own end, with 1 on the stack, nothing written that was there before, its room as the claim has it -/
theorem lw_ret {p : Program} {l : Launch} {e : Env} {s : State} {m : MethodId} {below : List Frame} {meth : Method} {c : Code} {b : Nat} (hx : p.tables.exec = Jvm.exec) (hb : c.code = code) (hr : meth.sig.returnType = ret) (hlocks : meth.locks = false) {pc : Nat} {H : Heap} {ls : Array Slot} (hdg : decode code pc = .ok (.ireturn, 1)) : W p l e room_1 s m #[Value.ref b] below meth c H [] 600000 7302250 (lw_Z below #[Value.ref b] s) (F0 m pc ls [.int 1]) := by
  intro T hT X
  obtain ⟨fs, hret, hrun, hended, hW, hframe⟩ := X.leave (v := some (.int 1)) (hlocks := hlocks) (fun h => by rw [hr] at h; cases h)
  have hmeth' : T.vm.method? m = some meth := X.method'
  refine ⟨T.setFrames fs, ?_, .returned (some (.int 1)), hrun, hended, rfl, ⟨_, rfl⟩, hW, hframe⟩
  jvm_step X.here [X.here.top, hx, hb, hdg, hmeth', hr, ret, narrow_b1]
  (try refine ⟨rfl, ?_⟩); (try refine ⟨rfl, ?_⟩)
  first | (intro acts; rw [hret _ acts rfl rfl rfl]) | rw [hret _ _ rfl rfl rfl]
  exact Steps.refl _
/-- what holds at the law's entry: the machine, the code, the tables' words (any of lw_tbl by 'hts w (by decide +kernel)'), the script of L ints xs at the cell b, what the Statement gives of the start (any of its parts by flat_of_before) -/
def lw_At (p : Program) (s : State) (m : MethodId) (meth : Method) (c : Code) (b L : Nat) (xs : Nat → Int32) : Prop :=
  p.tables.exec = Jvm.exec ∧ c.code = code ∧ meth.sig.returnType = ret ∧ c.maxLocals = 4 ∧ s.vm.findClass R_law = some m.cls ∧ (∀ w ∈ lw_tbl, w.before #[Value.ref b] s = true) ∧ va_X b L xs s s.heap ∧ b < s.heap.size ∧ meth.locks = false ∧ (Jvm.Cond.and given_1 narrow_1).before #[Value.ref b] s = true
/-! the law's entry: classes, statics, rows over both worlds -/
section ZN
theorem n_known {s : State} {args : Array Value} (h : ∀ w ∈ z_tbl, w.before args s = true) : ∃ D : va_G, ∀ (c : Nat) (q : vw_C), vwCl[c]? = some q → u_Kn s q.1 q.2.1 q.2.2 (D.1 c) (D.2 c) := by
  obtain ⟨c0, i0, k0⟩ := u_known h zc0.2.1 (h _ m_139)
  obtain ⟨c1, i1, k1⟩ := u_known h zc1.2.1 (h _ m_104)
  obtain ⟨c2, i2, k2⟩ := u_known h zc2.2.1 (h _ m_235)
  obtain ⟨c3, i3, k3⟩ := u_known h zc3.2.1 (h _ m_173)
  obtain ⟨c4, i4, k4⟩ := u_known h zc4.2.1 (h _ m_286)
  obtain ⟨c5, i5, k5⟩ := u_known h zc5.2.1 (h _ m_167)
  obtain ⟨c6, i6, k6⟩ := u_known h zc6.2.1 (h _ m_259)
  obtain ⟨c7, i7, k7⟩ := u_known h zc7.2.1 (h _ m_98)
  obtain ⟨c8, i8, k8⟩ := u_known h zc8.2.1 (h _ m_90)
  obtain ⟨c9, i9, k9⟩ := u_known h zc9.2.1 (h _ m_925)
  refine ⟨(fun c => [c0, c1, c2, c3, c4, c5, c6, c7, c8, c9].getD c c0, fun c => [i0, i1, i2, i3, i4, i5, i6, i7, i8, i9].getD c i0), fun c q hq => ?_⟩
  have hc : c < 10 := (List.getElem?_eq_some_iff.mp hq).1
  rcases (show c = 0 ∨ c = 1 ∨ c = 2 ∨ c = 3 ∨ c = 4 ∨ c = 5 ∨ c = 6 ∨ c = 7 ∨ c = 8 ∨ c = 9 by omega) with rfl | rfl | rfl | rfl | rfl | rfl | rfl | rfl | rfl | rfl <;> cases hq
  · exact k0
  · exact k1
  · exact k2
  · exact k3
  · exact k4
  · exact k5
  · exact k6
  · exact k7
  · exact k8
  · exact k9
theorem n_int {s : State} {args : Array Value} {D : va_G} (h : ∀ w ∈ z_tbl, w.before args s = true) (hD : ∀ (c : Nat) (q : vw_C), vwCl[c]? = some q → u_Kn s q.1 q.2.1 q.2.2 (D.1 c) (D.2 c)) : ∃ cI : ClassId, va_K D vwCl [(cI, .int)] s := by
  obtain ⟨cA, kA, comp, h1, h2, h3⟩ := Cond.arrayClass_spec (h _ m_137)
  refine ⟨cA, hD, fun k q hk => ?_⟩
  have hz : k < 1 := (List.getElem?_eq_some_iff.mp hk).1
  rw [show k = 0 by omega] at hk
  cases hk
  exact ⟨fun n z => ⟨fun k h => (by cases h), kA, h2, comp, h3⟩, h1⟩
theorem vk_S.by {N : Nat} {len : List Nat} {byt : List (List Int32)} {adK adV adK' adV' : Nat → Nat} {A : Nat → Prop} {U : State} {H : Heap} (h : vk_S N len byt adK adV A U H) (e1 : ∀ i, i < N → adK' i = adK i) (e2 : ∀ i, i < N → adV' i = adV i) : vk_S N len byt adK' adV' A U H := by
  refine ⟨fun i hi => ?_, fun i j hi hj e => h.2 i j hi hj (by rw [← e1 i hi, ← e1 j hj]; exact e)⟩
  rw [e1 i hi, e2 i hi]
  exact h.1 i hi
/-- what is static, under the names that a side gives it -/
def n_Zs (ext : Nat → Nat) (A : Nat → Prop) (U : State) (H : Heap) : Prop :=
  (va_Z "VeilSteps$Kinds" "ABOVE" "[I" (.ref (ext 2000)) A U H ∧ va_T .int (ext 2000) 7 (fun j => .int (z_aboveL.getD j 0)) A U H) ∧
  (va_Z "VeilSteps$Voices" "BODIES" "[I" (.ref (ext 2001)) A U H ∧ va_T .int (ext 2001) 28 (fun j => .int (z_bodiesL.getD j 0)) A U H) ∧
  va_Z "java/lang/String" "COMPACT_STRINGS" "Z" (.int 1) A U H ∧
  vk_S 2 z_lenL z_bytL (fun i => ext (1000 + i)) (fun i => ext (1010 + i)) A U H ∧
  vk_R RX3 23 "vsy" (ext 1000) U ∧ vk_R RX3 33 "eyc" (ext 1001) U
theorem n_Zs.to {ext : Nat → Nat} {A : Nat → Prop} {U : State} {H : Heap} {E : z_E} (h : n_Zs ext A U H) (e : ∀ k, 1000 ≤ k → z_ad E k = ext k) : z_Z A E U H := by
  obtain ⟨h1, h2, h3, h4, h5, h6⟩ := h
  refine ⟨?_, ?_, h3, h4.by (fun i _ => e _ (by omega)) (fun i _ => e _ (by omega)), ?_, ?_⟩
  · rw [e 2000 (by omega)]; exact h1
  · rw [e 2001 (by omega)]; exact h2
  · rw [e 1000 (by omega)]; exact h5
  · rw [e 1001 (by omega)]; exact h6
theorem z_Z.narrow {A B : Nat → Prop} {E : z_E} {U : State} {H : Heap} (h : z_Z A E U H) (hAB : ∀ q, B q → A q) : z_Z B E U H :=
  ⟨⟨h.1.1.narrow hAB, h.1.2.narrow hAB⟩, ⟨h.2.1.1.narrow hAB, h.2.1.2.narrow hAB⟩, h.2.2.1.narrow hAB, h.2.2.2.1.narrow hAB, h.2.2.2.2⟩
def n_tm (i : Nat) : Term := if i = 0 then .string RX3 23 else .string RX3 33
def n_tA : Term := .static "VeilSteps$Kinds" "ABOVE" "[I"
def n_tB : Term := .static "VeilSteps$Voices" "BODIES" "[I"
set_option maxHeartbeats 2000000 in
set_option maxRecDepth 100000 in
theorem n_stat {s : State} {b : Nat} (h0 : (Jvm.Cond.and given_1 narrow_1).before #[Value.ref b] s = true) (h : ∀ w ∈ lw_tbl, w.before #[Value.ref b] s = true) : ∃ ext : Nat → Nat, n_Zs ext (fun q => s.heap.size ≤ q) s s.heap := by
  have hs := flat_of_before _ h0
  have hA : ∀ a : Nat, a < s.heap.size → ¬ (fun q : Nat => s.heap.size ≤ q) a := fun a h1 h2 => by
    have h3 : s.heap.size ≤ a := h2
    omega
  have mA : ∀ j, j < 7 → Cond.eq (Term.elem n_tA (.int (Int32.ofNat j))) (.int (z_aboveL.getD j 0)) ∈ flatC (Jvm.Cond.and given_1 narrow_1) := by decide +kernel
  have mB : ∀ j, j < 28 → Cond.eq (Term.elem n_tB (.int (Int32.ofNat j))) (.int (z_bodiesL.getD j 0)) ∈ flatC (Jvm.Cond.and given_1 narrow_1) := by decide +kernel
  obtain ⟨tA, eA, TA⟩ := va_Tof (tm := n_tA) (ty := .int) (N := 7) (f := fun j => .int (z_aboveL.getD j 0)) (by decide) (hs _ (by decide +kernel)) (va_eqt (hs _ (by decide +kernel))) (fun j hj => va_eqt (hs _ (mA j hj))) hA
  obtain ⟨tB, eB, TB⟩ := va_Tof (tm := n_tB) (ty := .int) (N := 28) (f := fun j => .int (z_bodiesL.getD j 0)) (by decide) (hs _ (by decide +kernel)) (va_eqt (hs _ (by decide +kernel))) (fun j hj => va_eqt (hs _ (mB j hj))) hA
  have ZA := va_Zof (v := .ref tA) (h _ n_422) (h _ (z_lw m_81)) eA hA
  have ZB := va_Zof (v := .ref tB) (h _ n_813) (h _ (z_lw m_78)) eB hA
  have ZC := va_Zof (v := .int 1) (h _ n_550) (h _ (z_lw m_82)) (va_eqt (hs (Cond.eq (.static "java/lang/String" "COMPACT_STRINGS" "Z") (.int 1)) (by decide +kernel))) hA
  have q1 : ∀ i, i < 2 → Cond.exactly (n_tm i) "java/lang/String" ∈ flatC (Jvm.Cond.and given_1 narrow_1) := by decide +kernel
  have q2 : ∀ i, i < 2 → Cond.eq (.field (n_tm i) "java/lang/String" "coder" "B") (.int 0) ∈ flatC (Jvm.Cond.and given_1 narrow_1) := by decide +kernel
  have q3 : ∀ i, i < 2 → Cond.arrayOf (.field (n_tm i) "java/lang/String" "value" "[B") .byte ∈ flatC (Jvm.Cond.and given_1 narrow_1) := by decide +kernel
  have q4 : ∀ i, i < 2 → Cond.eq (.length (.field (n_tm i) "java/lang/String" "value" "[B")) (.int (Int32.ofNat (z_lenL.getD i 0))) ∈ flatC (Jvm.Cond.and given_1 narrow_1) := by decide +kernel
  have q5 : ∀ i, i < 2 → ∀ j, j < z_lenL.getD i 0 → Cond.eq (.elem (.field (n_tm i) "java/lang/String" "value" "[B") (.int (Int32.ofNat j))) (.int ((z_bytL.getD i []).getD j 0)) ∈ flatC (Jvm.Cond.and given_1 narrow_1) := by decide +kernel
  have q6 : ∀ i, i < 2 → ∀ j, j < 2 → i ≠ j → Cond.not (Cond.eq (n_tm i) (n_tm j)) ∈ flatC (Jvm.Cond.and given_1 narrow_1) ∨ Cond.not (Cond.eq (n_tm j) (n_tm i)) ∈ flatC (Jvm.Cond.and given_1 narrow_1) := by decide +kernel
  obtain ⟨adK, adV, SS, SE⟩ := vk_Sof (N := 2) (tm := n_tm) (len := z_lenL) (byt := z_bytL) (A := fun q => s.heap.size ≤ q) (by decide) (fun i hi => hs _ (q1 i hi)) (fun i hi => hs _ (q2 i hi)) (fun i hi => hs _ (q3 i hi)) (fun i hi => hs _ (q4 i hi)) (fun i hi j hj => hs _ (q5 i hi j hj)) (fun i j hi hj hij => (q6 i hi j hj hij).imp (hs _) (hs _)) hA
  refine ⟨fun k => if k = 2000 then tA else if k = 2001 then tB else if k < 1010 then adK (k - 1000) else adV (k - 1010), ⟨ZA, TA⟩, ⟨ZB, TB⟩, ZC, SS.by (fun i hi => ?_) (fun i hi => ?_), vk_R.of (h _ n_242) (SE 0 (by decide)), vk_R.of (h _ n_515) (SE 1 (by decide))⟩
  · dsimp only; rw [if_neg (by omega), if_neg (by omega), if_pos (by omega), Nat.add_sub_cancel_left]
  · dsimp only; rw [if_neg (by omega), if_neg (by omega), if_neg (by omega), Nat.add_sub_cancel_left]
variable {l : Launch} {K : z_K} {D : va_G} {A : Nat → Prop} {R : Room} {Q : State → Prop} {nL : Nat} {tys : List (ClassId × FieldType)} {cells slots : Nat} {ws : va_W} {pc : Nat} {lv : List (Nat × Value)} {st : List Value} {own : String} {cc : ByteArray} {sa : Nat}
theorem n_slen (F : g_F K own cc nL A sa) {b L : Nat} {xs : Nat → Int32} (hX : va_X b L xs (z_s K) (z_s K).heap) (hbl : b < (z_s K).heap.size) (hbA : ¬ A b) (hd : decode cc pc = .ok (.arraylength, 1)) (q : Nat) (hq : pc + 1 = q) (kk : g_X l K D A R Q nL tys cells slots ws q lv (.int (nI L) :: st)) : g_X l K D A R Q nL tys cells slots ws pc lv (.ref b :: st) := by
  subst hq
  exact fun H locs ls hK hP hD hS hl => va_slen F.1 F.2.1 hX hbl hbA hS hd (kk H locs ls hK hP hD hS hl)
theorem n_sld (F : g_F K own cc nL A sa) {b L : Nat} {xs : Nat → Int32} (hX : va_X b L xs (z_s K) (z_s K).heap) (hbl : b < (z_s K).heap.size) (hbA : ¬ A b) {i : Int32} (hin : vp_in i L) (hd : decode cc pc = .ok (.iaload, 1)) (q : Nat) (hq : pc + 1 = q) (kk : g_X l K D A R Q nL tys cells slots ws q lv (.int (xs i.toNatClampNeg) :: st)) : g_X l K D A R Q nL tys cells slots ws pc lv (.int i :: .ref b :: st) := by
  subst hq
  exact fun H locs ls hK hP hD hS hl => va_sld F.1 F.2.1 hX hbl hbA hS hin hd (kk H locs ls hK hP hD hS hl)
theorem n_dmap {ws ws' : va_W} (e : ws.map Prod.fst = ws'.map Prod.fst) (h : va_D A ws) : va_D A ws' := by
  have key : ∀ (k : Nat) (q : Nat × va_E), ws'[k]? = some q → ∃ q', ws[k]? = some q' ∧ q'.1 = q.1 := by
    intro k q hq
    have h1 : (ws'.map Prod.fst)[k]? = some q.1 := by rw [List.getElem?_map, hq]; rfl
    rw [← e, List.getElem?_map] at h1
    cases hw : ws[k]? with
    | none => rw [hw] at h1; cases h1
    | some q' => rw [hw] at h1; exact ⟨q', rfl, Option.some.inj h1⟩
  refine ⟨fun i j p q hi hj hpq => ?_, fun k q hq => ?_⟩
  · obtain ⟨p', a1, a2⟩ := key i p hi
    obtain ⟨q', b1, b2⟩ := key j q hj
    exact h.1 i j p' q' a1 b1 (by rw [a2, b2, hpq])
  · obtain ⟨q', a1, a2⟩ := key k q hq
    rw [← a2]; exact h.2 k q' a1
theorem n_call {S : z_Sh} (E : z_E) {wa wb : va_W} {σ : z_M} (F : g_F K own cc nL A sa) (hZ : z_Z A E (z_s K) (z_s K).heap) {idx d' maxL ar o ci n N : Nat} {y : MethodName} {bytes : ByteArray} {As rest : List Value} {T : u_T} {rs : List (Option Nat)} {Pi : Int32 → z_M → Prop}
    (hd : decode cc pc = .ok (.invokevirtual idx, 3)) (hl : Cond.methodLink own idx y ∈ z_tbl) (hI : z_I y bytes maxL (some .int) ar) (hi : Cond.instanceMethod y ∈ z_tbl ∧ Cond.selects y.cls y y ∈ z_tbl) (hn : As.length = ar) (zc : z_Cl ci y.cls T N) (hSo : S[o]? = some (ci + 3, n, rs))
    (hC : z_C l E S d' y bytes maxL (some .int) (.ref (z_ad E o) :: As) σ (z_Pi Pi)) (hst : st = As.reverse ++ .ref (z_ad E o) :: rest) (hfr : d' + 1 ≤ R.frames) (hlo : 40 * (d' + 1) ≤ R.locals) (hcl : cells ≤ R.cells) (hsl : slots ≤ R.slots) (hrest : (rest.map fun v => v.category).sum ≤ 8) (q : Nat) (hq : pc + 3 = q)
    (kk : ∀ (r : Int32) (σ' : z_M), Pi r σ' → g_X l K E.1 A R Q nL (z_tys E) cells slots (wa ++ (z_ws E S σ' ++ wb)) q lv (.int r :: rest)) : g_X l K E.1 A R Q nL (z_tys E) cells slots (wa ++ (z_ws E S σ ++ wb)) pc lv st := by
  subst hq; subst hst
  intro H locs ls hK hP hD hS hl0
  have hPm := j_rightP hP
  have hPc := j_leftP hPm
  have hDm := j_right hD
  have hDc := j_left hDm
  have hat : ∀ k, k < S.length → ∃ e, (z_ws E S σ)[k]? = some (z_ad E k, e) := fun k hk => ⟨_, z_ws_at (List.getElem?_eq_some_iff.mpr ⟨hk, rfl⟩)⟩
  have hinj : z_inj E S := fun i j hi hj e => by
    obtain ⟨e1, h1⟩ := hat i hi
    obtain ⟨e2, h2⟩ := hat j hj
    exact hDc.1 i j _ _ h1 h2 e
  have hzA : ∀ q, z_A E S q → A q := fun q ⟨o, ho, e⟩ => by
    obtain ⟨e1, h1⟩ := hat o ho
    rw [e]; exact hDc.2 o _ h1
  intro T0 hT X
  obtain ⟨v, st₀, t, T', L, h0, X', hL, e1, e2, ⟨⟨v', σ', hv, ⟨r, rfl, hp⟩, hP1, -⟩, hz, hk⟩, step⟩ := (va_runV (As := As) (rest := rest) (C := y.cls) (g := F0 (z_m K) pc ls (As.reverse ++ .ref (z_ad E o) :: rest)) ⟨F.1, F.2.1, F.2.2.1, F.2.2.2.1, F.2.2.2.2.1⟩ hC ⟨g_callB (mc := 0) (ms := 0) F hI hl hfr hlo, F.2.2.2.2.1 _ hi.1, F.2.2.2.2.1 _ hi.2⟩ ⟨z_blind _, va_recv hK hPc zc.1 (z_ws_at hSo), fun U hU hW => ⟨rfl, by rw [hU]; exact hPc, va_K.moved hW.alike hK, hinj, (((hZ.kept (fun a h1 h2 => hS.2.1 a h1 h2)).narrow hzA).warm hW).kept (fun a _ _ => by rw [hU])⟩⟩ rfl hn hl0.1 rfl (by show 2 * 0 + _ ≤ 8; omega) hd ⟨hcl, hsl⟩) T0 hT X
  cases hv
  rw [h0] at hz hk
  have hfar : ∀ (k : Nat) (x : Nat × va_E), wa[k]? = some x → ¬ z_A E S x.1 := fun k x hx ⟨o, ho, e⟩ => by
    obtain ⟨ee, h1⟩ := hat o ho
    have hkl : k < wa.length := (List.getElem?_eq_some_iff.mp hx).1
    have hol : o < (z_ws E S σ).length := by rw [z_ws_len]; exact ho
    have g1 : (wa ++ (z_ws E S σ ++ wb))[k]? = some x := by rw [List.getElem?_append_left hkl]; exact hx
    have g2 : (wa ++ (z_ws E S σ ++ wb))[wa.length + o]? = some (z_ad E o, ee) := by rw [List.getElem?_append_right (by omega), Nat.add_sub_cancel_left, List.getElem?_append_left hol]; exact h1
    have := hD.1 _ _ _ _ g1 g2 e
    omega
  have hfb : ∀ (k : Nat) (x : Nat × va_E), wb[k]? = some x → ¬ z_A E S x.1 := fun k x hx ⟨o, ho, e⟩ => by
    obtain ⟨ee, h1⟩ := hat o ho
    have hol : o < (z_ws E S σ).length := by rw [z_ws_len]; exact ho
    have g1 : (z_ws E S σ ++ wb)[(z_ws E S σ).length + k]? = some x := by rw [List.getElem?_append_right (by omega), Nat.add_sub_cancel_left]; exact hx
    have g2 : (z_ws E S σ ++ wb)[o]? = some (z_ad E o, ee) := by rw [List.getElem?_append_left hol]; exact h1
    have := hDm.1 _ _ _ _ g1 g2 e
    omega
  have hPa := (j_leftP hP).kept (H1 := t.heap) (fun k x hx => hk _ (((j_leftP hP) k x hx).lt) (hfar k x hx))
  have hPb := (j_rightP hPm).kept (H1 := t.heap) (fun k x hx => hk _ (((j_rightP hPm) k x hx).lt) (hfb k x hx))
  have hf : ∀ τ : z_M, (z_ws E S τ).map Prod.fst = (List.range S.length).map (z_ad E) := fun τ => by
    rw [z_ws, List.map_map]; rfl
  obtain ⟨t2, a1, b1⟩ := kk r σ' hp T'.heap (locs ++ L) ls hK (by rw [e1]; exact hPa.app (hP1.app hPb)) (n_dmap (by rw [List.map_append, List.map_append, List.map_append, List.map_append, hf σ, hf σ']) hD)
    ⟨Nat.le_trans hS.1 (by rw [e1]; exact hz), fun q h1 h2 => by rw [e1, hk q (Nat.lt_of_lt_of_le h1 hS.1) (fun z => h2 (hzA q z))]; exact hS.2.1 q h1 h2, fun q hq => by
      rcases List.mem_append.mp hq with h | h
      · exact hS.2.2 q h
      · exact hzA _ (hL q h)⟩ hl0 T' rfl X'
  exact ⟨t2, step t2 a1, b1⟩
/-- the law's end -/
theorem n_end {b : Nat} (hK : z_a K = #[.ref b]) (F : g_F K own code nL (fun q => (z_s K).heap.size ≤ q) sa) (hr : (z_t K).sig.returnType = ret) (hd : decode code pc = .ok (.ireturn, 1)) (hc : cells ≤ 600000) (hsl : slots ≤ 7302250) : g_X l K D (fun q => (z_s K).heap.size ≤ q) room_1 (lw_Z (z_b K) #[.ref b] (z_s K)) nL tys cells slots ws pc lv [.int 1] := by
  intro H locs ls hKk hP hD hS hl
  refine va_forget (fun q hq => hS.2.2 q hq) (W.widen hc hsl ?_)
  rw [hK]
  exact lw_ret F.1 F.2.1 hr F.2.2.2.2.2.2.2 hd
end ZN
