/-! fields, arrays, statics, calls over the fixed world -/
section ZM
def z_Cl (ci : Nat) (C : String) (T : u_T) (N : Nat) : Prop := vwCl[ci]? = some (C, T, N) ∧ (∀ w ∈ u_ws C T N, w ∈ z_tbl) ∧ (∃ ty : Nat → FieldType, ∀ k, k < N → parseFieldDescriptor (T k).2.2.1 = some (ty k)) ∧ (∀ a, a < N → ∀ b, b < N → a ≠ b → (T a).2.1 ≠ (T b).2.1)
set_option maxRecDepth 100000 in
theorem zc0 : z_Cl 0 RX0 TX0 4 := ⟨rfl, by decide +kernel, ⟨tyX0, tyX0_ok⟩, nmX0⟩
set_option maxRecDepth 100000 in
theorem zc1 : z_Cl 1 RX1 TX1 6 := ⟨rfl, by decide +kernel, ⟨tyX1, tyX1_ok⟩, nmX1⟩
set_option maxRecDepth 100000 in
theorem zc2 : z_Cl 2 RX3 TX3 4 := ⟨rfl, by decide +kernel, ⟨tyX3, tyX3_ok⟩, nmX3⟩
set_option maxRecDepth 100000 in
theorem zc3 : z_Cl 3 RX4 TX4 2 := ⟨rfl, by decide +kernel, ⟨tyX4, tyX4_ok⟩, nmX4⟩
set_option maxRecDepth 100000 in
theorem zc4 : z_Cl 4 RX5 TX5 2 := ⟨rfl, by decide +kernel, ⟨tyX5, tyX5_ok⟩, nmX5⟩
set_option maxRecDepth 100000 in
theorem zc5 : z_Cl 5 RX6 TX6 2 := ⟨rfl, by decide +kernel, ⟨tyX6, tyX6_ok⟩, nmX6⟩
set_option maxRecDepth 100000 in
theorem zc6 : z_Cl 6 RX7 TX7 5 := ⟨rfl, by decide +kernel, ⟨tyX7, tyX7_ok⟩, nmX7⟩
set_option maxRecDepth 100000 in
theorem zc7 : z_Cl 7 RX8 TX8 8 := ⟨rfl, by decide +kernel, ⟨tyX8, tyX8_ok⟩, nmX8⟩
set_option maxRecDepth 100000 in
theorem zc8 : z_Cl 8 RX9 TX9 8 := ⟨rfl, by decide +kernel, ⟨tyX9, tyX9_ok⟩, nmX9⟩
set_option maxRecDepth 100000 in
theorem zc9 : z_Cl 9 RX10 TX10 20 := ⟨rfl, by decide +kernel, ⟨tyX10, tyX10_ok⟩, nmX10⟩
def z_lnk (own : String) (idx : Nat) (C n dsc : String) : Prop := Cond.fieldLink own idx C n dsc ∈ z_tbl ∨ ∃ host, Cond.fieldLinkNest own idx C n dsc host ∈ z_tbl
variable {l : Launch} {K : z_K} {E : z_E} {S : z_Sh} {d nL : Nat} {P : Option Value → z_M → Prop} {own : String} {cc : ByteArray} {ret : Option FieldType} {pc : Nat} {lv : List (Nat × Value)} {st : List Value} {σ : z_M}
theorem z_get (F : z_F K E S own cc nL ret) {o ci n N idx : Nat} {C : String} {T : u_T} {rs : List (Option Nat)} (zc : z_Cl ci C T N) (hd : decode cc pc = .ok (.getfield idx, 3)) (hS : S[o]? = some (ci + 3, n, rs)) (k : Nat) (hk : k < N) (hkn : k < n) (hlk : z_lnk own idx (T k).1 (T k).2.1 (T k).2.2.1) (v : Value) (hv : z_fv (z_ad E) (σ o) rs k = v) (q : Nat) (hq : pc + 3 = q) (kk : z_X l K E S d nL P q lv (v :: st) σ) : z_X l K E S d nL P pc lv (.ref (z_ad E o) :: st) σ := by
  subst hq
  intro H locs ls hP hSS hl
  have hv' : ((List.range n).map (z_fv (z_ad E) (σ o) rs))[k]? = some v := by rw [List.getElem?_map, List.getElem?_range hkn]; exact congrArg some hv
  rcases hlk with h | ⟨host, h⟩
  · exact va_get (D := E.1) (ci := ci) F.1 F.2.1 F.2.2.2.2.2.2.1 zc.2.1 F.2.2.2.2.2.1 F.2.2.2.2.2.2.2.1 hP o (z_ws_at hS) zc.1 k hk (F.2.2.2.2.2.2.1 _ h) (fun _ h9 => h9) hv' hd (kk H locs ls hP hSS hl)
  · exact va_getN (D := E.1) (ci := ci) F.1 F.2.1 F.2.2.2.2.2.2.1 zc.2.1 F.2.2.2.2.2.1 F.2.2.2.2.2.2.2.1 hP o (z_ws_at hS) zc.1 k hk (F.2.2.2.2.2.2.1 _ h) (fun _ h9 => h9) hv' hd (kk H locs ls hP hSS hl)
theorem z_getI (F : z_F K E S own cc nL ret) {o ci n N idx : Nat} {C : String} {T : u_T} {rs : List (Option Nat)} (zc : z_Cl ci C T N) (hd : decode cc pc = .ok (.getfield idx, 3)) (hS : S[o]? = some (ci + 3, n, rs)) (k : Nat) (hk : k < N) (hkn : k < n) (hlk : z_lnk own idx (T k).1 (T k).2.1 (T k).2.2.1) (hr : rs[k]? = some none) (q : Nat) (hq : pc + 3 = q) (kk : z_X l K E S d nL P q lv (.int (σ o k) :: st) σ) : z_X l K E S d nL P pc lv (.ref (z_ad E o) :: st) σ :=
  z_get F zc hd hS k hk hkn hlk _ (by unfold z_fv; rw [hr]) q hq kk
theorem z_getR (F : z_F K E S own cc nL ret) {o ci n N idx r : Nat} {C : String} {T : u_T} {rs : List (Option Nat)} (zc : z_Cl ci C T N) (hd : decode cc pc = .ok (.getfield idx, 3)) (hS : S[o]? = some (ci + 3, n, rs)) (k : Nat) (hk : k < N) (hkn : k < n) (hlk : z_lnk own idx (T k).1 (T k).2.1 (T k).2.2.1) (hr : rs[k]? = some (some r)) (hr9 : r ≠ 999) (q : Nat) (hq : pc + 3 = q) (kk : z_X l K E S d nL P q lv (.ref (z_ad E r) :: st) σ) : z_X l K E S d nL P pc lv (.ref (z_ad E o) :: st) σ :=
  z_get F zc hd hS k hk hkn hlk _ (by unfold z_fv; rw [hr]; exact if_neg hr9) q hq kk
theorem z_getS (F : z_F K E S own cc nL ret) {o ci n N idx : Nat} {C : String} {T : u_T} {rs : List (Option Nat)} (zc : z_Cl ci C T N) (hd : decode cc pc = .ok (.getfield idx, 3)) (hS : S[o]? = some (ci + 3, n, rs)) (k : Nat) (hk : k < N) (hkn : k < n) (hlk : z_lnk own idx (T k).1 (T k).2.1 (T k).2.2.1) (hr : rs[k]? = some (some 999)) (q : Nat) (hq : pc + 3 = q) (kk : z_X l K E S d nL P q lv (.ref (z_ad E (1000 + (σ o k).toNatClampNeg)) :: st) σ) : z_X l K E S d nL P pc lv (.ref (z_ad E o) :: st) σ :=
  z_get F zc hd hS k hk hkn hlk _ (by unfold z_fv; rw [hr]; exact if_pos rfl) q hq kk
theorem z_put (F : z_F K E S own cc nL ret) {o ci n N idx : Nat} {C : String} {T : u_T} {rs : List (Option Nat)} (zc : z_Cl ci C T N) (hd : decode cc pc = .ok (.putfield idx, 3)) (hS : S[o]? = some (ci + 3, n, rs)) (k : Nat) (hk : k < N) (hkn : k < n) (hlk : z_lnk own idx (T k).1 (T k).2.1 (T k).2.2.1) {ty : FieldType} (hty : parseFieldDescriptor (T k).2.2.1 = some ty) (hfin : (T k).2.2.2 = false) {v : Int32} {w : Value} (hr : ∀ r, rs[k]? ≠ some (some r) ∨ r = 999) (hw : z_fv (z_ad E) (upd (σ o) k v) rs k = w) (hn : narrow ty w = w) (hf : fits ty w = true) (q : Nat) (hq : pc + 3 = q) (kk : z_X l K E S d nL P q lv st (z_u2 σ o k v)) : z_X l K E S d nL P pc lv (w :: .ref (z_ad E o) :: st) σ := by
  subst hq
  intro H locs ls hP hSS hl
  have hlen : k < ((List.range n).map (z_fv (z_ad E) (σ o) rs)).length := by simpa using hkn
  have hset : (z_ws E S σ).set o (z_ad E o, .inr (ci, ((List.range n).map (z_fv (z_ad E) (σ o) rs)).set k w)) = z_ws E S (z_u2 σ o k v) := by
    rw [z_fv_upd hr hw]
    exact z_ws_set hS (upd (σ o) k v)
  obtain ⟨ty0, hty0⟩ := zc.2.2.1
  rcases hlk with h | ⟨host, h⟩
  · exact va_put (D := E.1) (ci := ci) F.1 F.2.1 F.2.2.2.2.2.2.1 zc.2.1 ty0 hty0 zc.2.2.2 F.2.2.2.2.2.1 F.2.2.2.2.2.2.2.1 hP (z_D F.2.2.2.2.2.2.2.2.1) hSS o (z_ws_at hS) zc.1 k hk (F.2.2.2.2.2.2.1 _ h) (fun _ h9 => h9) hfin hty hn hf hlen hd (fun H1 locs1 hP1 _ hS1 => kk H1 locs1 ls (hset ▸ hP1) hS1 hl)
  · exact va_putN (D := E.1) (ci := ci) F.1 F.2.1 F.2.2.2.2.2.2.1 zc.2.1 ty0 hty0 zc.2.2.2 F.2.2.2.2.2.1 F.2.2.2.2.2.2.2.1 hP (z_D F.2.2.2.2.2.2.2.2.1) hSS o (z_ws_at hS) zc.1 k hk (F.2.2.2.2.2.2.1 _ h) (fun _ h9 => h9) hfin hty hn hf hlen hd (fun H1 locs1 hP1 _ hS1 => kk H1 locs1 ls (hset ▸ hP1) hS1 hl)
theorem z_putI (F : z_F K E S own cc nL ret) {o ci n N idx : Nat} {C : String} {T : u_T} {rs : List (Option Nat)} (zc : z_Cl ci C T N) (hd : decode cc pc = .ok (.putfield idx, 3)) (hS : S[o]? = some (ci + 3, n, rs)) (k : Nat) (hk : k < N) (hkn : k < n) (hlk : z_lnk own idx (T k).1 (T k).2.1 (T k).2.2.1) (hfin : (T k).2.2.2 = false) (hr : rs[k]? = some none) (hty : parseFieldDescriptor (T k).2.2.1 = some .int) {v : Int32} (q : Nat) (hq : pc + 3 = q) (kk : z_X l K E S d nL P q lv st (z_u2 σ o k v)) : z_X l K E S d nL P pc lv (.int v :: .ref (z_ad E o) :: st) σ :=
  z_put F zc hd hS k hk hkn hlk hty hfin (fun r => Or.inl (by rw [hr]; intro h; cases h)) (by unfold z_fv; rw [hr]; simp [upd]) rfl rfl q hq kk
theorem z_putZ (F : z_F K E S own cc nL ret) {o ci n N idx : Nat} {C : String} {T : u_T} {rs : List (Option Nat)} (zc : z_Cl ci C T N) (hd : decode cc pc = .ok (.putfield idx, 3)) (hS : S[o]? = some (ci + 3, n, rs)) (k : Nat) (hk : k < N) (hkn : k < n) (hlk : z_lnk own idx (T k).1 (T k).2.1 (T k).2.2.1) (hfin : (T k).2.2.2 = false) (hr : rs[k]? = some none) (hty : parseFieldDescriptor (T k).2.2.1 = some .boolean) {v : Int32} (hn : narrow .boolean (.int v) = .int v) (hf : fits .boolean (.int v) = true) (q : Nat) (hq : pc + 3 = q) (kk : z_X l K E S d nL P q lv st (z_u2 σ o k v)) : z_X l K E S d nL P pc lv (.int v :: .ref (z_ad E o) :: st) σ :=
  z_put F zc hd hS k hk hkn hlk hty hfin (fun r => Or.inl (by rw [hr]; intro h; cases h)) (by unfold z_fv; rw [hr]; simp [upd]) hn hf q hq kk
theorem z_putS (F : z_F K E S own cc nL ret) {o ci n N idx : Nat} {C : String} {T : u_T} {rs : List (Option Nat)} (zc : z_Cl ci C T N) (hd : decode cc pc = .ok (.putfield idx, 3)) (hS : S[o]? = some (ci + 3, n, rs)) (k : Nat) (hk : k < N) (hkn : k < n) (hlk : z_lnk own idx (T k).1 (T k).2.1 (T k).2.2.1) (hfin : (T k).2.2.2 = false) (hr : rs[k]? = some (some 999)) {C2 : String} (hty : parseFieldDescriptor (T k).2.2.1 = some (.object C2)) {j : Nat} (hj : j < 2 ^ 31) (q : Nat) (hq : pc + 3 = q) (kk : z_X l K E S d nL P q lv st (z_u2 σ o k (nI j))) : z_X l K E S d nL P pc lv (.ref (z_ad E (1000 + j)) :: .ref (z_ad E o) :: st) σ :=
  z_put F zc hd hS k hk hkn hlk hty hfin (fun r => by rw [hr]; by_cases h : r = 999
                                                      · exact Or.inr h
                                                      · exact Or.inl (fun e => h (Option.some.inj (Option.some.inj e)).symm)) (by unfold z_fv; rw [hr]; simp [upd, nI_clamp hj]) rfl rfl q hq kk
theorem z_iald (F : z_F K E S own cc nL ret) {o n : Nat} {rs : List (Option Nat)} {i : Int32} (hd : decode cc pc = .ok (.iaload, 1)) (hS : S[o]? = some (0, n, rs)) (hin : vp_in i n) (q : Nat) (hq : pc + 1 = q) (kk : z_X l K E S d nL P q lv (.int (σ o i.toNatClampNeg) :: st) σ) : z_X l K E S d nL P pc lv (.int i :: .ref (z_ad E o) :: st) σ := by
  subst hq
  exact fun H locs ls hP hSS hl => va_iald (D := E.1) F.1 F.2.1 F.2.2.2.2.2.2.2.1 hP o 0 (z_ws_at hS) rfl hin hd (kk H locs ls hP hSS hl)
theorem z_iast (F : z_F K E S own cc nL ret) {o n : Nat} {rs : List (Option Nat)} {i x : Int32} (hd : decode cc pc = .ok (.iastore, 1)) (hS : S[o]? = some (0, n, rs)) (hin : vp_in i n) (q : Nat) (hq : pc + 1 = q) (kk : z_X l K E S d nL P q lv st (z_u2 σ o i.toNatClampNeg x)) : z_X l K E S d nL P pc lv (.int x :: .int i :: .ref (z_ad E o) :: st) σ := by
  subst hq
  intro H locs ls hP hSS hl
  have hset : (z_ws E S σ).set o (z_ad E o, .inl (E.2.1, n, .inl (upd (σ o) i.toNatClampNeg x))) = z_ws E S (z_u2 σ o i.toNatClampNeg x) := z_ws_set hS (upd (σ o) i.toNatClampNeg x)
  exact va_iast (D := E.1) F.1 F.2.1 F.2.2.2.2.2.2.2.1 hP (z_D F.2.2.2.2.2.2.2.2.1) hSS o 0 (z_ws_at hS) rfl hin hd (fun H1 locs1 hP1 _ hS1 => kk H1 locs1 ls (hset ▸ hP1) hS1 hl)
theorem z_aaldT (F : z_F K E S own cc nL ret) {o n r : Nat} {rs : List (Option Nat)} {i : Int32} (hd : decode cc pc = .ok (.aaload, 1)) (hS : S[o]? = some (1, n, rs)) (hin : vp_in i n) (hr : rs[i.toNatClampNeg]? = some (some r)) (q : Nat) (hq : pc + 1 = q) (kk : z_X l K E S d nL P q lv (.ref (z_ad E r) :: st) σ) : z_X l K E S d nL P pc lv (.int i :: .ref (z_ad E o) :: st) σ := by
  subst hq
  have e : va_rf (z_ra (z_ad E) rs i.toNatClampNeg) = .ref (z_ad E r) := by unfold z_ra; rw [hr]; rfl
  exact fun H locs ls hP hSS hl => va_aldq (D := E.1) F.1 F.2.1 F.2.2.2.2.2.2.2.1 hP o 1 (z_ws_at hS) rfl hin hd (by rw [e]; exact kk H locs ls hP hSS hl)
theorem z_aaldS (F : z_F K E S own cc nL ret) {o n r : Nat} {rs : List (Option Nat)} {i : Int32} (hd : decode cc pc = .ok (.aaload, 1)) (hS : S[o]? = some (2, n, rs)) (hin : vp_in i n) (hr : rs[i.toNatClampNeg]? = some (some r)) (q : Nat) (hq : pc + 1 = q) (kk : z_X l K E S d nL P q lv (.ref (z_ad E r) :: st) σ) : z_X l K E S d nL P pc lv (.int i :: .ref (z_ad E o) :: st) σ := by
  subst hq
  have e : va_rf (z_ra (z_ad E) rs i.toNatClampNeg) = .ref (z_ad E r) := by unfold z_ra; rw [hr]; rfl
  exact fun H locs ls hP hSS hl => va_aldq (D := E.1) F.1 F.2.1 F.2.2.2.2.2.2.2.1 hP o 2 (z_ws_at hS) rfl hin hd (by rw [e]; exact kk H locs ls hP hSS hl)
theorem z_alen (F : z_F K E S own cc nL ret) {o n : Nat} {rs : List (Option Nat)} (hd : decode cc pc = .ok (.arraylength, 1)) (hS : S[o]? = some (0, n, rs)) (v : Int32) (hv : Int32.ofNat n = v) (q : Nat) (hq : pc + 1 = q) (kk : z_X l K E S d nL P q lv (.int v :: st) σ) : z_X l K E S d nL P pc lv (.ref (z_ad E o) :: st) σ := by
  subst hq
  exact fun H locs ls hP hSS hl => va_alen (D := E.1) F.1 F.2.1 F.2.2.2.2.2.2.2.1 hP o 0 (z_ws_at hS) rfl hv hd (kk H locs ls hP hSS hl)
theorem z_getsA (F : z_F K E S own cc nL ret) {idx : Nat} (hd : decode cc pc = .ok (.getstatic idx, 3)) (hl1 : Cond.fieldLink own idx "VeilSteps$Kinds" "ABOVE" "[I" ∈ z_tbl) (q : Nat) (hq : pc + 3 = q) (kk : z_X l K E S d nL P q lv (.ref (z_ad E 2000) :: st) σ) : z_X l K E S d nL P pc lv st σ := by
  subst hq
  exact fun H locs ls hP hSS hl => va_gets F.1 F.2.1 F.2.2.2.2.2.2.2.2.2.1.1 hSS F.2.2.2.2.2.1 (F.2.2.2.2.2.2.1 _ hl1) (fun _ h => h) hd (kk H locs ls hP hSS hl)
theorem z_getsB (F : z_F K E S own cc nL ret) {idx : Nat} (hd : decode cc pc = .ok (.getstatic idx, 3)) (hl1 : Cond.fieldLink own idx "VeilSteps$Voices" "BODIES" "[I" ∈ z_tbl) (q : Nat) (hq : pc + 3 = q) (kk : z_X l K E S d nL P q lv (.ref (z_ad E 2001) :: st) σ) : z_X l K E S d nL P pc lv st σ := by
  subst hq
  exact fun H locs ls hP hSS hl => va_gets F.1 F.2.1 F.2.2.2.2.2.2.2.2.2.2.1.1 hSS F.2.2.2.2.2.1 (F.2.2.2.2.2.2.1 _ hl1) (fun _ h => h) hd (kk H locs ls hP hSS hl)
theorem z_tabA (F : z_F K E S own cc nL ret) {i : Int32} (hd : decode cc pc = .ok (.iaload, 1)) (hin : vp_in i 7) (q : Nat) (hq : pc + 1 = q) (kk : z_X l K E S d nL P q lv (.int (z_aboveL.getD i.toNatClampNeg 0) :: st) σ) : z_X l K E S d nL P pc lv (.int i :: .ref (z_ad E 2000) :: st) σ := by
  subst hq
  exact fun H locs ls hP hSS hl => va_ti F.1 F.2.1 F.2.2.2.2.2.2.2.2.2.1.2 hSS hin rfl hd (kk H locs ls hP hSS hl)
theorem z_tabB (F : z_F K E S own cc nL ret) {i : Int32} (hd : decode cc pc = .ok (.iaload, 1)) (hin : vp_in i 28) (q : Nat) (hq : pc + 1 = q) (kk : z_X l K E S d nL P q lv (.int (z_bodiesL.getD i.toNatClampNeg 0) :: st) σ) : z_X l K E S d nL P pc lv (.int i :: .ref (z_ad E 2001) :: st) σ := by
  subst hq
  exact fun H locs ls hP hSS hl => va_ti F.1 F.2.1 F.2.2.2.2.2.2.2.2.2.2.1.2 hSS hin rfl hd (kk H locs ls hP hSS hl)
theorem z_tlenA (F : z_F K E S own cc nL ret) (hd : decode cc pc = .ok (.arraylength, 1)) (q : Nat) (hq : pc + 1 = q) (kk : z_X l K E S d nL P q lv (.int 7 :: st) σ) : z_X l K E S d nL P pc lv (.ref (z_ad E 2000) :: st) σ := by
  subst hq
  exact fun H locs ls hP hSS hl => va_tlen F.1 F.2.1 F.2.2.2.2.2.2.2.2.2.1.2 hSS rfl hd (kk H locs ls hP hSS hl)
/-- a callee's world out of the caller's -/
theorem z_start (F : z_F K E S own cc nL ret) {H : Heap} {locs : List Loc} (hP : va_P E.1 vwCl (z_ws E S σ) H) (hSS : va_S (z_A E S) (z_s K).heap H locs) (U : State) (hU : U.heap = H) (hW : (z_s K).WarmedH U.vm) : z_W E S σ U :=
  ⟨by rw [hU]; exact hP, va_K.moved hW.alike F.2.2.2.2.2.2.2.1, F.2.2.2.2.2.2.2.2.1, (F.2.2.2.2.2.2.2.2.2.warm hW).kept (fun a h1 h2 => by rw [hU]; exact hSS.2.1 a h1 h2)⟩
theorem z_blind (av : List Value) : FrameBlind (va_Pc av (z_W E S σ)) := by
  intro a U g mk h
  obtain ⟨h0, h1, h2, h3, h4⟩ := h
  exact ⟨h0, h1, va_K.moved (u := U) (U := U.calling g mk a) (Vm.Alike.refl U.vm) h2, h3, z_Z.same (s := U) (U := U.calling g mk a) rfl h4⟩
theorem z_after {mc ms : Nat} {g : JFrame} {rest : List Value} {H : Heap} {locs : List Loc} {a : Array Value} {P' : Option Value → z_M → Prop} {Q : State → Prop} (hmc : mc = 0) (hms : ms = 0)
    (hr : va_Run (z_p K) l (z_e K) (z_rm d) (z_s K) (z_m K) (z_a K) (z_b K) (z_t K) (z_c K) H locs 0 0 mc ms g rest (z_Q E S P' a) (z_A E S)) (hSS : va_S (z_A E S) (z_s K).heap H locs)
    (kk : ∀ (v : Option Value) (σ' : z_M), P' v σ' → ∀ (H1 : Heap) (locs1 : List Loc), va_P E.1 vwCl (z_ws E S σ') H1 → va_S (z_A E S) (z_s K).heap H1 locs1 → W (z_p K) l (z_e K) (z_rm d) (z_s K) (z_m K) (z_a K) (z_b K) (z_t K) (z_c K) H1 locs1 0 0 Q { g with pc := g.pc + 3, stack := v.toList ++ rest }) :
    W (z_p K) l (z_e K) (z_rm d) (z_s K) (z_m K) (z_a K) (z_b K) (z_t K) (z_c K) H locs 0 0 Q g := by
  subst hmc; subst hms
  intro T hT X
  obtain ⟨v, st₀, t, T', L, h0, X', hL, e1, e2, ⟨⟨v', σ', hv, hp, hP1, -⟩, hz, hk⟩, step⟩ := hr T hT X
  cases hv
  rw [h0] at hz hk
  obtain ⟨t2, a1, b1⟩ := kk v σ' hp T'.heap (locs ++ L) (by rw [e1]; exact hP1)
    ⟨Nat.le_trans hSS.1 (by rw [e1]; exact hz), fun q h1 h2 => by rw [e1, hk q (Nat.lt_of_lt_of_le h1 hSS.1) h2]; exact hSS.2.1 q h1 h2, fun q hq => by
      rcases List.mem_append.mp hq with h | h
      · exact hSS.2.2 q h
      · exact hL q h⟩ T' rfl X'
  exact ⟨t2, step t2 a1, b1⟩
theorem z_callB (F : z_F K E S own cc nL ret) {idx d' maxL ar : Nat} {y : MethodName} {bytes : ByteArray} {ret' : Option FieldType} (hI : z_I y bytes maxL ret' ar) (hl : Cond.methodLink own idx y ∈ z_tbl) (hdd : d' + 1 ≤ d) : CallB (z_rm d) (z_s K) (z_a K) own idx y bytes maxL ret' (.code y bytes maxL ret' :: z_tbl) (z_rm d') 0 0 ar := by
  refine ⟨rfl, rfl, hdd, ?_, z_good F.2.2.2.2.2.2.1 hI.1, List.mem_cons_self, F.2.2.2.2.2.2.1 _ hI.1, F.2.2.2.2.2.2.1 _ hI.2.1, hI.2.2.1, fun sig h => ?_, F.2.2.2.2.2.2.1 _ hl⟩
  · have := hI.2.2.2.2.1
    show 8 + (maxL + 11) + 40 * d' ≤ 40 * d
    omega
  · have h2 := hI.2.2.2.1
    rw [h] at h2
    exact (Option.some.inj h2).symm
/-- a call of an instance method (public, or private in the same class) -/
theorem z_callV (F : z_F K E S own cc nL ret) {idx d' maxL ar o ci n N : Nat} {y : MethodName} {bytes : ByteArray} {ret' : Option FieldType} {As rest : List Value} {P' : Option Value → z_M → Prop} {T : u_T} {rs : List (Option Nat)}
    (hd : decode cc pc = .ok (.invokevirtual idx, 3)) (hl : Cond.methodLink own idx y ∈ z_tbl) (hI : z_I y bytes maxL ret' ar) (hi : Cond.instanceMethod y ∈ z_tbl ∧ Cond.selects y.cls y y ∈ z_tbl) (hn : As.length = ar) (zc : z_Cl ci y.cls T N) (hS : S[o]? = some (ci + 3, n, rs))
    (hC : z_C l E S d' y bytes maxL ret' (.ref (z_ad E o) :: As) σ P') (hst : st = As.reverse ++ .ref (z_ad E o) :: rest) (hdd : d' + 1 ≤ d) (hrest : (rest.map fun v => v.category).sum ≤ 8) (q : Nat) (hq : pc + 3 = q)
    (kk : ∀ (v : Option Value) (σ' : z_M), P' v σ' → z_X l K E S d nL P q lv (v.toList ++ rest) σ') : z_X l K E S d nL P pc lv st σ := by
  subst hq; subst hst
  intro H locs ls hP hSS hl0
  refine z_after (g := F0 (z_m K) pc ls (As.reverse ++ .ref (z_ad E o) :: rest)) rfl rfl (va_runV (As := As) (rest := rest) (C := y.cls) ⟨F.1, F.2.1, F.2.2.1, F.2.2.2.2.2.1, F.2.2.2.2.2.2.1⟩ hC ⟨z_callB F hI hl hdd, F.2.2.2.2.2.2.1 _ hi.1, F.2.2.2.2.2.2.1 _ hi.2⟩ ⟨z_blind _, ?_, fun U hU hW => ⟨rfl, z_start F hP hSS U hU hW⟩⟩ rfl hn hl0.1 rfl (by show 2 * 0 + _ ≤ 8; omega) hd ⟨Nat.zero_le _, Nat.zero_le _⟩) hSS (fun v σ' hv H1 locs1 hP1 hS1 => kk v σ' hv H1 locs1 ls hP1 hS1 hl0)
  exact va_recv F.2.2.2.2.2.2.2.1 hP zc.1 (z_ws_at hS)
theorem z_callS (F : z_F K E S own cc nL ret) {idx d' maxL ar : Nat} {y : MethodName} {bytes : ByteArray} {ret' : Option FieldType} {As rest : List Value} {P' : Option Value → z_M → Prop}
    (hd : decode cc pc = .ok (.invokestatic idx, 3)) (hl : Cond.methodLink own idx y ∈ z_tbl) (hI : z_I y bytes maxL ret' ar) (hi : Cond.static y ∈ z_tbl) (hn : As.length = ar)
    (hC : z_C l E S d' y bytes maxL ret' As σ P') (hst : st = As.reverse ++ rest) (hdd : d' + 1 ≤ d) (hrest : (rest.map fun v => v.category).sum ≤ 8) (q : Nat) (hq : pc + 3 = q)
    (kk : ∀ (v : Option Value) (σ' : z_M), P' v σ' → z_X l K E S d nL P q lv (v.toList ++ rest) σ') : z_X l K E S d nL P pc lv st σ := by
  subst hq; subst hst
  intro H locs ls hP hSS hl0
  exact z_after (g := F0 (z_m K) pc ls (As.reverse ++ rest)) rfl rfl (va_runS (As := As) (rest := rest) ⟨F.1, F.2.1, F.2.2.1, F.2.2.2.2.2.1, F.2.2.2.2.2.2.1⟩ hC ⟨z_callB F hI hl hdd, F.2.2.2.2.2.2.1 _ hi⟩ ⟨z_blind _, fun U hU hW => ⟨rfl, z_start F hP hSS U hU hW⟩⟩ rfl hn hl0.1 rfl (by show 2 * 0 + _ ≤ 8; omega) hd ⟨Nat.zero_le _, Nat.zero_le _⟩) hSS (fun v σ' hv H1 locs1 hP1 hS1 => kk v σ' hv H1 locs1 ls hP1 hS1 hl0)
/-- a call of a nest mate's private static method -/
theorem z_callSN (F : z_F K E S own cc nL ret) {idx d' maxL ar : Nat} {y : MethodName} {host : String} {bytes : ByteArray} {ret' : Option FieldType} {As rest : List Value} {P' : Option Value → z_M → Prop}
    (hd : decode cc pc = .ok (.invokestatic idx, 3)) (hl : Cond.methodLinkNest own idx y host ∈ z_tbl) (hI : z_I y bytes maxL ret' ar) (hi : Cond.static y ∈ z_tbl) (hn : As.length = ar)
    (hC : z_C l E S d' y bytes maxL ret' As σ P') (hst : st = As.reverse ++ rest) (hdd : d' + 1 ≤ d) (hrest : (rest.map fun v => v.category).sum ≤ 8) (q : Nat) (hq : pc + 3 = q)
    (kk : ∀ (v : Option Value) (σ' : z_M), P' v σ' → z_X l K E S d nL P q lv (v.toList ++ rest) σ') : z_X l K E S d nL P pc lv st σ := by
  subst hq; subst hst
  intro H locs ls hP hSS hl0
  have hB : va_CN (z_rm d) (z_s K) (z_a K) own idx y host bytes maxL ret' (.code y bytes maxL ret' :: z_tbl) (z_rm d') 0 0 ar := by
    refine ⟨⟨rfl, rfl, hdd, ?_, z_good F.2.2.2.2.2.2.1 hI.1, List.mem_cons_self⟩, F.2.2.2.2.2.2.1 _ hI.1, F.2.2.2.2.2.2.1 _ hI.2.1, hI.2.2.1, fun sig h => ?_, F.2.2.2.2.2.2.1 _ hl⟩
    · have := hI.2.2.2.2.1
      show 8 + (maxL + 11) + 40 * d' ≤ 40 * d
      omega
    · have h2 := hI.2.2.2.1
      rw [h] at h2
      exact (Option.some.inj h2).symm
  exact z_after (g := F0 (z_m K) pc ls (As.reverse ++ rest)) rfl rfl (va_runSN (As := As) (rest := rest) ⟨F.1, F.2.1, F.2.2.1, F.2.2.2.2.2.1, F.2.2.2.2.2.2.1⟩ hC ⟨hB, F.2.2.2.2.2.2.1 _ hi, trivial⟩ ⟨z_blind _, fun U hU hW => ⟨rfl, z_start F hP hSS U hU hW⟩⟩ rfl hn hl0.1 rfl (by show 2 * 0 + _ ≤ 8; omega) hd ⟨Nat.zero_le _, Nat.zero_le _⟩) hSS (fun v σ' hv H1 locs1 hP1 hS1 => kk v σ' hv H1 locs1 ls hP1 hS1 hl0)
theorem z_min (F : z_F K E S own cc nL ret) {idx : Nat} {x y : Int32} (hd : decode cc pc = .ok (.invokestatic idx, 3)) (hl : Cond.methodLink own idx Lib.Math.min.name ∈ z_tbl) (hs : Cond.static Lib.Math.min.name ∈ z_tbl) (hini : Cond.initialized "java/lang/Math" ∈ z_tbl) (hco : Cond.code Lib.Math.min.name Lib.Math.min.code 2 (some .int) ∈ z_tbl) (hdd : 1 ≤ d) (hrest : (st.map fun v => v.category).sum ≤ 8) (q : Nat) (hq : pc + 3 = q)
    (kk : z_X l K E S d nL P q lv (.int (if y < x then y else x) :: st) σ) : z_X l K E S d nL P pc lv (.int y :: .int x :: st) σ := by
  subst hq
  exact fun H locs ls hP hSS h0 => va_mmin F.1 F.2.1 (F.2.2.1.trans h0.1.symm) F.2.2.2.2.2.1 (F.2.2.2.2.2.2.1 _ hl) (F.2.2.2.2.2.2.1 _ hs) (F.2.2.2.2.2.2.1 _ hini) (F.2.2.2.2.2.2.1 _ hco) hdd (by show _ ≤ 40 * d; omega) (Nat.zero_le _) (Nat.zero_le _) hd (kk H locs ls hP hSS h0)
theorem z_max (F : z_F K E S own cc nL ret) {idx : Nat} {x y : Int32} (hd : decode cc pc = .ok (.invokestatic idx, 3)) (hl : Cond.methodLink own idx Lib.Math.max.name ∈ z_tbl) (hs : Cond.static Lib.Math.max.name ∈ z_tbl) (hini : Cond.initialized "java/lang/Math" ∈ z_tbl) (hco : Cond.code Lib.Math.max.name Lib.Math.max.code 2 (some .int) ∈ z_tbl) (hdd : 1 ≤ d) (hrest : (st.map fun v => v.category).sum ≤ 8) (q : Nat) (hq : pc + 3 = q)
    (kk : z_X l K E S d nL P q lv (.int (if x < y then y else x) :: st) σ) : z_X l K E S d nL P pc lv (.int y :: .int x :: st) σ := by
  subst hq
  exact fun H locs ls hP hSS h0 => va_mmax F.1 F.2.1 (F.2.2.1.trans h0.1.symm) F.2.2.2.2.2.1 (F.2.2.2.2.2.2.1 _ hl) (F.2.2.2.2.2.2.1 _ hs) (F.2.2.2.2.2.2.1 _ hini) (F.2.2.2.2.2.2.1 _ hco) hdd (by show _ ≤ 40 * d; omega) (Nat.zero_le _) (Nat.zero_le _) hd (kk H locs ls hP hSS h0)
theorem z_copyi (F : z_F K E S own cc nL ret) {idx o o2 n n2 : Nat} {rs rs2 : List (Option Nat)} {sp dp m : Int32} (hd : decode cc pc = .ok (.invokestatic idx, 3)) (hl : Cond.methodLink own idx arraycopyName ∈ z_tbl) (hna : Cond.native arraycopyName ∈ z_tbl) (hs : Cond.static arraycopyName ∈ z_tbl) (hini : Cond.initialized "java/lang/System" ∈ z_tbl) (hS : S[o]? = some (0, n, rs)) (hS2 : S[o2]? = some (0, n2, rs2)) (h1 : ¬ sp < 0) (h2 : ¬ dp < 0) (h3 : ¬ m < 0) (h4 : sp.toNatClampNeg + m.toNatClampNeg ≤ n) (h5 : dp.toNatClampNeg + m.toNatClampNeg ≤ n2) (hdd : 2 ≤ d) (hrest : (st.map fun v => v.category).sum ≤ 8) (q : Nat) (hq : pc + 3 = q)
    (kk : z_X l K E S d nL P q lv st (z_up σ o2 (va_cpy (σ o) (σ o2) sp.toNatClampNeg dp.toNatClampNeg m.toNatClampNeg))) : z_X l K E S d nL P pc lv (.int m :: .int dp :: .ref (z_ad E o2) :: .int sp :: .ref (z_ad E o) :: st) σ := by
  subst hq
  intro H locs ls hP hSS h0
  have hset : (z_ws E S σ).set o2 (z_ad E o2, .inl (E.2.1, n2, .inl (va_cpy (σ o) (σ o2) sp.toNatClampNeg dp.toNatClampNeg m.toNatClampNeg))) = z_ws E S (z_up σ o2 (va_cpy (σ o) (σ o2) sp.toNatClampNeg dp.toNatClampNeg m.toNatClampNeg)) := z_ws_set hS2 _
  have hw : nativeFrameWords "java/lang/System" "arraycopy" 5 + 11 ≤ 60 := by decide +kernel
  exact va_copyi (D := E.1) F.1 F.2.1 (F.2.2.1.trans h0.1.symm) F.2.2.2.2.2.1 (F.2.2.2.2.2.2.1 _ hl) (F.2.2.2.2.2.2.1 _ hna) (F.2.2.2.2.2.2.1 _ hs) (F.2.2.2.2.2.2.1 _ hini) F.2.2.2.2.2.2.2.1 hP (z_D F.2.2.2.2.2.2.2.2.1) hSS o o2 0 0 (z_ws_at hS) (z_ws_at hS2) rfl rfl rfl h1 h2 h3 h4 h5 (fun i _ => rfl) (by show 1 ≤ d; omega) (by show _ ≤ 40 * d; omega) hd (fun H1 locs1 hP1 _ hS1 => kk H1 locs1 ls (hset ▸ hP1) hS1 h0)
end ZM
