/-! THE FIXED WORLD: all cells of a side (class or reference) at once, a shape that never changes, and one memory of ints -/
section ZF
/-- a shape: kind (0 an int array, 1 an array of Text, 2 of Sheet, c + 3 an object of class c), size, what is a reference (999: a String constant by its number) -/
abbrev z_Sh : Type := List (Nat × Nat × List (Option Nat))
abbrev z_M : Type := Nat → Nat → Int32
abbrev z_E : Type := va_G × ClassId × ClassId × ClassId × (Nat → Nat)
abbrev z_ad (E : z_E) : Nat → Nat := E.2.2.2.2
def z_fv (ad : Nat → Nat) (f : Nat → Int32) (rs : List (Option Nat)) (k : Nat) : Value := match rs[k]? with
  | some (some r) => if r = 999 then .ref (ad (1000 + (f k).toNatClampNeg)) else .ref (ad r)
  | _ => .int (f k)
def z_ra (ad : Nat → Nat) (rs : List (Option Nat)) (j : Nat) : Option Nat := match rs[j]? with
  | some (some r) => some (ad r)
  | _ => none
def z_cell (E : z_E) (f : Nat → Int32) (x : Nat × Nat × List (Option Nat)) : va_E := match x.1 with
  | 0 => .inl (E.2.1, x.2.1, .inl f)
  | 1 => .inl (E.2.2.1, x.2.1, .inr (.inr (.inr (.inr (z_ra (z_ad E) x.2.2)))))
  | 2 => .inl (E.2.2.2.1, x.2.1, .inr (.inr (.inr (.inr (z_ra (z_ad E) x.2.2)))))
  | ci + 3 => .inr (ci, (List.range x.2.1).map (z_fv (z_ad E) f x.2.2))
def z_ws (E : z_E) (S : z_Sh) (σ : z_M) : va_W := (List.range S.length).map (fun o => (z_ad E o, z_cell E (σ o) (S.getD o (0, 0, []))))
def z_up (σ : z_M) (o : Nat) (f : Nat → Int32) : z_M := fun q => if q = o then f else σ q
def z_u2 (σ : z_M) (o k : Nat) (v : Int32) : z_M := z_up σ o (upd (σ o) k v)
theorem z_lt {S : z_Sh} {o : Nat} {x : Nat × Nat × List (Option Nat)} (h : S[o]? = some x) : o < S.length := (List.getElem?_eq_some_iff.mp h).1
theorem z_ws_at {E : z_E} {S : z_Sh} {σ : z_M} {o : Nat} {x : Nat × Nat × List (Option Nat)} (h : S[o]? = some x) : (z_ws E S σ)[o]? = some (z_ad E o, z_cell E (σ o) x) := by
  have hg : S.getD o (0, 0, []) = x := by rw [List.getD_eq_getElem?_getD, h]; rfl
  rw [z_ws, List.getElem?_map, List.getElem?_range (z_lt h)]
  show some (z_ad E o, z_cell E (σ o) (S.getD o (0, 0, []))) = _
  rw [hg]
theorem z_ws_len {E : z_E} {S : z_Sh} {σ : z_M} : (z_ws E S σ).length = S.length := by simp [z_ws]
theorem z_ws_set {E : z_E} {S : z_Sh} {σ : z_M} {o : Nat} {x : Nat × Nat × List (Option Nat)} (h : S[o]? = some x) (f : Nat → Int32) : (z_ws E S σ).set o (z_ad E o, z_cell E f x) = z_ws E S (z_up σ o f) := by
  apply List.ext_getElem?
  intro i
  by_cases hi : i < S.length
  · have hx : ∃ y, S[i]? = some y := ⟨S[i], List.getElem?_eq_some_iff.mpr ⟨hi, rfl⟩⟩
    obtain ⟨y, hy⟩ := hx
    rw [z_ws_at (σ := z_up σ o f) hy]
    by_cases hio : i = o
    · subst hio
      cases hy.symm.trans h
      rw [List.getElem?_set_self (by rw [z_ws_len]; exact hi)]
      simp [z_up]
    · rw [List.getElem?_set_ne (Ne.symm hio), z_ws_at hy]
      simp [z_up, hio]
  · rw [List.getElem?_eq_none_iff.mpr (by rw [List.length_set, z_ws_len]; omega), List.getElem?_eq_none_iff.mpr (by rw [z_ws_len]; omega)]
theorem z_fv_upd {ad : Nat → Nat} {f : Nat → Int32} {rs : List (Option Nat)} {n k : Nat} {v : Int32} {w : Value} (hr : ∀ r, rs[k]? ≠ some (some r) ∨ r = 999) (hw : z_fv ad (upd f k v) rs k = w) : ((List.range n).map (z_fv ad f rs)).set k w = (List.range n).map (z_fv ad (upd f k v) rs) := by
  apply List.ext_getElem?
  intro i
  by_cases hi : i < n
  · by_cases hik : i = k
    · subst hik
      rw [List.getElem?_set_self (by simpa using hi), List.getElem?_map, List.getElem?_range hi]
      exact congrArg some hw.symm
    · rw [List.getElem?_set_ne (Ne.symm hik), List.getElem?_map, List.getElem?_map, List.getElem?_range hi]
      show some (z_fv ad f rs i) = some (z_fv ad (upd f k v) rs i)
      have e : upd f k v i = f i := by simp [upd, hik]
      unfold z_fv
      rw [e]
  · rw [List.getElem?_eq_none_iff.mpr (by simp; omega), List.getElem?_eq_none_iff.mpr (by simp; omega)]
def z_inj (E : z_E) (S : z_Sh) : Prop := ∀ i j : Nat, i < S.length → j < S.length → z_ad E i = z_ad E j → i = j
def z_A (E : z_E) (S : z_Sh) : Nat → Prop := fun q => ∃ o, o < S.length ∧ q = z_ad E o
theorem z_D {E : z_E} {S : z_Sh} {σ : z_M} (h : z_inj E S) : va_D (z_A E S) (z_ws E S σ) := by
  have key : ∀ (k : Nat) (q : Nat × va_E), (z_ws E S σ)[k]? = some q → k < S.length ∧ q.1 = z_ad E k := by
    intro k q hq
    have hk : k < S.length := by have := (List.getElem?_eq_some_iff.mp hq).1; rwa [z_ws_len] at this
    obtain ⟨y, hy⟩ : ∃ y, S[k]? = some y := ⟨S[k], List.getElem?_eq_some_iff.mpr ⟨hk, rfl⟩⟩
    rw [z_ws_at hy] at hq
    cases hq
    exact ⟨hk, rfl⟩
  refine ⟨fun i j p q hp hq e => ?_, fun k q hq => ⟨k, key k q hq⟩⟩
  obtain ⟨h1, h2⟩ := key i p hp
  obtain ⟨h3, h4⟩ := key j q hq
  exact h i j h1 h3 (by rw [← h2, ← h4, e])
abbrev z_tys (E : z_E) : List (ClassId × FieldType) := [(E.2.1, .int), (E.2.2.1, .object RX6), (E.2.2.2.1, .object RX5)]
def z_aboveL : List Int32 := [-1, 0, 0, 0, 1, 2, 0]
def z_bodiesL : List Int32 := [10, 11, 12, 13, 20, 0, 0, 21, 0, 30, 0, 0, 0, 0, 40, 0, 50, 0, 51, 0, 0, 60, 0, 0, 70, 71, 0, 0]
def z_lenL : List Nat := [3, 3]
def z_bytL : List (List Int32) := [[118, 115, 121], [101, 121, 99]]
/-- what is static and never written -/
def z_Z (A : Nat → Prop) (E : z_E) (U : State) (H : Heap) : Prop :=
  (va_Z "VeilSteps$Kinds" "ABOVE" "[I" (.ref (z_ad E 2000)) A U H ∧ va_T .int (z_ad E 2000) 7 (fun j => .int (z_aboveL.getD j 0)) A U H) ∧
  (va_Z "VeilSteps$Voices" "BODIES" "[I" (.ref (z_ad E 2001)) A U H ∧ va_T .int (z_ad E 2001) 28 (fun j => .int (z_bodiesL.getD j 0)) A U H) ∧
  va_Z "java/lang/String" "COMPACT_STRINGS" "Z" (.int 1) A U H ∧
  vk_S 2 z_lenL z_bytL (fun i => z_ad E (1000 + i)) (fun i => z_ad E (1010 + i)) A U H ∧
  vk_R RX3 23 "vsy" (z_ad E 1000) U ∧ vk_R RX3 33 "eyc" (z_ad E 1001) U
theorem z_Z.kept {A : Nat → Prop} {E : z_E} {U : State} {H H1 : Heap} (h : z_Z A E U H) (hq : ∀ a : Nat, a < H.size → ¬ A a → H1[a]? = H[a]?) : z_Z A E U H1 :=
  ⟨⟨h.1.1.kept hq, h.1.2.kept hq⟩, ⟨h.2.1.1.kept hq, h.2.1.2.kept hq⟩, h.2.2.1.kept hq, h.2.2.2.1.kept hq, h.2.2.2.2⟩
theorem z_Z.warm {A : Nat → Prop} {E : z_E} {s U : State} {H : Heap} (hW : s.WarmedH U.vm) (h : z_Z A E s H) : z_Z A E U H :=
  ⟨⟨va_Z.moved hW.alike h.1.1, va_T.moved hW.alike h.1.2⟩, ⟨va_Z.moved hW.alike h.2.1.1, va_T.moved hW.alike h.2.1.2⟩, va_Z.moved hW.alike h.2.2.1, vk_S.moved hW.alike h.2.2.2.1, h.2.2.2.2.1.warm hW, h.2.2.2.2.2.warm hW⟩
theorem z_Z.same {A : Nat → Prop} {E : z_E} {s U : State} {H : Heap} (hv : U.vm = s.vm) (h : z_Z A E s H) : z_Z A E U H := by
  have ha : s.vm.Alike U.vm := by rw [hv]; exact Vm.Alike.refl _
  exact ⟨⟨va_Z.moved ha h.1.1, va_T.moved ha h.1.2⟩, ⟨va_Z.moved ha h.2.1.1, va_T.moved ha h.2.1.2⟩, va_Z.moved ha h.2.2.1, vk_S.moved ha h.2.2.2.1, vk_R.same hv h.2.2.2.2.1, vk_R.same hv h.2.2.2.2.2⟩
/-- a side's world in a state -/
def z_W (E : z_E) (S : z_Sh) (σ : z_M) (U : State) : Prop := va_P E.1 vwCl (z_ws E S σ) U.heap ∧ va_K E.1 vwCl (z_tys E) U ∧ z_inj E S ∧ z_Z (z_A E S) E U U.heap
abbrev z_rm (d : Nat) : Room := { frames := d, cells := 0, slots := 0, locals := 40 * d }
def z_Q (E : z_E) (S : z_Sh) (P : Option Value → z_M → Prop) : Array Value → State → Outcome → State → Prop := fun _ st oc t =>
  (∃ (v : Option Value) (σ' : z_M), oc = .returned v ∧ P v σ' ∧ va_P E.1 vwCl (z_ws E S σ') t.heap ∧ va_K E.1 vwCl (z_tys E) t) ∧ va_F (z_A E S) st t
/-- a contract -/
def z_C (l : Launch) (E : z_E) (S : z_Sh) (d : Nat) (y : MethodName) (cc : ByteArray) (n : Nat) (ret : Option FieldType) (av : List Value) (σ : z_M) (P : Option Value → z_M → Prop) : Prop :=
  Met l y (.code y cc n ret :: z_tbl) (z_rm d) (va_Pc av (z_W E S σ)) (z_Q E S P) 0 0 (z_A E S)
abbrev z_K : Type := Program × Env × State × MethodId × Array Value × List Frame × Method × Code
abbrev z_p (K : z_K) : Program := K.1
abbrev z_e (K : z_K) : Env := K.2.1
abbrev z_s (K : z_K) : State := K.2.2.1
abbrev z_m (K : z_K) : MethodId := K.2.2.2.1
abbrev z_a (K : z_K) : Array Value := K.2.2.2.2.1
abbrev z_b (K : z_K) : List Frame := K.2.2.2.2.2.1
abbrev z_t (K : z_K) : Method := K.2.2.2.2.2.2.1
abbrev z_c (K : z_K) : Code := K.2.2.2.2.2.2.2
/-- what stays through a method's body -/
def z_F (K : z_K) (E : z_E) (S : z_Sh) (own : String) (cc : ByteArray) (nL : Nat) (ret : Option FieldType) : Prop :=
  (z_p K).tables.exec = Jvm.exec ∧ (z_c K).code = cc ∧ (z_c K).maxLocals = nL ∧ (z_t K).sig.returnType = ret ∧ (z_t K).locks = false ∧ (z_s K).vm.findClass own = some (z_m K).cls ∧
  (∀ w ∈ z_tbl, w.before (z_a K) (z_s K) = true) ∧ va_K E.1 vwCl (z_tys E) (z_s K) ∧ z_inj E S ∧ z_Z (z_A E S) E (z_s K) (z_s K).heap
/-- the machine at an instruction comes to the method's end with P -/
def z_X (l : Launch) (K : z_K) (E : z_E) (S : z_Sh) (d nL : Nat) (P : Option Value → z_M → Prop) (pc : Nat) (lv : List (Nat × Value)) (st : List Value) (σ : z_M) : Prop :=
  ∀ (H : Heap) (locs : List Loc) (ls : Array Slot), va_P E.1 vwCl (z_ws E S σ) H → va_S (z_A E S) (z_s K).heap H locs → lv_has ls nL lv →
    W (z_p K) l (z_e K) (z_rm d) (z_s K) (z_m K) (z_a K) (z_b K) (z_t K) (z_c K) H locs 0 0 (MQ (z_b K) (z_Q E S P) (z_a K) (z_s K) 0 0 (z_A E S)) (F0 (z_m K) pc ls st)
def z_I (y : MethodName) (cc : ByteArray) (n : Nat) (ret : Option FieldType) (ar : Nat) : Prop :=
  Cond.code y cc n ret ∈ z_tbl ∧ Cond.initialized y.cls ∈ z_tbl ∧ (y.cls ≠ "java/lang/invoke/MethodHandle" ∧ y.cls ≠ "java/lang/invoke/VarHandle") ∧ (parseMethodDescriptor y.desc).map (fun d => d.parameters.length) = some ar ∧ n ≤ 21 ∧ plainFor y = true
theorem z_good {s : State} {args : Array Value} (h : ∀ w ∈ z_tbl, w.before args s = true) {y : MethodName} {cc : ByteArray} {n : Nat} {ret : Option FieldType} (hc : Cond.code y cc n ret ∈ z_tbl) :
    ∀ w ∈ (Cond.code y cc n ret :: z_tbl), ∀ (a' : Array Value) (U : State), s.WarmedH U.vm → w.before a' U = true := by
  intro w hw a' U hW
  have hm : w ∈ z_tbl := by
    rcases List.mem_cons.mp hw with h | h
    · rw [h]; exact hc
    · exact h
  exact z_warm (z_okw hm) hW (h w hm)
theorem z_intro {l : Launch} {E : z_E} {S : z_Sh} {d : Nat} {y : MethodName} {cc : ByteArray} {n : Nat} {ret : Option FieldType} {av : List Value} {σ : z_M} {P : Option Value → z_M → Prop} {ar : Nat} (hI : z_I y cc n ret ar) (hsl : (lg_sl av).length ≤ n)
    (body : ∀ K : z_K, z_F K E S y.cls cc n ret → z_X l K E S d n P 0 (lv_args 0 av) [] σ) : z_C l E S d y cc n ret av σ P := by
  refine va_MetF (cc := cc) (maxL := n) (ret := ret) hI.2.2.2.2.2 rfl ?_
  intro p e s m args below meth c s₁ B hml hv
  obtain ⟨rfl, hP, hK, hi, hZ⟩ := hv
  have hts := atoms_spec (ws := (.code y cc n ret :: z_tbl)) B.pre
  have F : z_F (p, e, s, m, av.toArray, below, meth, c) E S y.cls cc n ret :=
    ⟨B.exec, B.bytes, hml, B.returns, B.notSynchronized, findClass_of_methodNamed B.named, fun w hw => hts w (List.mem_cons_of_mem _ hw), hK, hi, hZ⟩
  have hl := lv_entry av (n := n) hsl
  rw [lg_entry_eq]
  generalize (lg_sl av ++ List.replicate (n - (lg_sl av).length) Slot.unset).toArray = ls at hl ⊢
  exact body _ F s.heap [] ls hP va_S.rf hl
end ZF
