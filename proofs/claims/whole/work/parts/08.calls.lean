/-! contracts by their answers: p (an int, nothing changes), u (nothing, the memory becomes G), x (an int and G), i, v (by a relation) -/
section ZC
def bI (p : Prop) [Decidable p] : Int32 := if p then 1 else 0
theorem bI_t {p : Prop} [Decidable p] (h : p) : bI p = 1 := if_pos h
theorem bI_f {p : Prop} [Decidable p] (h : ¬ p) : bI p = 0 := if_neg h
theorem bI0 {p : Prop} [Decidable p] : bI p = 0 ↔ ¬ p := by
  unfold bI; by_cases h : p
  · simp [h]
  · simp [h]
theorem bI1 {p : Prop} [Decidable p] : ¬ bI p = 0 ↔ p := by rw [bI0, Decidable.not_not]
theorem bIn {p : Prop} [Decidable p] : narrow .boolean (.int (bI p)) = .int (bI p) := by
  unfold bI; by_cases h : p
  · rw [if_pos h]; rfl
  · rw [if_neg h]; rfl
theorem bI_c {p q : Prop} [Decidable p] [Decidable q] (h : p ↔ q) : bI p = bI q := by
  unfold bI; by_cases hp : p
  · rw [if_pos hp, if_pos (h.mp hp)]
  · rw [if_neg hp, if_neg (fun hq => hp (h.mpr hq))]
theorem z_pI : parseFieldDescriptor "I" = some .int := by decide +kernel
theorem z_pZ : parseFieldDescriptor "Z" = some .boolean := by decide +kernel
theorem z_pS : parseFieldDescriptor "Ljava/lang/String;" = some (.object "java/lang/String") := by decide +kernel
variable {l : Launch} {K : z_K} {E : z_E} {S : z_Sh} {d nL : Nat} {P : Option Value → z_M → Prop} {own : String} {cc : ByteArray} {ret : Option FieldType} {pc : Nat} {lv : List (Nat × Value)} {st : List Value} {σ : z_M}
abbrev z_Pp (R : Int32) (σ : z_M) : Option Value → z_M → Prop := fun v σ' => v = some (.int R) ∧ σ' = σ
abbrev z_Pu (G : z_M) : Option Value → z_M → Prop := fun v σ' => v = none ∧ σ' = G
abbrev z_Pi (Pi : Int32 → z_M → Prop) : Option Value → z_M → Prop := fun v σ' => ∃ r, v = some (.int r) ∧ Pi r σ'
abbrev z_Pv (Pv : z_M → Prop) : Option Value → z_M → Prop := fun v σ' => v = none ∧ Pv σ'
theorem z_rp (F : z_F K E S own cc nL (some .int)) {x R : Int32} {G : z_M} (hd : decode cc pc = .ok (.ireturn, 1)) (h : x = R) (h2 : σ = G) : z_X l K E S d nL (z_Pp R G) pc lv [.int x] σ := z_ireturn F hd ⟨by rw [h], h2⟩
theorem z_rpz (F : z_F K E S own cc nL (some .boolean)) {x R : Int32} {G : z_M} (hd : decode cc pc = .ok (.ireturn, 1)) (hn : narrow .boolean (.int x) = .int x) (h : x = R) (h2 : σ = G) : z_X l K E S d nL (z_Pp R G) pc lv [.int x] σ := z_zreturn F hd hn ⟨by rw [h], h2⟩
theorem z_ru (F : z_F K E S own cc nL none) {G : z_M} (hd : decode cc pc = .ok (.return_, 1)) (h2 : σ = G) : z_X l K E S d nL (z_Pu G) pc lv [] σ := z_vreturn F hd ⟨rfl, h2⟩
theorem z_ri (F : z_F K E S own cc nL (some .int)) {x : Int32} {Pi : Int32 → z_M → Prop} (hd : decode cc pc = .ok (.ireturn, 1)) (h : Pi x σ) : z_X l K E S d nL (z_Pi Pi) pc lv [.int x] σ := z_ireturn F hd ⟨x, rfl, h⟩
theorem z_riz (F : z_F K E S own cc nL (some .boolean)) {x : Int32} {Pi : Int32 → z_M → Prop} (hd : decode cc pc = .ok (.ireturn, 1)) (hn : narrow .boolean (.int x) = .int x) (h : Pi x σ) : z_X l K E S d nL (z_Pi Pi) pc lv [.int x] σ := z_zreturn F hd hn ⟨x, rfl, h⟩
theorem z_rv (F : z_F K E S own cc nL none) {Pv : z_M → Prop} (hd : decode cc pc = .ok (.return_, 1)) (h : Pv σ) : z_X l K E S d nL (z_Pv Pv) pc lv [] σ := z_vreturn F hd ⟨rfl, h⟩

theorem z_callVp (F : z_F K E S own cc nL ret) {idx d' maxL ar o ci n N : Nat} {y : MethodName} {bytes : ByteArray} {ret' : Option FieldType} {As rest : List Value} {T : u_T} {rs : List (Option Nat)} {R : Int32} {G : z_M}
    (hd : decode cc pc = .ok (.invokevirtual idx, 3)) (hl : Cond.methodLink own idx y ∈ z_tbl) (hI : z_I y bytes maxL ret' ar) (hi : Cond.instanceMethod y ∈ z_tbl ∧ Cond.selects y.cls y y ∈ z_tbl) (hn : As.length = ar) (zc : z_Cl ci y.cls T N) (hS : S[o]? = some (ci + 3, n, rs))
    (hC : z_C l E S d' y bytes maxL ret' (.ref (z_ad E o) :: As) σ (z_Pp R G)) (hst : st = As.reverse ++ .ref (z_ad E o) :: rest) (hdd : d' + 1 ≤ d) (hrest : (rest.map fun v => v.category).sum ≤ 8) (q : Nat) (hq : pc + 3 = q)
    (kk : z_X l K E S d nL P q lv (.int R :: rest) G) : z_X l K E S d nL P pc lv st σ :=
  z_callV F hd hl hI hi hn zc hS hC hst hdd hrest q hq (fun v σ' h => by obtain ⟨rfl, rfl⟩ := h; exact kk)

theorem z_callSp (F : z_F K E S own cc nL ret) {idx d' maxL ar : Nat} {y : MethodName} {bytes : ByteArray} {ret' : Option FieldType} {As rest : List Value} {R : Int32} {G : z_M}
    (hd : decode cc pc = .ok (.invokestatic idx, 3)) (hl : Cond.methodLink own idx y ∈ z_tbl) (hI : z_I y bytes maxL ret' ar) (hi : Cond.static y ∈ z_tbl) (hn : As.length = ar)
    (hC : z_C l E S d' y bytes maxL ret' As σ (z_Pp R G)) (hst : st = As.reverse ++ rest) (hdd : d' + 1 ≤ d) (hrest : (rest.map fun v => v.category).sum ≤ 8) (q : Nat) (hq : pc + 3 = q)
    (kk : z_X l K E S d nL P q lv (.int R :: rest) G) : z_X l K E S d nL P pc lv st σ :=
  z_callS F hd hl hI hi hn hC hst hdd hrest q hq (fun v σ' h => by obtain ⟨rfl, rfl⟩ := h; exact kk)

theorem z_callSNp (F : z_F K E S own cc nL ret) {idx d' maxL ar : Nat} {y : MethodName} {bytes : ByteArray} {ret' : Option FieldType} {As rest : List Value} {R : Int32} {G : z_M}
    (hd : decode cc pc = .ok (.invokestatic idx, 3)) {host : String} (hl : Cond.methodLinkNest own idx y host ∈ z_tbl) (hI : z_I y bytes maxL ret' ar) (hi : Cond.static y ∈ z_tbl) (hn : As.length = ar)
    (hC : z_C l E S d' y bytes maxL ret' As σ (z_Pp R G)) (hst : st = As.reverse ++ rest) (hdd : d' + 1 ≤ d) (hrest : (rest.map fun v => v.category).sum ≤ 8) (q : Nat) (hq : pc + 3 = q)
    (kk : z_X l K E S d nL P q lv (.int R :: rest) G) : z_X l K E S d nL P pc lv st σ :=
  z_callSN F hd hl hI hi hn hC hst hdd hrest q hq (fun v σ' h => by obtain ⟨rfl, rfl⟩ := h; exact kk)

theorem z_callVu (F : z_F K E S own cc nL ret) {idx d' maxL ar o ci n N : Nat} {y : MethodName} {bytes : ByteArray} {ret' : Option FieldType} {As rest : List Value} {T : u_T} {rs : List (Option Nat)} {G : z_M}
    (hd : decode cc pc = .ok (.invokevirtual idx, 3)) (hl : Cond.methodLink own idx y ∈ z_tbl) (hI : z_I y bytes maxL ret' ar) (hi : Cond.instanceMethod y ∈ z_tbl ∧ Cond.selects y.cls y y ∈ z_tbl) (hn : As.length = ar) (zc : z_Cl ci y.cls T N) (hS : S[o]? = some (ci + 3, n, rs))
    (hC : z_C l E S d' y bytes maxL ret' (.ref (z_ad E o) :: As) σ (z_Pu G)) (hst : st = As.reverse ++ .ref (z_ad E o) :: rest) (hdd : d' + 1 ≤ d) (hrest : (rest.map fun v => v.category).sum ≤ 8) (q : Nat) (hq : pc + 3 = q)
    (kk : z_X l K E S d nL P q lv rest G) : z_X l K E S d nL P pc lv st σ :=
  z_callV F hd hl hI hi hn zc hS hC hst hdd hrest q hq (fun v σ' h => by obtain ⟨rfl, rfl⟩ := h; exact kk)

theorem z_callSu (F : z_F K E S own cc nL ret) {idx d' maxL ar : Nat} {y : MethodName} {bytes : ByteArray} {ret' : Option FieldType} {As rest : List Value} {G : z_M}
    (hd : decode cc pc = .ok (.invokestatic idx, 3)) (hl : Cond.methodLink own idx y ∈ z_tbl) (hI : z_I y bytes maxL ret' ar) (hi : Cond.static y ∈ z_tbl) (hn : As.length = ar)
    (hC : z_C l E S d' y bytes maxL ret' As σ (z_Pu G)) (hst : st = As.reverse ++ rest) (hdd : d' + 1 ≤ d) (hrest : (rest.map fun v => v.category).sum ≤ 8) (q : Nat) (hq : pc + 3 = q)
    (kk : z_X l K E S d nL P q lv rest G) : z_X l K E S d nL P pc lv st σ :=
  z_callS F hd hl hI hi hn hC hst hdd hrest q hq (fun v σ' h => by obtain ⟨rfl, rfl⟩ := h; exact kk)

theorem z_callSNu (F : z_F K E S own cc nL ret) {idx d' maxL ar : Nat} {y : MethodName} {bytes : ByteArray} {ret' : Option FieldType} {As rest : List Value} {G : z_M}
    (hd : decode cc pc = .ok (.invokestatic idx, 3)) {host : String} (hl : Cond.methodLinkNest own idx y host ∈ z_tbl) (hI : z_I y bytes maxL ret' ar) (hi : Cond.static y ∈ z_tbl) (hn : As.length = ar)
    (hC : z_C l E S d' y bytes maxL ret' As σ (z_Pu G)) (hst : st = As.reverse ++ rest) (hdd : d' + 1 ≤ d) (hrest : (rest.map fun v => v.category).sum ≤ 8) (q : Nat) (hq : pc + 3 = q)
    (kk : z_X l K E S d nL P q lv rest G) : z_X l K E S d nL P pc lv st σ :=
  z_callSN F hd hl hI hi hn hC hst hdd hrest q hq (fun v σ' h => by obtain ⟨rfl, rfl⟩ := h; exact kk)

theorem z_callVi (F : z_F K E S own cc nL ret) {idx d' maxL ar o ci n N : Nat} {y : MethodName} {bytes : ByteArray} {ret' : Option FieldType} {As rest : List Value} {T : u_T} {rs : List (Option Nat)} {Pi : Int32 → z_M → Prop}
    (hd : decode cc pc = .ok (.invokevirtual idx, 3)) (hl : Cond.methodLink own idx y ∈ z_tbl) (hI : z_I y bytes maxL ret' ar) (hi : Cond.instanceMethod y ∈ z_tbl ∧ Cond.selects y.cls y y ∈ z_tbl) (hn : As.length = ar) (zc : z_Cl ci y.cls T N) (hS : S[o]? = some (ci + 3, n, rs))
    (hC : z_C l E S d' y bytes maxL ret' (.ref (z_ad E o) :: As) σ (z_Pi Pi)) (hst : st = As.reverse ++ .ref (z_ad E o) :: rest) (hdd : d' + 1 ≤ d) (hrest : (rest.map fun v => v.category).sum ≤ 8) (q : Nat) (hq : pc + 3 = q)
    (kk : ∀ (r : Int32) (σ' : z_M), Pi r σ' → z_X l K E S d nL P q lv (.int r :: rest) σ') : z_X l K E S d nL P pc lv st σ :=
  z_callV F hd hl hI hi hn zc hS hC hst hdd hrest q hq (fun v σ' h => by obtain ⟨r, rfl, h⟩ := h; exact kk r σ' h)

theorem z_callSi (F : z_F K E S own cc nL ret) {idx d' maxL ar : Nat} {y : MethodName} {bytes : ByteArray} {ret' : Option FieldType} {As rest : List Value} {Pi : Int32 → z_M → Prop}
    (hd : decode cc pc = .ok (.invokestatic idx, 3)) (hl : Cond.methodLink own idx y ∈ z_tbl) (hI : z_I y bytes maxL ret' ar) (hi : Cond.static y ∈ z_tbl) (hn : As.length = ar)
    (hC : z_C l E S d' y bytes maxL ret' As σ (z_Pi Pi)) (hst : st = As.reverse ++ rest) (hdd : d' + 1 ≤ d) (hrest : (rest.map fun v => v.category).sum ≤ 8) (q : Nat) (hq : pc + 3 = q)
    (kk : ∀ (r : Int32) (σ' : z_M), Pi r σ' → z_X l K E S d nL P q lv (.int r :: rest) σ') : z_X l K E S d nL P pc lv st σ :=
  z_callS F hd hl hI hi hn hC hst hdd hrest q hq (fun v σ' h => by obtain ⟨r, rfl, h⟩ := h; exact kk r σ' h)

theorem z_callSNi (F : z_F K E S own cc nL ret) {idx d' maxL ar : Nat} {y : MethodName} {bytes : ByteArray} {ret' : Option FieldType} {As rest : List Value} {Pi : Int32 → z_M → Prop}
    (hd : decode cc pc = .ok (.invokestatic idx, 3)) {host : String} (hl : Cond.methodLinkNest own idx y host ∈ z_tbl) (hI : z_I y bytes maxL ret' ar) (hi : Cond.static y ∈ z_tbl) (hn : As.length = ar)
    (hC : z_C l E S d' y bytes maxL ret' As σ (z_Pi Pi)) (hst : st = As.reverse ++ rest) (hdd : d' + 1 ≤ d) (hrest : (rest.map fun v => v.category).sum ≤ 8) (q : Nat) (hq : pc + 3 = q)
    (kk : ∀ (r : Int32) (σ' : z_M), Pi r σ' → z_X l K E S d nL P q lv (.int r :: rest) σ') : z_X l K E S d nL P pc lv st σ :=
  z_callSN F hd hl hI hi hn hC hst hdd hrest q hq (fun v σ' h => by obtain ⟨r, rfl, h⟩ := h; exact kk r σ' h)

theorem z_callVv (F : z_F K E S own cc nL ret) {idx d' maxL ar o ci n N : Nat} {y : MethodName} {bytes : ByteArray} {ret' : Option FieldType} {As rest : List Value} {T : u_T} {rs : List (Option Nat)} {Pv : z_M → Prop}
    (hd : decode cc pc = .ok (.invokevirtual idx, 3)) (hl : Cond.methodLink own idx y ∈ z_tbl) (hI : z_I y bytes maxL ret' ar) (hi : Cond.instanceMethod y ∈ z_tbl ∧ Cond.selects y.cls y y ∈ z_tbl) (hn : As.length = ar) (zc : z_Cl ci y.cls T N) (hS : S[o]? = some (ci + 3, n, rs))
    (hC : z_C l E S d' y bytes maxL ret' (.ref (z_ad E o) :: As) σ (z_Pv Pv)) (hst : st = As.reverse ++ .ref (z_ad E o) :: rest) (hdd : d' + 1 ≤ d) (hrest : (rest.map fun v => v.category).sum ≤ 8) (q : Nat) (hq : pc + 3 = q)
    (kk : ∀ (σ' : z_M), Pv σ' → z_X l K E S d nL P q lv rest σ') : z_X l K E S d nL P pc lv st σ :=
  z_callV F hd hl hI hi hn zc hS hC hst hdd hrest q hq (fun v σ' h => by obtain ⟨rfl, h⟩ := h; exact kk σ' h)

theorem z_callSv (F : z_F K E S own cc nL ret) {idx d' maxL ar : Nat} {y : MethodName} {bytes : ByteArray} {ret' : Option FieldType} {As rest : List Value} {Pv : z_M → Prop}
    (hd : decode cc pc = .ok (.invokestatic idx, 3)) (hl : Cond.methodLink own idx y ∈ z_tbl) (hI : z_I y bytes maxL ret' ar) (hi : Cond.static y ∈ z_tbl) (hn : As.length = ar)
    (hC : z_C l E S d' y bytes maxL ret' As σ (z_Pv Pv)) (hst : st = As.reverse ++ rest) (hdd : d' + 1 ≤ d) (hrest : (rest.map fun v => v.category).sum ≤ 8) (q : Nat) (hq : pc + 3 = q)
    (kk : ∀ (σ' : z_M), Pv σ' → z_X l K E S d nL P q lv rest σ') : z_X l K E S d nL P pc lv st σ :=
  z_callS F hd hl hI hi hn hC hst hdd hrest q hq (fun v σ' h => by obtain ⟨rfl, h⟩ := h; exact kk σ' h)

theorem z_callSNv (F : z_F K E S own cc nL ret) {idx d' maxL ar : Nat} {y : MethodName} {bytes : ByteArray} {ret' : Option FieldType} {As rest : List Value} {Pv : z_M → Prop}
    (hd : decode cc pc = .ok (.invokestatic idx, 3)) {host : String} (hl : Cond.methodLinkNest own idx y host ∈ z_tbl) (hI : z_I y bytes maxL ret' ar) (hi : Cond.static y ∈ z_tbl) (hn : As.length = ar)
    (hC : z_C l E S d' y bytes maxL ret' As σ (z_Pv Pv)) (hst : st = As.reverse ++ rest) (hdd : d' + 1 ≤ d) (hrest : (rest.map fun v => v.category).sum ≤ 8) (q : Nat) (hq : pc + 3 = q)
    (kk : ∀ (σ' : z_M), Pv σ' → z_X l K E S d nL P q lv rest σ') : z_X l K E S d nL P pc lv st σ :=
  z_callSN F hd hl hI hi hn hC hst hdd hrest q hq (fun v σ' h => by obtain ⟨rfl, h⟩ := h; exact kk σ' h)

end ZC
