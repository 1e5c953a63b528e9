section ZI
variable {l : Launch} {K : z_K} {E : z_E} {S : z_Sh} {d nL : Nat} {P : Option Value → z_M → Prop} {own : String} {cc : ByteArray} {ret : Option FieldType} {pc : Nat} {lv : List (Nat × Value)} {st : List Value} {σ : z_M}
def z_ins (i : Nat) (v : Value) : List (Nat × Value) → List (Nat × Value)
  | [] => [(i, v)]
  | (j, w) :: t => bif Nat.ble i j then (i, v) :: (j, w) :: t else (j, w) :: z_ins i v t
theorem z_ins_mem {i : Nat} {v : Value} {q : Nat × Value} : ∀ {t : List (Nat × Value)}, q ∈ z_ins i v t → q ∈ (i, v) :: t
  | [], h => h
  | (j, w) :: t, h => by
    unfold z_ins at h
    cases hb : Nat.ble i j
    · rw [hb] at h
      rcases List.mem_cons.mp h with h | h
      · rw [h]; simp
      · rcases List.mem_cons.mp (z_ins_mem h) with h | h
        · rw [h]; simp
        · exact List.mem_cons_of_mem _ (List.mem_cons_of_mem _ h)
    · rw [hb] at h; exact h
def z_st (lv : List (Nat × Value)) (i : Nat) (v : Value) : List (Nat × Value) := z_ins i v (lv.filter (fun q => !(q.1 == i) && !(q.1 + 1 == i && q.2.category == 2)))
theorem z_st_has {ls : Array Slot} {i : Nat} {v : Value} (h : lv_has ls nL ((i, v) :: lv.filter (fun q => !(q.1 == i) && !(q.1 + 1 == i && q.2.category == 2)))) : lv_has ls nL (z_st lv i v) := ⟨h.1, h.2.1, fun q hq => h.2.2 q (z_ins_mem hq)⟩
theorem z_sub (ks : List Nat) {lv' : List (Nat × Value)} (h : lv_pick lv ks = lv') (kk : z_X l K E S d nL P pc lv' st σ) : z_X l K E S d nL P pc lv st σ := fun H locs ls hP hS hl => kk H locs ls hP hS (lv_sub hl ks h)
theorem z_mem {σ' : z_M} (h : σ = σ') (kk : z_X l K E S d nL P pc lv st σ') : z_X l K E S d nL P pc lv st σ := h ▸ kk
theorem z_post {P' : Option Value → z_M → Prop} (h : ∀ v σ', P' v σ' → P v σ') (kk : z_X l K E S d nL P' pc lv st σ) : z_X l K E S d nL P pc lv st σ := by
  intro H locs ls hP hS hl T hT X
  obtain ⟨t, h1, oc, h2, h3, h4, h5⟩ := kk H locs ls hP hS hl T hT X
  obtain ⟨⟨v, σ', e1, e2, e3⟩, h6⟩ := h4
  exact ⟨t, h1, oc, h2, h3, ⟨⟨v, σ', e1, h v σ' e2, e3⟩, h6⟩, h5⟩

theorem z_iconst (F : z_F K E S own cc nL ret) {n : Int} (hd : decode cc pc = .ok (.iconst n, 1)) (v : Int32) (hv : Int32.ofInt n = v) (q : Nat) (hq : pc + 1 = q) (kk : z_X l K E S d nL P q lv (.int v :: st) σ) : z_X l K E S d nL P pc lv (st) σ := by
  subst hq
  exact fun H locs ls hP hS hl => lv_iconst F.1 F.2.1 hd hv (kk H locs ls hP hS hl)

theorem z_bipush (F : z_F K E S own cc nL ret) {n : Int} (hd : decode cc pc = .ok (.bipush n, 2)) (v : Int32) (hv : (Int8.ofInt n).toInt32 = v) (q : Nat) (hq : pc + 2 = q) (kk : z_X l K E S d nL P q lv (.int v :: st) σ) : z_X l K E S d nL P pc lv (st) σ := by
  subst hq
  exact fun H locs ls hP hS hl => lv_bipush F.1 F.2.1 hd hv (kk H locs ls hP hS hl)

theorem z_sipush (F : z_F K E S own cc nL ret) {n : Int} (hd : decode cc pc = .ok (.sipush n, 3)) (v : Int32) (hv : (Int16.ofInt n).toInt32 = v) (q : Nat) (hq : pc + 3 = q) (kk : z_X l K E S d nL P q lv (.int v :: st) σ) : z_X l K E S d nL P pc lv (st) σ := by
  subst hq
  exact fun H locs ls hP hS hl => lv_sipush F.1 F.2.1 hd hv (kk H locs ls hP hS hl)

theorem z_iload_n (F : z_F K E S own cc nL ret) {k : Fin 4} {x : Int32} (hd : decode cc pc = .ok (.iload_n k, 1)) (j : Nat) (hj : lv[j]? = some ((k : Nat), .int x)) (q : Nat) (hq : pc + 1 = q) (kk : z_X l K E S d nL P q lv (.int x :: st) σ) : z_X l K E S d nL P pc lv (st) σ := by
  subst hq
  exact fun H locs ls hP hS hl => lv_iload_n F.1 F.2.1 hd rfl (lv_at hl j hj) (kk H locs ls hP hS hl)

theorem z_iload (F : z_F K E S own cc nL ret) {i : Nat} {x : Int32} (hd : decode cc pc = .ok (.iload i, 2)) (j : Nat) (hj : lv[j]? = some (i, .int x)) (q : Nat) (hq : pc + 2 = q) (kk : z_X l K E S d nL P q lv (.int x :: st) σ) : z_X l K E S d nL P pc lv (st) σ := by
  subst hq
  exact fun H locs ls hP hS hl => lv_iload F.1 F.2.1 hd (lv_at hl j hj) (kk H locs ls hP hS hl)

theorem z_aload_n (F : z_F K E S own cc nL ret) {k : Fin 4} {x : Nat} (hd : decode cc pc = .ok (.aload_n k, 1)) (j : Nat) (hj : lv[j]? = some ((k : Nat), .ref x)) (q : Nat) (hq : pc + 1 = q) (kk : z_X l K E S d nL P q lv (.ref x :: st) σ) : z_X l K E S d nL P pc lv (st) σ := by
  subst hq
  exact fun H locs ls hP hS hl => lv_aload_n F.1 F.2.1 hd rfl (lv_at hl j hj) (kk H locs ls hP hS hl)

theorem z_aload (F : z_F K E S own cc nL ret) {i : Nat} {x : Nat} (hd : decode cc pc = .ok (.aload i, 2)) (j : Nat) (hj : lv[j]? = some (i, .ref x)) (q : Nat) (hq : pc + 2 = q) (kk : z_X l K E S d nL P q lv (.ref x :: st) σ) : z_X l K E S d nL P pc lv (st) σ := by
  subst hq
  exact fun H locs ls hP hS hl => lv_aload F.1 F.2.1 hd (lv_at hl j hj) (kk H locs ls hP hS hl)

theorem z_lload_n (F : z_F K E S own cc nL ret) {k : Fin 4} {x : Int64} (hd : decode cc pc = .ok (.lload_n k, 1)) (j : Nat) (hj : lv[j]? = some ((k : Nat), .long x)) (q : Nat) (hq : pc + 1 = q) (kk : z_X l K E S d nL P q lv (.long x :: st) σ) : z_X l K E S d nL P pc lv (st) σ := by
  subst hq
  exact fun H locs ls hP hS hl => lv_lload_n F.1 F.2.1 hd rfl (lv_at hl j hj) (kk H locs ls hP hS hl)

theorem z_lload (F : z_F K E S own cc nL ret) {i : Nat} {x : Int64} (hd : decode cc pc = .ok (.lload i, 2)) (j : Nat) (hj : lv[j]? = some (i, .long x)) (q : Nat) (hq : pc + 2 = q) (kk : z_X l K E S d nL P q lv (.long x :: st) σ) : z_X l K E S d nL P pc lv (st) σ := by
  subst hq
  exact fun H locs ls hP hS hl => lv_lload F.1 F.2.1 hd (lv_at hl j hj) (kk H locs ls hP hS hl)

theorem z_istore_n (F : z_F K E S own cc nL ret) {k : Fin 4} {x : Int32} (hd : decode cc pc = .ok (.istore_n k, 1)) (lv' : List (Nat × Value)) (hl' : z_st lv (k : Nat) (.int x) = lv') (hn : (k : Nat) < nL) (q : Nat) (hq : pc + 1 = q) (kk : z_X l K E S d nL P q lv' st σ) : z_X l K E S d nL P pc lv (.int x :: st) σ := by
  subst hq; subst hl'
  exact fun H locs ls hP hS hl => lv_istore_n F.1 F.2.1 hd rfl hl hn rfl (fun ls' h' => kk H locs ls' hP hS (z_st_has h'))

theorem z_istore (F : z_F K E S own cc nL ret) {i : Nat} {x : Int32} (hd : decode cc pc = .ok (.istore i, 2)) (lv' : List (Nat × Value)) (hl' : z_st lv i (.int x) = lv') (hn : i < nL) (q : Nat) (hq : pc + 2 = q) (kk : z_X l K E S d nL P q lv' st σ) : z_X l K E S d nL P pc lv (.int x :: st) σ := by
  subst hq; subst hl'
  exact fun H locs ls hP hS hl => lv_istore F.1 F.2.1 hd hl hn rfl (fun ls' h' => kk H locs ls' hP hS (z_st_has h'))

theorem z_astore_n (F : z_F K E S own cc nL ret) {k : Fin 4} {x : Nat} (hd : decode cc pc = .ok (.astore_n k, 1)) (lv' : List (Nat × Value)) (hl' : z_st lv (k : Nat) (.ref x) = lv') (hn : (k : Nat) < nL) (q : Nat) (hq : pc + 1 = q) (kk : z_X l K E S d nL P q lv' st σ) : z_X l K E S d nL P pc lv (.ref x :: st) σ := by
  subst hq; subst hl'
  exact fun H locs ls hP hS hl => lv_astore_n F.1 F.2.1 hd rfl hl hn rfl (fun ls' h' => kk H locs ls' hP hS (z_st_has h'))

theorem z_astore (F : z_F K E S own cc nL ret) {i : Nat} {x : Nat} (hd : decode cc pc = .ok (.astore i, 2)) (lv' : List (Nat × Value)) (hl' : z_st lv i (.ref x) = lv') (hn : i < nL) (q : Nat) (hq : pc + 2 = q) (kk : z_X l K E S d nL P q lv' st σ) : z_X l K E S d nL P pc lv (.ref x :: st) σ := by
  subst hq; subst hl'
  exact fun H locs ls hP hS hl => lv_astore F.1 F.2.1 hd hl hn rfl (fun ls' h' => kk H locs ls' hP hS (z_st_has h'))

theorem z_iinc (F : z_F K E S own cc nL ret) {i : Nat} {n : Int} {x : Int32} (hd : decode cc pc = .ok (.iinc i n, 3)) (j : Nat) (hj : lv[j]? = some (i, .int x)) (w : Int32) (hw : Int32.ofInt n = w) (lv' : List (Nat × Value)) (hl' : z_st lv i (.int (x + w)) = lv') (hn : i < nL) (q : Nat) (hq : pc + 3 = q) (kk : z_X l K E S d nL P q lv' st σ) : z_X l K E S d nL P pc lv st σ := by
  subst hq; subst hl'; subst hw
  exact fun H locs ls hP hS hl => lv_iinc F.1 F.2.1 hd hl hj rfl hn rfl (fun ls' h' => kk H locs ls' hP hS (z_st_has h'))

theorem z_iadd (F : z_F K E S own cc nL ret) {x y : Int32} (hd : decode cc pc = .ok (.iadd, 1))  (q : Nat) (hq : pc + 1 = q) (kk : z_X l K E S d nL P q lv (.int (x + y) :: st) σ) : z_X l K E S d nL P pc lv (.int y :: .int x :: st) σ := by
  subst hq
  exact fun H locs ls hP hS hl => lv_iadd F.1 F.2.1 hd (kk H locs ls hP hS hl)

theorem z_isub (F : z_F K E S own cc nL ret) {x y : Int32} (hd : decode cc pc = .ok (.isub, 1))  (q : Nat) (hq : pc + 1 = q) (kk : z_X l K E S d nL P q lv (.int (x - y) :: st) σ) : z_X l K E S d nL P pc lv (.int y :: .int x :: st) σ := by
  subst hq
  exact fun H locs ls hP hS hl => lv_isub F.1 F.2.1 hd (kk H locs ls hP hS hl)

theorem z_imul (F : z_F K E S own cc nL ret) {x y : Int32} (hd : decode cc pc = .ok (.imul, 1))  (q : Nat) (hq : pc + 1 = q) (kk : z_X l K E S d nL P q lv (.int (x * y) :: st) σ) : z_X l K E S d nL P pc lv (.int y :: .int x :: st) σ := by
  subst hq
  exact fun H locs ls hP hS hl => lv_imul F.1 F.2.1 hd (kk H locs ls hP hS hl)

theorem z_iand (F : z_F K E S own cc nL ret) {x y : Int32} (hd : decode cc pc = .ok (.iand, 1))  (q : Nat) (hq : pc + 1 = q) (kk : z_X l K E S d nL P q lv (.int (x &&& y) :: st) σ) : z_X l K E S d nL P pc lv (.int y :: .int x :: st) σ := by
  subst hq
  exact fun H locs ls hP hS hl => lv_iand F.1 F.2.1 hd (kk H locs ls hP hS hl)

theorem z_ior (F : z_F K E S own cc nL ret) {x y : Int32} (hd : decode cc pc = .ok (.ior, 1))  (q : Nat) (hq : pc + 1 = q) (kk : z_X l K E S d nL P q lv (.int (x ||| y) :: st) σ) : z_X l K E S d nL P pc lv (.int y :: .int x :: st) σ := by
  subst hq
  exact fun H locs ls hP hS hl => lv_ior F.1 F.2.1 hd (kk H locs ls hP hS hl)

theorem z_ixor (F : z_F K E S own cc nL ret) {x y : Int32} (hd : decode cc pc = .ok (.ixor, 1))  (q : Nat) (hq : pc + 1 = q) (kk : z_X l K E S d nL P q lv (.int (x ^^^ y) :: st) σ) : z_X l K E S d nL P pc lv (.int y :: .int x :: st) σ := by
  subst hq
  exact fun H locs ls hP hS hl => lv_ixor F.1 F.2.1 hd (kk H locs ls hP hS hl)

theorem z_land (F : z_F K E S own cc nL ret) {x y : Int64} (hd : decode cc pc = .ok (.land, 1))  (q : Nat) (hq : pc + 1 = q) (kk : z_X l K E S d nL P q lv (.long (x &&& y) :: st) σ) : z_X l K E S d nL P pc lv (.long y :: .long x :: st) σ := by
  subst hq
  exact fun H locs ls hP hS hl => lv_land F.1 F.2.1 hd (kk H locs ls hP hS hl)

theorem z_lor (F : z_F K E S own cc nL ret) {x y : Int64} (hd : decode cc pc = .ok (.lor, 1))  (q : Nat) (hq : pc + 1 = q) (kk : z_X l K E S d nL P q lv (.long (x ||| y) :: st) σ) : z_X l K E S d nL P pc lv (.long y :: .long x :: st) σ := by
  subst hq
  exact fun H locs ls hP hS hl => lv_lor F.1 F.2.1 hd (kk H locs ls hP hS hl)

theorem z_ishl (F : z_F K E S own cc nL ret) {x y : Int32} (hd : decode cc pc = .ok (.ishl, 1))  (q : Nat) (hq : pc + 1 = q) (kk : z_X l K E S d nL P q lv (.int (x <<< (y &&& 31)) :: st) σ) : z_X l K E S d nL P pc lv (.int y :: .int x :: st) σ := by
  subst hq
  exact fun H locs ls hP hS hl => lv_ishl F.1 F.2.1 hd (kk H locs ls hP hS hl)

theorem z_ishr (F : z_F K E S own cc nL ret) {x y : Int32} (hd : decode cc pc = .ok (.ishr, 1))  (q : Nat) (hq : pc + 1 = q) (kk : z_X l K E S d nL P q lv (.int (x >>> (y &&& 31)) :: st) σ) : z_X l K E S d nL P pc lv (.int y :: .int x :: st) σ := by
  subst hq
  exact fun H locs ls hP hS hl => lv_ishr F.1 F.2.1 hd (kk H locs ls hP hS hl)

theorem z_iushr (F : z_F K E S own cc nL ret) {x y : Int32} (hd : decode cc pc = .ok (.iushr, 1))  (q : Nat) (hq : pc + 1 = q) (kk : z_X l K E S d nL P q lv (.int (x.toUInt32 >>> (y.toUInt32 &&& Int32.toUInt32 31)).toInt32 :: st) σ) : z_X l K E S d nL P pc lv (.int y :: .int x :: st) σ := by
  subst hq
  exact fun H locs ls hP hS hl => lv_iushr F.1 F.2.1 hd rfl (kk H locs ls hP hS hl)

theorem z_lshl (F : z_F K E S own cc nL ret) {x : Int64} {y : Int32} (hd : decode cc pc = .ok (.lshl, 1))  (q : Nat) (hq : pc + 1 = q) (kk : z_X l K E S d nL P q lv (.long (x <<< (y.toInt64 &&& 63)) :: st) σ) : z_X l K E S d nL P pc lv (.int y :: .long x :: st) σ := by
  subst hq
  exact fun H locs ls hP hS hl => lv_lshl F.1 F.2.1 hd rfl (kk H locs ls hP hS hl)

theorem z_lshr (F : z_F K E S own cc nL ret) {x : Int64} {y : Int32} (hd : decode cc pc = .ok (.lshr, 1))  (q : Nat) (hq : pc + 1 = q) (kk : z_X l K E S d nL P q lv (.long (x >>> (y.toInt64 &&& 63)) :: st) σ) : z_X l K E S d nL P pc lv (.int y :: .long x :: st) σ := by
  subst hq
  exact fun H locs ls hP hS hl => lv_lshr F.1 F.2.1 hd rfl (kk H locs ls hP hS hl)

theorem z_lushr (F : z_F K E S own cc nL ret) {x : Int64} {y : Int32} (hd : decode cc pc = .ok (.lushr, 1))  (q : Nat) (hq : pc + 1 = q) (kk : z_X l K E S d nL P q lv (.long (x.toUInt64 >>> (y.toInt64.toUInt64 &&& Int64.toUInt64 63)).toInt64 :: st) σ) : z_X l K E S d nL P pc lv (.int y :: .long x :: st) σ := by
  subst hq
  exact fun H locs ls hP hS hl => lv_lushr F.1 F.2.1 hd rfl (kk H locs ls hP hS hl)

theorem z_i2l (F : z_F K E S own cc nL ret) {x : Int32} (hd : decode cc pc = .ok (.i2l, 1))  (q : Nat) (hq : pc + 1 = q) (kk : z_X l K E S d nL P q lv (.long x.toInt64 :: st) σ) : z_X l K E S d nL P pc lv (.int x :: st) σ := by
  subst hq
  exact fun H locs ls hP hS hl => lv_i2l F.1 F.2.1 hd rfl (kk H locs ls hP hS hl)

theorem z_l2i (F : z_F K E S own cc nL ret) {x : Int64} (hd : decode cc pc = .ok (.l2i, 1))  (q : Nat) (hq : pc + 1 = q) (kk : z_X l K E S d nL P q lv (.int x.toInt32 :: st) σ) : z_X l K E S d nL P pc lv (.long x :: st) σ := by
  subst hq
  exact fun H locs ls hP hS hl => lv_l2i F.1 F.2.1 hd rfl (kk H locs ls hP hS hl)

theorem z_i2b (F : z_F K E S own cc nL ret) {x : Int32} (hd : decode cc pc = .ok (.i2b, 1))  (q : Nat) (hq : pc + 1 = q) (kk : z_X l K E S d nL P q lv (.int x.toInt8.toInt32 :: st) σ) : z_X l K E S d nL P pc lv (.int x :: st) σ := by
  subst hq
  exact fun H locs ls hP hS hl => lv_i2b F.1 F.2.1 hd rfl (kk H locs ls hP hS hl)

theorem z_i2s (F : z_F K E S own cc nL ret) {x : Int32} (hd : decode cc pc = .ok (.i2s, 1))  (q : Nat) (hq : pc + 1 = q) (kk : z_X l K E S d nL P q lv (.int x.toInt16.toInt32 :: st) σ) : z_X l K E S d nL P pc lv (.int x :: st) σ := by
  subst hq
  exact fun H locs ls hP hS hl => lv_i2s F.1 F.2.1 hd rfl (kk H locs ls hP hS hl)

theorem z_i2c (F : z_F K E S own cc nL ret) {x : Int32} (hd : decode cc pc = .ok (.i2c, 1))  (q : Nat) (hq : pc + 1 = q) (kk : z_X l K E S d nL P q lv (.int (x.toUInt32 % 65536).toInt32 :: st) σ) : z_X l K E S d nL P pc lv (.int x :: st) σ := by
  subst hq
  exact fun H locs ls hP hS hl => lv_i2c F.1 F.2.1 hd rfl (kk H locs ls hP hS hl)

theorem z_ineg (F : z_F K E S own cc nL ret) {x : Int32} (hd : decode cc pc = .ok (.ineg, 1))  (q : Nat) (hq : pc + 1 = q) (kk : z_X l K E S d nL P q lv (.int (-x) :: st) σ) : z_X l K E S d nL P pc lv (.int x :: st) σ := by
  subst hq
  exact fun H locs ls hP hS hl => lv_ineg F.1 F.2.1 hd (kk H locs ls hP hS hl)

theorem z_idiv (F : z_F K E S own cc nL ret) {x y : Int32} (hd : decode cc pc = .ok (.idiv, 1)) (hne : ¬ y = 0) (q : Nat) (hq : pc + 1 = q) (kk : z_X l K E S d nL P q lv (.int (x / y) :: st) σ) : z_X l K E S d nL P pc lv (.int y :: .int x :: st) σ := by
  subst hq
  exact fun H locs ls hP hS hl => lv_idiv F.1 F.2.1 hd hne (kk H locs ls hP hS hl)

theorem z_irem (F : z_F K E S own cc nL ret) {x y : Int32} (hd : decode cc pc = .ok (.irem, 1)) (hne : ¬ y = 0) (q : Nat) (hq : pc + 1 = q) (kk : z_X l K E S d nL P q lv (.int (x - x / y * y) :: st) σ) : z_X l K E S d nL P pc lv (.int y :: .int x :: st) σ := by
  subst hq
  exact fun H locs ls hP hS hl => lv_irem F.1 F.2.1 hd hne (kk H locs ls hP hS hl)

theorem z_dup (F : z_F K E S own cc nL ret) {v : Value} (hd : decode cc pc = .ok (.dup, 1)) (hv : v.category = 1) (q : Nat) (hq : pc + 1 = q) (kk : z_X l K E S d nL P q lv (v :: v :: st) σ) : z_X l K E S d nL P pc lv (v :: st) σ := by
  subst hq
  exact fun H locs ls hP hS hl => lv_dup F.1 F.2.1 hd hv (kk H locs ls hP hS hl)

theorem z_dup2 (F : z_F K E S own cc nL ret) {v w : Value} (hd : decode cc pc = .ok (.dup2, 1)) (hv : v.category = 1) (hw : w.category = 1) (q : Nat) (hq : pc + 1 = q) (kk : z_X l K E S d nL P q lv (v :: w :: v :: w :: st) σ) : z_X l K E S d nL P pc lv (v :: w :: st) σ := by
  subst hq
  exact fun H locs ls hP hS hl => lv_dup2_11 F.1 F.2.1 hd hv hw (kk H locs ls hP hS hl)

theorem z_pop (F : z_F K E S own cc nL ret) {v : Value} (hd : decode cc pc = .ok (.pop, 1)) (hv : v.category = 1) (q : Nat) (hq : pc + 1 = q) (kk : z_X l K E S d nL P q lv (st) σ) : z_X l K E S d nL P pc lv (v :: st) σ := by
  subst hq
  exact fun H locs ls hP hS hl => lv_pop F.1 F.2.1 hd hv (kk H locs ls hP hS hl)

theorem z_if_eq (F : z_F K E S own cc nL ret) {x : Int32} {off : Int} (hd : decode cc pc = .ok (.ifCond .eq off, 3)) (t : Nat) (ht : (pc : Int) + off = (t : Int)) (q : Nat) (hq : pc + 3 = q) (kt : x = 0 → z_X l K E S d nL P t lv st σ) (kf : ¬ x = 0 → z_X l K E S d nL P q lv st σ) : z_X l K E S d nL P pc lv (.int x :: st) σ := by
  subst hq
  exact fun H locs ls hP hS hl => lv_if_eq F.1 F.2.1 hd ht (fun h => kt h H locs ls hP hS hl) (fun h => kf h H locs ls hP hS hl)

theorem z_if_ne (F : z_F K E S own cc nL ret) {x : Int32} {off : Int} (hd : decode cc pc = .ok (.ifCond .ne off, 3)) (t : Nat) (ht : (pc : Int) + off = (t : Int)) (q : Nat) (hq : pc + 3 = q) (kt : ¬ x = 0 → z_X l K E S d nL P t lv st σ) (kf : x = 0 → z_X l K E S d nL P q lv st σ) : z_X l K E S d nL P pc lv (.int x :: st) σ := by
  subst hq
  exact fun H locs ls hP hS hl => lv_if_ne F.1 F.2.1 hd ht (fun h => kt h H locs ls hP hS hl) (fun h => kf h H locs ls hP hS hl)

theorem z_if_lt (F : z_F K E S own cc nL ret) {x : Int32} {off : Int} (hd : decode cc pc = .ok (.ifCond .lt off, 3)) (t : Nat) (ht : (pc : Int) + off = (t : Int)) (q : Nat) (hq : pc + 3 = q) (kt : x < 0 → z_X l K E S d nL P t lv st σ) (kf : ¬ x < 0 → z_X l K E S d nL P q lv st σ) : z_X l K E S d nL P pc lv (.int x :: st) σ := by
  subst hq
  exact fun H locs ls hP hS hl => lv_if_lt F.1 F.2.1 hd ht (fun h => kt h H locs ls hP hS hl) (fun h => kf h H locs ls hP hS hl)

theorem z_if_ge (F : z_F K E S own cc nL ret) {x : Int32} {off : Int} (hd : decode cc pc = .ok (.ifCond .ge off, 3)) (t : Nat) (ht : (pc : Int) + off = (t : Int)) (q : Nat) (hq : pc + 3 = q) (kt : 0 ≤ x → z_X l K E S d nL P t lv st σ) (kf : ¬ 0 ≤ x → z_X l K E S d nL P q lv st σ) : z_X l K E S d nL P pc lv (.int x :: st) σ := by
  subst hq
  exact fun H locs ls hP hS hl => lv_if_ge F.1 F.2.1 hd ht (fun h => kt h H locs ls hP hS hl) (fun h => kf h H locs ls hP hS hl)

theorem z_if_gt (F : z_F K E S own cc nL ret) {x : Int32} {off : Int} (hd : decode cc pc = .ok (.ifCond .gt off, 3)) (t : Nat) (ht : (pc : Int) + off = (t : Int)) (q : Nat) (hq : pc + 3 = q) (kt : 0 < x → z_X l K E S d nL P t lv st σ) (kf : ¬ 0 < x → z_X l K E S d nL P q lv st σ) : z_X l K E S d nL P pc lv (.int x :: st) σ := by
  subst hq
  exact fun H locs ls hP hS hl => lv_if_gt F.1 F.2.1 hd ht (fun h => kt h H locs ls hP hS hl) (fun h => kf h H locs ls hP hS hl)

theorem z_if_le (F : z_F K E S own cc nL ret) {x : Int32} {off : Int} (hd : decode cc pc = .ok (.ifCond .le off, 3)) (t : Nat) (ht : (pc : Int) + off = (t : Int)) (q : Nat) (hq : pc + 3 = q) (kt : x ≤ 0 → z_X l K E S d nL P t lv st σ) (kf : ¬ x ≤ 0 → z_X l K E S d nL P q lv st σ) : z_X l K E S d nL P pc lv (.int x :: st) σ := by
  subst hq
  exact fun H locs ls hP hS hl => lv_if_le F.1 F.2.1 hd ht (fun h => kt h H locs ls hP hS hl) (fun h => kf h H locs ls hP hS hl)

theorem z_icmp_eq (F : z_F K E S own cc nL ret) {x y : Int32} {off : Int} (hd : decode cc pc = .ok (.if_icmp .eq off, 3)) (t : Nat) (ht : (pc : Int) + off = (t : Int)) (q : Nat) (hq : pc + 3 = q) (kt : x = y → z_X l K E S d nL P t lv st σ) (kf : ¬ x = y → z_X l K E S d nL P q lv st σ) : z_X l K E S d nL P pc lv (.int y :: .int x :: st) σ := by
  subst hq
  exact fun H locs ls hP hS hl => lv_icmp_eq F.1 F.2.1 hd ht (fun h => kt h H locs ls hP hS hl) (fun h => kf h H locs ls hP hS hl)

theorem z_icmp_ne (F : z_F K E S own cc nL ret) {x y : Int32} {off : Int} (hd : decode cc pc = .ok (.if_icmp .ne off, 3)) (t : Nat) (ht : (pc : Int) + off = (t : Int)) (q : Nat) (hq : pc + 3 = q) (kt : ¬ x = y → z_X l K E S d nL P t lv st σ) (kf : x = y → z_X l K E S d nL P q lv st σ) : z_X l K E S d nL P pc lv (.int y :: .int x :: st) σ := by
  subst hq
  exact fun H locs ls hP hS hl => lv_icmp_ne F.1 F.2.1 hd ht (fun h => kt h H locs ls hP hS hl) (fun h => kf h H locs ls hP hS hl)

theorem z_icmp_lt (F : z_F K E S own cc nL ret) {x y : Int32} {off : Int} (hd : decode cc pc = .ok (.if_icmp .lt off, 3)) (t : Nat) (ht : (pc : Int) + off = (t : Int)) (q : Nat) (hq : pc + 3 = q) (kt : x < y → z_X l K E S d nL P t lv st σ) (kf : ¬ x < y → z_X l K E S d nL P q lv st σ) : z_X l K E S d nL P pc lv (.int y :: .int x :: st) σ := by
  subst hq
  exact fun H locs ls hP hS hl => lv_icmp_lt F.1 F.2.1 hd ht (fun h => kt h H locs ls hP hS hl) (fun h => kf h H locs ls hP hS hl)

theorem z_icmp_ge (F : z_F K E S own cc nL ret) {x y : Int32} {off : Int} (hd : decode cc pc = .ok (.if_icmp .ge off, 3)) (t : Nat) (ht : (pc : Int) + off = (t : Int)) (q : Nat) (hq : pc + 3 = q) (kt : y ≤ x → z_X l K E S d nL P t lv st σ) (kf : ¬ y ≤ x → z_X l K E S d nL P q lv st σ) : z_X l K E S d nL P pc lv (.int y :: .int x :: st) σ := by
  subst hq
  exact fun H locs ls hP hS hl => lv_icmp_ge F.1 F.2.1 hd ht (fun h => kt h H locs ls hP hS hl) (fun h => kf h H locs ls hP hS hl)

theorem z_icmp_gt (F : z_F K E S own cc nL ret) {x y : Int32} {off : Int} (hd : decode cc pc = .ok (.if_icmp .gt off, 3)) (t : Nat) (ht : (pc : Int) + off = (t : Int)) (q : Nat) (hq : pc + 3 = q) (kt : y < x → z_X l K E S d nL P t lv st σ) (kf : ¬ y < x → z_X l K E S d nL P q lv st σ) : z_X l K E S d nL P pc lv (.int y :: .int x :: st) σ := by
  subst hq
  exact fun H locs ls hP hS hl => lv_icmp_gt F.1 F.2.1 hd ht (fun h => kt h H locs ls hP hS hl) (fun h => kf h H locs ls hP hS hl)

theorem z_icmp_le (F : z_F K E S own cc nL ret) {x y : Int32} {off : Int} (hd : decode cc pc = .ok (.if_icmp .le off, 3)) (t : Nat) (ht : (pc : Int) + off = (t : Int)) (q : Nat) (hq : pc + 3 = q) (kt : x ≤ y → z_X l K E S d nL P t lv st σ) (kf : ¬ x ≤ y → z_X l K E S d nL P q lv st σ) : z_X l K E S d nL P pc lv (.int y :: .int x :: st) σ := by
  subst hq
  exact fun H locs ls hP hS hl => lv_icmp_le F.1 F.2.1 hd ht (fun h => kt h H locs ls hP hS hl) (fun h => kf h H locs ls hP hS hl)

theorem z_goto (F : z_F K E S own cc nL ret) {off : Int} (hd : decode cc pc = .ok (.goto off, 3)) (t : Nat) (ht : (pc : Int) + off = (t : Int)) (kk : z_X l K E S d nL P t lv st σ) : z_X l K E S d nL P pc lv st σ :=
  fun H locs ls hP hS hl => lv_goto F.1 F.2.1 hd ht (kk H locs ls hP hS hl)
theorem z_lookup (F : z_F K E S own cc nL ret) {dflt : Int} {ps : Array (Int × Int)} {len : Nat} {x : Int32} {off : Int} (hd : decode cc pc = .ok (.lookupswitch dflt ps, len)) (hp : (ps.toList.zip (ps.toList.drop 1)).all (fun (a, next) => a.1 < next.1) = true) (ho : Op.lookupswitch.offset ps.toList dflt x.toInt = off) (t : Nat) (ht : (pc : Int) + off = (t : Int)) (kk : z_X l K E S d nL P t lv st σ) : z_X l K E S d nL P pc lv (.int x :: st) σ :=
  fun H locs ls hP hS hl => lv_lookup F.1 F.2.1 hd hp ho ht (kk H locs ls hP hS hl)
theorem z_tableOut (F : z_F K E S own cc nL ret) {dflt lo hi : Int} {offs : Array Int} {len : Nat} {x : Int32} (hd : decode cc pc = .ok (.tableswitch dflt lo hi offs, len)) (h : x.toInt < lo ∨ hi < x.toInt) (t : Nat) (ht : (pc : Int) + dflt = (t : Int)) (kk : z_X l K E S d nL P t lv st σ) : z_X l K E S d nL P pc lv (.int x :: st) σ :=
  fun H locs ls hP hS hl => lv_tableOut F.1 F.2.1 hd h ht (kk H locs ls hP hS hl)
theorem z_tableIn (F : z_F K E S own cc nL ret) {dflt lo hi : Int} {offs : Array Int} {len : Nat} {x : Int32} {off : Int} (hd : decode cc pc = .ok (.tableswitch dflt lo hi offs, len)) (h1 : ¬ x.toInt < lo) (h2 : ¬ hi < x.toInt) (ho : offs[(x.toInt - lo).toNat]? = some off) (t : Nat) (ht : (pc : Int) + off = (t : Int)) (kk : z_X l K E S d nL P t lv st σ) : z_X l K E S d nL P pc lv (.int x :: st) σ :=
  fun H locs ls hP hS hl => lv_tableIn F.1 F.2.1 hd h1 h2 ho ht (kk H locs ls hP hS hl)
theorem z_ldc (F : z_F K E S own cc nL ret) {index : Nat} {v : Int32} (hd : decode cc pc = .ok (.ldc index, 2)) (hc : Cond.constant own index v ∈ z_tbl) (q : Nat) (hq : pc + 2 = q) (kk : z_X l K E S d nL P q lv (.int v :: st) σ) : z_X l K E S d nL P pc lv st σ := by
  subst hq
  exact fun H locs ls hP hS hl => lv_ldc F.1 F.2.1 F.2.2.2.2.2.1 (F.2.2.2.2.2.2.1 _ hc) hd (kk H locs ls hP hS hl)
theorem z_ldcw (F : z_F K E S own cc nL ret) {index : Nat} {v : Int32} (hd : decode cc pc = .ok (.ldc_w index, 3)) (hc : Cond.constant own index v ∈ z_tbl) (q : Nat) (hq : pc + 3 = q) (kk : z_X l K E S d nL P q lv (.int v :: st) σ) : z_X l K E S d nL P pc lv st σ := by
  subst hq
  exact fun H locs ls hP hS hl => lv_ldcw F.1 F.2.1 F.2.2.2.2.2.1 (F.2.2.2.2.2.2.1 _ hc) hd (kk H locs ls hP hS hl)
theorem z_ldc2 (F : z_F K E S own cc nL ret) {index : Nat} {v : Int64} (hd : decode cc pc = .ok (.ldc2_w index, 3)) (hc : Cond.constantLong own index v ∈ z_tbl) (q : Nat) (hq : pc + 3 = q) (kk : z_X l K E S d nL P q lv (.long v :: st) σ) : z_X l K E S d nL P pc lv st σ := by
  subst hq
  exact fun H locs ls hP hS hl => lv_ldc2 F.1 F.2.1 F.2.2.2.2.2.1 (F.2.2.2.2.2.2.1 _ hc) hd (kk H locs ls hP hS hl)
theorem z_qok (P : Option Value → z_M → Prop) {H : Heap} {v : Option Value} (F : z_F K E S own cc nL ret) (hv : P v σ) {locs : List Loc} (hP : va_P E.1 vwCl (z_ws E S σ) H) (hS : va_S (z_A E S) (z_s K).heap H locs) : ∀ t : State, t.heap = H → (z_s K).WarmedH t.vm → z_Q E S P (z_a K) (z_s K) (.returned v) t :=
  fun t ht hW => ⟨⟨v, σ, rfl, hv, by rw [ht]; exact hP, va_K.moved hW.alike F.2.2.2.2.2.2.2.1⟩, hS.F ht⟩
theorem z_ireturn (F : z_F K E S own cc nL (some .int)) {x : Int32} (hd : decode cc pc = .ok (.ireturn, 1)) (h : P (some (.int x)) σ) : z_X l K E S d nL P pc lv [.int x] σ :=
  fun _ _ _ hP hS _ => W.iret F.1 F.2.1 F.2.2.2.1 (z_qok P F h hP hS) hS.2.2 hd F.2.2.2.2.1
theorem z_zreturn (F : z_F K E S own cc nL (some .boolean)) {x : Int32} (hd : decode cc pc = .ok (.ireturn, 1)) (hn : narrow .boolean (.int x) = .int x) (h : P (some (.int x)) σ) : z_X l K E S d nL P pc lv [.int x] σ :=
  fun _ _ _ hP hS _ => W.zret F.1 F.2.1 F.2.2.2.1 hn (z_qok P F h hP hS) hS.2.2 hd F.2.2.2.2.1
theorem z_vreturn (F : z_F K E S own cc nL none) (hd : decode cc pc = .ok (.return_, 1)) (h : P none σ) : z_X l K E S d nL P pc lv [] σ :=
  fun _ _ _ hP hS _ => W.vret F.1 F.2.1 F.2.2.2.1 (z_qok P F h hP hS) hS.2.2 hd F.2.2.2.2.1
end ZI
