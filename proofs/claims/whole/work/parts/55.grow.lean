/-! a growing world: what constructors and the law run over -/
section ZG
abbrev g_S : Type := (Nat → Nat) × ClassId
/-- what stands in the launch, and is never written -/
def g_Z (sa : Nat) (U : State) : Prop := vk_R RX3 23 "vsy" sa U ∧ va_AO "VeilSteps$Text" U ∧ va_AO "VeilSteps$Sheet" U
theorem g_Z.warm {sa : Nat} {s U : State} (hW : s.WarmedH U.vm) (h : g_Z sa s) : g_Z sa U := ⟨h.1.warm hW, va_AO.moved hW.alike h.2.1, va_AO.moved hW.alike h.2.2⟩
theorem g_Z.same {sa : Nat} {s U : State} (hv : U.vm = s.vm) (h : g_Z sa s) : g_Z sa U := by
  have ha : s.vm.Alike U.vm := by rw [hv]; exact Vm.Alike.refl _
  exact ⟨vk_R.same hv h.1, va_AO.moved ha h.2.1, va_AO.moved ha h.2.2⟩
def g_F (K : z_K) (own : String) (cc : ByteArray) (nL : Nat) (A : Nat → Prop) (sa : Nat) : Prop :=
  (z_p K).tables.exec = Jvm.exec ∧ (z_c K).code = cc ∧ (z_c K).maxLocals = nL ∧ (z_s K).vm.findClass own = some (z_m K).cls ∧ (∀ w ∈ z_tbl, w.before (z_a K) (z_s K) = true) ∧ (∀ q : Nat, (z_s K).heap.size ≤ q → A q) ∧ g_Z sa (z_s K) ∧ (z_t K).locks = false
def g_X (l : Launch) (K : z_K) (D : va_G) (A : Nat → Prop) (R : Room) (Q : State → Prop) (nL : Nat) (tys : List (ClassId × FieldType)) (cells slots : Nat) (ws : va_W) (pc : Nat) (lv : List (Nat × Value)) (st : List Value) : Prop :=
  ∀ (H : Heap) (locs : List Loc) (ls : Array Slot), va_K D vwCl tys (z_s K) → va_P D vwCl ws H → va_D A ws → va_S A (z_s K).heap H locs → lv_has ls nL lv →
    W (z_p K) l (z_e K) R (z_s K) (z_m K) (z_a K) (z_b K) (z_t K) (z_c K) H locs cells slots Q (F0 (z_m K) pc ls st)
def g_B (D : va_G) (cI : ClassId) (sa sz : Nat) (W0 : va_W) (U : State) : Prop := U.heap.size = sz ∧ va_P D vwCl W0 U.heap ∧ va_K D vwCl [(cI, .int)] U ∧ va_D (fun _ => True) W0 ∧ g_Z sa U
abbrev g_R (d mc ms : Nat) : Room := { frames := d, cells := mc, slots := ms, locals := 40 * d }
abbrev g_Q {S : Type} (D : va_G) (WF : S → va_W) (tF : S → List (ClassId × FieldType)) (A : Nat → Prop) : Array Value → State → Outcome → State → Prop :=
  va_Qv (fun _ : S => True) (fun u t => va_P D vwCl (WF u) t.heap ∧ va_K D vwCl (tF u) t ∧ va_D A (WF u)) A
def g_M {S : Type} (l : Launch) (D : va_G) (cI : ClassId) (sa d : Nat) (y : MethodName) (cc : ByteArray) (n : Nat) (av : List Value) (W0 : va_W) (mc ms : Nat) (WF : S → va_W) (tF : S → List (ClassId × FieldType)) : Prop :=
  ∀ sz : Nat, Met l y (.code y cc n none :: z_tbl) (g_R d mc ms) (va_Pc av (g_B D cI sa sz W0)) (g_Q D WF tF (va_A W0 sz)) mc ms (va_A W0 sz)
theorem g_blind {av : List Value} {D : va_G} {cI : ClassId} {sa sz : Nat} {W0 : va_W} : FrameBlind (va_Pc av (g_B D cI sa sz W0)) := by
  intro a U g mk h
  obtain ⟨h0, h1, h2, h3, h4, h5⟩ := h
  exact ⟨h0, h1, h2, va_K.moved (u := U) (U := U.calling g mk a) (Vm.Alike.refl U.vm) h3, h4, g_Z.same (s := U) (U := U.calling g mk a) rfl h5⟩
theorem g_intro {S : Type} {l : Launch} {D : va_G} {cI : ClassId} {sa d : Nat} {y : MethodName} {cc : ByteArray} {n : Nat} {av : List Value} {W0 : va_W} {mc ms : Nat} {WF : S → va_W} {tF : S → List (ClassId × FieldType)} (hpl : plainName y.cls = true) (hyn : y.name = "<init>") (hsl : (lg_sl av).length ≤ n)
    (body : ∀ (K : z_K) (A : Nat → Prop), g_F K y.cls cc n A sa → (z_t K).name = "<init>" → (z_t K).sig.returnType = none → g_X l K D A (g_R d mc ms) (MQ (z_b K) (g_Q D WF tF A) (z_a K) (z_s K) mc ms A) n [(cI, .int)] 0 0 W0 0 (lv_args 0 av) []) : g_M l D cI sa d y cc n av W0 mc ms WF tF := by
  intro sz
  refine Met.ofW (cc := cc) (maxL := n) (ret := none) hpl rfl ?_
  intro p e s m args below meth c s₁ B hml hv
  obtain ⟨rfl, hsz, hP, hK, hD0, hZ⟩ := hv
  have hts := atoms_spec (ws := (.code y cc n none :: z_tbl)) B.pre
  have hin : meth.name = y.name := (name_of_methodNamed B.named B.method).1
  subst hsz
  have hD := hD0.self (sz := s.heap.size)
  have hA : ∀ q : Nat, s.heap.size ≤ q → va_A W0 s.heap.size q := fun q h => Or.inr h
  have F : g_F (p, e, s, m, av.toArray, below, meth, c) y.cls cc n (va_A W0 s.heap.size) sa :=
    ⟨B.exec, B.bytes, hml, findClass_of_methodNamed B.named, fun w hw => hts w (List.mem_cons_of_mem _ hw), hA, hZ, B.notSynchronized⟩
  have hl := lv_entry av (n := n) hsl
  rw [lg_entry_eq]
  generalize (lg_sl av ++ List.replicate (n - (lg_sl av).length) Slot.unset).toArray = ls at hl ⊢
  exact body _ _ F (hin.trans hyn) B.returns s.heap [] ls hK hP hD va_S.rf hl
variable {l : Launch} {K : z_K} {D : va_G} {A : Nat → Prop} {R : Room} {Q : State → Prop} {nL : Nat} {tys : List (ClassId × FieldType)} {cells slots : Nat} {ws : va_W} {pc : Nat} {lv : List (Nat × Value)} {st : List Value} {own : String} {cc : ByteArray} {sa : Nat}
theorem g_hts (F : g_F K own cc nL A sa) {w : Cond} (h : w ∈ z_tbl) : w.before (z_a K) (z_s K) = true := F.2.2.2.2.1 w h
theorem g_iconst (F : g_F K own cc nL A sa) {n : Int} (hd : decode cc pc = .ok (.iconst n, 1)) (v : Int32) (hv : Int32.ofInt n = v) (q : Nat) (hq : pc + 1 = q) (kk : g_X l K D A R Q nL tys cells slots ws q lv (.int v :: st)) : g_X l K D A R Q nL tys cells slots ws pc lv st := by
  subst hq
  exact fun H locs ls hK hP hD hS hl => lv_iconst F.1 F.2.1 hd hv (kk H locs ls hK hP hD hS hl)
theorem g_bipush (F : g_F K own cc nL A sa) {n : Int} (hd : decode cc pc = .ok (.bipush n, 2)) (v : Int32) (hv : (Int8.ofInt n).toInt32 = v) (q : Nat) (hq : pc + 2 = q) (kk : g_X l K D A R Q nL tys cells slots ws q lv (.int v :: st)) : g_X l K D A R Q nL tys cells slots ws pc lv st := by
  subst hq
  exact fun H locs ls hK hP hD hS hl => lv_bipush F.1 F.2.1 hd hv (kk H locs ls hK hP hD hS hl)
theorem g_sipush (F : g_F K own cc nL A sa) {n : Int} (hd : decode cc pc = .ok (.sipush n, 3)) (v : Int32) (hv : (Int16.ofInt n).toInt32 = v) (q : Nat) (hq : pc + 3 = q) (kk : g_X l K D A R Q nL tys cells slots ws q lv (.int v :: st)) : g_X l K D A R Q nL tys cells slots ws pc lv st := by
  subst hq
  exact fun H locs ls hK hP hD hS hl => lv_sipush F.1 F.2.1 hd hv (kk H locs ls hK hP hD hS hl)
theorem g_iload_n (F : g_F K own cc nL A sa) {k : Fin 4} {x : Int32} (hd : decode cc pc = .ok (.iload_n k, 1)) (j : Nat) (hj : lv[j]? = some ((k : Nat), .int x)) (q : Nat) (hq : pc + 1 = q) (kk : g_X l K D A R Q nL tys cells slots ws q lv (.int x :: st)) : g_X l K D A R Q nL tys cells slots ws pc lv st := by
  subst hq
  exact fun H locs ls hK hP hD hS hl => lv_iload_n F.1 F.2.1 hd rfl (lv_at hl j hj) (kk H locs ls hK hP hD hS hl)
theorem g_aload_n (F : g_F K own cc nL A sa) {k : Fin 4} {x : Nat} (hd : decode cc pc = .ok (.aload_n k, 1)) (j : Nat) (hj : lv[j]? = some ((k : Nat), .ref x)) (q : Nat) (hq : pc + 1 = q) (kk : g_X l K D A R Q nL tys cells slots ws q lv (.ref x :: st)) : g_X l K D A R Q nL tys cells slots ws pc lv st := by
  subst hq
  exact fun H locs ls hK hP hD hS hl => lv_aload_n F.1 F.2.1 hd rfl (lv_at hl j hj) (kk H locs ls hK hP hD hS hl)
theorem g_istore_n (F : g_F K own cc nL A sa) {k : Fin 4} {x : Int32} (hd : decode cc pc = .ok (.istore_n k, 1)) (lv' : List (Nat × Value)) (hl' : z_st lv (k : Nat) (.int x) = lv') (hn : (k : Nat) < nL) (q : Nat) (hq : pc + 1 = q) (kk : g_X l K D A R Q nL tys cells slots ws q lv' st) : g_X l K D A R Q nL tys cells slots ws pc lv (.int x :: st) := by
  subst hq; subst hl'
  exact fun H locs ls hK hP hD hS hl => lv_istore_n F.1 F.2.1 hd rfl hl hn rfl (fun ls' h' => kk H locs ls' hK hP hD hS (z_st_has h'))
theorem g_astore_n (F : g_F K own cc nL A sa) {k : Fin 4} {x : Nat} (hd : decode cc pc = .ok (.astore_n k, 1)) (lv' : List (Nat × Value)) (hl' : z_st lv (k : Nat) (.ref x) = lv') (hn : (k : Nat) < nL) (q : Nat) (hq : pc + 1 = q) (kk : g_X l K D A R Q nL tys cells slots ws q lv' st) : g_X l K D A R Q nL tys cells slots ws pc lv (.ref x :: st) := by
  subst hq; subst hl'
  exact fun H locs ls hK hP hD hS hl => lv_astore_n F.1 F.2.1 hd rfl hl hn rfl (fun ls' h' => kk H locs ls' hK hP hD hS (z_st_has h'))
theorem g_iinc (F : g_F K own cc nL A sa) {i : Nat} {n : Int} {x : Int32} (hd : decode cc pc = .ok (.iinc i n, 3)) (j : Nat) (hj : lv[j]? = some (i, .int x)) (w : Int32) (hw : Int32.ofInt n = w) (lv' : List (Nat × Value)) (hl' : z_st lv i (.int (x + w)) = lv') (hn : i < nL) (q : Nat) (hq : pc + 3 = q) (kk : g_X l K D A R Q nL tys cells slots ws q lv' st) : g_X l K D A R Q nL tys cells slots ws pc lv st := by
  subst hq; subst hl'; subst hw
  exact fun H locs ls hK hP hD hS hl => lv_iinc F.1 F.2.1 hd hl hj rfl hn rfl (fun ls' h' => kk H locs ls' hK hP hD hS (z_st_has h'))
theorem g_goto (F : g_F K own cc nL A sa) {off : Int} (hd : decode cc pc = .ok (.goto off, 3)) (t : Nat) (ht : (pc : Int) + off = (t : Int)) (kk : g_X l K D A R Q nL tys cells slots ws t lv st) : g_X l K D A R Q nL tys cells slots ws pc lv st :=
  fun H locs ls hK hP hD hS hl => lv_goto F.1 F.2.1 hd ht (kk H locs ls hK hP hD hS hl)
theorem g_dup (F : g_F K own cc nL A sa) {v : Value} (hd : decode cc pc = .ok (.dup, 1)) (hv : v.category = 1) (q : Nat) (hq : pc + 1 = q) (kk : g_X l K D A R Q nL tys cells slots ws q lv (v :: v :: st)) : g_X l K D A R Q nL tys cells slots ws pc lv (v :: st) := by
  subst hq
  exact fun H locs ls hK hP hD hS hl => lv_dup F.1 F.2.1 hd hv (kk H locs ls hK hP hD hS hl)
theorem g_iadd (F : g_F K own cc nL A sa) {x y : Int32} (hd : decode cc pc = .ok (.iadd, 1)) (q : Nat) (hq : pc + 1 = q) (kk : g_X l K D A R Q nL tys cells slots ws q lv (.int (x + y) :: st)) : g_X l K D A R Q nL tys cells slots ws pc lv (.int y :: .int x :: st) := by
  subst hq
  exact fun H locs ls hK hP hD hS hl => lv_iadd F.1 F.2.1 hd (kk H locs ls hK hP hD hS hl)
theorem g_isub (F : g_F K own cc nL A sa) {x y : Int32} (hd : decode cc pc = .ok (.isub, 1)) (q : Nat) (hq : pc + 1 = q) (kk : g_X l K D A R Q nL tys cells slots ws q lv (.int (x - y) :: st)) : g_X l K D A R Q nL tys cells slots ws pc lv (.int y :: .int x :: st) := by
  subst hq
  exact fun H locs ls hK hP hD hS hl => lv_isub F.1 F.2.1 hd (kk H locs ls hK hP hD hS hl)
theorem g_imul (F : g_F K own cc nL A sa) {x y : Int32} (hd : decode cc pc = .ok (.imul, 1)) (q : Nat) (hq : pc + 1 = q) (kk : g_X l K D A R Q nL tys cells slots ws q lv (.int (x * y) :: st)) : g_X l K D A R Q nL tys cells slots ws pc lv (.int y :: .int x :: st) := by
  subst hq
  exact fun H locs ls hK hP hD hS hl => lv_imul F.1 F.2.1 hd (kk H locs ls hK hP hD hS hl)
theorem g_iand (F : g_F K own cc nL A sa) {x y : Int32} (hd : decode cc pc = .ok (.iand, 1)) (q : Nat) (hq : pc + 1 = q) (kk : g_X l K D A R Q nL tys cells slots ws q lv (.int (x &&& y) :: st)) : g_X l K D A R Q nL tys cells slots ws pc lv (.int y :: .int x :: st) := by
  subst hq
  exact fun H locs ls hK hP hD hS hl => lv_iand F.1 F.2.1 hd (kk H locs ls hK hP hD hS hl)
theorem g_i2l (F : g_F K own cc nL A sa) {x : Int32} (hd : decode cc pc = .ok (.i2l, 1)) (q : Nat) (hq : pc + 1 = q) (kk : g_X l K D A R Q nL tys cells slots ws q lv (.long x.toInt64 :: st)) : g_X l K D A R Q nL tys cells slots ws pc lv (.int x :: st) := by
  subst hq
  exact fun H locs ls hK hP hD hS hl => lv_i2l F.1 F.2.1 hd rfl (kk H locs ls hK hP hD hS hl)
theorem g_lshl (F : g_F K own cc nL A sa) {x : Int64} {y : Int32} (hd : decode cc pc = .ok (.lshl, 1)) (q : Nat) (hq : pc + 1 = q) (kk : g_X l K D A R Q nL tys cells slots ws q lv (.long (x <<< (y.toInt64 &&& 63)) :: st)) : g_X l K D A R Q nL tys cells slots ws pc lv (.int y :: .long x :: st) := by
  subst hq
  exact fun H locs ls hK hP hD hS hl => lv_lshl F.1 F.2.1 hd rfl (kk H locs ls hK hP hD hS hl)
theorem g_land (F : g_F K own cc nL A sa) {x y : Int64} (hd : decode cc pc = .ok (.land, 1)) (q : Nat) (hq : pc + 1 = q) (kk : g_X l K D A R Q nL tys cells slots ws q lv (.long (x &&& y) :: st)) : g_X l K D A R Q nL tys cells slots ws pc lv (.long y :: .long x :: st) := by
  subst hq
  exact fun H locs ls hK hP hD hS hl => lv_land F.1 F.2.1 hd (kk H locs ls hK hP hD hS hl)
theorem g_lor (F : g_F K own cc nL A sa) {x y : Int64} (hd : decode cc pc = .ok (.lor, 1)) (q : Nat) (hq : pc + 1 = q) (kk : g_X l K D A R Q nL tys cells slots ws q lv (.long (x ||| y) :: st)) : g_X l K D A R Q nL tys cells slots ws pc lv (.long y :: .long x :: st) := by
  subst hq
  exact fun H locs ls hK hP hD hS hl => lv_lor F.1 F.2.1 hd (kk H locs ls hK hP hD hS hl)
theorem g_ldc2 (F : g_F K own cc nL A sa) {index : Nat} {v : Int64} (hd : decode cc pc = .ok (.ldc2_w index, 3)) (hc : Cond.constantLong own index v ∈ z_tbl) (q : Nat) (hq : pc + 3 = q) (kk : g_X l K D A R Q nL tys cells slots ws q lv (.long v :: st)) : g_X l K D A R Q nL tys cells slots ws pc lv st := by
  subst hq
  exact fun H locs ls hK hP hD hS hl => lv_ldc2 F.1 F.2.1 F.2.2.2.1 (g_hts F hc) hd (kk H locs ls hK hP hD hS hl)
theorem g_ldcS (hown : own = RX3) (F : g_F K own cc nL A sa) (hd : decode cc pc = .ok (.ldc 23, 2)) (q : Nat) (hq : pc + 2 = q) (kk : g_X l K D A R Q nL tys cells slots ws q lv (.ref sa :: st)) : g_X l K D A R Q nL tys cells slots ws pc lv st := by
  subst hq; subst hown
  exact fun H locs ls hK hP hD hS hl => va_ldcS F.1 F.2.1 F.2.2.2.1 F.2.2.2.2.2.2.1.1 hd (kk H locs ls hK hP hD hS hl)
theorem g_icmp_ge (F : g_F K own cc nL A sa) {x y : Int32} {off : Int} (hd : decode cc pc = .ok (.if_icmp .ge off, 3)) (t : Nat) (ht : (pc : Int) + off = (t : Int)) (q : Nat) (hq : pc + 3 = q) (kt : y ≤ x → g_X l K D A R Q nL tys cells slots ws t lv st) (kf : ¬ y ≤ x → g_X l K D A R Q nL tys cells slots ws q lv st) : g_X l K D A R Q nL tys cells slots ws pc lv (.int y :: .int x :: st) := by
  subst hq
  exact fun H locs ls hK hP hD hS hl => lv_icmp_ge F.1 F.2.1 hd ht (fun h => kt h H locs ls hK hP hD hS hl) (fun h => kf h H locs ls hK hP hD hS hl)
theorem g_icmp_gt (F : g_F K own cc nL A sa) {x y : Int32} {off : Int} (hd : decode cc pc = .ok (.if_icmp .gt off, 3)) (t : Nat) (ht : (pc : Int) + off = (t : Int)) (q : Nat) (hq : pc + 3 = q) (kt : y < x → g_X l K D A R Q nL tys cells slots ws t lv st) (kf : ¬ y < x → g_X l K D A R Q nL tys cells slots ws q lv st) : g_X l K D A R Q nL tys cells slots ws pc lv (.int y :: .int x :: st) := by
  subst hq
  exact fun H locs ls hK hP hD hS hl => lv_icmp_gt F.1 F.2.1 hd ht (fun h => kt h H locs ls hK hP hD hS hl) (fun h => kf h H locs ls hK hP hD hS hl)
theorem g_icmp_eq (F : g_F K own cc nL A sa) {x y : Int32} {off : Int} (hd : decode cc pc = .ok (.if_icmp .eq off, 3)) (t : Nat) (ht : (pc : Int) + off = (t : Int)) (q : Nat) (hq : pc + 3 = q) (kt : x = y → g_X l K D A R Q nL tys cells slots ws t lv st) (kf : ¬ x = y → g_X l K D A R Q nL tys cells slots ws q lv st) : g_X l K D A R Q nL tys cells slots ws pc lv (.int y :: .int x :: st) := by
  subst hq
  exact fun H locs ls hK hP hD hS hl => lv_icmp_eq F.1 F.2.1 hd ht (fun h => kt h H locs ls hK hP hD hS hl) (fun h => kf h H locs ls hK hP hD hS hl)
theorem g_tableOut (F : g_F K own cc nL A sa) {dflt lo hi : Int} {offs : Array Int} {len : Nat} {x : Int32} (hd : decode cc pc = .ok (.tableswitch dflt lo hi offs, len)) (h : x.toInt < lo ∨ hi < x.toInt) (t : Nat) (ht : (pc : Int) + dflt = (t : Int)) (kk : g_X l K D A R Q nL tys cells slots ws t lv st) : g_X l K D A R Q nL tys cells slots ws pc lv (.int x :: st) :=
  fun H locs ls hK hP hD hS hl => lv_tableOut F.1 F.2.1 hd h ht (kk H locs ls hK hP hD hS hl)
theorem g_tableIn (F : g_F K own cc nL A sa) {dflt lo hi : Int} {offs : Array Int} {len : Nat} {x : Int32} {off : Int} (hd : decode cc pc = .ok (.tableswitch dflt lo hi offs, len)) (h1 : ¬ x.toInt < lo) (h2 : ¬ hi < x.toInt) (ho : offs[(x.toInt - lo).toNat]? = some off) (t : Nat) (ht : (pc : Int) + off = (t : Int)) (kk : g_X l K D A R Q nL tys cells slots ws t lv st) : g_X l K D A R Q nL tys cells slots ws pc lv (.int x :: st) :=
  fun H locs ls hK hP hD hS hl => lv_tableIn F.1 F.2.1 hd h1 h2 ho ht (kk H locs ls hK hP hD hS hl)
/-- the world, the array classes, the locals, by other words -/
theorem g_w {ws' : va_W} (h : ws = ws') (kk : g_X l K D A R Q nL tys cells slots ws' pc lv st) : g_X l K D A R Q nL tys cells slots ws pc lv st := h ▸ kk
theorem g_sub (ks : List Nat) {lv' : List (Nat × Value)} (h : lv_pick lv ks = lv') (kk : g_X l K D A R Q nL tys cells slots ws pc lv' st) : g_X l K D A R Q nL tys cells slots ws pc lv st := fun H locs ls hK hP hD hS hl => kk H locs ls hK hP hD hS (lv_sub hl ks h)
theorem g_t (is : List Nat) {tys' : List (ClassId × FieldType)} (h : is.filterMap (fun i => tys[i]?) = tys') (kk : g_X l K D A R Q nL tys' cells slots ws pc lv st) : g_X l K D A R Q nL tys cells slots ws pc lv st := fun H locs ls hK hP hD hS hl => kk H locs ls (hK.sub is h) hP hD hS hl
theorem g_perm (is : List Nat) {ws' : va_W} (hf : is.filterMap (fun i => ws[i]?) = ws') (hn : va_nd is = true) (hm : is.map (fun i => ws[i]?) = ws'.map some) (kk : g_X l K D A R Q nL tys cells slots ws' pc lv st) : g_X l K D A R Q nL tys cells slots ws pc lv st := fun H locs ls hK hP hD hS hl => kk H locs ls hK (hP.sub is hf) (hD.sub is hn hm) hS hl
/-- two array classes of one kind are one -/
theorem g_tyI {cA cB : ClassId} {i j : Nat} (hi : tys[i]? = some (cA, .int)) (hj : tys[j]? = some (cB, .int)) (kk : cA = cB → g_X l K D A R Q nL tys cells slots ws pc lv st) : g_X l K D A R Q nL tys cells slots ws pc lv st :=
  fun H locs ls hK hP hD hS hl => kk (Option.some.inj ((va_nm_int (hK.2 i _ hi).2).symm.trans (va_nm_int (hK.2 j _ hj).2))) H locs ls hK hP hD hS hl
theorem g_tyO {cA cB : ClassId} {C : String} {i j : Nat} (hi : tys[i]? = some (cA, .object C)) (hj : tys[j]? = some (cB, .object C)) (kk : cA = cB → g_X l K D A R Q nL tys cells slots ws pc lv st) : g_X l K D A R Q nL tys cells slots ws pc lv st :=
  fun H locs ls hK hP hD hS hl => kk (Option.some.inj ((va_nmO (hK.2 i _ hi).2 rfl).symm.trans (va_nmO (hK.2 j _ hj).2 rfl))) H locs ls hK hP hD hS hl
theorem g_objInit (F : g_F K own cc nL A sa) {idx a : Nat} (hd : decode cc pc = .ok (.invokespecial idx, 3)) (hl : Cond.methodLink own idx objectInit ∈ z_tbl) (hfr : 1 ≤ R.frames) (hlo : (st.map fun v => v.category).sum + 12 ≤ R.locals) (q : Nat) (hq : pc + 3 = q) (kk : g_X l K D A R Q nL tys cells slots ws q lv st) : g_X l K D A R Q nL tys cells slots ws pc lv (.ref a :: st) := by
  subst hq
  intro H locs ls hK hP hD hS hl0
  refine W.objInit F.1 F.2.1 F.2.2.2.1 (g_hts F hl) (g_hts F m_95) (g_hts F m_96) rfl (by rw [F.2.2.1]; exact hl0.1) rfl hd hfr (by show 2 * 0 + _ + 12 ≤ _; omega) ?_
  exact W.eq (g2 := F0 (z_m K) (pc + 3) ls st) rfl (kk H locs ls hK hP hD hS hl0)
theorem g_new (F : g_F K own cc nL A sa) {C : String} {T : u_T} {N ci idx : Nat} (zc : z_Cl ci C T N) (hd : decode cc pc = .ok (.new idx, 3)) (hcl : Cond.classLink own idx C ∈ z_tbl) (hins : Cond.instantiable C N ∈ z_tbl) (hini : Cond.initialized C ∈ z_tbl) (ty : Nat → FieldType) (hty : ∀ k, k < N → parseFieldDescriptor (T k).2.2.1 = some (ty k)) (fs : List Value) (hfs : ∀ j, j < N → defaultValue (ty j) = vp_V fs j) (hc : cells + 1 ≤ R.cells) (hs : slots + N ≤ R.slots) (q : Nat) (hq : pc + 3 = q)
    (kk : ∀ a : Nat, g_X l K D A R Q nL tys (cells + 1) (slots + N) (ws ++ [(a, .inr (ci, fs))]) q lv (.ref a :: st)) : g_X l K D A R Q nL tys cells slots ws pc lv st := by
  subst hq
  intro H locs ls hK hP hD hS hl
  exact va_new (ci := ci) (fs := fs) F.1 F.2.1 F.2.2.2.2.1 zc.2.1 ty hty F.2.2.2.1 (g_hts F hcl) (g_hts F hins) (g_hts F hini) hK hP hD hS F.2.2.2.2.2.1 zc.1 hfs hc hs hd (fun a H1 hP1 hD1 hS1 => kk a H1 locs ls hK hP1 hD1 hS1 hl)
theorem g_newa (F : g_F K own cc nL A sa) {n : Int32} {cI : ClassId} (hd : decode cc pc = .ok (.newarray .int, 2)) (N' : Nat) (hn : ¬ n < 0) (hN : n.toNatClampNeg = N') (hb : N' * 4 ≤ 536870912) (hc : cells + 1 ≤ R.cells) (hs : slots + N' ≤ R.slots) (ht : tys[0]? = some (cI, .int)) (q : Nat) (hq : pc + 2 = q)
    (kk : ∀ a : Nat, g_X l K D A R Q nL tys (cells + 1) (slots + N') (ws ++ [(a, .inl (cI, N', .inl (fun _ => 0)))]) q lv (.ref a :: st)) : g_X l K D A R Q nL tys cells slots ws pc lv (.int n :: st) := by
  subst hq
  intro H locs ls hK hP hD hS hl
  refine va_newa (atype := .int) (a0 := (N', .inl (fun _ => 0))) (N' := N') F.1 F.2.1 (g_hts F m_137) rfl hK hP hD hS F.2.2.2.2.2.1 (fun _ => rfl) hn hN hb hc hs hd (fun a cA H1 hK1 hP1 hD1 hS1 => ?_)
  have h0 : (tys ++ [(cA, FieldType.int)])[0]? = some (cI, .int) := by rw [List.getElem?_append_left (List.getElem?_eq_some_iff.mp ht).1]; exact ht
  have h1 : (tys ++ [(cA, FieldType.int)])[tys.length]? = some (cA, .int) := by simp
  have e : cA = cI := Option.some.inj ((va_nm_int (hK1.2 _ _ h1).2).symm.trans (va_nm_int (hK1.2 _ _ h0).2))
  subst e
  exact kk a H1 locs ls hK hP1 hD1 hS1 hl
theorem g_newq (F : g_F K own cc nL A sa) {C : String} {idx : Nat} {n : Int32} (hd : decode cc pc = .ok (.anewarray idx, 3)) (hcl : Cond.classLink own idx C ∈ z_tbl) (hao : va_AO C (z_s K)) (N' : Nat) (hn : ¬ n < 0) (hN : n.toNatClampNeg = N') (hb : N' * 4 ≤ 536870912) (hc : cells + 1 ≤ R.cells) (hs : slots + N' ≤ R.slots) (q : Nat) (hq : pc + 3 = q)
    (kk : ∀ (a : Nat) (cA : ClassId), g_X l K D A R Q nL (tys ++ [(cA, .object C)]) (cells + 1) (slots + N') (ws ++ [(a, .inl (cA, N', .inr (.inr (.inr (.inr (fun _ => none))))))]) q lv (.ref a :: st)) : g_X l K D A R Q nL tys cells slots ws pc lv (.int n :: st) := by
  subst hq
  intro H locs ls hK hP hD hS hl
  exact va_newq F.1 F.2.1 F.2.2.2.1 (g_hts F hcl) hao hK hP hD hS F.2.2.2.2.2.1 hn hN hb hc hs hd (fun a cA H1 hK1 hP1 hD1 hS1 => kk a cA H1 locs ls hK1 hP1 hD1 hS1 hl)
theorem g_get (F : g_F K own cc nL A sa) {o ci N idx : Nat} {C : String} {T : u_T} {fs : List Value} (zc : z_Cl ci C T N) (hd : decode cc pc = .ok (.getfield idx, 3)) (i : Nat) (hi : ws[i]? = some (o, .inr (ci, fs))) (k : Nat) (hk : k < N) (hlk : z_lnk own idx (T k).1 (T k).2.1 (T k).2.2.1) (v : Value) (hv : fs[k]? = some v) (q : Nat) (hq : pc + 3 = q) (kk : g_X l K D A R Q nL tys cells slots ws q lv (v :: st)) : g_X l K D A R Q nL tys cells slots ws pc lv (.ref o :: st) := by
  subst hq
  intro H locs ls hK hP hD hS hl
  rcases hlk with h | ⟨host, h⟩
  · exact va_get (D := D) (ci := ci) F.1 F.2.1 F.2.2.2.2.1 zc.2.1 F.2.2.2.1 hK hP i hi zc.1 k hk (g_hts F h) (fun _ h9 => h9) hv hd (kk H locs ls hK hP hD hS hl)
  · exact va_getN (D := D) (ci := ci) F.1 F.2.1 F.2.2.2.2.1 zc.2.1 F.2.2.2.1 hK hP i hi zc.1 k hk (g_hts F h) (fun _ h9 => h9) hv hd (kk H locs ls hK hP hD hS hl)
theorem g_put (F : g_F K own cc nL A sa) {o ci N idx : Nat} {C : String} {T : u_T} {fs : List Value} {v : Value} {fty : FieldType} (zc : z_Cl ci C T N) (hd : decode cc pc = .ok (.putfield idx, 3)) (i : Nat) (hi : ws[i]? = some (o, .inr (ci, fs))) (k : Nat) (hk : k < N) (hlk : Cond.fieldLink own idx (T k).1 (T k).2.1 (T k).2.2.1 ∈ z_tbl) (hfin : (T k).2.2.2 = false) (hp : parseFieldDescriptor (T k).2.2.1 = some fty) (hn : narrow fty v = v) (hfit : fits fty v = true) (hkl : k < fs.length) (q : Nat) (hq : pc + 3 = q) (kk : g_X l K D A R Q nL tys cells slots (ws.set i (o, .inr (ci, fs.set k v))) q lv st) : g_X l K D A R Q nL tys cells slots ws pc lv (v :: .ref o :: st) := by
  subst hq
  intro H locs ls hK hP hD hS hl
  obtain ⟨ty, hty⟩ := zc.2.2.1
  exact va_put (D := D) (ci := ci) F.1 F.2.1 F.2.2.2.2.1 zc.2.1 ty hty zc.2.2.2 F.2.2.2.1 hK hP hD hS i hi zc.1 k hk (g_hts F hlk) (fun _ h9 => h9) hfin hp hn hfit hkl hd (fun H1 locs1 hP1 hD1 hS1 => kk H1 locs1 ls hK hP1 hD1 hS1 hl)
theorem g_putF (F : g_F K own cc nL A sa) (hin : (z_t K).name = "<init>") {o ci N idx : Nat} {C : String} {T : u_T} {fs : List Value} {v : Value} {fty : FieldType} (zc : z_Cl ci C T N) (hd : decode cc pc = .ok (.putfield idx, 3)) (i : Nat) (hi : ws[i]? = some (o, .inr (ci, fs))) (k : Nat) (hk : k < N) (hlk : Cond.fieldLink own idx (T k).1 (T k).2.1 (T k).2.2.1 ∈ z_tbl) (hfin : (T k).2.2.2 = true) (hdecl : (T k).1 = own) (hp : parseFieldDescriptor (T k).2.2.1 = some fty) (hn : narrow fty v = v) (hfit : fits fty v = true) (hkl : k < fs.length) (q : Nat) (hq : pc + 3 = q) (kk : g_X l K D A R Q nL tys cells slots (ws.set i (o, .inr (ci, fs.set k v))) q lv st) : g_X l K D A R Q nL tys cells slots ws pc lv (v :: .ref o :: st) := by
  subst hq
  intro H locs ls hK hP hD hS hl
  obtain ⟨ty, hty⟩ := zc.2.2.1
  exact va_putF (D := D) (ci := ci) F.1 F.2.1 F.2.2.2.2.1 zc.2.1 ty hty zc.2.2.2 F.2.2.2.1 hK hP hD hS i hi zc.1 k hk (g_hts F hlk) (fun _ h9 => h9) hfin hin hdecl hp hn hfit hkl hd (fun H1 locs1 hP1 hD1 hS1 => kk H1 locs1 ls hK hP1 hD1 hS1 hl)
theorem g_iast (F : g_F K own cc nL A sa) {a n : Nat} {cI : ClassId} {f : Nat → Int32} {i x : Int32} (hd : decode cc pc = .ok (.iastore, 1)) (j : Nat) (hj : ws[j]? = some (a, .inl (cI, n, .inl f))) (ht : tys[0]? = some (cI, .int)) (hin : vp_in i n) (q : Nat) (hq : pc + 1 = q) (kk : g_X l K D A R Q nL tys cells slots (ws.set j (a, .inl (cI, n, .inl (upd f i.toNatClampNeg x)))) q lv st) : g_X l K D A R Q nL tys cells slots ws pc lv (.int x :: .int i :: .ref a :: st) := by
  subst hq
  intro H locs ls hK hP hD hS hl
  exact va_iast (D := D) F.1 F.2.1 hK hP hD hS j 0 hj ht hin hd (fun H1 locs1 hP1 hD1 hS1 => kk H1 locs1 ls hK hP1 hD1 hS1 hl)
theorem g_aast (F : g_F K own cc nL A sa) {a n v ci N : Nat} {C : String} {T : u_T} {vs : List Value} {cA : ClassId} {f : Nat → Option Nat} {i : Int32} (zc : z_Cl ci C T N) (hd : decode cc pc = .ok (.aastore, 1)) (j t0 jv : Nat) (hj : ws[j]? = some (a, .inl (cA, n, .inr (.inr (.inr (.inr f)))))) (ht : tys[t0]? = some (cA, .object C)) (hv : ws[jv]? = some (v, .inr (ci, vs))) (hin : vp_in i n) (q : Nat) (hq : pc + 1 = q) (kk : g_X l K D A R Q nL tys cells slots (ws.set j (a, .inl (cA, n, .inr (.inr (.inr (.inr (va_up f i.toNatClampNeg (some v)))))))) q lv st) : g_X l K D A R Q nL tys cells slots ws pc lv (.ref v :: .int i :: .ref a :: st) := by
  subst hq
  intro H locs ls hK hP hD hS hl
  exact va_astq (D := D) (r := (C, T, N)) F.1 F.2.1 hK hP hD hS j t0 jv ci hj ht hv zc.1 hin hd (fun H1 locs1 hP1 hD1 hS1 => kk H1 locs1 ls hK hP1 hD1 hS1 hl)
theorem g_max (F : g_F K own cc nL A sa) {idx : Nat} {x y : Int32} (hd : decode cc pc = .ok (.invokestatic idx, 3)) (hl : Cond.methodLink own idx Lib.Math.max.name ∈ z_tbl) (hs : Cond.static Lib.Math.max.name ∈ z_tbl) (hini : Cond.initialized "java/lang/Math" ∈ z_tbl) (hco : Cond.code Lib.Math.max.name Lib.Math.max.code 2 (some .int) ∈ z_tbl) (hfr : 1 ≤ R.frames) (hlo : (st.map fun v => v.category).sum + 13 ≤ R.locals) (hc : cells ≤ R.cells) (hsl : slots ≤ R.slots) (q : Nat) (hq : pc + 3 = q) (kk : g_X l K D A R Q nL tys cells slots ws q lv (.int (if x < y then y else x) :: st)) : g_X l K D A R Q nL tys cells slots ws pc lv (.int y :: .int x :: st) := by
  subst hq
  exact fun H locs ls hK hP hD hS hl0 => va_mmax F.1 F.2.1 (F.2.2.1.trans hl0.1.symm) F.2.2.2.1 (g_hts F hl) (g_hts F hs) (g_hts F hini) (g_hts F hco) hfr hlo hc hsl hd (kk H locs ls hK hP hD hS hl0)
theorem g_callB (F : g_F K own cc nL A sa) {idx d' mc ms maxL ar : Nat} {y : MethodName} {bytes : ByteArray} {ret' : Option FieldType} (hI : z_I y bytes maxL ret' ar) (hl : Cond.methodLink own idx y ∈ z_tbl) (hfr : d' + 1 ≤ R.frames) (hlo : 40 * (d' + 1) ≤ R.locals) : CallB R (z_s K) (z_a K) own idx y bytes maxL ret' (.code y bytes maxL ret' :: z_tbl) (g_R d' mc ms) mc ms ar := by
  refine ⟨rfl, rfl, hfr, ?_, z_good F.2.2.2.2.1 hI.1, List.mem_cons_self, g_hts F hI.1, g_hts F hI.2.1, hI.2.2.1, fun sig h => ?_, g_hts F hl⟩
  · have := hI.2.2.2.2.1
    show 8 + (maxL + 11) + 40 * d' ≤ _
    omega
  · have h2 := hI.2.2.2.1
    rw [h] at h2
    exact (Option.some.inj h2).symm
theorem g_callI {S : Type} (F : g_F K own cc nL A sa) {idx d' mc ms maxL ar h : Nat} {e : va_E} {y : MethodName} {bytes : ByteArray} {As rest : List Value} {WF : S → va_W} {tF : S → List (ClassId × FieldType)} {cI : ClassId} (hd : decode cc pc = .ok (.invokespecial idx, 3)) (hl : Cond.methodLink own idx y ∈ z_tbl) (hI : z_I y bytes maxL none ar) (hin : Cond.instanceMethod y ∈ z_tbl) (hy : y.name = "<init>") (hn : As.length = ar)
    (hC : g_M l D cI sa d' y bytes maxL (.ref h :: As) [(h, e)] mc ms WF tF) (hst : st = As.reverse ++ .ref h :: rest) (hfr : d' + 1 ≤ R.frames) (hlo : 40 * (d' + 1) ≤ R.locals) (hcl : cells + mc ≤ R.cells) (hsl : slots + ms ≤ R.slots) (hrest : (rest.map fun v => v.category).sum ≤ 8)
    (i : Nat) (hi : ws[i]? = some (h, e)) (isR : List Nat) (wr : va_W) (hR : isR.map (fun i => ws[i]?) = wr.map some) (hnd : va_nd isR = true) (hdis : ∀ j ∈ isR, j ∉ [i]) (ht : tys[0]? = some (cI, .int)) (q : Nat) (hq : pc + 3 = q)
    (kk : ∀ u : S, g_X l K D A R Q nL (tys ++ tF u) (cells + mc) (slots + ms) (wr ++ WF u) q lv rest) : g_X l K D A R Q nL tys cells slots ws pc lv st := by
  subst hq; subst hst
  intro H locs ls hK hP hD hS hl0
  have hic : [i].map (fun i => ws[i]?) = ([(h, e)] : va_W).map some := by show [ws[i]?] = _; rw [hi]; rfl
  have hPc := hP.sub (ws' := [(h, e)]) [i] (by show List.filterMap _ [i] = _; simp [hi])
  have hDc := hD.sub (ws' := [(h, e)]) [i] (by simp [va_nd]) hic
  have hKc := hK.sub (tys' := [(cI, .int)]) [0] (by show List.filterMap _ [0] = _; simp [ht])
  have hFc := va_free (wc := [(h, e)]) hD hS F.2.2.2.2.2.1 [i] hic
  refine va_callv (va_runI (As := As) (rest := rest) ⟨F.1, F.2.1, F.2.2.1, F.2.2.2.1, F.2.2.2.2.1⟩ (hC H.size) ⟨g_callB F hI hl hfr hlo, hy, g_hts F hin⟩ ⟨g_blind, fun U hU hW => ⟨rfl, by rw [hU], by rw [hU]; exact hPc, va_K.moved hW.alike hKc, hDc.weaken (fun _ _ _ _ => trivial), F.2.2.2.2.2.2.1.warm hW⟩⟩ rfl hn hl0.1 rfl (by show 2 * 0 + _ ≤ 8; omega) hd ⟨hcl, hsl⟩) hS (fun q _ h => hFc q h) hFc (fun u t H1 locs1 ht1 hvm _ hB hz1 hk1 hS1 => ?_)
  obtain ⟨hP1, hK1, hD1⟩ := hB
  rw [ht1] at hP1
  have hK1 := va_K.moved hvm.symm hK1
  obtain ⟨hP2, hD2⟩ := va_join (wr := wr) (w1 := WF u) hP hD [i] isR hic hR hnd hdis hk1 hFc hP1 hD1
  exact kk u H1 locs1 ls (hK.app hK1) hP2 hD2 hS1 hl0
theorem g_ret {S : Type} (F : g_F K own cc nL A sa) (hr : (z_t K).sig.returnType = none) {d mc ms : Nat} {WF : S → va_W} {tF : S → List (ClassId × FieldType)} (hd : decode cc pc = .ok (.return_, 1)) (u : S) (is : List Nat) (hf : is.filterMap (fun i => ws[i]?) = WF u) (hn : va_nd is = true) (hm : is.map (fun i => ws[i]?) = (WF u).map some) (it : List Nat) (ht : it.filterMap (fun i => tys[i]?) = tF u) : g_X l K D A (g_R d mc ms) (MQ (z_b K) (g_Q D WF tF A) (z_a K) (z_s K) mc ms A) nL tys mc ms ws pc lv [] := by
  intro H locs ls hK hP hD hS hl
  have hP9 := hP.sub is hf
  have hD9 := hD.sub is hn hm
  have hK9 := hK.sub it ht
  exact W.vret F.1 F.2.1 hr (fun t ht hW => ⟨⟨u, rfl, trivial, by rw [ht]; exact hP9, va_K.moved hW.alike hK9, hD9⟩, hS.F ht⟩) hS.2.2 hd (hlocks := F.2.2.2.2.2.2.2)
end ZG
