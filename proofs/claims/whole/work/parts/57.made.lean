/-! the class made: parts of a world by name -/
section ZJ
theorem j_apart {A0 : Nat → Prop} {D : va_G} {cl : List vw_C} {wr wc : va_W} {H : Heap} (hP : va_P D cl (wr ++ wc) H) (hD : va_D A0 (wr ++ wc)) (k : Nat) (q : Nat × va_E) (hk : wr[k]? = some q) : q.1 < H.size ∧ ¬ va_A wc H.size q.1 := by
  have hkl : k < wr.length := (List.getElem?_eq_some_iff.mp hk).1
  have hk2 : (wr ++ wc)[k]? = some q := by rw [List.getElem?_append_left hkl]; exact hk
  have hlt := (hP k q hk2).lt
  refine ⟨hlt, fun z => ?_⟩
  rcases z with ⟨k', e, z⟩ | z
  · have hz : (wr ++ wc)[wr.length + k']? = some (q.1, e) := by rw [List.getElem?_append_right (by omega), Nat.add_sub_cancel_left]; exact z
    have := hD.1 k _ q (q.1, e) hk2 hz rfl
    omega
  · omega
theorem j_left {A0 : Nat → Prop} {wr wc : va_W} (hD : va_D A0 (wr ++ wc)) : va_D A0 wr := by
  have e : ∀ (k : Nat) (q : Nat × va_E), wr[k]? = some q → (wr ++ wc)[k]? = some q := fun k q hk => by rw [List.getElem?_append_left (List.getElem?_eq_some_iff.mp hk).1]; exact hk
  exact ⟨fun i j p q hi hj h => hD.1 i j p q (e i p hi) (e j q hj) h, fun k q hk => hD.2 k q (e k q hk)⟩
theorem j_right {A0 : Nat → Prop} {wr wc : va_W} (hD : va_D A0 (wr ++ wc)) : va_D A0 wc := by
  have e : ∀ (k : Nat) (q : Nat × va_E), wc[k]? = some q → (wr ++ wc)[wr.length + k]? = some q := fun k q hk => by rw [List.getElem?_append_right (by omega), Nat.add_sub_cancel_left]; exact hk
  exact ⟨fun i j p q hi hj h => by have := hD.1 _ _ p q (e i p hi) (e j q hj) h; omega, fun k q hk => hD.2 _ q (e k q hk)⟩
theorem j_rightP {D : va_G} {cl : List vw_C} {wr wc : va_W} {H : Heap} (hP : va_P D cl (wr ++ wc) H) : va_P D cl wc H := fun k q hk => hP (wr.length + k) q (by rw [List.getElem?_append_right (by omega), Nat.add_sub_cancel_left]; exact hk)
theorem j_leftP {D : va_G} {cl : List vw_C} {wr wc : va_W} {H : Heap} (hP : va_P D cl (wr ++ wc) H) : va_P D cl wr H := fun k q hk => hP k q (by rw [List.getElem?_append_left (List.getElem?_eq_some_iff.mp hk).1]; exact hk)
theorem j_app {A0 : Nat → Prop} {D : va_G} {cl : List vw_C} {wr wc w1 : va_W} {H H1 : Heap} (hP : va_P D cl (wr ++ wc) H) (hD : va_D A0 (wr ++ wc)) (hk : ∀ q : Nat, q < H.size → ¬ va_A wc H.size q → H1[q]? = H[q]?) (hF : ∀ q, va_A wc H.size q → A0 q) (hP1 : va_P D cl w1 H1) (hD1 : va_D (va_A wc H.size) w1) : va_P D cl (wr ++ w1) H1 ∧ va_D A0 (wr ++ w1) := by
  have ap := j_apart hP hD
  refine ⟨va_P.app (fun k q h => ((j_leftP hP) k q h).kept (hk _ (ap k q h).1 (ap k q h).2)) hP1, va_D.app (j_left hD) (hD1.weaken (fun k q _ h => hF _ h)) (fun i j p q hi hj e => (ap i p hi).2 (e ▸ hD1.2 j q hj))⟩
theorem j_sub {A0 : Nat → Prop} {ws : va_W} {H0 H : Heap} {locs : List Loc} (hD : va_D A0 ws) (hS : va_S A0 H0 H locs) (hA : ∀ q, H0.size ≤ q → A0 q) : ∀ q, va_A ws H.size q → A0 q := by
  intro q h
  rcases h with ⟨k, e, h⟩ | h
  · exact hD.2 k (q, e) h
  · exact hA q (Nat.le_trans hS.1 h)
variable {l : Launch} {K : z_K} {D : va_G} {A : Nat → Prop} {R : Room} {Q : State → Prop} {nL : Nat} {tys : List (ClassId × FieldType)} {cells slots : Nat} {ws : va_W} {pc : Nat} {lv : List (Nat × Value)} {st : List Value} {own : String} {cc : ByteArray} {sa : Nat}
theorem g_callL {S : Type} (F : g_F K own cc nL A sa) {idx d' mc ms maxL ar h : Nat} {e : va_E} {y : MethodName} {bytes : ByteArray} {As rest : List Value} {WF : S → va_W} {tF : S → List (ClassId × FieldType)} {cI : ClassId} {wr : va_W} (hd : decode cc pc = .ok (.invokespecial idx, 3)) (hl : Cond.methodLink own idx y ∈ z_tbl) (hI : z_I y bytes maxL none ar) (hin : Cond.instanceMethod y ∈ z_tbl) (hy : y.name = "<init>") (hn : As.length = ar)
    (hC : g_M l D cI sa d' y bytes maxL (.ref h :: As) [(h, e)] mc ms WF tF) (hst : st = As.reverse ++ .ref h :: rest) (hfr : d' + 1 ≤ R.frames) (hlo : 40 * (d' + 1) ≤ R.locals) (hcl : cells + mc ≤ R.cells) (hsl : slots + ms ≤ R.slots) (hrest : (rest.map fun v => v.category).sum ≤ 8) (ht : tys[0]? = some (cI, .int)) (q : Nat) (hq : pc + 3 = q)
    (kk : ∀ u : S, g_X l K D A R Q nL (tys ++ tF u) (cells + mc) (slots + ms) (wr ++ WF u) q lv rest) : g_X l K D A R Q nL tys cells slots (wr ++ [(h, e)]) pc lv st := by
  subst hq; subst hst
  intro H locs ls hK hP hD hS hl0
  have hPc := j_rightP hP
  have hDc := j_right hD
  have hKc := hK.sub (tys' := [(cI, .int)]) [0] (by show List.filterMap _ [0] = _; simp [ht])
  have hFc := j_sub hDc hS F.2.2.2.2.2.1
  refine va_callv (va_runI (As := As) (rest := rest) ⟨F.1, F.2.1, F.2.2.1, F.2.2.2.1, F.2.2.2.2.1⟩ (hC H.size) ⟨g_callB F hI hl hfr hlo, hy, g_hts F hin⟩ ⟨g_blind, fun U hU hW => ⟨rfl, by rw [hU], by rw [hU]; exact hPc, va_K.moved hW.alike hKc, hDc.weaken (fun _ _ _ _ => trivial), F.2.2.2.2.2.2.1.warm hW⟩⟩ rfl hn hl0.1 rfl (by show 2 * 0 + _ ≤ 8; omega) hd ⟨hcl, hsl⟩) hS (fun q _ h => hFc q h) hFc (fun u t H1 locs1 ht1 hvm _ hB hz1 hk1 hS1 => ?_)
  obtain ⟨hP1, hK1, hD1⟩ := hB
  rw [ht1] at hP1
  have hK1 := va_K.moved hvm.symm hK1
  obtain ⟨hP2, hD2⟩ := j_app hP hD hk1 hFc hP1 hD1
  exact kk u H1 locs1 ls (hK.app hK1) hP2 hD2 hS1 hl0
theorem g_retW {S : Type} (F : g_F K own cc nL A sa) (hr : (z_t K).sig.returnType = none) {d mc ms : Nat} {WF : S → va_W} {tF : S → List (ClassId × FieldType)} (hd : decode cc pc = .ok (.return_, 1)) (u : S) (hf : ws = WF u) (ht : tys = tF u) : g_X l K D A (g_R d mc ms) (MQ (z_b K) (g_Q D WF tF A) (z_a K) (z_s K) mc ms A) nL tys mc ms ws pc lv [] := by
  intro H locs ls hK hP hD hS hl
  subst hf; subst ht
  exact W.vret F.1 F.2.1 hr (fun t ht hW => ⟨⟨u, rfl, trivial, by rw [ht]; exact hP, va_K.moved hW.alike hK, hD⟩, hS.F ht⟩) hS.2.2 hd (hlocks := F.2.2.2.2.2.2.2)
theorem g_aastA (F : g_F K own cc nL A sa) {a n v ci N : Nat} {C : String} {T : u_T} {vs : List Value} {cA : ClassId} {f : Nat → Option Nat} {i : Int32} (X Y ws' : va_W) (zc : z_Cl ci C T N) (hd : decode cc pc = .ok (.aastore, 1)) (t0 jv : Nat) (ht : tys[t0]? = some (cA, .object C)) (hw : ws = X ++ ((a, .inl (cA, n, .inr (.inr (.inr (.inr f))))) :: Y)) (hv : Y[jv]? = some (v, .inr (ci, vs))) (hin : vp_in i n) (hw' : X ++ ((a, .inl (cA, n, .inr (.inr (.inr (.inr (va_up f i.toNatClampNeg (some v))))))) :: Y) = ws') (q : Nat) (hq : pc + 1 = q) (kk : g_X l K D A R Q nL tys cells slots ws' q lv st) : g_X l K D A R Q nL tys cells slots ws pc lv (.ref v :: .int i :: .ref a :: st) := by
  subst hw; subst hw'
  refine g_aast (f := f) (vs := vs) (cA := cA) (n := n) F zc hd X.length t0 (X.length + 1 + jv) (by simp) ht ?_ hin q hq ?_
  · rw [List.getElem?_append_right (by omega), show X.length + 1 + jv - X.length = jv + 1 by omega]; exact hv
  · refine g_w ?_ kk
    rw [List.set_append_right (h := Nat.le_refl _), Nat.sub_self]; rfl
end ZJ
abbrev g_S9 : Type := (Nat → Nat) × (Nat → Nat → Nat) × ClassId × ClassId
def gX9_W (cI : ClassId) (h sa : Nat) (v : g_S9) : va_W := ((h, .inr (8, [.ref (v.1 0), .ref (v.1 1), .ref (v.1 2), .ref (v.1 3), .ref (v.1 4), .ref (v.1 9), .ref (v.1 10), .int 0])) :: (gX8_W cI (v.1 0) ((v.2.1 0), v.2.2.1) ++ (gX8_W cI (v.1 1) ((v.2.1 1), v.2.2.1) ++ (gX0_W cI (v.1 2) (v.2.1 2) ++ (gX3_W cI (v.1 3) sa ((v.2.1 0) 20) (v.2.1 3) ++ (gX7_W cI (v.1 4) (v.2.1 4) ++ (((v.1 9), .inl (v.2.2.2, 4, .inr (.inr (.inr (.inr (va_up (va_up (va_up (va_up (fun _ => none) 0 (some (v.1 5))) 1 (some (v.1 6))) 2 (some (v.1 7))) 3 (some (v.1 8)))))))) :: (gX5_W cI (v.1 5) (v.2.1 5) ++ (gX5_W cI (v.1 6) (v.2.1 6) ++ (gX5_W cI (v.1 7) (v.2.1 7) ++ (gX5_W cI (v.1 8) (v.2.1 8) ++ [((v.1 10), .inl (cI, 7, .inl (fun _ => 0)))])))))))))))
set_option maxHeartbeats 4000000 in
set_option maxRecDepth 20000 in
theorem cX9_new {l : Launch} {D : va_G} {cI : ClassId} {sa h : Nat} : g_M (S := g_S9) l D cI sa 4 yX9_init cX9_init 2 [.ref h] [(h, .inr (8, [.null, .null, .null, .null, .null, .null, .null, .int 0]))] 70 1182 (fun v => gX9_W cI h sa v) (fun v => [(cI, .int), (v.2.2.1, .object RX6), (v.2.2.2, .object RX5)]) := by
  refine g_intro (by decide) rfl (Nat.le_of_ble_eq_true rfl) (fun K A F hin hr => ?_)
  refine g_aload_n F dX9_init_0 0 rfl 1 rfl ?_
  refine g_objInit F dX9_init_1 m_94 (Nat.le_of_ble_eq_true rfl) (Nat.le_of_ble_eq_true rfl) 4 rfl ?_
  refine g_w (ws' := ((h, .inr (8, [.null, .null, .null, .null, .null, .null, .null, .int 0])) :: [])) rfl ?_
  refine g_aload_n F dX9_init_4 0 rfl 5 rfl ?_
  refine g_new F zc7 dX9_init_5 m_97 m_98 m_71 tyX8 tyX8_ok [.null, .null, .null, .null, .null, .null, .null, .int 0] (fun j hj => by rcases (show j = 0 ∨ j = 1 ∨ j = 2 ∨ j = 3 ∨ j = 4 ∨ j = 5 ∨ j = 6 ∨ j = 7 by omega) with rfl | rfl | rfl | rfl | rfl | rfl | rfl | rfl <;> rfl) (Nat.le_of_ble_eq_true rfl) (Nat.le_of_ble_eq_true rfl) 8 rfl (fun a5_4 => ?_)
  refine g_dup F dX9_init_8 rfl 9 rfl ?_
  refine g_callL F dX9_init_9 m_99 iX8_init m_100 rfl rfl (cX8_new) rfl (Nat.le_of_ble_eq_true rfl) (Nat.le_of_ble_eq_true rfl) (Nat.le_of_ble_eq_true rfl) (Nat.le_of_ble_eq_true rfl) (Nat.le_of_ble_eq_true rfl) rfl 12 rfl (fun u9_6 => ?_)
  obtain ⟨u9_6, k9_6⟩ := u9_6
  refine g_t (tys' := [(cI, .int), (k9_6, .object RX6)]) [0, 2] rfl ?_
  refine g_w (ws' := ((h, .inr (8, [.null, .null, .null, .null, .null, .null, .null, .int 0])) :: gX8_W cI a5_4 (u9_6, k9_6))) (by simp only [List.append_assoc, List.cons_append, List.nil_append]) ?_
  refine g_putF F hin zc8 dX9_init_12 0 rfl 0 (by decide) m_302 rfl rfl (tyX9_ok 0 (by decide)) rfl rfl (Nat.le_of_ble_eq_true rfl) 15 rfl ?_
  refine g_w (ws' := ((h, .inr (8, [.ref a5_4, .null, .null, .null, .null, .null, .null, .int 0])) :: gX8_W cI a5_4 (u9_6, k9_6))) rfl ?_
  refine g_aload_n F dX9_init_15 0 rfl 16 rfl ?_
  refine g_new F zc7 dX9_init_16 m_97 m_98 m_71 tyX8 tyX8_ok [.null, .null, .null, .null, .null, .null, .null, .int 0] (fun j hj => by rcases (show j = 0 ∨ j = 1 ∨ j = 2 ∨ j = 3 ∨ j = 4 ∨ j = 5 ∨ j = 6 ∨ j = 7 by omega) with rfl | rfl | rfl | rfl | rfl | rfl | rfl | rfl <;> rfl) (Nat.le_of_ble_eq_true rfl) (Nat.le_of_ble_eq_true rfl) 19 rfl (fun a16_9 => ?_)
  refine g_dup F dX9_init_19 rfl 20 rfl ?_
  refine g_callL F dX9_init_20 m_99 iX8_init m_100 rfl rfl (cX8_new) rfl (Nat.le_of_ble_eq_true rfl) (Nat.le_of_ble_eq_true rfl) (Nat.le_of_ble_eq_true rfl) (Nat.le_of_ble_eq_true rfl) (Nat.le_of_ble_eq_true rfl) rfl 23 rfl (fun u20_11 => ?_)
  obtain ⟨u20_11, k20_11⟩ := u20_11
  refine g_tyO (i := 1) (j := 3) rfl rfl (fun ek => ?_)
  subst ek
  refine g_t (tys' := [(cI, .int), (k9_6, .object RX6)]) [0, 1] rfl ?_
  refine g_w (ws' := ((h, .inr (8, [.ref a5_4, .null, .null, .null, .null, .null, .null, .int 0])) :: (gX8_W cI a5_4 (u9_6, k9_6) ++ gX8_W cI a16_9 (u20_11, k9_6)))) (by simp only [List.append_assoc, List.cons_append, List.nil_append]) ?_
  refine g_putF F hin zc8 dX9_init_23 0 rfl 1 (by decide) m_303 rfl rfl (tyX9_ok 1 (by decide)) rfl rfl (Nat.le_of_ble_eq_true rfl) 26 rfl ?_
  refine g_w (ws' := ((h, .inr (8, [.ref a5_4, .ref a16_9, .null, .null, .null, .null, .null, .int 0])) :: (gX8_W cI a5_4 (u9_6, k9_6) ++ gX8_W cI a16_9 (u20_11, k9_6)))) rfl ?_
  refine g_aload_n F dX9_init_26 0 rfl 27 rfl ?_
  refine g_new F zc0 dX9_init_27 m_232 m_139 m_73 tyX0 tyX0_ok [.int 0, .int 0, .int 0, .null] (fun j hj => by rcases (show j = 0 ∨ j = 1 ∨ j = 2 ∨ j = 3 by omega) with rfl | rfl | rfl | rfl <;> rfl) (Nat.le_of_ble_eq_true rfl) (Nat.le_of_ble_eq_true rfl) 30 rfl (fun a27_14 => ?_)
  refine g_dup F dX9_init_30 rfl 31 rfl ?_
  refine g_callL F dX9_init_31 m_233 iX0_init m_141 rfl rfl (cX0_new) rfl (Nat.le_of_ble_eq_true rfl) (Nat.le_of_ble_eq_true rfl) (Nat.le_of_ble_eq_true rfl) (Nat.le_of_ble_eq_true rfl) (Nat.le_of_ble_eq_true rfl) rfl 34 rfl (fun u31_16 => ?_)
  refine g_t (tys' := [(cI, .int), (k9_6, .object RX6)]) [0, 1] rfl ?_
  refine g_w (ws' := ((h, .inr (8, [.ref a5_4, .ref a16_9, .null, .null, .null, .null, .null, .int 0])) :: (gX8_W cI a5_4 (u9_6, k9_6) ++ (gX8_W cI a16_9 (u20_11, k9_6) ++ gX0_W cI a27_14 u31_16)))) (by simp only [List.append_assoc, List.cons_append, List.nil_append]) ?_
  refine g_putF F hin zc8 dX9_init_34 0 rfl 2 (by decide) m_304 rfl rfl (tyX9_ok 2 (by decide)) rfl rfl (Nat.le_of_ble_eq_true rfl) 37 rfl ?_
  refine g_w (ws' := ((h, .inr (8, [.ref a5_4, .ref a16_9, .ref a27_14, .null, .null, .null, .null, .int 0])) :: (gX8_W cI a5_4 (u9_6, k9_6) ++ (gX8_W cI a16_9 (u20_11, k9_6) ++ gX0_W cI a27_14 u31_16)))) rfl ?_
  refine g_aload_n F dX9_init_37 0 rfl 38 rfl ?_
  refine g_new F zc2 dX9_init_38 m_234 m_235 m_77 tyX3 tyX3_ok [.null, .null, .null, .int 0] (fun j hj => by rcases (show j = 0 ∨ j = 1 ∨ j = 2 ∨ j = 3 by omega) with rfl | rfl | rfl | rfl <;> rfl) (Nat.le_of_ble_eq_true rfl) (Nat.le_of_ble_eq_true rfl) 41 rfl (fun a38_19 => ?_)
  refine g_dup F dX9_init_41 rfl 42 rfl ?_
  refine g_aload_n F dX9_init_42 0 rfl 43 rfl ?_
  refine g_get F zc8 dX9_init_43 0 rfl 0 (by decide) (.inl m_302) (.ref a5_4) rfl 46 rfl ?_
  refine g_get F zc7 dX9_init_46 1 rfl 5 (by decide) (.inr ⟨_, m_209⟩) (.ref (u9_6 20)) rfl 49 rfl ?_
  refine g_callL F dX9_init_49 m_236 iX3_init m_237 rfl rfl (cX3_new (ta := u9_6 20)) rfl (Nat.le_of_ble_eq_true rfl) (Nat.le_of_ble_eq_true rfl) (Nat.le_of_ble_eq_true rfl) (Nat.le_of_ble_eq_true rfl) (Nat.le_of_ble_eq_true rfl) rfl 52 rfl (fun u49_24 => ?_)
  refine g_t (tys' := [(cI, .int), (k9_6, .object RX6)]) [0, 1] rfl ?_
  refine g_w (ws' := ((h, .inr (8, [.ref a5_4, .ref a16_9, .ref a27_14, .null, .null, .null, .null, .int 0])) :: (gX8_W cI a5_4 (u9_6, k9_6) ++ (gX8_W cI a16_9 (u20_11, k9_6) ++ (gX0_W cI a27_14 u31_16 ++ gX3_W cI a38_19 sa (u9_6 20) u49_24))))) (by simp only [List.append_assoc, List.cons_append, List.nil_append]) ?_
  refine g_putF F hin zc8 dX9_init_52 0 rfl 3 (by decide) m_305 rfl rfl (tyX9_ok 3 (by decide)) rfl rfl (Nat.le_of_ble_eq_true rfl) 55 rfl ?_
  refine g_w (ws' := ((h, .inr (8, [.ref a5_4, .ref a16_9, .ref a27_14, .ref a38_19, .null, .null, .null, .int 0])) :: (gX8_W cI a5_4 (u9_6, k9_6) ++ (gX8_W cI a16_9 (u20_11, k9_6) ++ (gX0_W cI a27_14 u31_16 ++ gX3_W cI a38_19 sa (u9_6 20) u49_24))))) rfl ?_
  refine g_aload_n F dX9_init_55 0 rfl 56 rfl ?_
  refine g_new F zc6 dX9_init_56 m_258 m_259 m_78 tyX7 tyX7_ok [.null, .int 0, .int 0, .int 0, .int 0] (fun j hj => by rcases (show j = 0 ∨ j = 1 ∨ j = 2 ∨ j = 3 ∨ j = 4 by omega) with rfl | rfl | rfl | rfl | rfl <;> rfl) (Nat.le_of_ble_eq_true rfl) (Nat.le_of_ble_eq_true rfl) 59 rfl (fun a56_27 => ?_)
  refine g_dup F dX9_init_59 rfl 60 rfl ?_
  refine g_callL F dX9_init_60 m_260 iX7_init m_261 rfl rfl (cX7_new) rfl (Nat.le_of_ble_eq_true rfl) (Nat.le_of_ble_eq_true rfl) (Nat.le_of_ble_eq_true rfl) (Nat.le_of_ble_eq_true rfl) (Nat.le_of_ble_eq_true rfl) rfl 63 rfl (fun u60_29 => ?_)
  refine g_t (tys' := [(cI, .int), (k9_6, .object RX6)]) [0, 1] rfl ?_
  refine g_w (ws' := ((h, .inr (8, [.ref a5_4, .ref a16_9, .ref a27_14, .ref a38_19, .null, .null, .null, .int 0])) :: (gX8_W cI a5_4 (u9_6, k9_6) ++ (gX8_W cI a16_9 (u20_11, k9_6) ++ (gX0_W cI a27_14 u31_16 ++ (gX3_W cI a38_19 sa (u9_6 20) u49_24 ++ gX7_W cI a56_27 u60_29)))))) (by simp only [List.append_assoc, List.cons_append, List.nil_append]) ?_
  refine g_putF F hin zc8 dX9_init_63 0 rfl 4 (by decide) m_306 rfl rfl (tyX9_ok 4 (by decide)) rfl rfl (Nat.le_of_ble_eq_true rfl) 66 rfl ?_
  refine g_w (ws' := ((h, .inr (8, [.ref a5_4, .ref a16_9, .ref a27_14, .ref a38_19, .ref a56_27, .null, .null, .int 0])) :: (gX8_W cI a5_4 (u9_6, k9_6) ++ (gX8_W cI a16_9 (u20_11, k9_6) ++ (gX0_W cI a27_14 u31_16 ++ (gX3_W cI a38_19 sa (u9_6 20) u49_24 ++ gX7_W cI a56_27 u60_29)))))) rfl ?_
  refine g_aload_n F dX9_init_66 0 rfl 67 rfl ?_
  refine g_iconst F dX9_init_67 4 (by decide) 68 rfl ?_
  refine g_newq F dX9_init_68 m_284 F.2.2.2.2.2.2.1.2.2 4 (by decide) (by decide) (Nat.le_of_ble_eq_true rfl) (Nat.le_of_ble_eq_true rfl) (Nat.le_of_ble_eq_true rfl) 71 rfl (fun a68 ks => ?_)
  refine g_w (ws' := ((h, .inr (8, [.ref a5_4, .ref a16_9, .ref a27_14, .ref a38_19, .ref a56_27, .null, .null, .int 0])) :: (gX8_W cI a5_4 (u9_6, k9_6) ++ (gX8_W cI a16_9 (u20_11, k9_6) ++ (gX0_W cI a27_14 u31_16 ++ (gX3_W cI a38_19 sa (u9_6 20) u49_24 ++ (gX7_W cI a56_27 u60_29 ++ [(a68, .inl (ks, 4, .inr (.inr (.inr (.inr (fun _ => none))))))]))))))) (by simp only [List.append_assoc, List.cons_append, List.nil_append]) ?_
  refine g_t (tys' := [(cI, .int), (k9_6, .object RX6), (ks, .object RX5)]) [0, 1, 2] rfl ?_
  refine g_putF F hin zc8 dX9_init_71 0 rfl 5 (by decide) m_307 rfl rfl (tyX9_ok 5 (by decide)) rfl rfl (Nat.le_of_ble_eq_true rfl) 74 rfl ?_
  refine g_w (ws' := ((h, .inr (8, [.ref a5_4, .ref a16_9, .ref a27_14, .ref a38_19, .ref a56_27, .ref a68, .null, .int 0])) :: (gX8_W cI a5_4 (u9_6, k9_6) ++ (gX8_W cI a16_9 (u20_11, k9_6) ++ (gX0_W cI a27_14 u31_16 ++ (gX3_W cI a38_19 sa (u9_6 20) u49_24 ++ (gX7_W cI a56_27 u60_29 ++ [(a68, .inl (ks, 4, .inr (.inr (.inr (.inr (fun _ => none))))))]))))))) rfl ?_
  refine g_iconst F dX9_init_74 0 (by decide) 75 rfl ?_
  refine g_istore_n F dX9_init_75 [(0, _), (1, _)] rfl (by decide) 76 rfl ?_
  refine g_iload_n F dX9_init_76 1 rfl 77 rfl ?_
  refine g_iconst F dX9_init_77 4 (by decide) 78 rfl ?_
  refine g_icmp_ge F dX9_init_78 100 (by decide) 81 rfl (fun hc => absurd hc (by decide)) (fun hc => ?_)
  refine g_aload_n F dX9_init_81 0 rfl 82 rfl ?_
  refine g_get F zc8 dX9_init_82 0 rfl 5 (by decide) (.inl m_307) (.ref a68) rfl 85 rfl ?_
  refine g_iload_n F dX9_init_85 1 rfl 86 rfl ?_
  refine g_new F zc4 dX9_init_86 m_284 m_286 m_79 tyX5 tyX5_ok [.null, .int 0] (fun j hj => by rcases (show j = 0 ∨ j = 1 by omega) with rfl | rfl <;> rfl) (Nat.le_of_ble_eq_true rfl) (Nat.le_of_ble_eq_true rfl) 89 rfl (fun a86_43 => ?_)
  refine g_dup F dX9_init_89 rfl 90 rfl ?_
  refine g_callL F dX9_init_90 m_287 iX5_init m_288 rfl rfl (cX5_new) rfl (Nat.le_of_ble_eq_true rfl) (Nat.le_of_ble_eq_true rfl) (Nat.le_of_ble_eq_true rfl) (Nat.le_of_ble_eq_true rfl) (Nat.le_of_ble_eq_true rfl) rfl 93 rfl (fun u90_45 => ?_)
  refine g_t (tys' := [(cI, .int), (k9_6, .object RX6), (ks, .object RX5)]) [0, 1, 2] rfl ?_
  refine g_w (ws' := ((h, .inr (8, [.ref a5_4, .ref a16_9, .ref a27_14, .ref a38_19, .ref a56_27, .ref a68, .null, .int 0])) :: (gX8_W cI a5_4 (u9_6, k9_6) ++ (gX8_W cI a16_9 (u20_11, k9_6) ++ (gX0_W cI a27_14 u31_16 ++ (gX3_W cI a38_19 sa (u9_6 20) u49_24 ++ (gX7_W cI a56_27 u60_29 ++ ((a68, .inl (ks, 4, .inr (.inr (.inr (.inr (fun _ => none)))))) :: gX5_W cI a86_43 u90_45)))))))) (by simp only [List.append_assoc, List.cons_append, List.nil_append]) ?_
  refine g_aastA (n := 4) (cA := ks) (v := a86_43) (f := fun _ => none) (i := 0) F (((h, .inr (8, [.ref a5_4, .ref a16_9, .ref a27_14, .ref a38_19, .ref a56_27, .ref a68, .null, .int 0])) :: (gX8_W cI a5_4 (u9_6, k9_6) ++ (gX8_W cI a16_9 (u20_11, k9_6) ++ (gX0_W cI a27_14 u31_16 ++ (gX3_W cI a38_19 sa (u9_6 20) u49_24 ++ gX7_W cI a56_27 u60_29)))))) (gX5_W cI a86_43 u90_45) (((h, .inr (8, [.ref a5_4, .ref a16_9, .ref a27_14, .ref a38_19, .ref a56_27, .ref a68, .null, .int 0])) :: (gX8_W cI a5_4 (u9_6, k9_6) ++ (gX8_W cI a16_9 (u20_11, k9_6) ++ (gX0_W cI a27_14 u31_16 ++ (gX3_W cI a38_19 sa (u9_6 20) u49_24 ++ (gX7_W cI a56_27 u60_29 ++ ((a68, .inl (ks, 4, .inr (.inr (.inr (.inr (va_up (fun _ => none) 0 (some a86_43))))))) :: gX5_W cI a86_43 u90_45)))))))) zc4 dX9_init_93 2 0 rfl (by simp only [List.append_assoc, List.cons_append, List.nil_append]) rfl (vp_in_nI (n := 0) (by decide) (by decide)) (by simp only [List.append_assoc, List.cons_append, List.nil_append]; rfl) 94 rfl ?_
  refine g_iinc F dX9_init_94 1 rfl 1 (by decide) [(0, _), (1, .int 1)] rfl (by decide) 97 rfl ?_
  refine g_goto F dX9_init_97 76 (by decide) ?_
  refine g_iload_n F dX9_init_76 1 rfl 77 rfl ?_
  refine g_iconst F dX9_init_77 4 (by decide) 78 rfl ?_
  refine g_icmp_ge F dX9_init_78 100 (by decide) 81 rfl (fun hc => absurd hc (by decide)) (fun hc => ?_)
  refine g_aload_n F dX9_init_81 0 rfl 82 rfl ?_
  refine g_get F zc8 dX9_init_82 0 rfl 5 (by decide) (.inl m_307) (.ref a68) rfl 85 rfl ?_
  refine g_iload_n F dX9_init_85 1 rfl 86 rfl ?_
  refine g_new F zc4 dX9_init_86 m_284 m_286 m_79 tyX5 tyX5_ok [.null, .int 0] (fun j hj => by rcases (show j = 0 ∨ j = 1 by omega) with rfl | rfl <;> rfl) (Nat.le_of_ble_eq_true rfl) (Nat.le_of_ble_eq_true rfl) 89 rfl (fun a86_55 => ?_)
  refine g_dup F dX9_init_89 rfl 90 rfl ?_
  refine g_callL F dX9_init_90 m_287 iX5_init m_288 rfl rfl (cX5_new) rfl (Nat.le_of_ble_eq_true rfl) (Nat.le_of_ble_eq_true rfl) (Nat.le_of_ble_eq_true rfl) (Nat.le_of_ble_eq_true rfl) (Nat.le_of_ble_eq_true rfl) rfl 93 rfl (fun u90_57 => ?_)
  refine g_t (tys' := [(cI, .int), (k9_6, .object RX6), (ks, .object RX5)]) [0, 1, 2] rfl ?_
  refine g_w (ws' := ((h, .inr (8, [.ref a5_4, .ref a16_9, .ref a27_14, .ref a38_19, .ref a56_27, .ref a68, .null, .int 0])) :: (gX8_W cI a5_4 (u9_6, k9_6) ++ (gX8_W cI a16_9 (u20_11, k9_6) ++ (gX0_W cI a27_14 u31_16 ++ (gX3_W cI a38_19 sa (u9_6 20) u49_24 ++ (gX7_W cI a56_27 u60_29 ++ ((a68, .inl (ks, 4, .inr (.inr (.inr (.inr (va_up (fun _ => none) 0 (some a86_43))))))) :: (gX5_W cI a86_43 u90_45 ++ gX5_W cI a86_55 u90_57))))))))) (by simp only [List.append_assoc, List.cons_append, List.nil_append]) ?_
  refine g_aastA (n := 4) (cA := ks) (v := a86_55) (f := va_up (fun _ => none) 0 (some a86_43)) (i := 1) F (((h, .inr (8, [.ref a5_4, .ref a16_9, .ref a27_14, .ref a38_19, .ref a56_27, .ref a68, .null, .int 0])) :: (gX8_W cI a5_4 (u9_6, k9_6) ++ (gX8_W cI a16_9 (u20_11, k9_6) ++ (gX0_W cI a27_14 u31_16 ++ (gX3_W cI a38_19 sa (u9_6 20) u49_24 ++ gX7_W cI a56_27 u60_29)))))) ((gX5_W cI a86_43 u90_45 ++ gX5_W cI a86_55 u90_57)) (((h, .inr (8, [.ref a5_4, .ref a16_9, .ref a27_14, .ref a38_19, .ref a56_27, .ref a68, .null, .int 0])) :: (gX8_W cI a5_4 (u9_6, k9_6) ++ (gX8_W cI a16_9 (u20_11, k9_6) ++ (gX0_W cI a27_14 u31_16 ++ (gX3_W cI a38_19 sa (u9_6 20) u49_24 ++ (gX7_W cI a56_27 u60_29 ++ ((a68, .inl (ks, 4, .inr (.inr (.inr (.inr (va_up (va_up (fun _ => none) 0 (some a86_43)) 1 (some a86_55))))))) :: (gX5_W cI a86_43 u90_45 ++ gX5_W cI a86_55 u90_57))))))))) zc4 dX9_init_93 2 3 rfl (by simp only [List.append_assoc, List.cons_append, List.nil_append]) rfl (vp_in_nI (n := 1) (by decide) (by decide)) (by simp only [List.append_assoc, List.cons_append, List.nil_append]; rfl) 94 rfl ?_
  refine g_iinc F dX9_init_94 1 rfl 1 (by decide) [(0, _), (1, .int 2)] rfl (by decide) 97 rfl ?_
  refine g_goto F dX9_init_97 76 (by decide) ?_
  refine g_iload_n F dX9_init_76 1 rfl 77 rfl ?_
  refine g_iconst F dX9_init_77 4 (by decide) 78 rfl ?_
  refine g_icmp_ge F dX9_init_78 100 (by decide) 81 rfl (fun hc => absurd hc (by decide)) (fun hc => ?_)
  refine g_aload_n F dX9_init_81 0 rfl 82 rfl ?_
  refine g_get F zc8 dX9_init_82 0 rfl 5 (by decide) (.inl m_307) (.ref a68) rfl 85 rfl ?_
  refine g_iload_n F dX9_init_85 1 rfl 86 rfl ?_
  refine g_new F zc4 dX9_init_86 m_284 m_286 m_79 tyX5 tyX5_ok [.null, .int 0] (fun j hj => by rcases (show j = 0 ∨ j = 1 by omega) with rfl | rfl <;> rfl) (Nat.le_of_ble_eq_true rfl) (Nat.le_of_ble_eq_true rfl) 89 rfl (fun a86_67 => ?_)
  refine g_dup F dX9_init_89 rfl 90 rfl ?_
  refine g_callL F dX9_init_90 m_287 iX5_init m_288 rfl rfl (cX5_new) rfl (Nat.le_of_ble_eq_true rfl) (Nat.le_of_ble_eq_true rfl) (Nat.le_of_ble_eq_true rfl) (Nat.le_of_ble_eq_true rfl) (Nat.le_of_ble_eq_true rfl) rfl 93 rfl (fun u90_69 => ?_)
  refine g_t (tys' := [(cI, .int), (k9_6, .object RX6), (ks, .object RX5)]) [0, 1, 2] rfl ?_
  refine g_w (ws' := ((h, .inr (8, [.ref a5_4, .ref a16_9, .ref a27_14, .ref a38_19, .ref a56_27, .ref a68, .null, .int 0])) :: (gX8_W cI a5_4 (u9_6, k9_6) ++ (gX8_W cI a16_9 (u20_11, k9_6) ++ (gX0_W cI a27_14 u31_16 ++ (gX3_W cI a38_19 sa (u9_6 20) u49_24 ++ (gX7_W cI a56_27 u60_29 ++ ((a68, .inl (ks, 4, .inr (.inr (.inr (.inr (va_up (va_up (fun _ => none) 0 (some a86_43)) 1 (some a86_55))))))) :: (gX5_W cI a86_43 u90_45 ++ (gX5_W cI a86_55 u90_57 ++ gX5_W cI a86_67 u90_69)))))))))) (by simp only [List.append_assoc, List.cons_append, List.nil_append]) ?_
  refine g_aastA (n := 4) (cA := ks) (v := a86_67) (f := va_up (va_up (fun _ => none) 0 (some a86_43)) 1 (some a86_55)) (i := 2) F (((h, .inr (8, [.ref a5_4, .ref a16_9, .ref a27_14, .ref a38_19, .ref a56_27, .ref a68, .null, .int 0])) :: (gX8_W cI a5_4 (u9_6, k9_6) ++ (gX8_W cI a16_9 (u20_11, k9_6) ++ (gX0_W cI a27_14 u31_16 ++ (gX3_W cI a38_19 sa (u9_6 20) u49_24 ++ gX7_W cI a56_27 u60_29)))))) ((gX5_W cI a86_43 u90_45 ++ (gX5_W cI a86_55 u90_57 ++ gX5_W cI a86_67 u90_69))) (((h, .inr (8, [.ref a5_4, .ref a16_9, .ref a27_14, .ref a38_19, .ref a56_27, .ref a68, .null, .int 0])) :: (gX8_W cI a5_4 (u9_6, k9_6) ++ (gX8_W cI a16_9 (u20_11, k9_6) ++ (gX0_W cI a27_14 u31_16 ++ (gX3_W cI a38_19 sa (u9_6 20) u49_24 ++ (gX7_W cI a56_27 u60_29 ++ ((a68, .inl (ks, 4, .inr (.inr (.inr (.inr (va_up (va_up (va_up (fun _ => none) 0 (some a86_43)) 1 (some a86_55)) 2 (some a86_67))))))) :: (gX5_W cI a86_43 u90_45 ++ (gX5_W cI a86_55 u90_57 ++ gX5_W cI a86_67 u90_69)))))))))) zc4 dX9_init_93 2 6 rfl (by simp only [List.append_assoc, List.cons_append, List.nil_append]) rfl (vp_in_nI (n := 2) (by decide) (by decide)) (by simp only [List.append_assoc, List.cons_append, List.nil_append]; rfl) 94 rfl ?_
  refine g_iinc F dX9_init_94 1 rfl 1 (by decide) [(0, _), (1, .int 3)] rfl (by decide) 97 rfl ?_
  refine g_goto F dX9_init_97 76 (by decide) ?_
  refine g_iload_n F dX9_init_76 1 rfl 77 rfl ?_
  refine g_iconst F dX9_init_77 4 (by decide) 78 rfl ?_
  refine g_icmp_ge F dX9_init_78 100 (by decide) 81 rfl (fun hc => absurd hc (by decide)) (fun hc => ?_)
  refine g_aload_n F dX9_init_81 0 rfl 82 rfl ?_
  refine g_get F zc8 dX9_init_82 0 rfl 5 (by decide) (.inl m_307) (.ref a68) rfl 85 rfl ?_
  refine g_iload_n F dX9_init_85 1 rfl 86 rfl ?_
  refine g_new F zc4 dX9_init_86 m_284 m_286 m_79 tyX5 tyX5_ok [.null, .int 0] (fun j hj => by rcases (show j = 0 ∨ j = 1 by omega) with rfl | rfl <;> rfl) (Nat.le_of_ble_eq_true rfl) (Nat.le_of_ble_eq_true rfl) 89 rfl (fun a86_79 => ?_)
  refine g_dup F dX9_init_89 rfl 90 rfl ?_
  refine g_callL F dX9_init_90 m_287 iX5_init m_288 rfl rfl (cX5_new) rfl (Nat.le_of_ble_eq_true rfl) (Nat.le_of_ble_eq_true rfl) (Nat.le_of_ble_eq_true rfl) (Nat.le_of_ble_eq_true rfl) (Nat.le_of_ble_eq_true rfl) rfl 93 rfl (fun u90_81 => ?_)
  refine g_t (tys' := [(cI, .int), (k9_6, .object RX6), (ks, .object RX5)]) [0, 1, 2] rfl ?_
  refine g_w (ws' := ((h, .inr (8, [.ref a5_4, .ref a16_9, .ref a27_14, .ref a38_19, .ref a56_27, .ref a68, .null, .int 0])) :: (gX8_W cI a5_4 (u9_6, k9_6) ++ (gX8_W cI a16_9 (u20_11, k9_6) ++ (gX0_W cI a27_14 u31_16 ++ (gX3_W cI a38_19 sa (u9_6 20) u49_24 ++ (gX7_W cI a56_27 u60_29 ++ ((a68, .inl (ks, 4, .inr (.inr (.inr (.inr (va_up (va_up (va_up (fun _ => none) 0 (some a86_43)) 1 (some a86_55)) 2 (some a86_67))))))) :: (gX5_W cI a86_43 u90_45 ++ (gX5_W cI a86_55 u90_57 ++ (gX5_W cI a86_67 u90_69 ++ gX5_W cI a86_79 u90_81))))))))))) (by simp only [List.append_assoc, List.cons_append, List.nil_append]) ?_
  refine g_aastA (n := 4) (cA := ks) (v := a86_79) (f := va_up (va_up (va_up (fun _ => none) 0 (some a86_43)) 1 (some a86_55)) 2 (some a86_67)) (i := 3) F (((h, .inr (8, [.ref a5_4, .ref a16_9, .ref a27_14, .ref a38_19, .ref a56_27, .ref a68, .null, .int 0])) :: (gX8_W cI a5_4 (u9_6, k9_6) ++ (gX8_W cI a16_9 (u20_11, k9_6) ++ (gX0_W cI a27_14 u31_16 ++ (gX3_W cI a38_19 sa (u9_6 20) u49_24 ++ gX7_W cI a56_27 u60_29)))))) ((gX5_W cI a86_43 u90_45 ++ (gX5_W cI a86_55 u90_57 ++ (gX5_W cI a86_67 u90_69 ++ gX5_W cI a86_79 u90_81)))) (((h, .inr (8, [.ref a5_4, .ref a16_9, .ref a27_14, .ref a38_19, .ref a56_27, .ref a68, .null, .int 0])) :: (gX8_W cI a5_4 (u9_6, k9_6) ++ (gX8_W cI a16_9 (u20_11, k9_6) ++ (gX0_W cI a27_14 u31_16 ++ (gX3_W cI a38_19 sa (u9_6 20) u49_24 ++ (gX7_W cI a56_27 u60_29 ++ ((a68, .inl (ks, 4, .inr (.inr (.inr (.inr (va_up (va_up (va_up (va_up (fun _ => none) 0 (some a86_43)) 1 (some a86_55)) 2 (some a86_67)) 3 (some a86_79))))))) :: (gX5_W cI a86_43 u90_45 ++ (gX5_W cI a86_55 u90_57 ++ (gX5_W cI a86_67 u90_69 ++ gX5_W cI a86_79 u90_81))))))))))) zc4 dX9_init_93 2 9 rfl (by simp only [List.append_assoc, List.cons_append, List.nil_append]) rfl (vp_in_nI (n := 3) (by decide) (by decide)) (by simp only [List.append_assoc, List.cons_append, List.nil_append]; rfl) 94 rfl ?_
  refine g_iinc F dX9_init_94 1 rfl 1 (by decide) [(0, _), (1, .int 4)] rfl (by decide) 97 rfl ?_
  refine g_goto F dX9_init_97 76 (by decide) ?_
  refine g_iload_n F dX9_init_76 1 rfl 77 rfl ?_
  refine g_iconst F dX9_init_77 4 (by decide) 78 rfl ?_
  refine g_icmp_ge F dX9_init_78 100 (by decide) 81 rfl (fun hc => ?_) (fun hc => absurd (by decide) hc)
  refine g_aload_n F dX9_init_100 0 rfl 101 rfl ?_
  refine g_bipush F dX9_init_101 7 (by decide) 103 rfl ?_
  refine g_newa F dX9_init_103 7 (by decide) (by decide) (Nat.le_of_ble_eq_true rfl) (Nat.le_of_ble_eq_true rfl) (Nat.le_of_ble_eq_true rfl) rfl 105 rfl (fun a103 => ?_)
  refine g_w (ws' := ((h, .inr (8, [.ref a5_4, .ref a16_9, .ref a27_14, .ref a38_19, .ref a56_27, .ref a68, .null, .int 0])) :: (gX8_W cI a5_4 (u9_6, k9_6) ++ (gX8_W cI a16_9 (u20_11, k9_6) ++ (gX0_W cI a27_14 u31_16 ++ (gX3_W cI a38_19 sa (u9_6 20) u49_24 ++ (gX7_W cI a56_27 u60_29 ++ ((a68, .inl (ks, 4, .inr (.inr (.inr (.inr (va_up (va_up (va_up (va_up (fun _ => none) 0 (some a86_43)) 1 (some a86_55)) 2 (some a86_67)) 3 (some a86_79))))))) :: (gX5_W cI a86_43 u90_45 ++ (gX5_W cI a86_55 u90_57 ++ (gX5_W cI a86_67 u90_69 ++ (gX5_W cI a86_79 u90_81 ++ [(a103, .inl (cI, 7, .inl (fun _ => 0)))])))))))))))) (by simp only [List.append_assoc, List.cons_append, List.nil_append]) ?_
  refine g_putF F hin zc8 dX9_init_105 0 rfl 6 (by decide) m_308 rfl rfl (tyX9_ok 6 (by decide)) rfl rfl (Nat.le_of_ble_eq_true rfl) 108 rfl ?_
  refine g_w (ws' := ((h, .inr (8, [.ref a5_4, .ref a16_9, .ref a27_14, .ref a38_19, .ref a56_27, .ref a68, .ref a103, .int 0])) :: (gX8_W cI a5_4 (u9_6, k9_6) ++ (gX8_W cI a16_9 (u20_11, k9_6) ++ (gX0_W cI a27_14 u31_16 ++ (gX3_W cI a38_19 sa (u9_6 20) u49_24 ++ (gX7_W cI a56_27 u60_29 ++ ((a68, .inl (ks, 4, .inr (.inr (.inr (.inr (va_up (va_up (va_up (va_up (fun _ => none) 0 (some a86_43)) 1 (some a86_55)) 2 (some a86_67)) 3 (some a86_79))))))) :: (gX5_W cI a86_43 u90_45 ++ (gX5_W cI a86_55 u90_57 ++ (gX5_W cI a86_67 u90_69 ++ (gX5_W cI a86_79 u90_81 ++ [(a103, .inl (cI, 7, .inl (fun _ => 0)))])))))))))))) rfl ?_
  refine g_aload_n F dX9_init_108 0 rfl 109 rfl ?_
  refine g_iconst F dX9_init_109 0 (by decide) 110 rfl ?_
  refine g_put F zc8 dX9_init_110 0 rfl 7 (by decide) m_309 rfl (tyX9_ok 7 (by decide)) rfl rfl (Nat.le_of_ble_eq_true rfl) 113 rfl ?_
  refine g_w (ws' := ((h, .inr (8, [.ref a5_4, .ref a16_9, .ref a27_14, .ref a38_19, .ref a56_27, .ref a68, .ref a103, .int 0])) :: (gX8_W cI a5_4 (u9_6, k9_6) ++ (gX8_W cI a16_9 (u20_11, k9_6) ++ (gX0_W cI a27_14 u31_16 ++ (gX3_W cI a38_19 sa (u9_6 20) u49_24 ++ (gX7_W cI a56_27 u60_29 ++ ((a68, .inl (ks, 4, .inr (.inr (.inr (.inr (va_up (va_up (va_up (va_up (fun _ => none) 0 (some a86_43)) 1 (some a86_55)) 2 (some a86_67)) 3 (some a86_79))))))) :: (gX5_W cI a86_43 u90_45 ++ (gX5_W cI a86_55 u90_57 ++ (gX5_W cI a86_67 u90_69 ++ (gX5_W cI a86_79 u90_81 ++ [(a103, .inl (cI, 7, .inl (fun _ => 0)))])))))))))))) rfl ?_
  exact g_retW F hr dX9_init_113 (fun k => [a5_4, a16_9, a27_14, a38_19, a56_27, a86_43, a86_55, a86_67, a86_79, a68, a103].getD k 0, fun k => [u9_6, u20_11, u31_16, u49_24, u60_29, u90_45, u90_57, u90_69, u90_81].getD k (fun _ => 0), k9_6, ks) rfl rfl
