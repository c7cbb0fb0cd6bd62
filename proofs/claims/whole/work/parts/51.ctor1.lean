/-! constructors: a world that grows -/
def cn_K (D : va_G) (tA : Nat → ClassId) (U : State) : Prop := va_K D mj_cl (mj_ty tA) U ∧ (∀ w ∈ mj_nw, va_Nw w U) ∧ va_AO RX3 U ∧ va_AO RX0 U ∧ va_AO RX4 U
theorem cn_K.warm {D : va_G} {tA : Nat → ClassId} {s U : State} (hW : s.WarmedH U.vm) (h : cn_K D tA s) : cn_K D tA U := by
  obtain ⟨h1, h2, h3, h4, h5⟩ := h
  refine ⟨va_K.moved hW.alike h1, fun w hw => ?_, va_AO.moved hW.alike h3, va_AO.moved hW.alike h4, va_AO.moved hW.alike h5⟩
  have h6 := h2 w hw
  have h7 := (List.mem_filter.mp hw).2
  cases w with
  | fieldLinkNest a i b n d g => exact va_Nw.warmF hW h6
  | methodLinkNest a i x g => exact va_Nw.warmM hW h6
  | _ => exact absurd h7 Bool.false_ne_true
theorem cn_K.blind {D : va_G} {tA : Nat → ClassId} (a : Array Value) (U : State) (g : JFrame) (mk : MethodId) (h : cn_K D tA U) : cn_K D tA (U.calling g mk a) := by
  obtain ⟨h1, h2, h3, h4, h5⟩ := h
  refine ⟨va_K.moved (u := U) (U := U.calling g mk a) (Vm.Alike.refl U.vm) h1, fun w hw => ?_, va_AO.moved (u := U) (U := U.calling g mk a) (Vm.Alike.refl U.vm) h3, va_AO.moved (u := U) (U := U.calling g mk a) (Vm.Alike.refl U.vm) h4, va_AO.moved (u := U) (U := U.calling g mk a) (Vm.Alike.refl U.vm) h5⟩
  have h6 := h2 w hw
  have h7 := (List.mem_filter.mp hw).2
  cases w with
  | fieldLinkNest a i b n d g => exact va_Nw.same rfl rfl h6
  | methodLinkNest a i x g => exact va_Nw.same rfl rfl h6
  | _ => exact absurd h7 Bool.false_ne_true
def cn_P (p : Program) (l : Launch) (e : Env) (R : Room) (s : State) (m : MethodId) (args : Array Value) (below : List Frame) (meth : Method) (c : Code) (Q : State → Prop) (A : Nat → Prop) (D : va_G) (nL : Nat) (cells slots pc : Nat) (lv : List (Nat × Value)) (st : List Value) (ws : va_W) : Prop :=
  ∀ (H : Heap) (locs : List Loc) (ls : Array Slot), va_P D mj_cl ws H → va_D A ws → va_S A s.heap H locs → lv_has ls nL lv → W p l e R s m args below meth c H locs cells slots Q (F0 m pc ls st)
def cn_cx (p : Program) (s : State) (m : MethodId) (args : Array Value) (c : Code) (A : Nat → Prop) (D : va_G) (tA : Nat → ClassId) (nL : Nat) (cc : ByteArray) (own : Nat) : Prop :=
  p.tables.exec = Jvm.exec ∧ c.code = cc ∧ c.maxLocals = nL ∧ s.vm.findClass (mj_on own) = some m.cls ∧ (∀ w ∈ mj_gT, w.before args s = true) ∧ cn_K D tA s ∧ (∀ q, s.heap.size ≤ q → A q)
/-- a constructor's contract -/
def cn_T (y : MethodName) (cy : ByteArray) (ny ci : Nat) (dflt : List Value) (rm : Room) (mc ms : Nat) (out : (Nat → ClassId) → Nat → va_W → Prop) : Prop :=
  ∀ (l : Launch) (D : va_G) (tA : Nat → ClassId) (h0 sz : Nat), Met l y (Cond.code y cy ny none :: mj_gT) rm (va_Pc [.ref h0] (fun U => U.heap.size = sz ∧ va_P D mj_cl [(h0, .inr (ci, dflt))] U.heap ∧ cn_K D tA U ∧ va_D (fun _ => True) [(h0, .inr (ci, dflt))])) (va_Qv (fun w : va_W => out tA h0 w) (fun (w : va_W) t => va_P D mj_cl w t.heap ∧ va_D (va_A [(h0, .inr (ci, dflt))] sz) w) (va_A [(h0, .inr (ci, dflt))] sz)) mc ms (va_A [(h0, .inr (ci, dflt))] sz)
section CN
variable {p : Program} {l : Launch} {e : Env} {R : Room} {s : State} {m : MethodId} {args : Array Value} {below : List Frame} {meth : Method} {c : Code} {Q : State → Prop} {A : Nat → Prop} {D : va_G} {tA : Nat → ClassId} {nL : Nat} {cc : ByteArray} {own : Nat} {cells slots pc : Nat} {lv : List (Nat × Value)} {st : List Value} {ws : va_W}
theorem cn_aload (cx : cn_cx p s m args c A D tA nL cc own) {k : Fin 4} {x : Nat} (q : Nat) (hd : decode cc pc = .ok (.aload_n k, 1)) (h : lv[q]? = some ((k : Nat), .ref x)) (kk : cn_P p l e R s m args below meth c Q A D nL cells slots (pc + 1) lv (.ref x :: st) ws) : cn_P p l e R s m args below meth c Q A D nL cells slots pc lv st ws :=
  fun H locs ls hP hD hS hl => lv_aload_n cx.1 cx.2.1 hd rfl (lv_at hl q h) (kk H locs ls hP hD hS hl)
theorem cn_iload (cx : cn_cx p s m args c A D tA nL cc own) {k : Fin 4} {x : Int32} (q : Nat) (hd : decode cc pc = .ok (.iload_n k, 1)) (h : lv[q]? = some ((k : Nat), .int x)) (kk : cn_P p l e R s m args below meth c Q A D nL cells slots (pc + 1) lv (.int x :: st) ws) : cn_P p l e R s m args below meth c Q A D nL cells slots pc lv st ws :=
  fun H locs ls hP hD hS hl => lv_iload_n cx.1 cx.2.1 hd rfl (lv_at hl q h) (kk H locs ls hP hD hS hl)
theorem cn_iconst (cx : cn_cx p s m args c A D tA nL cc own) {n : Int} (v : Int32) (hd : decode cc pc = .ok (.iconst n, 1)) (hv : Int32.ofInt n = v) (kk : cn_P p l e R s m args below meth c Q A D nL cells slots (pc + 1) lv (.int v :: st) ws) : cn_P p l e R s m args below meth c Q A D nL cells slots pc lv st ws :=
  fun H locs ls hP hD hS hl => lv_iconst cx.1 cx.2.1 hd hv (kk H locs ls hP hD hS hl)
theorem cn_bipush (cx : cn_cx p s m args c A D tA nL cc own) {n : Int} (v : Int32) (hd : decode cc pc = .ok (.bipush n, 2)) (hv : (Int8.ofInt n).toInt32 = v) (kk : cn_P p l e R s m args below meth c Q A D nL cells slots (pc + 2) lv (.int v :: st) ws) : cn_P p l e R s m args below meth c Q A D nL cells slots pc lv st ws :=
  fun H locs ls hP hD hS hl => lv_bipush cx.1 cx.2.1 hd hv (kk H locs ls hP hD hS hl)
theorem cn_sipush (cx : cn_cx p s m args c A D tA nL cc own) {n : Int} (v : Int32) (hd : decode cc pc = .ok (.sipush n, 3)) (hv : (Int16.ofInt n).toInt32 = v) (kk : cn_P p l e R s m args below meth c Q A D nL cells slots (pc + 3) lv (.int v :: st) ws) : cn_P p l e R s m args below meth c Q A D nL cells slots pc lv st ws :=
  fun H locs ls hP hD hS hl => lv_sipush cx.1 cx.2.1 hd hv (kk H locs ls hP hD hS hl)
theorem cn_istore (cx : cn_cx p s m args c A D tA nL cc own) {k : Fin 4} {x : Int32} (lv' : List (Nat × Value)) (hd : decode cc pc = .ok (.istore_n k, 1)) (hn : (k : Nat) < nL) (h : ((k : Nat), Value.int x) :: lv.filter (fun q => !(q.1 == (k : Nat)) && !(q.1 + 1 == (k : Nat) && q.2.category == 2)) = lv') (kk : cn_P p l e R s m args below meth c Q A D nL cells slots (pc + 1) lv' st ws) : cn_P p l e R s m args below meth c Q A D nL cells slots pc lv (.int x :: st) ws :=
  fun H locs ls hP hD hS hl => lv_istore_n cx.1 cx.2.1 hd rfl hl hn h (fun ls' hl' => kk H locs ls' hP hD hS hl')
theorem cn_astore (cx : cn_cx p s m args c A D tA nL cc own) {k : Fin 4} {x : Nat} (lv' : List (Nat × Value)) (hd : decode cc pc = .ok (.astore_n k, 1)) (hn : (k : Nat) < nL) (h : ((k : Nat), Value.ref x) :: lv.filter (fun q => !(q.1 == (k : Nat)) && !(q.1 + 1 == (k : Nat) && q.2.category == 2)) = lv') (kk : cn_P p l e R s m args below meth c Q A D nL cells slots (pc + 1) lv' st ws) : cn_P p l e R s m args below meth c Q A D nL cells slots pc lv (.ref x :: st) ws :=
  fun H locs ls hP hD hS hl => lv_astore_n cx.1 cx.2.1 hd rfl hl hn h (fun ls' hl' => kk H locs ls' hP hD hS hl')
theorem cn_iinc (cx : cn_cx p s m args c A D tA nL cc own) {i k : Nat} {n : Int} {x : Int32} (v : Int32) (lv' : List (Nat × Value)) (hd : decode cc pc = .ok (.iinc i n, 3)) (hk : lv[k]? = some (i, .int x)) (hv : x + Int32.ofInt n = v) (hn : i < nL) (h : (i, Value.int v) :: lv.filter (fun q => !(q.1 == i) && !(q.1 + 1 == i && q.2.category == 2)) = lv') (kk : cn_P p l e R s m args below meth c Q A D nL cells slots (pc + 3) lv' st ws) : cn_P p l e R s m args below meth c Q A D nL cells slots pc lv st ws :=
  fun H locs ls hP hD hS hl => lv_iinc cx.1 cx.2.1 hd hl hk hv hn h (fun ls' hl' => kk H locs ls' hP hD hS hl')
theorem cn_goto (cx : cn_cx p s m args c A D tA nL cc own) {off : Int} (tgt : Nat) (hd : decode cc pc = .ok (.goto off, 3)) (ht : (pc : Int) + off = (tgt : Int)) (kk : cn_P p l e R s m args below meth c Q A D nL cells slots tgt lv st ws) : cn_P p l e R s m args below meth c Q A D nL cells slots pc lv st ws :=
  fun H locs ls hP hD hS hl => lv_goto cx.1 cx.2.1 hd ht (kk H locs ls hP hD hS hl)
theorem cn_get (cx : cn_cx p s m args c A D tA nL cc own) {idx j a : Nat} {fs : List Value} {v : Value} (ho : own < 8) (hm : (own, idx, own, j, false) ∈ mj_fl) (hj : j < (mj_cC own).2.2) (q0 : Nat) (he : ws[q0]? = some (a, .inr (own, fs))) (hv : fs[j]? = some v) (hd : decode cc pc = .ok (.getfield idx, 3)) (kk : cn_P p l e R s m args below meth c Q A D nL cells slots (pc + 3) lv (v :: st) ws) : cn_P p l e R s m args below meth c Q A D nL cells slots pc lv (.ref a :: st) ws := by
  intro H locs ls hP hD hS hl
  obtain ⟨hx, hb, hml, hown, hts, hK, hA⟩ := cx
  exact va_get (D := D) (ci := own) (C := (mj_cC own).1) (T := (mj_cC own).2.1) (N := (mj_cC own).2.2) hx hb hts (mj_ly ho) hown hK.1 hP q0 he (mj_cl_at ho) j hj (hts _ (mj_fl_in hm)) (fun _ h => mj_fsame ho hj h) hv hd (kk H locs ls hP hD hS hl)
theorem cn_put (cx : cn_cx p s m args c A D tA nL cc own) {idx j a : Nat} {fs : List Value} {v : Value} (ws' : va_W) (ho : own < 8) (hm : (own, idx, own, j, false) ∈ mj_fl) (hj : j < (mj_cC own).2.2) (hfin : ((mj_cC own).2.1 j).2.2.2 = false ∨ (((mj_cC own).2.1 j).2.2.2 = true ∧ meth.name = "<init>")) (hn : narrow (mj_tyC own j) v = v) (hfit : fits (mj_tyC own j) v = true) (q0 : Nat) (he : ws[q0]? = some (a, .inr (own, fs))) (hlt : j < fs.length) (hw : ws.set q0 (a, .inr (own, fs.set j v)) = ws') (hd : decode cc pc = .ok (.putfield idx, 3)) (kk : cn_P p l e R s m args below meth c Q A D nL cells slots (pc + 3) lv st ws') : cn_P p l e R s m args below meth c Q A D nL cells slots pc lv (v :: .ref a :: st) ws := by
  intro H locs ls hP hD hS hl
  obtain ⟨hx, hb, hml, hown, hts, hK, hA⟩ := cx
  subst hw
  rcases hfin with hf | ⟨hf, hi⟩
  · exact va_put (D := D) (ci := own) (C := (mj_cC own).1) (T := (mj_cC own).2.1) (N := (mj_cC own).2.2) hx hb hts (mj_ly ho) (mj_tyC own) (mj_tyC_ok ho) (mj_nmC ho) hown hK.1 hP hD hS q0 he (mj_cl_at ho) j hj (hts _ (mj_fl_in hm)) (fun _ h => mj_fsame ho hj h) hf (mj_tyC_ok ho j hj) hn hfit hlt hd (fun H1 locs1 hP1 hD1 hS1 => kk H1 locs1 ls hP1 hD1 hS1 hl)
  · exact va_putF (D := D) (ci := own) (C := (mj_cC own).1) (T := (mj_cC own).2.1) (N := (mj_cC own).2.2) hx hb hts (mj_ly ho) (mj_tyC own) (mj_tyC_ok ho) (mj_nmC ho) hown hK.1 hP hD hS q0 he (mj_cl_at ho) j hj (hts _ (mj_fl_in hm)) (fun _ h => mj_fsame ho hj h) hf hi (mj_fdecl own ho j hj) (mj_tyC_ok ho j hj) hn hfit hlt hd (fun H1 locs1 hP1 hD1 hS1 => kk H1 locs1 ls hP1 hD1 hS1 hl)
theorem cn_ra {U : State} {c1 c2 : ClassId} {ty : FieldType} (h1 : va_RA U c1 ty) (h2 : va_RA U c2 ty) : c1 = c2 := by
  cases ty with
  | object C =>
    obtain ⟨_, _, -, -, -, h3⟩ := h1
    obtain ⟨_, _, -, -, -, h4⟩ := h2
    exact Option.some.inj (h3.symm.trans h4)
  | _ => exact Option.some.inj (Eq.trans (Eq.symm h1) h2)
theorem cn_tA {cA : ClassId} {ty : FieldType} (t : Nat) (ht : (mj_ty tA)[t]? = some (tA t, ty)) (hK : va_K D mj_cl (mj_ty tA) s) (hK1 : va_K D mj_cl (mj_ty tA ++ [(cA, ty)]) s) : cA = tA t := by
  have h1 := (hK1.2 5 (cA, ty) rfl).2
  have h2 := (hK.2 t _ ht).2
  exact cn_ra h1 h2
theorem cn_newi (cx : cn_cx p s m args c A D tA nL cc own) {n : Int32} {N' : Nat} (harr : Cond.arrayClass .int ∈ mj_gT) (hn : ¬ n < 0) (hN : n.toNatClampNeg = N') (hby : N' * 4 ≤ 536870912) (hc1 : cells + 1 ≤ R.cells) (hs1 : slots + N' ≤ R.slots) (hd : decode cc pc = .ok (.newarray .int, 2)) (kk : ∀ q : Nat, cn_P p l e R s m args below meth c Q A D nL (cells + 1) (slots + N') (pc + 2) lv (.ref q :: st) (ws ++ [(q, .inl (tA 0, N', .inl (fun _ => 0)))])) : cn_P p l e R s m args below meth c Q A D nL cells slots pc lv (.int n :: st) ws := by
  intro H locs ls hP hD hS hl
  obtain ⟨hx, hb, hml, hown, hts, hK, hA⟩ := cx
  refine va_newa (atype := .int) (ty := .int) (a0 := (N', .inl (fun _ => 0))) hx hb (hts _ harr) rfl hK.1 hP hD hS hA (fun cA => rfl) hn hN hby hc1 hs1 hd (fun q cA H1 hK1 hP1 hD1 hS1 => ?_)
  have e1 := cn_tA (tA := tA) 0 rfl hK.1 hK1
  subst e1
  exact kk q H1 locs ls hP1 hD1 hS1 hl
theorem cn_newc (cx : cn_cx p s m args c A D tA nL cc own) {n : Int32} {N' : Nat} (harr : Cond.arrayClass .char ∈ mj_gT) (hn : ¬ n < 0) (hN : n.toNatClampNeg = N') (hby : N' * 2 ≤ 536870912) (hc1 : cells + 1 ≤ R.cells) (hs1 : slots + N' ≤ R.slots) (hd : decode cc pc = .ok (.newarray .char, 2)) (kk : ∀ q : Nat, cn_P p l e R s m args below meth c Q A D nL (cells + 1) (slots + N') (pc + 2) lv (.ref q :: st) (ws ++ [(q, .inl (tA 1, N', .inl (fun _ => 0)))])) : cn_P p l e R s m args below meth c Q A D nL cells slots pc lv (.int n :: st) ws := by
  intro H locs ls hP hD hS hl
  obtain ⟨hx, hb, hml, hown, hts, hK, hA⟩ := cx
  refine va_newa (atype := .char) (ty := .char) (a0 := (N', .inl (fun _ => 0))) hx hb (hts _ harr) rfl hK.1 hP hD hS hA (fun cA => rfl) hn hN hby hc1 hs1 hd (fun q cA H1 hK1 hP1 hD1 hS1 => ?_)
  have e1 := cn_tA (tA := tA) 1 rfl hK.1 hK1
  subst e1
  exact kk q H1 locs ls hP1 hD1 hS1 hl
theorem cn_newq (cx : cn_cx p s m args c A D tA nL cc own) {n : Int32} {N' idx : Nat} {C : String} (t : Nat) (ht : (mj_ty tA)[t]? = some (tA t, .object C)) (ho : va_AO C s) (hcl : Cond.classLink (mj_on own) idx C ∈ mj_gT) (hn : ¬ n < 0) (hN : n.toNatClampNeg = N') (hby : N' * 4 ≤ 536870912) (hc1 : cells + 1 ≤ R.cells) (hs1 : slots + N' ≤ R.slots) (hd : decode cc pc = .ok (.anewarray idx, 3)) (kk : ∀ q : Nat, cn_P p l e R s m args below meth c Q A D nL (cells + 1) (slots + N') (pc + 3) lv (.ref q :: st) (ws ++ [(q, .inl (tA t, N', .inr (.inr (.inr (.inr (fun _ => none))))))])) : cn_P p l e R s m args below meth c Q A D nL cells slots pc lv (.int n :: st) ws := by
  intro H locs ls hP hD hS hl
  obtain ⟨hx, hb, hml, hown, hts, hK, hA⟩ := cx
  refine va_newq hx hb hown (hts _ hcl) ho hK.1 hP hD hS hA hn hN hby hc1 hs1 hd (fun q cA H1 hK1 hP1 hD1 hS1 => ?_)
  have e1 := cn_tA (tA := tA) t ht hK.1 hK1
  subst e1
  exact kk q H1 locs ls hP1 hD1 hS1 hl
theorem cn_alen (cx : cn_cx p s m args c A D tA nL cc own) {a t n : Nat} {x : (Nat → Int32) ⊕ (Nat → Int64) ⊕ (Nat → UInt32) ⊕ (Nat → UInt64) ⊕ (Nat → Option Nat)} {ty : FieldType} (v : Int32) (ht : (mj_ty tA)[t]? = some (tA t, ty)) (q0 : Nat) (he : ws[q0]? = some (a, .inl (tA t, n, x))) (hv : Int32.ofNat n = v) (hd : decode cc pc = .ok (.arraylength, 1)) (kk : cn_P p l e R s m args below meth c Q A D nL cells slots (pc + 1) lv (.int v :: st) ws) : cn_P p l e R s m args below meth c Q A D nL cells slots pc lv (.ref a :: st) ws :=
  fun H locs ls hP hD hS hl => va_alen cx.1 cx.2.1 cx.2.2.2.2.2.1.1 hP q0 t he ht hv hd (kk H locs ls hP hD hS hl)
theorem cn_ge1 (cx : cn_cx p s m args c A D tA nL cc own) {x y : Int32} {off : Int} (tgt : Nat) (hd : decode cc pc = .ok (.if_icmp .ge off, 3)) (ht : (pc : Int) + off = (tgt : Int)) (h : y ≤ x) (kk : cn_P p l e R s m args below meth c Q A D nL cells slots tgt lv st ws) : cn_P p l e R s m args below meth c Q A D nL cells slots pc lv (.int y :: .int x :: st) ws :=
  fun H locs ls hP hD hS hl => lv_icmp_ge cx.1 cx.2.1 hd ht (fun _ => kk H locs ls hP hD hS hl) (fun h2 => absurd h h2)
theorem cn_ge0 (cx : cn_cx p s m args c A D tA nL cc own) {x y : Int32} {off : Int} (tgt : Nat) (hd : decode cc pc = .ok (.if_icmp .ge off, 3)) (ht : (pc : Int) + off = (tgt : Int)) (h : ¬ y ≤ x) (kk : cn_P p l e R s m args below meth c Q A D nL cells slots (pc + 3) lv st ws) : cn_P p l e R s m args below meth c Q A D nL cells slots pc lv (.int y :: .int x :: st) ws :=
  fun H locs ls hP hD hS hl => lv_icmp_ge cx.1 cx.2.1 hd ht (fun h2 => absurd h2 h) (fun _ => kk H locs ls hP hD hS hl)
theorem cn_astq (cx : cn_cx p s m args c A D tA nL cc own) {a v n t ci : Nat} {i : Int32} {f : Nat → Option Nat} {vs : List Value} (ws' : va_W) (hci : ci < 8) (ht : (mj_ty tA)[t]? = some (tA t, .object (mj_cC ci).1)) (q0 qk : Nat) (he : ws[q0]? = some (a, .inl (tA t, n, .inr (.inr (.inr (.inr f)))))) (hv : ws[qk]? = some (v, .inr (ci, vs))) (hin : vp_in i n) (hw : ws.set q0 (a, .inl (tA t, n, .inr (.inr (.inr (.inr (va_up f i.toNatClampNeg (some v))))))) = ws') (hd : decode cc pc = .ok (.aastore, 1)) (kk : cn_P p l e R s m args below meth c Q A D nL cells slots (pc + 1) lv st ws') : cn_P p l e R s m args below meth c Q A D nL cells slots pc lv (.ref v :: .int i :: .ref a :: st) ws := by
  intro H locs ls hP hD hS hl
  subst hw
  exact va_astq (r := ((mj_cC ci).1, (mj_cC ci).2.1, (mj_cC ci).2.2)) cx.1 cx.2.1 cx.2.2.2.2.2.1.1 hP hD hS q0 t qk ci he ht hv (mj_cl_at hci) hin hd (fun H1 locs1 hP1 hD1 hS1 => kk H1 locs1 ls hP1 hD1 hS1 hl)
theorem cn_iast (cx : cn_cx p s m args c A D tA nL cc own) {a n : Nat} {i x : Int32} {f : Nat → Int32} (ws' : va_W) (q0 : Nat) (he : ws[q0]? = some (a, .inl (tA 0, n, .inl f))) (hin : vp_in i n) (hw : ws.set q0 (a, .inl (tA 0, n, .inl (upd f i.toNatClampNeg x))) = ws') (hd : decode cc pc = .ok (.iastore, 1)) (kk : cn_P p l e R s m args below meth c Q A D nL cells slots (pc + 1) lv st ws') : cn_P p l e R s m args below meth c Q A D nL cells slots pc lv (.int x :: .int i :: .ref a :: st) ws := by
  intro H locs ls hP hD hS hl
  subst hw
  exact va_iast cx.1 cx.2.1 cx.2.2.2.2.2.1.1 hP hD hS q0 0 he rfl hin hd (fun H1 locs1 hP1 hD1 hS1 => kk H1 locs1 ls hP1 hD1 hS1 hl)
theorem cn_obj (cx : cn_cx p s m args c A D tA nL cc own) {idx a : Nat} (hlk : Cond.methodLink (mj_on own) idx objectInit ∈ mj_gT) (hd : decode cc pc = .ok (.invokespecial idx, 3)) (hf : 1 ≤ R.frames) (hlo : 12 ≤ R.locals) (kk : cn_P p l e R s m args below meth c Q A D nL cells slots (pc + 3) lv [] ws) : cn_P p l e R s m args below meth c Q A D nL cells slots pc lv [.ref a] ws := by
  intro H locs ls hP hD hS hl
  obtain ⟨hx, hb, hml, hown, hts, hK, hA⟩ := cx
  refine W.objInit hx hb hown (hts _ hlk) (hts _ (mj_gT_of (List.mem_of_getElem? (i := 102) (by decide +kernel)) rfl)) (hts _ (mj_gT_of (List.mem_of_getElem? (i := 103) (by decide +kernel)) rfl)) rfl (by rw [hml]; exact hl.1) rfl hd hf hlo ?_
  exact W.eq (g2 := F0 m (pc + 3) ls []) rfl (kk H locs ls hP hD hS hl)
theorem cn_joinA {A0 : Nat → Prop} {wr w1 : va_W} {q : Nat × va_E} {H H1 : Heap} (hP : va_P D mj_cl (wr ++ [q]) H) (hD : va_D A0 (wr ++ [q])) (hk : ∀ x : Nat, x < H.size → ¬ va_A [q] H.size x → H1[x]? = H[x]?) (hF : ∀ x, va_A [q] H.size x → A0 x) (hP1 : va_P D mj_cl w1 H1) (hD1 : va_D (va_A [q] H.size) w1) : va_P D mj_cl (wr ++ w1) H1 ∧ va_D A0 (wr ++ w1) := by
  have hPr : ∀ (k : Nat) (x : Nat × va_E), wr[k]? = some x → (wr ++ [q])[k]? = some x := fun k x hx => by
    rw [List.getElem?_append_left (List.getElem?_eq_some_iff.mp hx).1]; exact hx
  have hq : (wr ++ [q])[wr.length]? = some q := by rw [List.getElem?_append_right (Nat.le_refl _)]; simp
  have apart : ∀ (k : Nat) (x : Nat × va_E), wr[k]? = some x → x.1 < H.size ∧ ¬ va_A [q] H.size x.1 := by
    intro k x hx
    have hl := (hP k x (hPr k x hx)).lt
    refine ⟨hl, fun h => ?_⟩
    rcases h with ⟨k2, e, h⟩ | h
    · have hk2 : k2 < 1 := (List.getElem?_eq_some_iff.mp h).1
      have hk3 : k2 = 0 := by omega
      subst hk3
      have h5 : q = (x.1, e) := Option.some.inj h
      have h6 := hD.1 k wr.length x q (hPr k x hx) hq (by rw [h5])
      have h7 := (List.getElem?_eq_some_iff.mp hx).1
      omega
    · omega
  refine ⟨va_P.app (fun k x hx => ?_) hP1, va_D.app ⟨fun i j x y hx hy hxy => hD.1 i j x y (hPr i x hx) (hPr j y hy) hxy, fun k x hx => hD.2 k x (hPr k x hx)⟩ (hD1.weaken (fun k x _ h => hF x.1 h)) (fun i j x y hx hy hxy => ?_)⟩
  · obtain ⟨g1, g2⟩ := apart k x hx
    exact (hP k x (hPr k x hx)).kept (hk x.1 g1 g2)
  · exact (apart i x hx).2 (by rw [hxy]; exact hD1.2 j y hy)
theorem cn_freeA {A0 : Nat → Prop} {wr : va_W} {q : Nat × va_E} {H0 H : Heap} {locs : List Loc} (hD : va_D A0 (wr ++ [q])) (hS : va_S A0 H0 H locs) (hA : ∀ x, H0.size ≤ x → A0 x) : ∀ x, va_A [q] H.size x → A0 x := by
  intro x h
  rcases h with ⟨k, e, h⟩ | h
  · have hk2 : k < 1 := (List.getElem?_eq_some_iff.mp h).1
    have hk3 : k = 0 := by omega
    subst hk3
    have h5 : q = (x, e) := Option.some.inj h
    have hq : (wr ++ [q])[wr.length]? = some q := by rw [List.getElem?_append_right (Nat.le_refl _)]; simp
    have := hD.2 _ _ hq
    rw [h5] at this
    exact this
  · exact hA x (Nat.le_trans hS.1 h)
/-- new, dup, and the constructor's call -/
theorem cn_make (cx : cn_cx p s m args c A D tA nL cc own) {y : MethodName} {cy : ByteArray} {ny ci idx jdx mc ms : Nat} {dflt : List Value} {rm : Room} {out : (Nat → ClassId) → Nat → va_W → Prop} (nest : Bool) (hT : cn_T y cy ny ci dflt rm mc ms out) (hci : ci < 8) (hyc : y.cls = (mj_cC ci).1) (hy1 : y.name = "<init>")
    (hyh : y.cls ≠ "java/lang/invoke/MethodHandle" ∧ y.cls ≠ "java/lang/invoke/VarHandle" ∧ (parseMethodDescriptor y.desc).map (fun d => d.parameters.length) = some 0) (w1 : Cond.classLink (mj_on own) idx (mj_cC ci).1 ∈ mj_gT) (w2 : Cond.instantiable (mj_cC ci).1 (mj_cC ci).2.2 ∈ mj_gT) (w3 : Cond.initialized y.cls ∈ mj_gT) (w4 : Cond.code y cy ny none ∈ mj_gT) (w5 : Cond.instanceMethod y ∈ mj_gT) (w6 : if nest = true then Cond.methodLinkNest (mj_on own) jdx y RX6 ∈ mj_nw else Cond.methodLink (mj_on own) jdx y ∈ mj_gT)
    (hdf : ∀ j, j < (mj_cC ci).2.2 → defaultValue (mj_tyC ci j) = vp_V dflt j) (hrm : rm.cells = mc ∧ rm.slots = ms ∧ rm.frames + 1 ≤ R.frames ∧ 8 + (ny + 11) + rm.locals ≤ R.locals) (hc1 : cells + 1 + mc ≤ R.cells) (hs1 : slots + (mj_cC ci).2.2 + ms ≤ R.slots)
    (hst : (st.map fun v => v.category).sum + 1 ≤ 8) (hd1 : decode cc pc = .ok (.new idx, 3)) (hd2 : decode cc (pc + 3) = .ok (.dup, 1)) (hd3 : decode cc (pc + 3 + 1) = .ok (.invokespecial jdx, 3))
    (kk : ∀ (h : Nat) (w : va_W), out tA h w → cn_P p l e R s m args below meth c Q A D nL (cells + 1 + mc) (slots + (mj_cC ci).2.2 + ms) (pc + 3 + 1 + 3) lv (.ref h :: st) (ws ++ w)) : cn_P p l e R s m args below meth c Q A D nL cells slots pc lv st ws := by
  intro H locs ls hP hD hS hl
  obtain ⟨hx, hb, hml, hown, hts, hK, hA⟩ := cx
  refine va_new (ci := ci) (fs := dflt) (C := (mj_cC ci).1) (T := (mj_cC ci).2.1) (N := (mj_cC ci).2.2) hx hb hts (mj_ly hci) (mj_tyC ci) (mj_tyC_ok hci) hown (hts _ w1) (hts _ w2) (hyc ▸ hts _ w3) hK.1 hP hD hS hA (mj_cl_at hci) hdf (by omega) (by omega) hd1 (fun q H1 hP1 hD1 hS1 => ?_)
  refine lv_dup hx hb hd2 rfl ?_
  have hF := cn_freeA hD1 hS1 hA
  have hPc : va_P D mj_cl [(q, .inr (ci, dflt))] H1 := fun k x hk => by
    have hk2 : k < 1 := (List.getElem?_eq_some_iff.mp hk).1
    have hk3 : k = 0 := by omega
    subst hk3
    have h5 : (q, Sum.inr (ci, dflt)) = x := Option.some.inj hk
    rw [← h5]
    exact hP1 ws.length _ (by rw [List.getElem?_append_right (Nat.le_refl _)]; simp)
  have hDc : va_D (fun _ => True) [(q, (.inr (ci, dflt) : va_E))] := ⟨fun i j x z hi hj _ => by
      have h1 := (List.getElem?_eq_some_iff.mp hi).1
      have h2 := (List.getElem?_eq_some_iff.mp hj).1
      simp only [List.length_cons, List.length_nil] at h1 h2
      omega, fun _ _ _ => trivial⟩
  have hpre : PreS s H1 (va_Pc [.ref q] (fun U => U.heap.size = H1.size ∧ va_P D mj_cl [(q, .inr (ci, dflt))] U.heap ∧ cn_K D tA U ∧ va_D (fun _ => True) [(q, .inr (ci, dflt))])) (Value.ref q :: []) := ⟨fun a U g mk z => by
      obtain ⟨q0, q1, q2, q3, q4⟩ := z
      exact ⟨q0, q1, q2, cn_K.blind a U g mk q3, q4⟩, fun U hU hW => ⟨rfl, by rw [hU], by rw [hU]; exact hPc, hK.warm hW, hDc⟩⟩
  have hsum : ((Value.ref q :: st).map fun v => v.category).sum ≤ 8 := by
    show 1 + (st.map fun v => v.category).sum ≤ 8
    omega
  have fin : ∀ (u : va_W) (t : State) (H2 : Heap) (locs1 : List Loc), t.heap = H2 → s.vm.Alike t.vm → out tA q u → (va_P D mj_cl u t.heap ∧ va_D (va_A [(q, .inr (ci, dflt))] H1.size) u) → H1.size ≤ H2.size → (∀ x : Nat, x < H1.size → ¬ va_A [(q, .inr (ci, dflt))] H1.size x → H2[x]? = H1[x]?) → va_S A s.heap H2 locs1 → W p l e R s m args below meth c H2 locs1 (cells + 1 + mc) (slots + (mj_cC ci).2.2 + ms) Q (F0 m (pc + 3 + 1 + 3) ls (Value.ref q :: st)) := by
    intro u t H2 locs1 ht hvm ho hB hz hk hS2
    obtain ⟨g1, g2⟩ := hB
    rw [ht] at g1
    obtain ⟨j1, j2⟩ := cn_joinA hP1 hD1 hk hF g1 g2
    exact kk q u ho H2 locs1 ls j1 j2 hS2 hl
  cases nest with
  | false => exact va_callv (va_runI (As := []) (rest := .ref q :: st) ⟨hx, hb, hml, hown, hts⟩ (hT l D tA q H1.size) (cwI 0 hts (mj_good_code w4 rfl) rfl hrm.1 hrm.2.1 (hts _ w3) (hts _ w6) (hts _ w5) hy1 hyh ⟨hrm.2.2.1, hrm.2.2.2⟩) hpre rfl rfl hl.1 rfl (lv_room hsum) hd3 ⟨hc1, hs1⟩) hS1 (fun x _ h => hF x h) hF fin
  | true => exact va_callv (va_runIN (host := RX6) (n := 0) (As := []) (rest := .ref q :: st) ⟨hx, hb, hml, hown, hts⟩ (hT l D tA q H1.size) ⟨va_cnB 0 hts (mj_good_code w4 rfl) rfl hrm.1 hrm.2.1 (hK.2.1 _ w6) (hts _ w3) hyh ⟨hrm.2.2.1, hrm.2.2.2⟩, hy1, hts _ w5⟩ hpre rfl rfl hl.1 rfl (lv_room hsum) hd3 ⟨hc1, hs1⟩) hS1 (fun x _ h => hF x h) hF fin
end CN
/-- a constructor's contract, out of its walk -/
theorem cn_T_of {y : MethodName} {cy : ByteArray} {ny own : Nat} {dflt : List Value} {rm : Room} {mc ms : Nat} {out : (Nat → ClassId) → Nat → va_W → Prop} (hy : plainName y.cls = true) (hyc : y.cls = mj_on own) (hy1 : y.name = "<init>") (hn : 1 ≤ ny) (h : ∀ (p : Program) (l : Launch) (e : Env) (s : State) (m : MethodId) (args : Array Value) (below : List Frame) (meth : Method) (c : Code) (Q : State → Prop) (A : Nat → Prop) (D : va_G) (tA : Nat → ClassId) (h0 : Nat), cn_cx p s m args c A D tA ny cy own → meth.name = "<init>" →
      (∀ (pc : Nat) (lv : List (Nat × Value)) (w : va_W), decode cy pc = .ok (.return_, 1) → out tA h0 w → cn_P p l e rm s m args below meth c Q A D ny mc ms pc lv [] w) → cn_P p l e rm s m args below meth c Q A D ny 0 0 0 [(0, .ref h0)] [] [(h0, .inr (own, dflt))]) : cn_T y cy ny own dflt rm mc ms out := by
  intro l D tA h0 sz
  refine Met.ofW (cc := cy) (maxL := ny) (ret := none) hy rfl ?_
  intro p e s m args below meth c s₁ B hml hv
  obtain ⟨rfl, hsz, hP, hK, hD0⟩ := hv
  have hts := atoms_spec (ws := Cond.code y cy ny none :: mj_gT) B.pre
  have hown : s.vm.findClass y.cls = some m.cls := findClass_of_methodNamed B.named
  rw [hyc] at hown
  have hlocks := B.notSynchronized
  have hin : meth.name = "<init>" := by rw [← hy1]; exact (name_of_methodNamed B.named B.method).1
  subst hsz
  have hD := hD0.self (sz := s.heap.size)
  have hl := lv_entry ([.ref h0]) (n := ny) hn
  rw [lg_entry_eq]
  refine h p l e s m _ below meth c _ (va_A [(h0, .inr (own, dflt))] s.heap.size) D tA h0 ⟨B.exec, B.bytes, hml, hown, fun w hw => hts w (List.mem_cons_of_mem _ hw), hK, fun q hq => Or.inr hq⟩ hin ?_ s.heap [] _ hP hD va_S.rf hl
  intro pc lv w hd ho H locs ls hP1 hD1 hS1 _
  exact W.vret B.exec B.bytes B.returns (fun t ht hW => ⟨⟨w, rfl, ho, by rw [ht]; exact hP1, hD1⟩, hS1.F ht⟩) hS1.2.2 hd
