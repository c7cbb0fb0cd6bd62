/-! contracts over the mini machine -/
def mj_rm (n : Nat) : Room := { frames := n, cells := 0, slots := 0, locals := 40 * n }
def mj_ov (ad : Nat → Nat) (kind : Nat) (v : mj_V) : Option Value := if kind = 0 then none else some (mj_cv ad v)
def mj_vk (kind : Nat) (v : mj_V) : Prop := match kind with
  | 0 => v = .inl 0
  | 1 => ∃ x : Int32, v = .inl x
  | _ => ∃ a : Nat, v = .inr a
def mj_Q (D : va_G) (ad : Nat → Nat) (tA : Nat → ClassId) (kind : Nat) (post : mj_V → mj_M → Prop) : Array Value → State → Outcome → State → Prop := fun _ st o t =>
  ∃ (v : mj_V) (M' : mj_M), o = .returned (mj_ov ad kind v) ∧ mj_vk kind v ∧ post v M' ∧ va_P D mj_cl (mj_w ad tA M') t.heap ∧ va_F (mj_A ad) st t
def mj_Pc (D : va_G) (ad : Nat → Nat) (tA : Nat → ClassId) (avs : List mj_V) (M : mj_M) : Array Value → State → Prop := fun v U =>
  v = (avs.map (mj_cv ad)).toArray ∧ va_P D mj_cl (mj_w ad tA M) U.heap ∧ mj_E D ad tA (mj_A ad) U U.heap
/-- the contract of a method: its code, locals, answer, level, and what it does -/
def mj_T (y : MethodName) (cc : ByteArray) (nL : Nat) (ret : Option FieldType) (n : Nat) (cl : mj_C) : Prop :=
  ∀ (l : Launch) (D : va_G) (ad : Nat → Nat) (tA : Nat → ClassId), mj_in ad → ∀ (avs : List mj_V) (M : mj_M), avs.length = cl.1 → cl.2.2.1 avs M →
    Met l y (Cond.code y cc nL ret :: mj_gT) (mj_rm n) (mj_Pc D ad tA avs M) (mj_Q D ad tA cl.2.1 (cl.2.2.2 avs M)) 0 0 (mj_A ad)
theorem mj_RO_moved {ad : Nat → Nat} {A : Nat → Prop} {u U : State} {H : Heap} (hvm : u.vm.Alike U.vm) (hk : ∀ i : Nat, i < 8 → vk_R RX5 (mj_st.getD i (0, "")).1 (mj_st.getD i (0, "")).2 (ad (200 + i)) u → vk_R RX5 (mj_st.getD i (0, "")).1 (mj_st.getD i (0, "")).2 (ad (200 + i)) U) (h : mj_RO ad A u H) : mj_RO ad A U H :=
  ⟨fun t ht => ⟨(h.1 t ht).1.moved hvm, (h.1 t ht).2.moved hvm⟩, h.2.1.moved hvm, fun i hi => hk i hi (h.2.2.1 i hi), va_Z.moved hvm h.2.2.2.1, va_Zq.moved hvm h.2.2.2.2⟩
theorem mj_E_to {D : va_G} {ad : Nat → Nat} {tA : Nat → ClassId} {A : Nat → Prop} {s U : State} {H : Heap} {locs : List Loc} (h : mj_E D ad tA A s s.heap) (hS : va_S A s.heap H locs) (hA : ∀ k, k < 74 → A (ad k)) (hU : U.heap = H) (hW : s.WarmedH U.vm) : mj_E D ad tA (mj_A ad) U U.heap := by
  have hAA : ∀ q, mj_A ad q → A q := fun q ⟨k, hk, e⟩ => e ▸ hA k hk
  refine ⟨va_K.moved hW.alike h.1, fun w hw => ?_, mj_RO_moved hW.alike (fun i _ z => vk_R.warm hW z) ?_⟩
  · have h1 := h.2.1 w hw
    have h2 := (List.mem_filter.mp hw).2
    cases w with
    | fieldLinkNest a i b n d g => exact va_Nw.warmF hW h1
    | methodLinkNest a i x g => exact va_Nw.warmM hW h1
    | _ => exact absurd h2 Bool.false_ne_true
  · rw [hU]
    obtain ⟨r1, r2, r3, r4⟩ := h.2.2
    exact ⟨fun t ht => ⟨((r1 t ht).1.kept hS.2.1).narrow hAA, ((r1 t ht).2.kept hS.2.1).narrow hAA⟩, (r2.kept hS.2.1).narrow hAA, r3, (r4.1.kept hS.2.1).narrow hAA, (r4.2.kept hS.2.1).narrow hAA⟩
theorem mj_blind {D : va_G} {ad : Nat → Nat} {tA : Nat → ClassId} {avs : List mj_V} {M : mj_M} : FrameBlind (mj_Pc D ad tA avs M) := by
  intro a U g mk h
  obtain ⟨h1, h2, h3, h4, h5⟩ := h
  exact ⟨h1, h2, va_K.moved (u := U) (U := U.calling g mk a) (Vm.Alike.refl U.vm) h3, fun w hw => by
      have h6 := h4 w hw
      have h7 := (List.mem_filter.mp hw).2
      cases w with
      | fieldLinkNest a i b n d g => exact va_Nw.same rfl rfl h6
      | methodLinkNest a i x g => exact va_Nw.same rfl rfl h6
      | _ => exact absurd h7 Bool.false_ne_true, mj_RO_moved (u := U) (U := U.calling g mk a) (Vm.Alike.refl U.vm) (fun i _ z => vk_R.same rfl z) h5⟩
theorem mj_catsum {ad : Nat → Nat} (r : mj_S) : ((r.map (mj_cv ad)).map fun v => v.category).sum = r.length := by
  induction r with
  | nil => rfl
  | cons v r ih =>
    simp only [List.map_cons, List.sum_cons, List.length_cons, mj_cv_cat]
    rw [ih]
    omega
section MJ2
variable {p : Program} {l : Launch} {e : Env} {R : Room} {s : State} {m : MethodId} {args : Array Value} {below : List Frame} {meth : Method} {c : Code} {cells slots : Nat} {Q : State → Prop} {A : Nat → Prop} {D : va_G} {ad : Nat → Nat} {tA : Nat → ClassId} {nL : Nat} {cc : ByteArray} {own : Nat} {ret : Option FieldType}
theorem mj_blk {sx : mj_Sx} {it : List (Nat × mj_C)} {rk : Nat} {Rt : mj_V → mj_M → Prop} (cx : mj_cx p s m args meth c A D ad tA nL cc (mj_on own) ret sx) (hC : ∀ i cl, it.lookup i = some cl → mj_Kb p l e R s m args below meth c cells slots Q A D ad tA nL cc i cl) (hR : mj_Rb p l e R s m args below meth c cells slots Q A D ad tA cc rk Rt) : ∀ (lst : List mj_O) (pc ed : Nat) (L : mj_L) (st : mj_S) (M : mj_M), mj_ch own cc pc lst ed = true → mj_W it rk sx (mj_P p l e R s m args below meth c cells slots Q A D ad tA nL) Rt lst ed L st M → mj_P p l e R s m args below meth c cells slots Q A D ad tA nL pc L st M := by
  intro lst
  induction lst with
  | nil =>
    intro pc ed L st M h h2
    have e1 : pc = ed := eq_of_beq h
    rw [e1]
    exact h2
  | cons o t ih =>
    intro pc ed L st M h h2
    unfold mj_ch at h
    split at h
    · rename_i q hq
      simp only [Bool.and_eq_true, decide_eq_true_eq] at h
      refine mj_step (k := mj_W it rk sx (mj_P p l e R s m args below meth c cells slots Q A D ad tA nL) Rt t ed) cx hC hR hq (fun L1 st1 M1 z => ih _ _ _ _ _ h.2 z) ?_
      rw [h.1]
      exact h2
    · cases h
theorem mj_call {kind mc ms : Nat} {post : mj_V → mj_M → Prop} {H : Heap} {locs : List Loc} {pc : Nat} {ls : Array Slot} {st0 rest : List Value} {a : Array Value} (hm : mc = 0) (hms : ms = 0)
    (hr : va_Run p l e R s m args below meth c H locs cells slots mc ms (F0 m pc ls st0) rest (mj_Q D ad tA kind post a) (mj_A ad)) (hS : va_S A s.heap H locs) (hA : ∀ k, k < 74 → A (ad k))
    (kk : ∀ (v : mj_V) (M' : mj_M) (H1 : Heap) (locs1 : List Loc), mj_vk kind v → post v M' → va_P D mj_cl (mj_w ad tA M') H1 → va_S A s.heap H1 locs1 → W p l e R s m args below meth c H1 locs1 cells slots Q (F0 m (pc + 3) ls ((mj_ov ad kind v).toList ++ rest))) : W p l e R s m args below meth c H locs cells slots Q (F0 m pc ls st0) := by
  subst hm; subst hms
  have hAA : ∀ q, mj_A ad q → A q := fun q ⟨k, hk, e⟩ => e ▸ hA k hk
  intro T hT X
  obtain ⟨v, st₀, t, T', L, h0, X', hL, e1, e2, ⟨w, M', hv, hw, hp, hP, hz, hk⟩, st⟩ := hr T hT X
  cases hv
  rw [h0] at hz hk
  obtain ⟨t2, a1, b1⟩ := kk w M' T'.heap (locs ++ L) hw hp (by rw [e1]; exact hP)
    ⟨Nat.le_trans hS.1 (by rw [e1]; exact hz), fun q h1 h2 => by rw [e1, hk q (Nat.lt_of_lt_of_le h1 hS.1) (fun z => h2 (hAA q z))]; exact hS.2.1 q h1 h2, fun q hq => by
      rcases List.mem_append.mp hq with h | h
      · exact hS.2.2 q h
      · exact hAA _ (hL q h)⟩ T' rfl X'
  exact ⟨t2, st t2 a1, b1⟩
theorem mj_rt_use {kind : Nat} {post : mj_V → mj_M → Prop} {r : mj_S} {k : mj_S → mj_M → Prop} (h : mj_rt kind post r k) {v : mj_V} {M : mj_M} (hv : mj_vk kind v) (hp : post v M) : ∃ r' : mj_S, k r' M ∧ r'.map (mj_cv ad) = (mj_ov ad kind v).toList ++ r.map (mj_cv ad) := by
  unfold mj_rt at h
  unfold mj_vk at hv
  split at h
  · subst hv
    exact ⟨r, h M hp, rfl⟩
  · obtain ⟨x, rfl⟩ := hv
    exact ⟨_, h x M hp, rfl⟩
  · rename_i h0 h1
    split at hv
    · exact absurd rfl h0
    · exact absurd rfl h1
    · obtain ⟨x, rfl⟩ := hv
      refine ⟨_, h x M hp, ?_⟩
      unfold mj_ov
      rw [if_neg h0]
      rfl
end MJ2
/-- callable from every frame of a class, in a room -/
def mj_Ka (own : Nat) (R : Room) (cells slots key : Nat) (cl : mj_C) : Prop := ∀ (p : Program) (l : Launch) (e : Env) (s : State) (m : MethodId) (args : Array Value) (below : List Frame) (meth : Method) (c : Code) (Q : State → Prop) (A : Nat → Prop) (D : va_G) (ad : Nat → Nat) (tA : Nat → ClassId) (nL : Nat) (cc : ByteArray) (ret : Option FieldType) (sx : mj_Sx), mj_cx p s m args meth c A D ad tA nL cc (mj_on own) ret sx → mj_Kb p l e R s m args below meth c cells slots Q A D ad tA nL cc key cl
theorem mj_good_code {y : MethodName} {cc : ByteArray} {nL : Nat} {ret : Option FieldType} {Ts : List Cond} (hc : Cond.code y cc nL ret ∈ mj_gT) (hT : Ts = mj_gT) : GoodIn Ts (Cond.code y cc nL ret :: mj_gT) := by
  subst hT
  intro w hw
  rcases List.mem_cons.mp hw with h | h
  · rw [h]
    exact ⟨hc, good_of_word (List.mem_filter.mp hc).2⟩
  · exact ⟨h, good_of_word (List.mem_filter.mp h).2⟩
/-- what a call's words are: 0 virtual in the class, 1 virtual on a nest mate, 2 static in the class or public, 3 static on a nest mate -/
def mj_cw (own i : Nat) (y : MethodName) (cc : ByteArray) (nL : Nat) (ret : Option FieldType) (nest : Bool) : Prop :=
  Cond.code y cc nL ret ∈ mj_gT ∧ Cond.initialized y.cls ∈ mj_gT ∧ (y.cls ≠ "java/lang/invoke/MethodHandle" ∧ y.cls ≠ "java/lang/invoke/VarHandle") ∧ (if nest = true then Cond.methodLinkNest (mj_on own) i y RX6 ∈ mj_nw else Cond.methodLink (mj_on own) i y ∈ mj_gT)
theorem mj_KV {own i : Nat} {R : Room} {cells slots : Nat} {y : MethodName} {cy : ByteArray} {ny : Nat} {ry : Option FieldType} {n c0 : Nat} {cl : mj_C} {nest : Bool} (hM : mj_T y cy ny ry n cl) (hw : mj_cw own i y cy ny ry nest) (hi : Cond.instanceMethod y ∈ mj_gT) (hs : Cond.selects y.cls y y ∈ mj_gT) (hc0 : c0 < 8) (hcls : y.cls = mj_on c0)
    (hn : (parseMethodDescriptor y.desc).map (fun d => d.parameters.length + 1) = some cl.1) (hrc : ∀ avs M, cl.2.2.1 avs M → ∃ a r, avs = .inr a :: r ∧ mj_ob a = c0) (hR : n + 1 ≤ R.frames ∧ 8 + (ny + 11) + 40 * n ≤ R.locals ∧ cells ≤ R.cells ∧ slots ≤ R.slots) : mj_Ka own R cells slots (3 * i) cl := by
  intro p l e s m args below meth c Q A D ad tA nL cc ret sx cx i2 pc L avs r M hd hav hr hpre hk H locs ls hP hS hl hL
  have hd : decode cc pc = .ok (.invokevirtual i, 3) := by
    rcases hd with ⟨h1, h2⟩ | ⟨h1, h2⟩ | ⟨h1, h2⟩
    · rw [show i = i2 by omega]; exact h2
    · omega
    · omega
  obtain ⟨hx, hb, hml, hown, hts, hE, hI, hA, -, -, hX⟩ := cx
  obtain ⟨a, t, rfl, hob⟩ := hrc _ _ hpre
  obtain ⟨ha, hsh⟩ := mj_ob_of hob hc0
  have he := mj_wk (ad := ad) (tA := tA) (M := M) ha
  rw [mj_ce_ob hsh] at he
  have hrec := va_recv hE.1 hP (mj_cl_at hc0) he
  rw [show ((mj_cC c0).1, (mj_cC c0).2.1, (mj_cC c0).2.2).1 = y.cls from ((mj_on_lt hc0).symm.trans hcls.symm)] at hrec
  obtain ⟨w1, w2, w3, w4⟩ := hw
  have hlen : t.length + 1 = cl.1 := by simpa using hav
  have hdesc : (parseMethodDescriptor y.desc).map (fun d => d.parameters.length) = some t.length := by
    cases hpd : parseMethodDescriptor y.desc with
    | none => rw [hpd] at hn; cases hn
    | some d =>
      rw [hpd] at hn
      simp only [Option.map_some, Option.some.injEq] at hn ⊢
      omega
  have hpv : PreV s H y.cls (ad a) (mj_Pc D ad tA (.inr a :: t) M) (t.map (mj_cv ad)) := ⟨mj_blind, hrec, fun U hU hW => ⟨rfl, by rw [hU]; exact hP, mj_E_to hE hS hA hU hW⟩⟩
  have hst : ((Sum.inr a :: t).reverse ++ r).map (mj_cv ad) = (t.map (mj_cv ad)).reverse ++ Value.ref (ad a) :: r.map (mj_cv ad) := by simp [mj_cv]
  have hsum : ((r.map (mj_cv ad)).map fun v => v.category).sum ≤ 8 := by rw [mj_catsum]; exact hr
  have fin : ∀ (v : mj_V) (M' : mj_M) (H1 : Heap) (locs1 : List Loc), mj_vk cl.2.1 v → cl.2.2.2 (.inr a :: t) M v M' → va_P D mj_cl (mj_w ad tA M') H1 → va_S A s.heap H1 locs1 → W p l e R s m args below meth c H1 locs1 cells slots Q (F0 m (pc + 3) ls ((mj_ov ad cl.2.1 v).toList ++ r.map (mj_cv ad))) := by
    intro v M' H1 locs1 hv hp hP1 hS1
    obtain ⟨r1, h1, h2⟩ := mj_rt_use (ad := ad) hk hv hp
    rw [← h2]
    exact h1 H1 locs1 ls hP1 hS1 hl hL
  rw [hst]
  cases nest with
  | false =>
    refine mj_call rfl rfl (va_runV (C := y.cls) (n := t.length) (As := t.map (mj_cv ad)) (rest := r.map (mj_cv ad)) ⟨hx, hb, hml, hown, hts⟩ (hM l D ad tA hI (.inr a :: t) M hav hpre) ⟨callB_of t.length hts (mj_good_code w1 rfl) rfl rfl rfl (hts _ w2) (hts _ w4) ⟨w3.1, w3.2, hdesc⟩ ⟨hR.1, hR.2.1⟩, hts _ hi, hts _ hs⟩ hpv rfl (by simp) hl.1 rfl (lv_room hsum) hd ⟨hR.2.2.1, hR.2.2.2⟩) hS hA fin
  | true =>
    refine mj_call rfl rfl (va_runVN (C := y.cls) (host := RX6) (n := t.length) (As := t.map (mj_cv ad)) (rest := r.map (mj_cv ad)) ⟨hx, hb, hml, hown, hts⟩ (hM l D ad tA hI (.inr a :: t) M hav hpre) ⟨va_cnB t.length hts (mj_good_code w1 rfl) rfl rfl rfl (hE.2.1 _ w4) (hts _ w2) ⟨w3.1, w3.2, hdesc⟩ ⟨hR.1, hR.2.1⟩, hts _ hi, hts _ hs⟩ hpv rfl (by simp) hl.1 rfl (lv_room hsum) hd ⟨hR.2.2.1, hR.2.2.2⟩) hS hA fin
theorem mj_KS {own i : Nat} {R : Room} {cells slots : Nat} {y : MethodName} {cy : ByteArray} {ny : Nat} {ry : Option FieldType} {n : Nat} {cl : mj_C} {nest : Bool} (hM : mj_T y cy ny ry n cl) (hw : mj_cw own i y cy ny ry nest) (hi : Cond.static y ∈ mj_gT)
    (hn : (parseMethodDescriptor y.desc).map (fun d => d.parameters.length) = some cl.1) (hR : n + 1 ≤ R.frames ∧ 8 + (ny + 11) + 40 * n ≤ R.locals ∧ cells ≤ R.cells ∧ slots ≤ R.slots) : mj_Ka own R cells slots (3 * i + 2) cl := by
  intro p l e s m args below meth c Q A D ad tA nL cc ret sx cx i2 pc L avs r M hd hav hr hpre hk H locs ls hP hS hl hL
  have hd : decode cc pc = .ok (.invokestatic i, 3) := by
    rcases hd with ⟨h1, h2⟩ | ⟨h1, h2⟩ | ⟨h1, h2⟩
    · omega
    · omega
    · rw [show i = i2 by omega]; exact h2
  obtain ⟨hx, hb, hml, hown, hts, hE, hI, hA, -, -, hX⟩ := cx
  obtain ⟨w1, w2, w3, w4⟩ := hw
  have hdesc : (parseMethodDescriptor y.desc).map (fun d => d.parameters.length) = some avs.length := by rw [hav]; exact hn
  have hpv : PreS s H (mj_Pc D ad tA avs M) (avs.map (mj_cv ad)) := ⟨mj_blind, fun U hU hW => ⟨rfl, by rw [hU]; exact hP, mj_E_to hE hS hA hU hW⟩⟩
  have hst : (avs.reverse ++ r).map (mj_cv ad) = (avs.map (mj_cv ad)).reverse ++ r.map (mj_cv ad) := by simp
  have hsum : ((r.map (mj_cv ad)).map fun v => v.category).sum ≤ 8 := by rw [mj_catsum]; exact hr
  have fin : ∀ (v : mj_V) (M' : mj_M) (H1 : Heap) (locs1 : List Loc), mj_vk cl.2.1 v → cl.2.2.2 avs M v M' → va_P D mj_cl (mj_w ad tA M') H1 → va_S A s.heap H1 locs1 → W p l e R s m args below meth c H1 locs1 cells slots Q (F0 m (pc + 3) ls ((mj_ov ad cl.2.1 v).toList ++ r.map (mj_cv ad))) := by
    intro v M' H1 locs1 hv hp hP1 hS1
    obtain ⟨r1, h1, h2⟩ := mj_rt_use (ad := ad) hk hv hp
    rw [← h2]
    exact h1 H1 locs1 ls hP1 hS1 hl hL
  rw [hst]
  cases nest with
  | false =>
    refine mj_call rfl rfl (va_runS (n := avs.length) (As := avs.map (mj_cv ad)) (rest := r.map (mj_cv ad)) ⟨hx, hb, hml, hown, hts⟩ (hM l D ad tA hI avs M hav hpre) ⟨callB_of avs.length hts (mj_good_code w1 rfl) rfl rfl rfl (hts _ w2) (hts _ w4) ⟨w3.1, w3.2, hdesc⟩ ⟨hR.1, hR.2.1⟩, hts _ hi⟩ hpv rfl (by simp) hl.1 rfl (lv_room hsum) hd ⟨hR.2.2.1, hR.2.2.2⟩) hS hA fin
  | true =>
    refine mj_call rfl rfl (va_runSN (host := RX6) (n := avs.length) (As := avs.map (mj_cv ad)) (rest := r.map (mj_cv ad)) ⟨hx, hb, hml, hown, hts⟩ (hM l D ad tA hI avs M hav hpre) ⟨va_cnB avs.length hts (mj_good_code w1 rfl) rfl rfl rfl (hE.2.1 _ w4) (hts _ w2) ⟨w3.1, w3.2, hdesc⟩ ⟨hR.1, hR.2.1⟩, hts _ hi, trivial⟩ hpv rfl (by simp) hl.1 rfl (lv_room hsum) hd ⟨hR.2.2.1, hR.2.2.2⟩) hS hA fin
def mj_s0 : mj_Sx := (false, 0, fun _ => 0)
/-- kinds of answers: 0 none, 1 an int, 2 a reference, 3 a boolean -/
def mj_rk (ret : Option FieldType) (kind rk : Nat) : Prop := match rk with
  | 0 => ret = none ∧ kind = 0
  | 1 => ret = some .int ∧ kind = 1
  | 2 => (∃ n, ret = some (.object n)) ∧ kind = 2
  | _ => ret = some .boolean ∧ kind = 1 ∧ rk = 3
theorem mj_ent {ad : Nat → Nat} (k : Nat) : ∀ (avs : List mj_V) (i : Nat), mj_cL ad i (avs.map some ++ List.replicate k none) = lv_args i (avs.map (mj_cv ad)) := by
  intro avs
  induction avs with
  | nil =>
    intro i
    show mj_cL ad i (List.replicate k none) = []
    induction k generalizing i with
    | zero => rfl
    | succ k ih => exact ih (i + 1)
  | cons v t ih =>
    intro i
    show (i, mj_cv ad v) :: mj_cL ad (i + 1) (t.map some ++ List.replicate k none) = (i, mj_cv ad v) :: lv_args (if (mj_cv ad v).category = 2 then i + 2 else i + 1) (t.map (mj_cv ad))
    rw [ih, mj_cv_cat, if_neg (by decide)]
theorem mj_sl {ad : Nat → Nat} : ∀ (avs : List mj_V), (lg_sl (avs.map (mj_cv ad))).length = avs.length := by
  intro avs
  induction avs with
  | nil => rfl
  | cons v t ih =>
    have h : lg_sl ((v :: t).map (mj_cv ad)) = (if (mj_cv ad v).category = 2 then [.val (mj_cv ad v), .second] else [.val (mj_cv ad v)]) ++ lg_sl (t.map (mj_cv ad)) := by simp [lg_sl]
    rw [h, mj_cv_cat, if_neg (by decide), List.length_append, ih]
    simp only [List.length_cons, List.length_nil]
    omega
theorem mj_lookup_mem {it : List (Nat × mj_C)} {i : Nat} {k : mj_C} (h : it.lookup i = some k) : (i, k) ∈ it := by
  induction it with
  | nil => cases h
  | cons q t ih =>
    obtain ⟨a, b⟩ := q
    rw [List.lookup_cons] at h
    split at h
    · rename_i e
      have e2 : i = a := eq_of_beq e
      cases h
      rw [e2]
      exact List.mem_cons_self
    · exact List.mem_cons_of_mem _ (ih h)
/-- a contract, out of its formulas -/
theorem mj_T_of {y : MethodName} {cc : ByteArray} {nL : Nat} {ret : Option FieldType} {n : Nat} {cl : mj_C} {own : Nat} {rk : Nat} (it : List (Nat × mj_C)) (hy : plainName y.cls = true) (hyc : y.cls = mj_on own) (hnL : cl.1 ≤ nL) (hret : mj_rk ret cl.2.1 rk) (hit : ∀ q ∈ it, mj_Ka own (mj_rm n) 0 0 q.1 q.2)
    (h : ∀ (avs : List mj_V) (M : mj_M), avs.length = cl.1 → cl.2.2.1 avs M → ∀ V : Nat → mj_L → mj_S → mj_M → Prop, (∀ {lst : List mj_O} {pc ed : Nat}, mj_ch own cc pc lst ed = true → ∀ (L : mj_L) (st : mj_S) (M' : mj_M), mj_W it rk mj_s0 V (cl.2.2.2 avs M) lst ed L st M' → V pc L st M') → V 0 (avs.map some ++ List.replicate (nL - avs.length) none) [] M) : mj_T y cc nL ret n cl := by
  intro l D ad tA hI avs M hav hpre
  refine Met.ofW (cc := cc) (maxL := nL) (ret := ret) hy rfl ?_
  intro p e s m args below meth c s₁ B hml hv
  obtain ⟨rfl, hP, hE⟩ := hv
  have hts := atoms_spec (ws := Cond.code y cc nL ret :: mj_gT) B.pre
  have hown : s.vm.findClass y.cls = some m.cls := findClass_of_methodNamed B.named
  rw [hyc] at hown
  have hlocks := B.notSynchronized
  have cx : mj_cx p s m (avs.map (mj_cv ad)).toArray meth c (mj_A ad) D ad tA nL cc (mj_on own) ret mj_s0 := ⟨B.exec, B.bytes, hml, hown, fun w hw => hts w (List.mem_cons_of_mem _ hw), hE, hI, fun k hk => ⟨k, hk, rfl⟩, B.returns, hlocks, fun h => by cases h⟩
  have hR : mj_Rb p l e (mj_rm n) s m (avs.map (mj_cv ad)).toArray below meth c 0 0 (MQ below (mj_Q D ad tA cl.2.1 (cl.2.2.2 avs M)) (avs.map (mj_cv ad)).toArray s 0 0 (mj_A ad)) (mj_A ad) D ad tA cc rk (cl.2.2.2 avs M) := by
    refine ⟨fun pc ls x M1 H locs hd h0 h1 h2 hP1 hS1 => ?_, fun pc ls x M1 H locs hd h1 h2 hP1 hS1 => ?_, fun pc ls M1 H locs hd h1 h2 hP1 hS1 => ?_⟩
    · rcases h0 with rfl | rfl
      · obtain ⟨r1, r2⟩ := hret
        refine W.iret (v := x) B.exec B.bytes (B.returns.trans r1) (fun t ht hW => ⟨.inl x, M1, ?_, ?_, h2, by rw [ht]; exact hP1, hS1.F ht⟩) hS1.2.2 hd
        · rw [r2]; rfl
        · rw [r2]; exact ⟨x, rfl⟩
      · obtain ⟨r1, r2, -⟩ := hret
        refine W.zret (v := x) B.exec B.bytes (B.returns.trans r1) (mj_okv (h1 rfl)).1 (fun t ht hW => ⟨.inl x, M1, ?_, ?_, h2, by rw [ht]; exact hP1, hS1.F ht⟩) hS1.2.2 hd
        · rw [r2]; rfl
        · rw [r2]; exact ⟨x, rfl⟩
    · subst h1
      obtain ⟨⟨nm, r1⟩, r2⟩ := hret
      refine W.aret (v := .ref (ad x)) B.exec B.bytes (B.returns.trans r1) (Or.inl ⟨nm, rfl⟩) (Or.inr ⟨_, rfl⟩) (fun t ht hW => ⟨.inr x, M1, ?_, ?_, h2, by rw [ht]; exact hP1, hS1.F ht⟩) hS1.2.2 hd
      · rw [r2]; rfl
      · rw [r2]; exact ⟨x, rfl⟩
    · subst h1
      obtain ⟨r1, r2⟩ := hret
      refine W.vret B.exec B.bytes (B.returns.trans r1) (fun t ht hW => ⟨.inl 0, M1, ?_, ?_, h2, by rw [ht]; exact hP1, hS1.F ht⟩) hS1.2.2 hd
      · rw [r2]; rfl
      · rw [r2]; exact rfl
  have hC : ∀ i k, it.lookup i = some k → mj_Kb p l e (mj_rm n) s m (avs.map (mj_cv ad)).toArray below meth c 0 0 (MQ below (mj_Q D ad tA cl.2.1 (cl.2.2.2 avs M)) (avs.map (mj_cv ad)).toArray s 0 0 (mj_A ad)) (mj_A ad) D ad tA nL cc i k := fun i k hk =>
    hit (i, k) (mj_lookup_mem hk) p l e s m _ below meth c _ (mj_A ad) D ad tA nL cc ret mj_s0 cx
  have hV := h avs M hav hpre (mj_P p l e (mj_rm n) s m (avs.map (mj_cv ad)).toArray below meth c 0 0 (MQ below (mj_Q D ad tA cl.2.1 (cl.2.2.2 avs M)) (avs.map (mj_cv ad)).toArray s 0 0 (mj_A ad)) (mj_A ad) D ad tA nL) (fun {lst pc ed} hch L st M' hw => mj_blk cx hC hR lst pc ed L st M' hch hw)
  have hl := lv_entry (avs.map (mj_cv ad)) (n := nL) (by rw [mj_sl]; omega)
  rw [lg_entry_eq]
  refine hV s.heap [] _ hP va_S.rf ?_ ?_
  · rw [mj_ent]
    exact hl
  · simp only [List.length_append, List.length_map, List.length_replicate]
    omega
