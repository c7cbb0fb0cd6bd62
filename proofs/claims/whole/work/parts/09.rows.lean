theorem mj_K_of {tA : Nat → ClassId} {t : Nat} (ht : t < 5) : ∃ q, (mj_ty tA)[t]? = some q := ⟨_, List.getElem?_eq_getElem ht⟩
def mj_tyC (c : Nat) : Nat → FieldType := [tyX0, tyX1, tyX2, tyX3, tyX4, tyX5, tyX6, tyX7].getD c tyX0
theorem mj_tyC_ok : ∀ {c : Nat}, c < 8 → ∀ k, k < (mj_cC c).2.2 → parseFieldDescriptor ((mj_cC c).2.1 k).2.2.1 = some (mj_tyC c k) := by
  intro c hc
  rcases (show c = 0 ∨ c = 1 ∨ c = 2 ∨ c = 3 ∨ c = 4 ∨ c = 5 ∨ c = 6 ∨ c = 7 by omega) with rfl | rfl | rfl | rfl | rfl | rfl | rfl | rfl
  · exact tyX0_ok
  · exact tyX1_ok
  · exact tyX2_ok
  · exact tyX3_ok
  · exact tyX4_ok
  · exact tyX5_ok
  · exact tyX6_ok
  · exact tyX7_ok
theorem mj_nmC : ∀ {c : Nat}, c < 8 → ∀ a, a < (mj_cC c).2.2 → ∀ b, b < (mj_cC c).2.2 → a ≠ b → ((mj_cC c).2.1 a).2.1 ≠ ((mj_cC c).2.1 b).2.1 := by
  intro c hc
  rcases (show c = 0 ∨ c = 1 ∨ c = 2 ∨ c = 3 ∨ c = 4 ∨ c = 5 ∨ c = 6 ∨ c = 7 by omega) with rfl | rfl | rfl | rfl | rfl | rfl | rfl | rfl
  · exact nmX0
  · exact nmX1
  · exact nmX2
  · exact nmX3
  · exact nmX4
  · exact nmX5
  · exact nmX6
  · exact nmX7
set_option maxRecDepth 100000 in
theorem mj_fdecl : ∀ c, c < 8 → ∀ j, j < (mj_cC c).2.2 → ((mj_cC c).2.1 j).1 = mj_on c := by decide +kernel
theorem mj_fsame {c j : Nat} (hc : c < 8) (hj : j < (mj_cC c).2.2) {s : State} {z} (h : s.fieldFound? ((mj_cC c).2.1 j).1 ((mj_cC c).2.1 j).2.1 ((mj_cC c).2.1 j).2.2.1 = some z) : s.fieldFound? (mj_on c) ((mj_cC c).2.1 j).2.1 ((mj_cC c).2.1 j).2.2.1 = some z := by
  rw [mj_fdecl c hc j hj] at h
  exact h
theorem mj_gl_ok : ∀ q ∈ mj_gl, q.2.2.1 < 10 := by decide +kernel
theorem mj_tq_of {i j : Nat} (h : (mj_st.map (·.1)).findIdx? (fun k => k == i) = some j) : j < 8 ∧ (mj_st.getD j (0, "")).1 = i := by
  obtain ⟨hj, h2, -⟩ := List.findIdx?_eq_some_iff_getElem.mp h
  have hj8 : j < 8 := hj
  refine ⟨hj8, ?_⟩
  have h3 := eq_of_beq h2
  rw [List.getElem_map] at h3
  rw [List.getD_eq_getElem?_getD, List.getElem?_eq_getElem hj8]
  exact h3
theorem mj_ak_all {a : Nat} (h : mj_ak a ≠ 9) : mj_ak a = 0 ∨ mj_ak a = 1 ∨ mj_ak a = 2 ∨ mj_ak a = 3 ∨ mj_ak a = 4 := by
  unfold mj_ak at h ⊢
  split
  · rename_i h1
    split
    · rename_i h2
      have := mj_sh_ar a h1 h2
      omega
    · rename_i h2
      split
      · omega
      · rename_i h3
        rw [if_pos h1, if_neg h2, if_neg h3] at h
        exact absurd rfl h
  · rename_i h1
    split
    · rename_i h2
      rw [if_neg h1, if_pos h2] at h
      exact absurd rfl h
    · rename_i h2
      split
      · omega
      · rename_i h3
        split
        · omega
        · rename_i h4
          rw [if_neg h1, if_neg h2, if_neg h3, if_neg h4] at h
          exact absurd rfl h
theorem mj_rt_mono {kind : Nat} {post : mj_V → mj_M → Prop} {r : mj_S} {k k' : mj_S → mj_M → Prop} (h : mj_rt kind post r k) (hk : ∀ r M, k r M → k' r M) : mj_rt kind post r k' := by
  unfold mj_rt at h ⊢
  split
  · exact fun M' z => hk _ _ (h M' z)
  · exact fun x M' z => hk _ _ (h x M' z)
  · rename_i h0 h1
    split at h
    · exact absurd rfl h0
    · exact absurd rfl h1
    · exact fun x M' z => hk _ _ (h x M' z)
theorem mj_inv_of {it : List (Nat × mj_C)} {i : Nat} {f : mj_C → Prop} (h : match it.lookup i with | some cl => f cl | none => False) : ∃ cl, it.lookup i = some cl ∧ f cl := by
  cases e : it.lookup i with
  | none => rw [e] at h; exact False.elim h
  | some cl => rw [e] at h; exact ⟨cl, rfl, h⟩
theorem mj_ls_of {pc : Nat} {f : Nat → Prop} {d : Int} {x : Int32} : ∀ {ps : List (Int × Int)}, (∀ q ∈ ps, 0 ≤ (pc : Int) + q.2 ∧ mj_okI q.1 = true) → 0 ≤ (pc : Int) + d → mj_sw (ps.map (fun q => (Int32.ofInt q.1, ((pc : Int) + q.2).toNat))) ((pc : Int) + d).toNat x f → ∃ t : Nat, (pc : Int) + Op.lookupswitch.offset ps d x.toInt = (t : Int) ∧ f t := by
  intro ps
  induction ps with
  | nil =>
    intro _ h1 h
    exact ⟨_, (Int.toNat_of_nonneg h1).symm, h⟩
  | cons q t ih =>
    intro h0 h1 h
    obtain ⟨a, o⟩ := q
    have hq := h0 _ List.mem_cons_self
    have ea := mj_okI_of hq.2
    by_cases ex : x = Int32.ofInt a
    · refine ⟨_, ?_, h.1 ex⟩
      rw [Op.lookupswitch.offset_cons, if_pos (by rw [ex, ea])]
      exact (Int.toNat_of_nonneg hq.1).symm
    · obtain ⟨u, h2, h3⟩ := ih (fun q hq => h0 q (List.mem_cons_of_mem _ hq)) h1 (h.2 ex)
      exact ⟨u, by rw [lv_osw ex ea]; exact h2, h3⟩
/-! the judgement of the mini machine, and its steps -/
section MJ
variable {p : Program} {l : Launch} {e : Env} {R : Room} {s : State} {m : MethodId} {args : Array Value} {below : List Frame} {meth : Method} {c : Code} {cells slots : Nat} {Q : State → Prop} {A : Nat → Prop} {D : va_G} {ad : Nat → Nat} {tA : Nat → ClassId} {nL : Nat} {cc : ByteArray} {own : Nat} {ret : Option FieldType}
def mj_P (p : Program) (l : Launch) (e : Env) (R : Room) (s : State) (m : MethodId) (args : Array Value) (below : List Frame) (meth : Method) (c : Code) (cells slots : Nat) (Q : State → Prop) (A : Nat → Prop) (D : va_G) (ad : Nat → Nat) (tA : Nat → ClassId) (nL : Nat) (pc : Nat) (L : mj_L) (st : mj_S) (M : mj_M) : Prop :=
  ∀ (H : Heap) (locs : List Loc) (ls : Array Slot), va_P D mj_cl (mj_w ad tA M) H → va_S A s.heap H locs → lv_has ls nL (mj_cL ad 0 L) → L.length = nL → W p l e R s m args below meth c H locs cells slots Q (F0 m pc ls (st.map (mj_cv ad)))
/-- what holds of a frame all along -/
def mj_cx (p : Program) (s : State) (m : MethodId) (args : Array Value) (meth : Method) (c : Code) (A : Nat → Prop) (D : va_G) (ad : Nat → Nat) (tA : Nat → ClassId) (nL : Nat) (cc : ByteArray) (ow : String) (ret : Option FieldType) (sx : mj_Sx) : Prop :=
  p.tables.exec = Jvm.exec ∧ c.code = cc ∧ c.maxLocals = nL ∧ s.vm.findClass ow = some m.cls ∧ (∀ w ∈ mj_gT, w.before args s = true) ∧ mj_E D ad tA A s s.heap ∧ mj_in ad ∧ (∀ k, k < 74 → A (ad k)) ∧ meth.sig.returnType = ret ∧ meth.locks = false ∧ (sx.1 = true → va_X (ad 400) sx.2.1 sx.2.2 s s.heap ∧ ad 400 < s.heap.size ∧ ¬ A (ad 400))
/-- a call can be made -/
def mj_Kb (p : Program) (l : Launch) (e : Env) (R : Room) (s : State) (m : MethodId) (args : Array Value) (below : List Frame) (meth : Method) (c : Code) (cells slots : Nat) (Q : State → Prop) (A : Nat → Prop) (D : va_G) (ad : Nat → Nat) (tA : Nat → ClassId) (nL : Nat) (cc : ByteArray) (key : Nat) (cl : mj_C) : Prop :=
  ∀ (i pc : Nat) (L : mj_L) (avs : List mj_V) (r : mj_S) (M : mj_M), ((key = 3 * i ∧ decode cc pc = .ok (.invokevirtual i, 3)) ∨ (key = 3 * i + 1 ∧ decode cc pc = .ok (.invokespecial i, 3)) ∨ (key = 3 * i + 2 ∧ decode cc pc = .ok (.invokestatic i, 3))) → avs.length = cl.1 → r.length ≤ 8 → cl.2.2.1 avs M → mj_rt cl.2.1 (cl.2.2.2 avs M) r (fun r' M' => mj_P p l e R s m args below meth c cells slots Q A D ad tA nL (pc + 3) L r' M') → mj_P p l e R s m args below meth c cells slots Q A D ad tA nL pc L (avs.reverse ++ r) M
/-- how it ends -/
def mj_Rb (p : Program) (l : Launch) (e : Env) (R : Room) (s : State) (m : MethodId) (args : Array Value) (below : List Frame) (meth : Method) (c : Code) (cells slots : Nat) (Q : State → Prop) (A : Nat → Prop) (D : va_G) (ad : Nat → Nat) (tA : Nat → ClassId) (cc : ByteArray) (rk : Nat) (Rt : mj_V → mj_M → Prop) : Prop :=
  (∀ (pc : Nat) (ls : Array Slot) (x : Int32) (M : mj_M) (H : Heap) (locs : List Loc), decode cc pc = .ok (.ireturn, 1) → (rk = 1 ∨ rk = 3) → (rk = 3 → x = 0 ∨ x = 1) → Rt (.inl x) M → va_P D mj_cl (mj_w ad tA M) H → va_S A s.heap H locs → W p l e R s m args below meth c H locs cells slots Q (F0 m pc ls [.int x])) ∧
  (∀ (pc : Nat) (ls : Array Slot) (x : Nat) (M : mj_M) (H : Heap) (locs : List Loc), decode cc pc = .ok (.areturn, 1) → rk = 2 → Rt (.inr x) M → va_P D mj_cl (mj_w ad tA M) H → va_S A s.heap H locs → W p l e R s m args below meth c H locs cells slots Q (F0 m pc ls [.ref (ad x)])) ∧
  (∀ (pc : Nat) (ls : Array Slot) (M : mj_M) (H : Heap) (locs : List Loc), decode cc pc = .ok (.return_, 1) → rk = 0 → Rt (.inl 0) M → va_P D mj_cl (mj_w ad tA M) H → va_S A s.heap H locs → W p l e R s m args below meth c H locs cells slots Q (F0 m pc ls []))

section Steps
variable {sx : mj_Sx} {pc : Nat} {L : mj_L} {st : mj_S} {M : mj_M}
theorem mj_tg_of {off : Int} {k : Nat} {X : mj_O → Prop} (hX : ¬ X mj_no) (h : X (mj_tg pc off k)) : ∃ t : Nat, (pc : Int) + off = (t : Int) ∧ X (k, t, 0, 0, []) := by
  unfold mj_tg at h
  split at h
  · exact ⟨_, (Int.toNat_of_nonneg (by assumption)).symm, h⟩
  · exact absurd h hX
theorem mj_okv {x : Int32} (h : x = 0 ∨ x = 1) : narrow .boolean (.int x) = .int x ∧ fits .boolean (.int x) = true := by
  rcases h with rfl | rfl <;> decide

set_option maxHeartbeats 4000000 in
set_option maxRecDepth 20000 in
theorem mj_step {it : List (Nat × mj_C)} {rk : Nat} {Rt : mj_V → mj_M → Prop} (cx : mj_cx p s m args meth c A D ad tA nL cc (mj_on own) ret sx) (hC : ∀ i cl, it.lookup i = some cl → mj_Kb p l e R s m args below meth c cells slots Q A D ad tA nL cc i cl) (hR : mj_Rb p l e R s m args below meth c cells slots Q A D ad tA cc rk Rt) {q : Instr × Nat} (hd : decode cc pc = .ok q) {k : mj_L → mj_S → mj_M → Prop} (hk : ∀ L' st' M', k L' st' M' → mj_P p l e R s m args below meth c cells slots Q A D ad tA nL (pc + q.2) L' st' M') (h : mj_X it rk sx (mj_P p l e R s m args below meth c cells slots Q A D ad tA nL) Rt (mj_tr own pc q) k L st M) : mj_P p l e R s m args below meth c cells slots Q A D ad tA nL pc L st M := by
  have no : ∀ (o : mj_O), o = mj_no → ¬ mj_X it rk sx (mj_P p l e R s m args below meth c cells slots Q A D ad tA nL) Rt o k L st M := fun o e z => by
    rw [e] at z
    exact z
  intro H locs ls hP hS hl hL
  obtain ⟨hx, hb, hml, hown, hts, hE, hI, hA, -, -, hX⟩ := cx
  obtain ⟨hK, hN, hRO⟩ := hE
  have hD : va_D A (mj_w ad tA M) := mj_wD hI hA
  unfold mj_tr at h
  split at h
  · rename_i z
    exact lv_iconst hx hb hd rfl (hk _ _ _ h _ _ _ hP hS hl hL)
  · rename_i z
    exact lv_bipush hx hb hd rfl (hk _ _ _ h _ _ _ hP hS hl hL)
  · rename_i z
    exact lv_sipush hx hb hd rfl (hk _ _ _ h _ _ _ hP hS hl hL)
  · rename_i i
    unfold mj_lc at h
    split at h
    · rename_i q hq
      obtain ⟨h1, h2, h3⟩ := mj_kq_of hq
      obtain ⟨q1, q2, q3⟩ := q
      dsimp only at h1 h2 h3 h
      subst h2; subst h3
      exact lv_ldc hx hb hown (hts _ (mj_kl_in h1)) hd (hk _ _ _ h _ _ _ hP hS hl hL)
    · split at h
      · rename_i ho
        split at h
        · rename_i j hj
          subst ho
          unfold mj_tq at hj
          have hj2 : j < 8 ∧ (mj_st.getD j (0, "")).1 = i := mj_tq_of hj
          have hz := hRO.2.2.1 j hj2.1
          rw [hj2.2] at hz
          exact va_ldcS hx hb hown hz hd (hk _ _ _ h _ _ _ hP hS hl hL)
        · exact absurd h (no _ rfl)
      · exact absurd h (no _ rfl)
  · rename_i n
    obtain ⟨x, hg, h⟩ := mj_li_of h
    have hm := hl.2.2 _ (mj_cL_g (i := 0) hg)
    rw [Nat.zero_add] at hm
    exact lv_iload_n hx hb hd rfl hm (hk _ _ _ h _ _ _ hP hS hl hL)
  · rename_i n
    obtain ⟨x, hg, h⟩ := mj_li_of h
    have hm := hl.2.2 _ (mj_cL_g (i := 0) hg)
    rw [Nat.zero_add] at hm
    exact lv_iload hx hb hd hm (hk _ _ _ h _ _ _ hP hS hl hL)
  · rename_i n
    obtain ⟨x, hg, h⟩ := mj_lr_of h
    have hm := hl.2.2 _ (mj_cL_g (i := 0) hg)
    rw [Nat.zero_add] at hm
    exact lv_aload_n hx hb hd rfl hm (hk _ _ _ h _ _ _ hP hS hl hL)
  · rename_i n
    obtain ⟨x, hg, h⟩ := mj_lr_of h
    have hm := hl.2.2 _ (mj_cL_g (i := 0) hg)
    rw [Nat.zero_add] at hm
    exact lv_aload hx hb hd hm (hk _ _ _ h _ _ _ hP hS hl hL)
  · rename_i n
    obtain ⟨x, r, rfl, h⟩ := mj_pi_of h
    obtain ⟨L1, h, h2, h3, h4⟩ := mj_so_of (ad := ad) (i := 0) h
    exact lv_istore_n hx hb hd rfl hl (by omega) rfl (fun ls1 hl1 => hk _ _ _ h _ _ _ hP hS (mj_has_so h4 hl1) (h2.trans hL))
  · rename_i n
    obtain ⟨x, r, rfl, h⟩ := mj_pi_of h
    obtain ⟨L1, h, h2, h3, h4⟩ := mj_so_of (ad := ad) (i := 0) h
    exact lv_istore hx hb hd hl (by omega) rfl (fun ls1 hl1 => hk _ _ _ h _ _ _ hP hS (mj_has_so h4 hl1) (h2.trans hL))
  · rename_i n
    obtain ⟨x, r, rfl, h⟩ := mj_pr_of h
    obtain ⟨L1, h, h2, h3, h4⟩ := mj_so_of (ad := ad) (i := 0) h
    exact lv_astore_n hx hb hd rfl hl (by omega) rfl (fun ls1 hl1 => hk _ _ _ h _ _ _ hP hS (mj_has_so h4 hl1) (h2.trans hL))
  · rename_i n
    obtain ⟨x, r, rfl, h⟩ := mj_pr_of h
    obtain ⟨L1, h, h2, h3, h4⟩ := mj_so_of (ad := ad) (i := 0) h
    exact lv_astore hx hb hd hl (by omega) rfl (fun ls1 hl1 => hk _ _ _ h _ _ _ hP hS (mj_has_so h4 hl1) (h2.trans hL))
  · rename_i n z
    obtain ⟨x, hg, h⟩ := mj_li_of h
    obtain ⟨L1, h, h2, h3, h4⟩ := mj_so_of (ad := ad) (i := 0) h
    have hm := mj_cL_g (ad := ad) (i := 0) hg
    rw [Nat.zero_add] at hm
    obtain ⟨kk, hkk⟩ := List.getElem?_of_mem hm
    exact lv_iinc hx hb hd hl hkk rfl (by omega) rfl (fun ls1 hl1 => hk _ _ _ h _ _ _ hP hS (mj_has_so h4 hl1) (h2.trans hL))
  · obtain ⟨y, r, rfl, h⟩ := mj_pi_of h
    obtain ⟨x, r, rfl, h⟩ := mj_pi_of h
    exact lv_iadd hx hb hd (hk _ _ _ h _ _ _ hP hS hl hL)
  · obtain ⟨y, r, rfl, h⟩ := mj_pi_of h
    obtain ⟨x, r, rfl, h⟩ := mj_pi_of h
    exact lv_isub hx hb hd (hk _ _ _ h _ _ _ hP hS hl hL)
  · obtain ⟨y, r, rfl, h⟩ := mj_pi_of h
    obtain ⟨x, r, rfl, h⟩ := mj_pi_of h
    exact lv_imul hx hb hd (hk _ _ _ h _ _ _ hP hS hl hL)
  · obtain ⟨y, r, rfl, h⟩ := mj_pi_of h
    obtain ⟨x, r, rfl, hy, h⟩ := mj_pi_of h
    exact lv_idiv hx hb hd hy (hk _ _ _ h _ _ _ hP hS hl hL)
  · obtain ⟨y, r, rfl, h⟩ := mj_pi_of h
    obtain ⟨x, r, rfl, hy, h⟩ := mj_pi_of h
    exact lv_irem hx hb hd hy (hk _ _ _ h _ _ _ hP hS hl hL)
  · obtain ⟨y, r, rfl, h⟩ := mj_pi_of h
    exact lv_ineg hx hb hd (hk _ _ _ h _ _ _ hP hS hl hL)
  · obtain ⟨y, r, rfl, h⟩ := mj_pi_of h
    obtain ⟨x, r, rfl, h⟩ := mj_pi_of h
    exact lv_ishl hx hb hd (hk _ _ _ h _ _ _ hP hS hl hL)
  · obtain ⟨y, r, rfl, h⟩ := mj_pi_of h
    obtain ⟨x, r, rfl, h⟩ := mj_pi_of h
    exact lv_ishr hx hb hd (hk _ _ _ h _ _ _ hP hS hl hL)
  · obtain ⟨y, r, rfl, h⟩ := mj_pi_of h
    obtain ⟨x, r, rfl, h⟩ := mj_pi_of h
    exact lv_iand hx hb hd (hk _ _ _ h _ _ _ hP hS hl hL)
  · obtain ⟨y, r, rfl, h⟩ := mj_pi_of h
    obtain ⟨x, r, rfl, h⟩ := mj_pi_of h
    exact lv_ior hx hb hd (hk _ _ _ h _ _ _ hP hS hl hL)
  · obtain ⟨y, r, rfl, h⟩ := mj_pi_of h
    exact lv_i2c hx hb hd rfl (hk _ _ _ h _ _ _ hP hS hl hL)
  · obtain ⟨y, r, rfl, h⟩ := mj_pv_of h
    exact lv_dup hx hb hd (mj_cv_cat y) (hk _ _ _ h _ _ _ hP hS hl hL)
  · obtain ⟨y, r, rfl, h⟩ := mj_pv_of h
    obtain ⟨x, r, rfl, h⟩ := mj_pv_of h
    exact lv_dup2_11 hx hb hd (mj_cv_cat y) (mj_cv_cat x) (hk _ _ _ h _ _ _ hP hS hl hL)
  · obtain ⟨y, r, rfl, h⟩ := mj_pv_of h
    exact lv_pop hx hb hd (mj_cv_cat y) (hk _ _ _ h _ _ _ hP hS hl hL)
  · rename_i o
    obtain ⟨t, ht, h⟩ := mj_tg_of (X := fun o => mj_X it rk sx (mj_P p l e R s m args below meth c cells slots Q A D ad tA nL) Rt o k L st M) (no _ rfl) h
    obtain ⟨x, r, rfl, h⟩ := mj_pi_of h
    exact lv_if_eq hx hb hd ht (fun z => h.1 z _ _ _ hP hS hl hL) (fun z => hk _ _ _ (h.2 z) _ _ _ hP hS hl hL)
  · rename_i o
    obtain ⟨t, ht, h⟩ := mj_tg_of (X := fun o => mj_X it rk sx (mj_P p l e R s m args below meth c cells slots Q A D ad tA nL) Rt o k L st M) (no _ rfl) h
    obtain ⟨x, r, rfl, h⟩ := mj_pi_of h
    exact lv_if_ne hx hb hd ht (fun z => h.1 z _ _ _ hP hS hl hL) (fun z => hk _ _ _ (h.2 z) _ _ _ hP hS hl hL)
  · rename_i o
    obtain ⟨t, ht, h⟩ := mj_tg_of (X := fun o => mj_X it rk sx (mj_P p l e R s m args below meth c cells slots Q A D ad tA nL) Rt o k L st M) (no _ rfl) h
    obtain ⟨x, r, rfl, h⟩ := mj_pi_of h
    exact lv_if_lt hx hb hd ht (fun z => h.1 z _ _ _ hP hS hl hL) (fun z => hk _ _ _ (h.2 z) _ _ _ hP hS hl hL)
  · rename_i o
    obtain ⟨t, ht, h⟩ := mj_tg_of (X := fun o => mj_X it rk sx (mj_P p l e R s m args below meth c cells slots Q A D ad tA nL) Rt o k L st M) (no _ rfl) h
    obtain ⟨x, r, rfl, h⟩ := mj_pi_of h
    exact lv_if_ge hx hb hd ht (fun z => h.1 (Int32.not_lt.mpr z) _ _ _ hP hS hl hL) (fun z => hk _ _ _ (h.2 (Int32.not_le.mp z)) _ _ _ hP hS hl hL)
  · rename_i o
    obtain ⟨t, ht, h⟩ := mj_tg_of (X := fun o => mj_X it rk sx (mj_P p l e R s m args below meth c cells slots Q A D ad tA nL) Rt o k L st M) (no _ rfl) h
    obtain ⟨x, r, rfl, h⟩ := mj_pi_of h
    exact lv_if_gt hx hb hd ht (fun z => h.1 z _ _ _ hP hS hl hL) (fun z => hk _ _ _ (h.2 z) _ _ _ hP hS hl hL)
  · rename_i o
    obtain ⟨t, ht, h⟩ := mj_tg_of (X := fun o => mj_X it rk sx (mj_P p l e R s m args below meth c cells slots Q A D ad tA nL) Rt o k L st M) (no _ rfl) h
    obtain ⟨x, r, rfl, h⟩ := mj_pi_of h
    exact lv_if_le hx hb hd ht (fun z => h.1 (Int32.not_lt.mpr z) _ _ _ hP hS hl hL) (fun z => hk _ _ _ (h.2 (Int32.not_le.mp z)) _ _ _ hP hS hl hL)
  · rename_i o
    obtain ⟨t, ht, h⟩ := mj_tg_of (X := fun o => mj_X it rk sx (mj_P p l e R s m args below meth c cells slots Q A D ad tA nL) Rt o k L st M) (no _ rfl) h
    obtain ⟨y, r, rfl, h⟩ := mj_pi_of h
    obtain ⟨x, r, rfl, h⟩ := mj_pi_of h
    exact lv_icmp_eq hx hb hd ht (fun z => h.1 z _ _ _ hP hS hl hL) (fun z => hk _ _ _ (h.2 z) _ _ _ hP hS hl hL)
  · rename_i o
    obtain ⟨t, ht, h⟩ := mj_tg_of (X := fun o => mj_X it rk sx (mj_P p l e R s m args below meth c cells slots Q A D ad tA nL) Rt o k L st M) (no _ rfl) h
    obtain ⟨y, r, rfl, h⟩ := mj_pi_of h
    obtain ⟨x, r, rfl, h⟩ := mj_pi_of h
    exact lv_icmp_ne hx hb hd ht (fun z => h.1 z _ _ _ hP hS hl hL) (fun z => hk _ _ _ (h.2 z) _ _ _ hP hS hl hL)
  · rename_i o
    obtain ⟨t, ht, h⟩ := mj_tg_of (X := fun o => mj_X it rk sx (mj_P p l e R s m args below meth c cells slots Q A D ad tA nL) Rt o k L st M) (no _ rfl) h
    obtain ⟨y, r, rfl, h⟩ := mj_pi_of h
    obtain ⟨x, r, rfl, h⟩ := mj_pi_of h
    exact lv_icmp_lt hx hb hd ht (fun z => h.1 z _ _ _ hP hS hl hL) (fun z => hk _ _ _ (h.2 z) _ _ _ hP hS hl hL)
  · rename_i o
    obtain ⟨t, ht, h⟩ := mj_tg_of (X := fun o => mj_X it rk sx (mj_P p l e R s m args below meth c cells slots Q A D ad tA nL) Rt o k L st M) (no _ rfl) h
    obtain ⟨y, r, rfl, h⟩ := mj_pi_of h
    obtain ⟨x, r, rfl, h⟩ := mj_pi_of h
    exact lv_icmp_ge hx hb hd ht (fun z => h.1 (Int32.not_lt.mpr z) _ _ _ hP hS hl hL) (fun z => hk _ _ _ (h.2 (Int32.not_le.mp z)) _ _ _ hP hS hl hL)
  · rename_i o
    obtain ⟨t, ht, h⟩ := mj_tg_of (X := fun o => mj_X it rk sx (mj_P p l e R s m args below meth c cells slots Q A D ad tA nL) Rt o k L st M) (no _ rfl) h
    obtain ⟨y, r, rfl, h⟩ := mj_pi_of h
    obtain ⟨x, r, rfl, h⟩ := mj_pi_of h
    exact lv_icmp_gt hx hb hd ht (fun z => h.1 z _ _ _ hP hS hl hL) (fun z => hk _ _ _ (h.2 z) _ _ _ hP hS hl hL)
  · rename_i o
    obtain ⟨t, ht, h⟩ := mj_tg_of (X := fun o => mj_X it rk sx (mj_P p l e R s m args below meth c cells slots Q A D ad tA nL) Rt o k L st M) (no _ rfl) h
    obtain ⟨y, r, rfl, h⟩ := mj_pi_of h
    obtain ⟨x, r, rfl, h⟩ := mj_pi_of h
    exact lv_icmp_le hx hb hd ht (fun z => h.1 (Int32.not_lt.mpr z) _ _ _ hP hS hl hL) (fun z => hk _ _ _ (h.2 (Int32.not_le.mp z)) _ _ _ hP hS hl hL)
  · rename_i o
    obtain ⟨t, ht, h⟩ := mj_tg_of (X := fun o => mj_X it rk sx (mj_P p l e R s m args below meth c cells slots Q A D ad tA nL) Rt o k L st M) (no _ rfl) h
    exact lv_goto hx hb hd ht (h _ _ _ hP hS hl hL)
  · rename_i d lo hi offs len
    unfold mj_tsw at h
    split at h
    · rename_i hg
      simp only [Bool.and_eq_true, decide_eq_true_eq, List.all_eq_true] at hg
      obtain ⟨g1, g2, g3, g4, g5⟩ := hg
      obtain ⟨x, r, rfl, h⟩ := mj_pi_of h
      have elo := mj_okI_of g3
      have ehi := mj_okI_of g4
      unfold mj_okI at g3 g4
      simp only [Bool.and_eq_true, decide_eq_true_eq] at g3 g4
      have ez : ∀ z : Int, lo ≤ z → z ≤ hi → (Int32.ofInt z).toInt = z := fun z h1 h2 => mj_okI_of (by unfold mj_okI; simp only [Bool.and_eq_true, decide_eq_true_eq]; omega)
      rcases mj_sw_of h with ⟨q, hq, ex, h⟩ | ⟨hq, h⟩
      · obtain ⟨i, hi2, rfl⟩ := List.mem_map.mp hq
        have hi3 := List.mem_range.mp hi2
        have hxi : x.toInt = lo + (i : Int) := by rw [ex]; exact ez _ (by omega) (by omega)
        have hat : offs[i]? = some (offs.toList.getD i 0) := by
          rw [List.getD_eq_getElem?_getD, Array.getElem?_toList]
          rw [Array.getElem?_eq_getElem hi3]
          rfl
        have hge := g2 (offs.toList.getD i 0) (by rw [List.getD_eq_getElem?_getD, Array.getElem?_toList, Array.getElem?_eq_getElem hi3]; exact Array.getElem_mem_toList hi3)
        exact lv_tableIn hx hb hd (by omega) (by omega) (off := offs.toList.getD i 0) (by rw [hxi, show (lo + (i : Int) - lo).toNat = i by omega]; exact hat) (Int.toNat_of_nonneg hge).symm (h _ _ _ hP hS hl hL)
      · refine lv_tableOut hx hb hd ?_ (Int.toNat_of_nonneg g1).symm (h _ _ _ hP hS hl hL)
        rcases Int.lt_or_le x.toInt lo with h1 | h1
        · exact Or.inl h1
        · rcases Int.lt_or_le hi x.toInt with h2 | h2
          · exact Or.inr h2
          · refine absurd ?_ (hq _ (List.mem_map.mpr ⟨(x.toInt - lo).toNat, List.mem_range.mpr (by omega), rfl⟩))
            show x = Int32.ofInt (lo + ((x.toInt - lo).toNat : Int))
            rw [show lo + ((x.toInt - lo).toNat : Int) = x.toInt by omega]
            exact (Int32.ofInt_toInt x).symm
    · exact absurd h (no _ rfl)
  · rename_i d ps len
    unfold mj_lsw at h
    split at h
    · rename_i hg
      simp only [Bool.and_eq_true, decide_eq_true_eq] at hg
      obtain ⟨g1, g2, g3⟩ := hg
      obtain ⟨x, r, rfl, h⟩ := mj_pi_of h
      have h2 := mj_ls_of (d := d) (x := x) (fun q hq => by have := List.all_eq_true.mp g2 q hq; simp only [Bool.and_eq_true, decide_eq_true_eq] at this; exact this) g1 h
      obtain ⟨t, h3, h4⟩ := h2
      exact lv_lookup hx hb hd g3 rfl h3 (h4 _ _ _ hP hS hl hL)
    · exact absurd h (no _ rfl)
  · rename_i i
    unfold mj_gf at h
    split at h
    · rename_i q hq
      obtain ⟨h1, h2, h3⟩ := mj_fq_of hq
      have hok := mj_fl_ok q h1
      obtain ⟨q1, q2, q3, q4, q5⟩ := q
      dsimp only at h1 h2 h3 h hok
      subst h2; subst h3
      obtain ⟨ok1, ok2, ok3⟩ := hok
      split at h
      · rename_i hrf
        obtain ⟨a, r, rfl, ho, h⟩ := mj_pr_of h
        obtain ⟨ha, hsh⟩ := mj_ob_of ho ok2
        have he := mj_wk (ad := ad) (tA := tA) (M := M) ha
        rw [mj_ce_ob hsh] at he
        have hv : ((List.range (mj_cC q3).2.2).map (mj_fv ad M a q3))[q4]? = some (.ref (ad (mj_pt a q4))) := by simp [List.getElem?_map, List.getElem?_range ok3, mj_fv, hrf]
        cases q5 with
        | false => exact va_get hx hb hts (mj_ly ok2) hown hK hP a he (mj_cl_at ok2) q4 ok3 (hts _ (mj_fl_in h1)) (fun z hz => mj_fsame ok2 ok3 hz) hv hd (hk _ _ _ h _ _ _ hP hS hl hL)
        | true => exact va_getN hx hb hts (mj_ly ok2) hown hK hP a he (mj_cl_at ok2) q4 ok3 (va_Nw.use rfl (hN _ (mj_fl_nw h1))) (fun z hz => mj_fsame ok2 ok3 hz) hv hd (hk _ _ _ h _ _ _ hP hS hl hL)
      · rename_i hrf
        obtain ⟨a, r, rfl, ho, h⟩ := mj_pr_of h
        obtain ⟨ha, hsh⟩ := mj_ob_of ho ok2
        have he := mj_wk (ad := ad) (tA := tA) (M := M) ha
        rw [mj_ce_ob hsh] at he
        have hv : ((List.range (mj_cC q3).2.2).map (mj_fv ad M a q3))[q4]? = some (.int (M a q4)) := by simp [List.getElem?_map, List.getElem?_range ok3, mj_fv, hrf]
        cases q5 with
        | false => exact va_get hx hb hts (mj_ly ok2) hown hK hP a he (mj_cl_at ok2) q4 ok3 (hts _ (mj_fl_in h1)) (fun z hz => mj_fsame ok2 ok3 hz) hv hd (hk _ _ _ h _ _ _ hP hS hl hL)
        | true => exact va_getN hx hb hts (mj_ly ok2) hown hK hP a he (mj_cl_at ok2) q4 ok3 (va_Nw.use rfl (hN _ (mj_fl_nw h1))) (fun z hz => mj_fsame ok2 ok3 hz) hv hd (hk _ _ _ h _ _ _ hP hS hl hL)
    · exact absurd h (no _ rfl)
  · rename_i i
    unfold mj_pf at h
    split at h
    · rename_i q hq
      obtain ⟨h1, h2, h3⟩ := mj_fq_of hq
      have hok := mj_fl_ok q h1
      have hty := mj_fl_ty q h1
      obtain ⟨q1, q2, q3, q4, q5⟩ := q
      dsimp only at h1 h2 h3 h hok hty
      subst h2; subst h3
      obtain ⟨ok1, ok2, ok3⟩ := hok
      split at h
      · exact absurd h (no _ rfl)
      · rename_i hrf
        have hrf2 : mj_rf q3 q4 = false := by simpa using hrf
        have hty2 := hty.resolve_left hrf
        split at h
        · rename_i hbf
          rw [if_pos hbf] at hty2
          obtain ⟨x, r, rfl, h⟩ := mj_pi_of h
          obtain ⟨a, r, rfl, ho, hx01, h⟩ := mj_pr_of h
          obtain ⟨ha, hsh⟩ := mj_ob_of ho ok2
          have he := mj_wk (ad := ad) (tA := tA) (M := M) ha
          rw [mj_ce_ob hsh] at he
          have hnar := mj_okv hx01
          have hpd : parseFieldDescriptor ((mj_cC q3).2.1 q4).2.2.1 = some .boolean := by rw [hty2.2]; decide +kernel
          cases q5 with
          | false => exact va_put hx hb hts (mj_ly ok2) (mj_tyC q3) (mj_tyC_ok ok2) (mj_nmC ok2) hown hK hP hD hS a he (mj_cl_at ok2) q4 ok3 (hts _ (mj_fl_in h1)) (fun z hz => mj_fsame ok2 ok3 hz) hty2.1 (v := .int x) hpd hnar.1 hnar.2 (by simpa using ok3) hd (fun H1 locs1 hP1 hD1 hS1 => hk _ _ _ h _ _ _ (by rw [mj_fs_set hrf2, mj_ws (M' := mj_up M a q4 x) (mj_ce_ob hsh) (fun i hi => mj_ce_o (mj_up_o hi))] at hP1; exact hP1) hS1 hl hL)
          | true => exact va_putN hx hb hts (mj_ly ok2) (mj_tyC q3) (mj_tyC_ok ok2) (mj_nmC ok2) hown hK hP hD hS a he (mj_cl_at ok2) q4 ok3 (va_Nw.use rfl (hN _ (mj_fl_nw h1))) (fun z hz => mj_fsame ok2 ok3 hz) hty2.1 (v := .int x) hpd hnar.1 hnar.2 (by simpa using ok3) hd (fun H1 locs1 hP1 hD1 hS1 => hk _ _ _ h _ _ _ (by rw [mj_fs_set hrf2, mj_ws (M' := mj_up M a q4 x) (mj_ce_ob hsh) (fun i hi => mj_ce_o (mj_up_o hi))] at hP1; exact hP1) hS1 hl hL)
        · rename_i hbf
          rw [if_neg hbf] at hty2
          obtain ⟨x, r, rfl, h⟩ := mj_pi_of h
          obtain ⟨a, r, rfl, ho, h⟩ := mj_pr_of h
          obtain ⟨ha, hsh⟩ := mj_ob_of ho ok2
          have he := mj_wk (ad := ad) (tA := tA) (M := M) ha
          rw [mj_ce_ob hsh] at he
          have hnar : narrow .int (.int x) = .int x ∧ fits .int (.int x) = true := ⟨rfl, rfl⟩
          have hpd : parseFieldDescriptor ((mj_cC q3).2.1 q4).2.2.1 = some .int := by rw [hty2.2]; decide +kernel
          cases q5 with
          | false => exact va_put hx hb hts (mj_ly ok2) (mj_tyC q3) (mj_tyC_ok ok2) (mj_nmC ok2) hown hK hP hD hS a he (mj_cl_at ok2) q4 ok3 (hts _ (mj_fl_in h1)) (fun z hz => mj_fsame ok2 ok3 hz) hty2.1 (v := .int x) hpd hnar.1 hnar.2 (by simpa using ok3) hd (fun H1 locs1 hP1 hD1 hS1 => hk _ _ _ h _ _ _ (by rw [mj_fs_set hrf2, mj_ws (M' := mj_up M a q4 x) (mj_ce_ob hsh) (fun i hi => mj_ce_o (mj_up_o hi))] at hP1; exact hP1) hS1 hl hL)
          | true => exact va_putN hx hb hts (mj_ly ok2) (mj_tyC q3) (mj_tyC_ok ok2) (mj_nmC ok2) hown hK hP hD hS a he (mj_cl_at ok2) q4 ok3 (va_Nw.use rfl (hN _ (mj_fl_nw h1))) (fun z hz => mj_fsame ok2 ok3 hz) hty2.1 (v := .int x) hpd hnar.1 hnar.2 (by simpa using ok3) hd (fun H1 locs1 hP1 hD1 hS1 => hk _ _ _ h _ _ _ (by rw [mj_fs_set hrf2, mj_ws (M' := mj_up M a q4 x) (mj_ce_ob hsh) (fun i hi => mj_ce_o (mj_up_o hi))] at hP1; exact hP1) hS1 hl hL)
    · exact absurd h (no _ rfl)
  · rename_i i
    unfold mj_gs at h
    split at h
    · rename_i q hq
      obtain ⟨h1, h2, h3⟩ := mj_gq_of hq
      have hok := mj_gl_ok q h1
      obtain ⟨q1, q2, q3, q4⟩ := q
      dsimp only at h1 h2 h3 h hok
      subst h2; subst h3
      have hz := (hRO.1 q3 hok).1
      cases q4 with
      | false => exact va_gets hx hb hz hS hown (hts _ (mj_gl_in h1)) (fun z hz => hz) hd (hk _ _ _ h _ _ _ hP hS hl hL)
      | true => exact va_getsN hx hb hz hS hown (va_Nw.use rfl (hN _ (mj_gl_nw h1))) (fun z hz => hz) hd (hk _ _ _ h _ _ _ hP hS hl hL)
    · exact absurd h (no _ rfl)
  · obtain ⟨i, r, rfl, h⟩ := mj_pi_of h
    obtain ⟨a, r, rfl, hak, hin, h⟩ := mj_pr_of h
    rcases hak with hak | hak | ⟨hak, hsx⟩
    · obtain ⟨ha, s1, s2, s3⟩ := mj_ak_i hak
      have he := mj_wk (ad := ad) (tA := tA) (M := M) ha
      rw [mj_ce_ar (t := 0) (n := (mj_sh a).2.2) (Prod.ext s1 (Prod.ext s2 rfl))] at he
      unfold mj_ln at hin
      rw [if_neg s3] at hin
      unfold mj_cq at h
      rw [if_neg s3, if_neg (by omega : ¬ 100 ≤ a)] at h
      exact va_iald hx hb hK hP a 0 he rfl hin hd (hk _ _ _ h _ _ _ hP hS hl hL)
    · have hak2 := mj_ak_s hak
      unfold mj_ln at hin
      rw [if_neg (by omega)] at hin
      unfold mj_cq at h
      rw [if_neg (by omega), if_pos hak2.1] at h
      have hz := (hRO.1 (a - 100) (by omega)).2
      rw [show 100 + (a - 100) = a by omega] at hz
      exact va_ti hx hb hz hS hin rfl hd (hk _ _ _ h _ _ _ hP hS hl hL)
    · have hak2 := mj_ak_l hak
      subst hak2
      unfold mj_ln at hin
      rw [if_pos rfl] at hin
      unfold mj_cq at h
      rw [if_pos rfl] at h
      obtain ⟨hX1, hX2, hX3⟩ := hX hsx
      exact va_sld hx hb hX1 hX2 hX3 hS hin hd (hk _ _ _ h _ _ _ hP hS hl hL)
  · obtain ⟨x, r, rfl, h⟩ := mj_pi_of h
    obtain ⟨i, r, rfl, h⟩ := mj_pi_of h
    obtain ⟨a, r, rfl, hak, hin, h⟩ := mj_pr_of h
    obtain ⟨ha, s1, s2, s3⟩ := mj_ak_i hak
    have he := mj_wk (ad := ad) (tA := tA) (M := M) ha
    have hsh : mj_sh a = (1, 0, (mj_sh a).2.2) := Prod.ext s1 (Prod.ext s2 rfl)
    rw [mj_ce_ar hsh] at he
    unfold mj_ln at hin
    rw [if_neg s3] at hin
    exact va_iast hx hb hK hP hD hS a 0 he rfl hin hd (fun H1 locs1 hP1 hD1 hS1 => hk _ _ _ h _ _ _ (by rw [mj_ws (M' := mj_up M a i.toNatClampNeg x) (by rw [mj_ce_ar hsh, mj_up_s]) (fun i hi => mj_ce_o (mj_up_o hi))] at hP1; exact hP1) hS1 hl hL)
  · obtain ⟨i, r, rfl, h⟩ := mj_pi_of h
    obtain ⟨a, r, rfl, hak, hin, h⟩ := mj_pr_of h
    obtain ⟨ha, s1, s2, s3⟩ := mj_ak_c hak
    have he := mj_wk (ad := ad) (tA := tA) (M := M) ha
    rw [mj_ce_ar (t := 1) (n := (mj_sh a).2.2) (Prod.ext s1 (Prod.ext s2 rfl))] at he
    unfold mj_ln at hin
    rw [if_neg s3] at hin
    exact va_cald hx hb hK hP a 1 he rfl hin hd (hk _ _ _ h _ _ _ hP hS hl hL)
  · obtain ⟨x, r, rfl, h⟩ := mj_pi_of h
    obtain ⟨i, r, rfl, h⟩ := mj_pi_of h
    obtain ⟨a, r, rfl, hak, hin, h⟩ := mj_pr_of h
    obtain ⟨ha, s1, s2, s3⟩ := mj_ak_c hak
    have he := mj_wk (ad := ad) (tA := tA) (M := M) ha
    have hsh : mj_sh a = (1, 1, (mj_sh a).2.2) := Prod.ext s1 (Prod.ext s2 rfl)
    rw [mj_ce_ar hsh] at he
    unfold mj_ln at hin
    rw [if_neg s3] at hin
    exact va_cast hx hb hK hP hD hS a 1 he rfl hin hd (fun H1 locs1 hP1 hD1 hS1 => hk _ _ _ h _ _ _ (by rw [mj_ws (M' := mj_up M a i.toNatClampNeg (vp_nar .char x)) (by rw [mj_ce_ar hsh, mj_up_s]) (fun i hi => mj_ce_o (mj_up_o hi))] at hP1; exact hP1) hS1 hl hL)
  · obtain ⟨i, r, rfl, h⟩ := mj_pi_of h
    obtain ⟨a, r, rfl, hak, hin, h⟩ := mj_pr_of h
    obtain ⟨ha, s1, s3⟩ := mj_ak_r hak
    have he := mj_wk (ad := ad) (tA := tA) (M := M) ha
    have s2 := mj_sh_ra a ha s1
    unfold mj_ln at hin
    rw [if_neg s3] at hin
    rcases s2 with s2 | s2 | s2
    · rw [mj_ce_ra (t := 2) (n := (mj_sh a).2.2) (Prod.ext s1 (Prod.ext s2 rfl))] at he
      exact va_aldq hx hb hK hP a 2 he rfl hin hd (hk _ _ _ h _ _ _ hP hS hl hL)
    · rw [mj_ce_ra (t := 3) (n := (mj_sh a).2.2) (Prod.ext s1 (Prod.ext s2 rfl))] at he
      exact va_aldq hx hb hK hP a 3 he rfl hin hd (hk _ _ _ h _ _ _ hP hS hl hL)
    · rw [mj_ce_ra (t := 4) (n := (mj_sh a).2.2) (Prod.ext s1 (Prod.ext s2 rfl))] at he
      exact va_aldq hx hb hK hP a 4 he rfl hin hd (hk _ _ _ h _ _ _ hP hS hl hL)
  · obtain ⟨a, r, rfl, hak, hsx, h⟩ := mj_pr_of h
    have h9 : mj_ak a = 0 ∨ mj_ak a = 1 ∨ mj_ak a = 2 ∨ mj_ak a = 3 ∨ mj_ak a = 4 := mj_ak_all hak
    rcases h9 with h9 | h9 | h9 | h9 | h9
    · obtain ⟨ha, s1, s2, s3⟩ := mj_ak_i h9
      have he := mj_wk (ad := ad) (tA := tA) (M := M) ha
      rw [mj_ce_ar (t := 0) (n := (mj_sh a).2.2) (Prod.ext s1 (Prod.ext s2 rfl))] at he
      unfold mj_ln at h
      rw [if_neg s3] at h
      exact va_alen hx hb hK hP a 0 he (ty := .int) rfl rfl hd (hk _ _ _ h _ _ _ hP hS hl hL)
    · obtain ⟨ha, s1, s2, s3⟩ := mj_ak_c h9
      have he := mj_wk (ad := ad) (tA := tA) (M := M) ha
      rw [mj_ce_ar (t := 1) (n := (mj_sh a).2.2) (Prod.ext s1 (Prod.ext s2 rfl))] at he
      unfold mj_ln at h
      rw [if_neg s3] at h
      exact va_alen hx hb hK hP a 1 he (ty := .char) rfl rfl hd (hk _ _ _ h _ _ _ hP hS hl hL)
    · obtain ⟨ha, s1, s3⟩ := mj_ak_r h9
      have he := mj_wk (ad := ad) (tA := tA) (M := M) ha
      have s2 := mj_sh_ra a ha s1
      unfold mj_ln at h
      rw [if_neg s3] at h
      obtain ⟨⟨z1, z2⟩, hz⟩ := mj_K_of (tA := tA) (t := (mj_sh a).2.1) (by omega)
      have hz1 : z1 = tA (mj_sh a).2.1 := by rcases s2 with s2 | s2 | s2 <;> (rw [s2] at hz ⊢; cases hz; rfl)
      subst hz1
      rw [mj_ce_ra (t := (mj_sh a).2.1) (n := (mj_sh a).2.2) (Prod.ext s1 rfl)] at he
      exact va_alen hx hb hK hP a (mj_sh a).2.1 he hz rfl hd (hk _ _ _ h _ _ _ hP hS hl hL)
    · have hak2 := mj_ak_s h9
      unfold mj_ln at h
      rw [if_neg (by omega)] at h
      have hz := (hRO.1 (a - 100) (by omega)).2
      rw [show 100 + (a - 100) = a by omega] at hz
      exact va_tlen hx hb hz hS rfl hd (hk _ _ _ h _ _ _ hP hS hl hL)
    · have hak2 := mj_ak_l h9
      subst hak2
      unfold mj_ln at h
      rw [if_pos rfl] at h
      obtain ⟨hX1, hX2, hX3⟩ := hX (hsx h9)
      exact va_slen hx hb hX1 hX2 hX3 hS hd (hk _ _ _ h _ _ _ hP hS hl hL)
  · rename_i i
    have h0 := h
    obtain ⟨cl, hcl, h⟩ := mj_inv_of h
    obtain ⟨as, r, rfl, h1, h2, h3, h4⟩ := mj_ta_of h
    rw [List.append_nil] at h3 h4
    exact hC _ cl hcl i pc L as r M (Or.inl ⟨rfl, hd⟩) h1 h2 h3 (mj_rt_mono h4 (fun r1 M1 z => hk _ _ _ z)) H locs ls hP hS hl hL
  · rename_i i
    have h0 := h
    obtain ⟨cl, hcl, h⟩ := mj_inv_of h
    obtain ⟨as, r, rfl, h1, h2, h3, h4⟩ := mj_ta_of h
    rw [List.append_nil] at h3 h4
    exact hC _ cl hcl i pc L as r M (Or.inr (Or.inl ⟨rfl, hd⟩)) h1 h2 h3 (mj_rt_mono h4 (fun r1 M1 z => hk _ _ _ z)) H locs ls hP hS hl hL
  · rename_i i
    have h0 := h
    obtain ⟨cl, hcl, h⟩ := mj_inv_of h
    obtain ⟨as, r, rfl, h1, h2, h3, h4⟩ := mj_ta_of h
    rw [List.append_nil] at h3 h4
    exact hC _ cl hcl i pc L as r M (Or.inr (Or.inr ⟨rfl, hd⟩)) h1 h2 h3 (mj_rt_mono h4 (fun r1 M1 z => hk _ _ _ z)) H locs ls hP hS hl hL
  · obtain ⟨x, r, rfl, rfl, h0, h1, h2⟩ := mj_pi_of h
    exact hR.1 pc ls x M H locs hd h0 h1 h2 hP hS
  · obtain ⟨x, r, rfl, rfl, h1, h2⟩ := mj_pr_of h
    exact hR.2.1 pc ls x M H locs hd h1 h2 hP hS
  · obtain ⟨rfl, h1, h2⟩ := h
    exact hR.2.2 pc ls M H locs hd h1 h2 hP hS
  · exact absurd h (no _ rfl)
end Steps
end MJ
