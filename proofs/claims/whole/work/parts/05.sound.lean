/-! an instruction of the machine as one of the mini machine, and that the formula is enough -/
def mj_fq (own idx : Nat) : Option (Nat × Nat × Nat × Nat × Bool) := mj_fl.find? (fun q => q.1 == own && q.2.1 == idx)
def mj_gq (own idx : Nat) : Option (Nat × Nat × Nat × Bool) := mj_gl.find? (fun q => q.1 == own && q.2.1 == idx)
def mj_kq (own idx : Nat) : Option (Nat × Nat × Int32) := mj_kl.find? (fun q => q.1 == own && q.2.1 == idx)
def mj_tq (idx : Nat) : Option Nat := (mj_st.map (·.1)).findIdx? (fun i => i == idx)
def mj_no : mj_O := (0, 0, 0, 0, [])
def mj_tg (pc : Nat) (off : Int) (c : Nat) : mj_O := if 0 ≤ (pc : Int) + off then (c, ((pc : Int) + off).toNat, 0, 0, []) else mj_no
def mj_okI (z : Int) : Bool := decide (-2147483648 ≤ z) && decide (z < 2147483648)
def mj_tsw (pc : Nat) (d lo hi : Int) (offs : Array Int) : mj_O :=
  if (decide (0 ≤ (pc : Int) + d) && (offs.toList.all (fun o => decide (0 ≤ (pc : Int) + o)) && (mj_okI lo && (mj_okI hi && decide ((offs.size : Int) = hi - lo + 1))))) = true then
    (43, ((pc : Int) + d).toNat, 0, 0, (List.range offs.size).map (fun i : Nat => (Int32.ofInt (lo + (i : Int)), ((pc : Int) + offs.toList.getD i 0).toNat)))
  else mj_no
def mj_lsw (pc : Nat) (d : Int) (ps : Array (Int × Int)) : mj_O :=
  if (decide (0 ≤ (pc : Int) + d) && (ps.toList.all (fun q => decide (0 ≤ (pc : Int) + q.2) && mj_okI q.1) && (ps.toList.zip (ps.toList.drop 1)).all (fun (a, next) => a.1 < next.1))) = true then
    (43, ((pc : Int) + d).toNat, 0, 0, ps.toList.map (fun q => (Int32.ofInt q.1, ((pc : Int) + q.2).toNat)))
  else mj_no
def mj_gf (own idx : Nat) : mj_O := match mj_fq own idx with
  | some q => if mj_rf q.2.2.1 q.2.2.2.1 = true then (51, q.2.2.1, q.2.2.2.1, 0, []) else (50, q.2.2.1, q.2.2.2.1, 0, [])
  | none => mj_no
def mj_pf (own idx : Nat) : mj_O := match mj_fq own idx with
  | some q => if mj_rf q.2.2.1 q.2.2.2.1 = true then mj_no else if mj_bf q.2.2.1 q.2.2.2.1 = true then (53, q.2.2.1, q.2.2.2.1, 0, []) else (52, q.2.2.1, q.2.2.2.1, 0, [])
  | none => mj_no
def mj_gs (own idx : Nat) : mj_O := match mj_gq own idx with
  | some q => (2, 100 + q.2.2.1, 0, 0, [])
  | none => mj_no
def mj_lc (own idx : Nat) : mj_O := match mj_kq own idx with
  | some q => (1, 0, 0, q.2.2, [])
  | none => if own = 5 then (match mj_tq idx with
    | some i => (2, 200 + i, 0, 0, [])
    | none => mj_no) else mj_no
def mj_tr (own pc : Nat) (q : Instr × Nat) : mj_O := match q with
  | (.iconst z, 1) => (1, 0, 0, Int32.ofInt z, [])
  | (.bipush z, 2) => (1, 0, 0, (Int8.ofInt z).toInt32, [])
  | (.sipush z, 3) => (1, 0, 0, (Int16.ofInt z).toInt32, [])
  | (.ldc i, 2) => mj_lc own i
  | (.iload_n n, 1) => (3, n.val, 0, 0, [])
  | (.iload n, 2) => (3, n, 0, 0, [])
  | (.aload_n n, 1) => (4, n.val, 0, 0, [])
  | (.aload n, 2) => (4, n, 0, 0, [])
  | (.istore_n n, 1) => (5, n.val, 0, 0, [])
  | (.istore n, 2) => (5, n, 0, 0, [])
  | (.astore_n n, 1) => (6, n.val, 0, 0, [])
  | (.astore n, 2) => (6, n, 0, 0, [])
  | (.iinc n z, 3) => (7, n, 0, Int32.ofInt z, [])
  | (.iadd, 1) => (10, 0, 0, 0, [])
  | (.isub, 1) => (11, 0, 0, 0, [])
  | (.imul, 1) => (12, 0, 0, 0, [])
  | (.idiv, 1) => (13, 0, 0, 0, [])
  | (.irem, 1) => (14, 0, 0, 0, [])
  | (.ineg, 1) => (15, 0, 0, 0, [])
  | (.ishl, 1) => (16, 0, 0, 0, [])
  | (.ishr, 1) => (17, 0, 0, 0, [])
  | (.iand, 1) => (18, 0, 0, 0, [])
  | (.ior, 1) => (19, 0, 0, 0, [])
  | (.i2c, 1) => (20, 0, 0, 0, [])
  | (.dup, 1) => (21, 0, 0, 0, [])
  | (.dup2, 1) => (22, 0, 0, 0, [])
  | (.pop, 1) => (23, 0, 0, 0, [])
  | (.ifCond .eq o, 3) => mj_tg pc o 30
  | (.ifCond .ne o, 3) => mj_tg pc o 31
  | (.ifCond .lt o, 3) => mj_tg pc o 32
  | (.ifCond .ge o, 3) => mj_tg pc o 33
  | (.ifCond .gt o, 3) => mj_tg pc o 34
  | (.ifCond .le o, 3) => mj_tg pc o 35
  | (.if_icmp .eq o, 3) => mj_tg pc o 36
  | (.if_icmp .ne o, 3) => mj_tg pc o 37
  | (.if_icmp .lt o, 3) => mj_tg pc o 38
  | (.if_icmp .ge o, 3) => mj_tg pc o 39
  | (.if_icmp .gt o, 3) => mj_tg pc o 40
  | (.if_icmp .le o, 3) => mj_tg pc o 41
  | (.goto o, 3) => mj_tg pc o 42
  | (.tableswitch d lo hi offs, _) => mj_tsw pc d lo hi offs
  | (.lookupswitch d ps, _) => mj_lsw pc d ps
  | (.getfield i, 3) => mj_gf own i
  | (.putfield i, 3) => mj_pf own i
  | (.getstatic i, 3) => mj_gs own i
  | (.iaload, 1) => (60, 0, 0, 0, [])
  | (.iastore, 1) => (61, 0, 0, 0, [])
  | (.caload, 1) => (62, 0, 0, 0, [])
  | (.castore, 1) => (63, 0, 0, 0, [])
  | (.aaload, 1) => (64, 0, 0, 0, [])
  | (.arraylength, 1) => (65, 0, 0, 0, [])
  | (.invokevirtual i, 3) => (70, 3 * i, 0, 0, [])
  | (.invokespecial i, 3) => (70, 3 * i + 1, 0, 0, [])
  | (.invokestatic i, 3) => (70, 3 * i + 2, 0, 0, [])
  | (.ireturn, 1) => (80, 0, 0, 0, [])
  | (.areturn, 1) => (81, 0, 0, 0, [])
  | (.return_, 1) => (82, 0, 0, 0, [])
  | _ => mj_no
def mj_ch (own : Nat) (cc : ByteArray) : Nat → List mj_O → Nat → Bool
  | pc, [], e => pc == e
  | pc, o :: t, e => match decode cc pc with
    | .ok q => decide (mj_tr own pc q = o) && mj_ch own cc (pc + q.2) t e
    | _ => false
/-- locals as the machine has them -/
def mj_cL (ad : Nat → Nat) : Nat → mj_L → List (Nat × Value)
  | _, [] => []
  | i, none :: t => mj_cL ad (i + 1) t
  | i, some v :: t => (i, mj_cv ad v) :: mj_cL ad (i + 1) t
theorem mj_cL_g {ad : Nat → Nat} {v : mj_V} : ∀ {L : mj_L} {n i : Nat}, mj_g L n = some v → (i + n, mj_cv ad v) ∈ mj_cL ad i L := by
  intro L
  induction L with
  | nil => intro n i h; simp [mj_g] at h
  | cons a t ih =>
    intro n i h
    cases n with
    | zero =>
      simp only [mj_g] at h
      subst h
      exact List.mem_cons_self
    | succ n =>
      simp only [mj_g] at h
      have h1 := ih (i := i + 1) h
      rw [show i + 1 + n = i + (n + 1) by omega] at h1
      cases a with
      | none => exact h1
      | some w => exact List.mem_cons_of_mem _ h1
theorem mj_cL_ge {ad : Nat → Nat} : ∀ {L : mj_L} {i : Nat} {q : Nat × Value}, q ∈ mj_cL ad i L → i ≤ q.1 := by
  intro L
  induction L with
  | nil => intro i q h; simp [mj_cL] at h
  | cons a t ih =>
    intro i q h
    cases a with
    | none => have := ih (i := i + 1) h; omega
    | some w =>
      rcases List.mem_cons.mp h with h | h
      · rw [h]; exact Nat.le_refl _
      · have := ih (i := i + 1) h; omega
theorem mj_cv_cat {ad : Nat → Nat} (v : mj_V) : (mj_cv ad v).category = 1 := by cases v <;> rfl
theorem mj_cL_cat {ad : Nat → Nat} : ∀ {L : mj_L} {i : Nat} {q : Nat × Value}, q ∈ mj_cL ad i L → q.2.category = 1 := by
  intro L
  induction L with
  | nil => intro i q h; simp [mj_cL] at h
  | cons a t ih =>
    intro i q h
    cases a with
    | none => exact ih (i := i + 1) h
    | some w =>
      rcases List.mem_cons.mp h with h | h
      · rw [h]; exact mj_cv_cat w
      · exact ih (i := i + 1) h
/-- a store: the new list's entries are the stored one, or were there at another place -/
theorem mj_so_of {ad : Nat → Nat} {v : mj_V} : ∀ {L : mj_L} {n i : Nat} {f : mj_L → Prop}, mj_so L n v f → ∃ L' : mj_L, f L' ∧ L'.length = L.length ∧ n < L.length ∧ ∀ q ∈ mj_cL ad i L', q = (i + n, mj_cv ad v) ∨ (q ∈ mj_cL ad i L ∧ q.1 ≠ i + n) := by
  intro L
  induction L with
  | nil => intro n i f h; exact False.elim h
  | cons a t ih =>
    intro n i f h
    cases n with
    | zero =>
      refine ⟨some v :: t, h, rfl, Nat.zero_lt_succ _, fun q hq => ?_⟩
      rcases List.mem_cons.mp hq with hq | hq
      · exact Or.inl hq
      · refine Or.inr ⟨?_, ?_⟩
        · cases a with
          | none => exact hq
          | some w => exact List.mem_cons_of_mem _ hq
        · have := mj_cL_ge hq; omega
    | succ n =>
      obtain ⟨t', h1, h2, h3, h4⟩ := ih (i := i + 1) (show mj_so t n v (fun t' => f (a :: t')) from h)
      refine ⟨a :: t', h1, by simp [h2], by simp only [List.length_cons]; omega, fun q hq => ?_⟩
      cases a with
      | none =>
        rcases h4 q hq with h5 | ⟨h5, h6⟩
        · exact Or.inl (by rw [h5, show i + 1 + n = i + (n + 1) by omega])
        · exact Or.inr ⟨h5, by omega⟩
      | some w =>
        rcases List.mem_cons.mp hq with hq | hq
        · exact Or.inr ⟨by rw [hq]; exact List.mem_cons_self, by rw [hq]; simp only []; omega⟩
        · rcases h4 q hq with h5 | ⟨h5, h6⟩
          · exact Or.inl (by rw [h5, show i + 1 + n = i + (n + 1) by omega])
          · exact Or.inr ⟨List.mem_cons_of_mem _ h5, by omega⟩
theorem mj_has_so {ad : Nat → Nat} {ls : Array Slot} {nL n : Nat} {L L' : mj_L} {v : mj_V} (h4 : ∀ q ∈ mj_cL ad 0 L', q = (0 + n, mj_cv ad v) ∨ (q ∈ mj_cL ad 0 L ∧ q.1 ≠ 0 + n)) (h : lv_has ls nL ((n, mj_cv ad v) :: (mj_cL ad 0 L).filter (fun q => !(q.1 == n) && !(q.1 + 1 == n && q.2.category == 2)))) : lv_has ls nL (mj_cL ad 0 L') := by
  refine ⟨h.1, h.2.1, fun q hq => h.2.2 q ?_⟩
  rcases h4 q hq with h5 | ⟨h5, h6⟩
  · rw [h5, Nat.zero_add]; exact List.mem_cons_self
  · refine List.mem_cons_of_mem _ (List.mem_filter.mpr ⟨h5, ?_⟩)
    rw [mj_cL_cat h5]
    simp only [Nat.zero_add] at h6
    simp [h6]
theorem mj_li_of {o : Option mj_V} {f : Int32 → Prop} (h : mj_li o f) : ∃ x, o = some (.inl x) ∧ f x := by
  match o, h with
  | some (.inl x), h => exact ⟨x, rfl, h⟩
theorem mj_lr_of {o : Option mj_V} {f : Nat → Prop} (h : mj_lr o f) : ∃ x, o = some (.inr x) ∧ f x := by
  match o, h with
  | some (.inr x), h => exact ⟨x, rfl, h⟩
theorem mj_pi_of {st : mj_S} {f : Int32 → mj_S → Prop} (h : mj_pi st f) : ∃ x r, st = .inl x :: r ∧ f x r := by
  match st, h with
  | .inl x :: r, h => exact ⟨x, r, rfl, h⟩
theorem mj_pr_of {st : mj_S} {f : Nat → mj_S → Prop} (h : mj_pr st f) : ∃ x r, st = .inr x :: r ∧ f x r := by
  match st, h with
  | .inr x :: r, h => exact ⟨x, r, rfl, h⟩
theorem mj_pv_of {st : mj_S} {f : mj_V → mj_S → Prop} (h : mj_pv st f) : ∃ x r, st = x :: r ∧ f x r := by
  match st, h with
  | x :: r, h => exact ⟨x, r, rfl, h⟩
theorem mj_sw_of {d : Nat} {x : Int32} {f : Nat → Prop} : ∀ {ps : List (Int32 × Nat)}, mj_sw ps d x f → (∃ q ∈ ps, x = q.1 ∧ f q.2) ∨ ((∀ q ∈ ps, ¬ x = q.1) ∧ f d) := by
  intro ps
  induction ps with
  | nil => intro h; exact Or.inr ⟨fun q hq => (List.not_mem_nil hq).elim, h⟩
  | cons q t ih =>
    intro h
    by_cases e : x = q.1
    · exact Or.inl ⟨q, List.mem_cons_self, e, h.1 e⟩
    · rcases ih (h.2 e) with ⟨r, h1, h2⟩ | ⟨h1, h2⟩
      · exact Or.inl ⟨r, List.mem_cons_of_mem _ h1, h2⟩
      · refine Or.inr ⟨fun r hr => ?_, h2⟩
        rcases List.mem_cons.mp hr with hr | hr
        · rw [hr]; exact e
        · exact h1 r hr
theorem mj_ta_of : ∀ {n : Nat} {st : mj_S} {acc : List mj_V} {f : List mj_V → mj_S → Prop}, mj_ta n st acc f → ∃ as r, st = as.reverse ++ r ∧ as.length = n ∧ f (as ++ acc) r := by
  intro n
  induction n with
  | zero => intro st acc f h; exact ⟨[], st, rfl, rfl, h⟩
  | succ n ih =>
    intro st acc f h
    cases st with
    | nil => exact False.elim h
    | cons v st =>
      obtain ⟨as, r, h1, h2, h3⟩ := ih (show mj_ta n st (v :: acc) f from h)
      refine ⟨as ++ [v], r, by rw [h1]; simp, by simp [h2], by simpa using h3⟩
theorem mj_okI_of {z : Int} (h : mj_okI z = true) : (Int32.ofInt z).toInt = z := by
  unfold mj_okI at h
  simp only [Bool.and_eq_true, decide_eq_true_eq] at h
  rw [Int32.toInt_ofInt_of_le]
  · omega
  · omega
theorem mj_fq_of {own idx : Nat} {q} (h : mj_fq own idx = some q) : q ∈ mj_fl ∧ q.1 = own ∧ q.2.1 = idx := by
  have h1 := List.find?_some h
  simp only [Bool.and_eq_true, beq_iff_eq] at h1
  exact ⟨List.mem_of_find?_eq_some h, h1.1, h1.2⟩
theorem mj_gq_of {own idx : Nat} {q} (h : mj_gq own idx = some q) : q ∈ mj_gl ∧ q.1 = own ∧ q.2.1 = idx := by
  have h1 := List.find?_some h
  simp only [Bool.and_eq_true, beq_iff_eq] at h1
  exact ⟨List.mem_of_find?_eq_some h, h1.1, h1.2⟩
theorem mj_kq_of {own idx : Nat} {q} (h : mj_kq own idx = some q) : q ∈ mj_kl ∧ q.1 = own ∧ q.2.1 = idx := by
  have h1 := List.find?_some h
  simp only [Bool.and_eq_true, beq_iff_eq] at h1
  exact ⟨List.mem_of_find?_eq_some h, h1.1, h1.2⟩
