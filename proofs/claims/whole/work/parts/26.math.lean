/-! Math.min, Math.max -/
theorem wj_mx : Cond.code yJ9_max_7cf53 cJ9_max_7cf53 2 (some .int) ∈ mj_gT := mj_gT_of (List.mem_of_getElem? (i := 445) (by decide +kernel)) rfl
theorem wj_mxs : Cond.static yJ9_max_7cf53 ∈ mj_gT := mj_gT_of (List.mem_of_getElem? (i := 444) (by decide +kernel)) rfl
theorem wj_mn : Cond.code yJ9_min_7cf53 cJ9_min_7cf53 2 (some .int) ∈ mj_gT := mj_gT_of (List.mem_of_getElem? (i := 448) (by decide +kernel)) rfl
theorem wj_mns : Cond.static yJ9_min_7cf53 ∈ mj_gT := mj_gT_of (List.mem_of_getElem? (i := 447) (by decide +kernel)) rfl
theorem wj_mi : Cond.initialized RJ9 ∈ mj_gT := mj_gT_of (List.mem_of_getElem? (i := 94) (by decide +kernel)) rfl
theorem wl_0_42 : Cond.methodLink (mj_on 0) 42 yJ9_max_7cf53 ∈ mj_gT := mj_gT_of (List.mem_of_getElem? (i := 683) (by decide +kernel)) rfl
theorem wl_2_125 : Cond.methodLink (mj_on 2) 125 yJ9_max_7cf53 ∈ mj_gT := mj_gT_of (List.mem_of_getElem? (i := 689) (by decide +kernel)) rfl
theorem wl_3_35 : Cond.methodLink (mj_on 3) 35 yJ9_min_7cf53 ∈ mj_gT := mj_gT_of (List.mem_of_getElem? (i := 666) (by decide +kernel)) rfl
theorem wl_2_120 : Cond.methodLink (mj_on 2) 120 yJ9_min_7cf53 ∈ mj_gT := mj_gT_of (List.mem_of_getElem? (i := 688) (by decide +kernel)) rfl
def C_J_max : mj_C := (2, 1, fun avs _ => ma_ii avs (fun _ _ => True), fun avs M r M' => ma_ii avs (fun x y => r = .inl (if x < y then y else x) ∧ M' = M))
def C_J_min : mj_C := (2, 1, fun avs _ => ma_ii avs (fun _ _ => True), fun avs M r M' => ma_ii avs (fun x y => r = .inl (if y < x then y else x) ∧ M' = M))
theorem mj_Kmax {own i n : Nat} (hw : Cond.methodLink (mj_on own) i yJ9_max_7cf53 ∈ mj_gT) : mj_Ka own (mj_rm (n + 1)) 0 0 (3 * i + 2) C_J_max := by
  intro p l e s m args below meth c Q A D ad tA nL cc ret sx cx i2 pc L avs r M hd hav hr hpre hk H locs ls hP hS hl hL
  have hd : decode cc pc = .ok (.invokestatic i, 3) := by
    rcases hd with ⟨h1, h2⟩ | ⟨h1, h2⟩ | ⟨h1, h2⟩
    · omega
    · omega
    · rw [show i = i2 by omega]; exact h2
  obtain ⟨hx, hb, hml, hown, hts, hE, hI, hA, -, -, hX⟩ := cx
  obtain ⟨x, y, rfl, -⟩ := mc_ii hpre
  have hsum : ((r.map (mj_cv ad)).map fun v => v.category).sum ≤ 8 := by rw [mj_catsum]; exact hr
  refine va_mmax hx hb (by rw [hl.1]; exact hml) hown (hts _ hw) (hts _ wj_mxs) (hts _ wj_mi) (hts _ wj_mx) (by show 1 ≤ n + 1; omega) (by change _ + 13 ≤ 40 * (n + 1); exact Nat.le_trans (Nat.add_le_add_right hsum 13) (by omega)) (Nat.le_refl 0) (Nat.le_refl 0) hd ?_
  obtain ⟨r1, h1, h2⟩ := mj_rt_use (ad := ad) hk (v := .inl (if x < y then y else x)) (M := M) ⟨_, rfl⟩ ⟨rfl, rfl⟩
  have := h1 H locs ls hP hS hl hL
  rw [h2] at this
  exact this
theorem mj_Kmin {own i n : Nat} (hw : Cond.methodLink (mj_on own) i yJ9_min_7cf53 ∈ mj_gT) : mj_Ka own (mj_rm (n + 1)) 0 0 (3 * i + 2) C_J_min := by
  intro p l e s m args below meth c Q A D ad tA nL cc ret sx cx i2 pc L avs r M hd hav hr hpre hk H locs ls hP hS hl hL
  have hd : decode cc pc = .ok (.invokestatic i, 3) := by
    rcases hd with ⟨h1, h2⟩ | ⟨h1, h2⟩ | ⟨h1, h2⟩
    · omega
    · omega
    · rw [show i = i2 by omega]; exact h2
  obtain ⟨hx, hb, hml, hown, hts, hE, hI, hA, -, -, hX⟩ := cx
  obtain ⟨x, y, rfl, -⟩ := mc_ii hpre
  have hsum : ((r.map (mj_cv ad)).map fun v => v.category).sum ≤ 8 := by rw [mj_catsum]; exact hr
  refine va_mmin hx hb (by rw [hl.1]; exact hml) hown (hts _ hw) (hts _ wj_mns) (hts _ wj_mi) (hts _ wj_mn) (by show 1 ≤ n + 1; omega) (by change _ + 13 ≤ 40 * (n + 1); exact Nat.le_trans (Nat.add_le_add_right hsum 13) (by omega)) (Nat.le_refl 0) (Nat.le_refl 0) hd ?_
  obtain ⟨r1, h1, h2⟩ := mj_rt_use (ad := ad) hk (v := .inl (if y < x then y else x)) (M := M) ⟨_, rfl⟩ ⟨rfl, rfl⟩
  have := h1 H locs ls hP hS hl hL
  rw [h2] at this
  exact this
theorem J_max_0_42 {n : Nat} : mj_Ka 0 (mj_rm (n + 1)) 0 0 128 C_J_max := mj_Kmax wl_0_42
theorem J_max_2_125 {n : Nat} : mj_Ka 2 (mj_rm (n + 1)) 0 0 377 C_J_max := mj_Kmax wl_2_125
theorem J_min_3_35 {n : Nat} : mj_Ka 3 (mj_rm (n + 1)) 0 0 107 C_J_min := mj_Kmin wl_3_35
theorem J_min_2_120 {n : Nat} : mj_Ka 2 (mj_rm (n + 1)) 0 0 362 C_J_min := mj_Kmin wl_2_120
