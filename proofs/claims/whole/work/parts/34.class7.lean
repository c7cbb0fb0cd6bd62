/-! the class's calls: what serves them all -/
theorem mo_neg {r : Nat → Int32} {i x y : Int32} (hx : x < 0) (hy : y < 0) : ∀ (n : Nat) (g p : Nat → Int32) (pr sl he : Int32), s_mo r i x n g p pr sl he = s_mo r i y n g p pr sl he := by
  intro n
  induction n with
  | zero => intros; rfl
  | succ n ih =>
    intro g p pr sl he
    rw [s_mo, s_mo]
    simp only [if_pos hx, if_pos hy, ih]
theorem M_neg {r : Nat → Int32} {i : Int32} : s_M r i (-9) (-1) 0 = s_m r i := mo_neg (by decide) (by decide) _ _ _ _ _ _
theorem wW_01 {r : Nat → Int32} {c i m : Int32} : s_W r c i m = 0 ∨ s_W r c i m = 1 := by
  unfold s_W s_wk
  by_cases h : r (23 + 5 * tn c + 4) + (if r (23 + 5 * tn c) = 2 then 8 else if r (23 + 5 * tn c) = 3 then m / 10 else 0) < s_D r i m
  · exact Or.inl (if_pos h)
  · exact Or.inr (if_neg h)
theorem mo_bd {r : Nat → Int32} (hr : dR r) {i ls : Int32} : ∀ (n : Nat) (g p : Nat → Int32) (pr sl he : Int32), s_J r n g p → 0 ≤ pr.toInt → pr.toInt + n ≤ 1201 → 0 ≤ he.toInt → he.toInt + n ≤ 10000 → bd (s_mo r i ls n g p pr sl he).1 0 300 ∧ bd (s_mo r i ls n g p pr sl he).2.1 0 1201 ∧ bd (s_mo r i ls n g p pr sl he).2.2.2 0 (he.toInt + n) := by
  intro n
  induction n with
  | zero => intro g p pr sl he hJ; exact absurd hJ.1 (by omega)
  | succ n ih =>
    intro g p pr sl he hJ h1 h2 h3 h4
    have z300 : (300 : Int32).toInt = 300 := rfl
    have z1 : (1 : Int32).toInt = 1 := rfl
    have hpr : pr.toInt ≤ 1201 := by omega
    rw [s_mo]
    by_cases hm : g (s_f3 g) < 300
    · rw [if_pos hm]
      have hg := (hJ.2.2 _ (s_f3_lt g)).1
      have hm2 := hm
      rw [ti_lt, z300] at hm2
      have he1 : ∃ x : Int32, x = he + (if ls < 0 then 0 else s_W r (nI (s_f3 g)) ls (g (s_f3 g))) ∧ 0 ≤ x.toInt ∧ x.toInt ≤ he.toInt + 1 := by
        refine ⟨_, rfl, ?_⟩
        have hz : (if ls < 0 then 0 else s_W r (nI (s_f3 g)) ls (g (s_f3 g))) = 0 ∨ (if ls < 0 then 0 else s_W r (nI (s_f3 g)) ls (g (s_f3 g))) = 1 := by
          by_cases hl : ls < 0
          · exact Or.inl (if_pos hl)
          · rw [if_neg hl]
            exact wW_01
        rcases hz with e | e
        · rw [e, Int32.add_zero]
          omega
        · rw [e, ti_add (by omega) (by omega)]
          omega
      obtain ⟨x, hx, x1, x2⟩ := he1
      rw [← hx]
      have hx2 : x.toInt ≤ he.toInt + ((n + 1 : Nat) : Int) := by omega
      have hmm : (g (s_f3 g)).toInt ≤ 300 := by omega
      by_cases hw : s_W r (nI (s_f3 g)) i (g (s_f3 g)) = 0
      · rw [if_pos hw]
        have st := (s_J_step hr hJ hm (p' := p) (fun c _ => Or.inl rfl)).1
        obtain ⟨a, b, c, d⟩ := ih _ p pr (sl + 1) x st h1 (by omega) x1 (by omega)
        exact ⟨a, b, c, by omega⟩
      · rw [if_neg hw]
        by_cases hp : s_mp (r (23 + 5 * s_f3 g)) (p (s_f3 g)) = 0
        · rw [if_pos hp]
          exact ⟨⟨hg.1, hmm⟩, ⟨h1, hpr⟩, x1, hx2⟩
        · rw [if_neg hp]
          by_cases hk : r 4 < s_sp r (g (s_f3 g)) + s_D r i (g (s_f3 g)) + r (7 + 4 * tn i + 3)
          · rw [if_pos hk]
            have st := (s_J_step hr hJ hm (p' := upd p (s_f3 g) (p (s_f3 g) + 1)) (fun c _ => by
              by_cases e : c = s_f3 g
              · rw [e, ud_s]; exact Or.inr rfl
              · rw [ud_o e]; exact Or.inl rfl)).1
            have ep : (pr + 1).toInt = pr.toInt + 1 := by rw [ti_add (by omega) (by omega), z1]
            obtain ⟨a, b, c, d⟩ := ih _ _ (pr + 1) sl x st (by omega) (by omega) x1 (by omega)
            exact ⟨a, b, c, by omega⟩
          · rw [if_neg hk]
            exact ⟨⟨hg.1, hmm⟩, ⟨h1, hpr⟩, x1, hx2⟩
    · rw [if_neg hm]
      have h5 : he.toInt ≤ he.toInt + ((n + 1 : Nat) : Int) := by omega
      have h6 : bd (300 : Int32) 0 300 := ⟨by decide, by decide⟩
      exact ⟨h6, ⟨h1, hpr⟩, h3, h5⟩
theorem m_bd {r : Nat → Int32} (hr : dR r) {i : Int32} : bd (s_m r i).1 0 300 ∧ bd (s_m r i).2.1 0 1201 := by
  have := mo_bd hr (i := i) (ls := -9) 1201 (s_g0 r i (-9)) (fun _ => 0) 0 0 0 (s_J_0 hr (fun _ _ => rfl) (fun _ _ => rfl)) (by decide) (by decide) (by decide) (by decide)
  exact ⟨this.1, this.2.1⟩
theorem M_hb {r : Nat → Int32} (hr : dR r) {i but ls : Int32} : bd (s_M r i but ls 0).2.2.2 0 1201 := (mo_bd hr (i := i) (ls := ls) 1201 (s_g0 r i but) (fun _ => 0) 0 0 0 (s_J_0 hr (fun _ _ => rfl) (fun _ _ => rfl)) (by decide) (by decide) (by decide) (by decide)).2.2
theorem ft_ok2 {a b : Int32} (h : s_ft a b = 0) : a = 0 ∧ b = 0 := by
  unfold s_ft at h
  by_cases e : a = 0
  · rw [if_pos e] at h
    exact ⟨e, h⟩
  · rw [if_neg e] at h
    exact absurd h e
theorem ft_rc2 {a b : Int32} (ha : ¬ a = 0 → s_rc a) (hb : ¬ b = 0 → s_rc b) (h : ¬ s_ft a b = 0) : s_rc (s_ft a b) := by
  unfold s_ft at h ⊢
  by_cases e : a = 0
  · rw [if_pos e] at h ⊢
    exact hb h
  · rw [if_neg e] at h ⊢
    exact ha h
theorem nB_ok {i n : Int32} (h : nB i n = 0) : ¬ s_in i n = 0 := fun z => by
  rw [nB_0 z] at h
  exact absurd h (by decide)
theorem nB_rc {i n : Int32} (h : ¬ nB i n = 0) : s_rc (nB i n) := by
  by_cases e : s_in i n = 0
  · rw [nB_0 e]
    exact rc1
  · exact absurd (nB_1 e) h
theorem sl_ok {n i : Int32} (h : bd n 0 4) (hz : nB i n = 0) : bd i 0 3 ∧ i.toInt < n.toInt := ⟨bd_in (nB_ok hz) (by have := h.2; omega), (s_in_ge (nB_ok hz)).2⟩
theorem fC_54 {M M' : mj_M} (h : ∀ k, ¬ k = 54 → ¬ k = 55 → ¬ k = 56 → M' k = M k) : fC M M' := fun k hk => h k (by omega) (by omega) (by omega)
/-- a refused call -/
theorem pF_no {M : mj_M} {no val : Int32} (h : ¬ no = 0) : no = (qF (cS M) no val).1 ∧ cS (s_bp M 62 no) = (qF (cS M) no val).2 ∧ fr2 M (s_bp M 62 no) := by
  unfold qF
  rw [if_neg h]
  exact ⟨rfl, cS_bp, fr2_u (fr2_r M) (by decide)⟩
theorem pV_no {M : mj_M} {no val : Int32} (h : ¬ no = 0) : 1000000000 - no = (qV (cS M) no val).1 ∧ cS (s_bp M 62 no) = (qV (cS M) no val).2 ∧ fr2 M (s_bp M 62 no) := by
  unfold qV
  rw [if_neg h]
  exact ⟨rfl, cS_bp, fr2_u (fr2_r M) (by decide)⟩
theorem pC_no {M : mj_M} {no v : Int32} {p : Nat} (h : ¬ no = 0) : no = (cF (cS M) no p v).1 ∧ cS (s_bp M 62 no) = (cF (cS M) no p v).2 ∧ fr2 M (s_bp M 62 no) := by
  unfold cF
  rw [if_neg h]
  exact ⟨rfl, cS_bp, fr2_u (fr2_r M) (by decide)⟩
theorem pF_ok {M M' : mj_M} {no val x : Int32} (h : no = 0) (hv : x = val) (hf : fC M M') : x = (qF (cS M) no val).1 ∧ cS M' = (qF (cS M) no val).2 ∧ fr2 M M' := by
  unfold qF
  rw [if_pos h]
  exact ⟨hv, cS_fC hf, fr2_C hf⟩
theorem pV_ok {M M' : mj_M} {no val x : Int32} (h : no = 0) (hv : x = val) (hf : fC M M') : x = (qV (cS M) no val).1 ∧ cS M' = (qV (cS M) no val).2 ∧ fr2 M M' := by
  unfold qV
  rw [if_pos h]
  exact ⟨hv, cS_fC hf, fr2_C hf⟩
theorem up_f {σ : mj_M} {a p : Nat} {x : Int32} : mj_up σ a p x = fun c => if c = a then upd (σ a) p x else σ c := by
  funext c i
  unfold mj_up
  by_cases h : c = a
  · subst h
    rw [if_pos rfl]
    by_cases h2 : i = p
    · rw [if_pos ⟨rfl, h2⟩, h2, ud_s]
    · rw [if_neg (fun z => h2 z.2), ud_o h2]
  · rw [if_neg h, if_neg (fun z => h z.1)]
/-- the room at hand is another; all else that is stays -/
theorem cS_r0 {M M' : mj_M} {r : Nat → Int32} (h : rv M' 0 = r) (hk : ∀ k, (36 ≤ k ∧ k < 54) ∨ 57 ≤ k → M' k = M k) : cS M' = fun c => if c = 0 then r else cS M c := by
  have e1 : rv M' 36 = rv M 36 := rv_e fun k hk' => hk k (by omega)
  have e60 := hk 60 (by omega)
  refine cS_ext ?_ ?_ ?_ ?_ ?_ ?_ ?_ ?_ (fun _ => rfl) (fun _ _ => rfl)
  · exact h
  · rw [e60, e1]; rfl
  · exact hk 58 (by omega)
  · exact hk 61 (by omega)
  · exact hk 62 (by omega)
  · rw [e60]; rfl
  · rw [hk 57 (by omega)]; rfl
  · rw [e60]; rfl
theorem cS_u0 {M M' : mj_M} {p : Nat} {x : Int32} (h : rv M' 0 = upd (rv M 0) p x) (hk : ∀ k, (36 ≤ k ∧ k < 54) ∨ 57 ≤ k → M' k = M k) : cS M' = mj_up (cS M) 0 p x := by
  rw [cS_r0 h hk, up_f]
  rfl
theorem pC_ok {M M' : mj_M} {no v x : Int32} {p : Nat} (h : no = 0) (hv : x = rv M 0 p) (hr : rv M' 0 = upd (rv M 0) p v) (hk : ∀ k, (36 ≤ k ∧ k < 54) ∨ 57 ≤ k → M' k = M k) : x = (cF (cS M) no p v).1 ∧ cS M' = (cF (cS M) no p v).2 ∧ fr2 M M' := by
  unfold cF
  rw [if_pos h]
  exact ⟨hv, cS_u0 hr hk, fun k h63 => hk k (by omega)⟩
theorem cS_t {M : mj_M} {j : Nat} {x : Int32} : cS (mj_up M 58 j x) = mj_up (cS M) 2 j x := by
  refine cS_ext ?_ ?_ ?_ ?_ ?_ ?_ ?_ ?_ (fun _ => ?_) (fun c _ => ?_)
  · rw [rv_uo (by omega)]; rw [up_ne (by decide)]; rfl
  · rw [rv_uo (by omega), up_ne (by decide), up_ne (by decide)]; rfl
  · rw [up_s, up_s]; rfl
  · rw [up_ne (by decide), up_ne (by decide)]; rfl
  · rw [up_ne (by decide), up_ne (by decide)]; rfl
  · rw [up_ne (by decide), up_ne (by decide)]; rfl
  · rw [up_ne (by decide), up_ne (by decide)]; rfl
  · rw [up_ne (by decide), up_ne (by decide)]; rfl
  · rw [up_ne (by decide)]; rfl
  · rw [up_ne (by omega)]; rfl
theorem cS_q {M : mj_M} {j : Nat} {x : Int32} : cS (mj_up M 61 j x) = mj_up (cS M) 3 j x := by
  refine cS_ext ?_ ?_ ?_ ?_ ?_ ?_ ?_ ?_ (fun _ => ?_) (fun c _ => ?_)
  · rw [rv_uo (by omega)]; rw [up_ne (by decide)]; rfl
  · rw [rv_uo (by omega), up_ne (by decide), up_ne (by decide)]; rfl
  · rw [up_ne (by decide), up_ne (by decide)]; rfl
  · rw [up_s, up_s]; rfl
  · rw [up_ne (by decide), up_ne (by decide)]; rfl
  · rw [up_ne (by decide), up_ne (by decide)]; rfl
  · rw [up_ne (by decide), up_ne (by decide)]; rfl
  · rw [up_ne (by decide), up_ne (by decide)]; rfl
  · rw [up_ne (by decide)]; rfl
  · rw [up_ne (by omega)]; rfl
theorem cS_n1 {M : mj_M} {x : Int32} : cS (mj_up M 57 1 x) = mj_up (cS M) 5 1 x := by
  refine cS_ext ?_ ?_ ?_ ?_ ?_ ?_ ?_ ?_ (fun _ => ?_) (fun c _ => ?_)
  · rw [rv_uo (by omega)]; rw [up_ne (by decide)]; rfl
  · rw [rv_uo (by omega), up_ne (by decide), up_ne (by decide)]; rfl
  · rw [up_ne (by decide), up_ne (by decide)]; rfl
  · rw [up_ne (by decide), up_ne (by decide)]; rfl
  · rw [up_ne (by decide), up_ne (by decide)]; rfl
  · rw [up_ne (by decide), up_s, ud_o (by decide)]; rfl
  · rw [up_s, up_s, ud_s, ud_s]
  · rw [up_ne (by decide), up_s, ud_o (by decide)]; rfl
  · rw [up_s, ud_o (by omega)]; rfl
  · rw [up_ne (by omega)]; rfl
theorem cS_n2 {M : mj_M} {x : Int32} : cS (mj_up M 60 7 x) = mj_up (cS M) 5 2 x := by
  refine cS_ext ?_ ?_ ?_ ?_ ?_ ?_ ?_ ?_ (fun _ => ?_) (fun c _ => ?_)
  · rw [rv_uo (by omega)]; rw [up_ne (by decide)]; rfl
  · rw [rv_uo (by omega), up_s, ud_o (by decide), up_ne (by decide)]; rfl
  · rw [up_ne (by decide), up_ne (by decide)]; rfl
  · rw [up_ne (by decide), up_ne (by decide)]; rfl
  · rw [up_ne (by decide), up_ne (by decide)]; rfl
  · rw [up_s, ud_o (by decide), up_s, ud_o (by decide)]; rfl
  · rw [up_ne (by decide), up_s, ud_o (by decide)]; rfl
  · rw [up_s, ud_s, up_s, ud_s]
  · rw [up_s, ud_o (by omega)]; rfl
  · rw [up_ne (by omega)]; rfl
/-! the cells of the class's rooms -/
theorem qt_00 : mj_pt 0 0 = 1 := rfl
theorem qt_01 : mj_pt 0 1 = 2 := rfl
theorem qt_02 : mj_pt 0 2 = 3 := rfl
theorem qt_10 : mj_pt 18 0 = 19 := rfl
theorem qt_11 : mj_pt 18 1 = 20 := rfl
theorem qt_12 : mj_pt 18 2 = 21 := rfl
theorem qt_1 {j : Nat} : mj_pt 1 j = 4 + j := rfl
theorem qt_2 {j : Nat} : mj_pt 2 j = 8 + j := rfl
theorem qt_3 {j : Nat} : mj_pt 3 j = 12 + j := rfl
theorem qt_19 {j : Nat} : mj_pt 19 j = 22 + j := rfl
theorem qt_20 {j : Nat} : mj_pt 20 j = 26 + j := rfl
theorem qt_21 {j : Nat} : mj_pt 21 j = 30 + j := rfl
theorem qk_1 : mj_ak 1 = 2 := rfl
theorem qk_2 : mj_ak 2 = 2 := rfl
theorem qk_3 : mj_ak 3 = 2 := rfl
theorem qk_19 : mj_ak 19 = 2 := rfl
theorem qk_20 : mj_ak 20 = 2 := rfl
theorem qk_21 : mj_ak 21 = 2 := rfl
theorem qn_1 : mj_ln mj_s0 1 = 4 := rfl
theorem qn_2 : mj_ln mj_s0 2 = 4 := rfl
theorem qn_3 : mj_ln mj_s0 3 = 6 := rfl
theorem qn_19 : mj_ln mj_s0 19 = 4 := rfl
theorem qn_20 : mj_ln mj_s0 20 = 4 := rfl
theorem qn_21 : mj_ln mj_s0 21 = 6 := rfl
theorem qo_s {i : Nat} (h : i < 4) : mj_ob (4 + i) = 3 := (rB_o (Or.inl rfl)).2.1 i h
theorem qo_c {i : Nat} (h : i < 4) : mj_ob (8 + i) = 0 := (rB_o (Or.inl rfl)).2.2.1 i h
theorem qo_t {i : Nat} (h : i < 6) : mj_ob (12 + i) = 4 := (rB_o (Or.inl rfl)).2.2.2 i h
theorem qo_ms {i : Nat} (h : i < 4) : mj_ob (22 + i) = 3 := (rB_o (Or.inr (Or.inl rfl))).2.1 i h
theorem qo_mc {i : Nat} (h : i < 4) : mj_ob (26 + i) = 0 := (rB_o (Or.inr (Or.inl rfl))).2.2.1 i h
theorem q_s {M : mj_M} {i w : Nat} (hi : i < 4) (hw : w < 4) (h : i < tn (M 0 3)) : M (4 + i) w = rv M 0 (7 + 4 * i + w) := (rv_s (b := 0) hi hw h).symm
theorem q_c {M : mj_M} {i w : Nat} (hi : i < 4) (hw : w < 5) (h : i < tn (M 0 4)) : M (8 + i) w = rv M 0 (23 + 5 * i + w) := (rv_c (b := 0) hi hw h).symm
theorem q_t {M : mj_M} {i w : Nat} (hi : i < 6) (hw : w < 2) (h : i < tn (M 0 5)) : M (12 + i) w = rv M 0 (43 + 2 * i + w) := (rv_t (b := 0) hi hw h).symm
theorem i2c_id {c : Int32} (h : bd c 0 255) : (c.toUInt32 % 65536).toInt32 = c := by
  have e := bd_nI h
  have hlt : tn c < 256 := by have := tn_of h.1; have := h.2; omega
  have key : ∀ k : Fin 256, ((nI k.val).toUInt32 % 65536).toInt32 = nI k.val := by decide +kernel
  rw [e]
  exact key ⟨tn c, hlt⟩
theorem sub_c (a b c : Int32) : a - b - c = a - c - b := by
  rw [i_ss, i_ss, Int32.add_comm]
