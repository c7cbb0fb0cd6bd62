/-! the numbers stay as they must be, whatever is called -/
theorem dS_cg {σ τ : mj_M} (h : dS σ) (h0 : τ 0 = σ 0) (h1 : τ 1 = σ 1) (h2 : τ 2 = σ 2) (h5 : τ 5 = σ 5) : dS τ := by
  unfold dS
  rw [h0, h1, h2, h5]
  exact h
theorem dS_bp {σ : mj_M} (h : dS σ) {no : Int32} : dS (s_bp σ 4 no) := dS_cg h (up_ne (by decide)) (up_ne (by decide)) (up_ne (by decide)) (up_ne (by decide))
theorem kF {σ : mj_M} (h : dS σ) {no val : Int32} : dS (qF σ no val).2 := by
  unfold qF
  split
  · exact h
  · exact dS_bp h
theorem kV {σ : mj_M} (h : dS σ) {no val : Int32} : dS (qV σ no val).2 := by
  unfold qV
  split
  · exact h
  · exact dS_bp h
theorem dS_0 {σ : mj_M} (h : dS σ) {p : Nat} {v : Int32} (hR : dR (upd (σ 0) p v)) : dS (mj_up σ 0 p v) := by
  have h0 : mj_up σ 0 p v 0 = upd (σ 0) p v := up_s
  have h1 : mj_up σ 0 p v 1 = σ 1 := up_ne (by decide)
  have h2 : mj_up σ 0 p v 2 = σ 2 := up_ne (by decide)
  have h5 : mj_up σ 0 p v 5 = σ 5 := up_ne (by decide)
  unfold dS
  rw [h0, h1, h2, h5]
  exact ⟨hR, h.2⟩
theorem kC {σ : mj_M} (h : dS σ) {no v : Int32} {p : Nat} (hR : no = 0 → dR (upd (σ 0) p v)) : dS (cF σ no p v).2 := by
  unfold cF
  split
  · rename_i z
    exact dS_0 h (hR z)
  · exact dS_bp h
theorem k_letter {σ : mj_M} (h : dS σ) (c : Int32) : dS (F_letter σ c).2 := by
  unfold F_letter
  split
  · rename_i hw
    split
    · exact dS_bp h
    · rename_i h96
      obtain ⟨d0, d1, d2, d3, d4, d5, d6⟩ := h
      have e1 : (1 : Int32).toInt = 1 := rfl
      have z96 : (96 : Int32).toInt = 96 := rfl
      have hn : ¬ (σ 5 1).toInt = (96 : Int32).toInt := fun z => h96 (ti_eq.mpr z)
      have d31 := d3.1
      have d32 := d3.2
      have hc := s_wi_0 hw
      have g0 : mj_up (mj_up σ 2 (tn (σ 5 1)) c) 5 1 (σ 5 1 + 1) 0 = σ 0 := by rw [up_ne (by decide), up_ne (by decide)]
      have g1 : mj_up (mj_up σ 2 (tn (σ 5 1)) c) 5 1 (σ 5 1 + 1) 1 = σ 1 := by rw [up_ne (by decide), up_ne (by decide)]
      have g2 : mj_up (mj_up σ 2 (tn (σ 5 1)) c) 5 1 (σ 5 1 + 1) 2 = upd (σ 2) (tn (σ 5 1)) c := by rw [up_ne (by decide), up_s]
      have g5 : mj_up (mj_up σ 2 (tn (σ 5 1)) c) 5 1 (σ 5 1 + 1) 5 = upd (σ 5) 1 (σ 5 1 + 1) := by rw [up_s, up_ne (by decide)]
      show dS (mj_up (mj_up σ 2 (tn (σ 5 1)) c) 5 1 (σ 5 1 + 1))
      unfold dS
      rw [g0, g1, g2, g5, ud_o (show (0 : Nat) ≠ 1 by decide), ud_s, ud_o (show (2 : Nat) ≠ 1 by decide)]
      refine ⟨d0, d1, d2, ⟨by rw [ti_add (by omega) (by omega)]; omega, by rw [ti_add (by omega) (by omega)]; omega⟩, fun j => ?_, d5, d6⟩
      by_cases e : j = tn (σ 5 1)
      · rw [e, ud_s]; exact hc
      · rw [ud_o e]; exact d4 j
  · exact dS_bp h
theorem k_row {σ : mj_M} (h : dS σ) (v : Int32) : dS (F_row σ v).2 := by
  unfold F_row
  split
  · split
    · exact dS_bp h
    · rename_i h8
      obtain ⟨d0, d1, d2, d3, d4, d5, d6⟩ := h
      have e1 : (1 : Int32).toInt = 1 := rfl
      have z8 : (8 : Int32).toInt = 8 := rfl
      have hn : ¬ (σ 5 2).toInt = (8 : Int32).toInt := fun z => h8 (ti_eq.mpr z)
      have d51 := d5.1
      have d52 := d5.2
      have g0 : mj_up (mj_up σ 3 (tn (σ 5 2)) v) 5 2 (σ 5 2 + 1) 0 = σ 0 := by rw [up_ne (by decide), up_ne (by decide)]
      have g1 : mj_up (mj_up σ 3 (tn (σ 5 2)) v) 5 2 (σ 5 2 + 1) 1 = σ 1 := by rw [up_ne (by decide), up_ne (by decide)]
      have g2 : mj_up (mj_up σ 3 (tn (σ 5 2)) v) 5 2 (σ 5 2 + 1) 2 = σ 2 := by rw [up_ne (by decide), up_ne (by decide)]
      have g5 : mj_up (mj_up σ 3 (tn (σ 5 2)) v) 5 2 (σ 5 2 + 1) 5 = upd (σ 5) 2 (σ 5 2 + 1) := by rw [up_s, up_ne (by decide)]
      show dS (mj_up (mj_up σ 3 (tn (σ 5 2)) v) 5 2 (σ 5 2 + 1))
      unfold dS
      rw [g0, g1, g2, g5, ud_o (show (0 : Nat) ≠ 2 by decide), ud_o (show (1 : Nat) ≠ 2 by decide), ud_s]
      exact ⟨d0, d1, d2, d3, d4, ⟨by rw [ti_add (by omega) (by omega)]; omega, by rw [ti_add (by omega) (by omega)]; omega⟩, d6⟩
  · exact dS_bp h
theorem k_clear {σ : mj_M} (h : dS σ) : dS (F_clear σ).2 := by
  obtain ⟨d0, d1, d2, d3, d4, d5, d6⟩ := h
  show dS (mj_up σ 5 2 0)
  have g0 : mj_up σ 5 2 0 0 = σ 0 := up_ne (by decide)
  have g1 : mj_up σ 5 2 0 1 = σ 1 := up_ne (by decide)
  have g2 : mj_up σ 5 2 0 2 = σ 2 := up_ne (by decide)
  have g5 : mj_up σ 5 2 0 5 = upd (σ 5) 2 0 := up_s
  unfold dS
  rw [g0, g1, g2, g5, ud_o (show (0 : Nat) ≠ 2 by decide), ud_o (show (1 : Nat) ≠ 2 by decide), ud_s]
  exact ⟨d0, d1, d2, d3, d4, ⟨by decide, by decide⟩, d6⟩
theorem k_image {σ : mj_M} (h : dS σ) : dS (F_image σ).2 := by
  obtain ⟨d0, d1, d2, d3, d4, d5, d6⟩ := h
  show dS (mj_up (s_cy σ 0 1) 5 0 1)
  have g0 : mj_up (s_cy σ 0 1) 5 0 1 0 = σ 0 := up_ne (by decide)
  have g1 : mj_up (s_cy σ 0 1) 5 0 1 1 = σ 0 := up_ne (by decide)
  have g2 : mj_up (s_cy σ 0 1) 5 0 1 2 = σ 2 := up_ne (by decide)
  have g5 : mj_up (s_cy σ 0 1) 5 0 1 5 = upd (σ 5) 0 1 := up_s
  unfold dS
  rw [g0, g1, g2, g5, ud_s, ud_o (show (1 : Nat) ≠ 0 by decide), ud_o (show (2 : Nat) ≠ 0 by decide)]
  exact ⟨d0, Or.inr rfl, fun _ => d0, d3, d4, d5, fun j hj => dR_z d0 hj⟩
theorem k_on {σ : mj_M} (h : dS σ) : dS (F_on σ).2 := by
  unfold F_on
  split
  · exact dS_bp h
  · rename_i hz
    obtain ⟨d0, d1, d2, d3, d4, d5, d6⟩ := h
    exact ⟨d2 (d1.resolve_left hz), d1, d2, d3, d4, d5, d6⟩
theorem k_night {σ : mj_M} (h : dS σ) : dS (F_night σ).2 := by
  unfold F_night
  split
  · exact dS_bp h
  · have h5 := h.1.2.2.2.2.2.1
    have h6 := h.1.2.2.2.2.2.2.1
    refine dS_0 (dS_0 h (dR_num h.1 (Or.inr (Or.inr (Or.inl ⟨rfl, s_ti_bd h5⟩))))) ?_
    rw [up_s]
    exact dR_num (dR_num h.1 (Or.inr (Or.inr (Or.inl ⟨rfl, s_ti_bd h5⟩)))) (Or.inr (Or.inr (Or.inr ⟨rfl, s_dy_bd h6⟩)))
theorem k_set {σ : mj_M} (h : dS σ) (c v : Int32) : dS (F_set σ c v).2 := by
  refine kC h (fun z => ?_)
  obtain ⟨h1, h2⟩ := ft_ok2 z
  have hv := s_wi_0 h2
  exact dR_clk h.1 (in_tn (nB_ok h1)) (Or.inl ⟨rfl, hv.1, by have := hv.2; have z9 : (299 : Int32).toInt = 299 := rfl; omega⟩)
theorem k_every {σ : mj_M} (h : dS σ) (c v : Int32) : dS (F_every σ c v).2 := by
  refine kC h (fun z => ?_)
  obtain ⟨h1, h2⟩ := ft_ok2 z
  exact dR_clk h.1 (in_tn (nB_ok h1)) (Or.inr ⟨rfl, s_wi_0 h2⟩)
theorem k_firm {σ : mj_M} (h : dS σ) (v : Int32) : dS (F_firm σ v).2 := kC h (fun z => dR_num h.1 (Or.inr (Or.inl ⟨rfl, s_wi_0 z⟩)))
theorem k_bus {σ : mj_M} (h : dS σ) (v : Int32) : dS (F_bus σ v).2 := kC h (fun z => dR_num h.1 (Or.inl ⟨rfl, s_wi_0 z⟩))
theorem k_tired {σ : mj_M} (h : dS σ) (v : Int32) : dS (F_tired σ v).2 := kC h (fun z => dR_num h.1 (Or.inr (Or.inr (Or.inl ⟨rfl, s_wi_0 z⟩))))
theorem bd_1p {x : Int32} {hi : Int} (h : bd x 0 hi) (hh : hi ≤ 100) (hn : ¬ x = Int32.ofInt hi) : bd (x + 1) 0 hi := by
  have e1 : (1 : Int32).toInt = 1 := rfl
  have h1 := h.1
  have h2 := h.2
  have h3 : ¬ x.toInt = hi := fun z => hn (by rw [ti_eq, Int32.toInt_ofInt_of_le (by omega) (by omega)]; exact z)
  exact ⟨by rw [ti_add (by omega) (by omega)]; omega, by rw [ti_add (by omega) (by omega)]; omega⟩
theorem aw_1 {q lo hi : Nat → Int32} : ∀ n j, s_aw q lo hi n j = 1 → ∀ i, j ≤ i → i < j + n → ¬ q i < lo i ∧ ¬ hi i < q i := by
  intro n
  induction n with
  | zero => intro j _ i h1 h2; omega
  | succ n ih =>
    intro j h i h1 h2
    rw [s_aw] at h
    by_cases a : q j < lo j
    · rw [if_pos a] at h; exact absurd h (by decide)
    · rw [if_neg a] at h
      by_cases b : hi j < q j
      · rw [if_pos b] at h; exact absurd h (by decide)
      · rw [if_neg b] at h
        by_cases e : i = j
        · rw [e]; exact ⟨a, b⟩
        · exact ih (j + 1) h i (by omega) (by omega)
theorem nn_bd {x a b : Int32} (h : ¬ x < a ∧ ¬ b < x) : bd x a.toInt b.toInt := by
  have h1 := h.1
  have h2 := h.2
  rw [ti_lt] at h1 h2
  exact ⟨by omega, by omega⟩
theorem tk_dR {r q : Nat → Int32} {c : Int32} (h : dR r) (hx : s_x1 c) (hq : qB c q) (hk : ¬ (s_tk r c q).1 = 0) : dR (s_tk r c q).2 := by
  obtain ⟨r0, r1, r2, r3, r4, r5, r6, rs, rc, rt, rz⟩ := h
  have t0 := tn_of r0.1
  have t1 := tn_of r1.1
  have t2 := tn_of r2.1
  have b0 := r0.2
  have b1 := r1.2
  have b2 := r2.2
  rcases hx with rfl | rfl | rfl | rfl | rfl
  · rw [tkS hq] at hk ⊢
    by_cases a : r 0 = 4
    · rw [if_pos a] at hk; exact absurd rfl hk
    · rw [if_neg a] at hk ⊢
      by_cases b : s_aw q (mj_sc 100) (mj_sc 101) 4 0 = 0
      · rw [if_pos b] at hk; exact absurd rfl hk
      · rw [if_neg b]
        have hw := aw_1 4 0 ((aw_01 _ _).resolve_left b)
        have a' : ¬ (r 0).toInt = (4 : Int32).toInt := fun z => a (ti_eq.mpr z)
        have e4 : (4 : Int32).toInt = 4 := rfl
        have hn := tn_1p r0 (by omega)
        have w0 : bd (q 0) 0 5 := nn_bd (hw 0 (by omega) (by omega))
        have w1 : bd (q 1) 20 99 := nn_bd (hw 1 (by omega) (by omega))
        have w2 : bd (q 2) 0 20 := nn_bd (hw 2 (by omega) (by omega))
        have w3 : bd (q 3) 0 30 := nn_bd (hw 3 (by omega) (by omega))
        obtain ⟨R, hR⟩ : ∃ R, R = upd (s_cp r (7 + 4 * tn (r 0)) q 4) 0 (r 0 + 1) := ⟨_, rfl⟩
        have v0 : R 0 = r 0 + 1 := by rw [hR, ud_s]
        have v : ∀ j, j ≠ 0 → R j = if 7 + 4 * tn (r 0) ≤ j ∧ j < 7 + 4 * tn (r 0) + 4 then q (j - (7 + 4 * tn (r 0))) else r j := fun j hj => by rw [hR, ud_o hj, cp_v]
        have vo : ∀ j, j ≠ 0 → ¬ (7 + 4 * tn (r 0) ≤ j ∧ j < 7 + 4 * tn (r 0) + 4) → R j = r j := fun j hj hn => by rw [v j hj, if_neg hn]
        have vq : ∀ w, w < 4 → R (7 + 4 * tn (r 0) + w) = q w := fun w hw => by rw [v _ (by omega), if_pos (by omega), show 7 + 4 * tn (r 0) + w - (7 + 4 * tn (r 0)) = w by omega]
        show dR (upd (s_cp r (7 + 4 * tn (r 0)) q 4) 0 (r 0 + 1))
        rw [← hR]
        have hb1 := bd_1p r0 (by omega) (by exact a)
        unfold dR
        rw [v0, vo 1 (by omega) (by omega), vo 2 (by omega) (by omega), vo 3 (by omega) (by omega), vo 4 (by omega) (by omega), vo 5 (by omega) (by omega), vo 6 (by omega) (by omega), hn]
        have e1 : (1 : Int32).toInt = 1 := rfl
        have ha : (r 0 + 1).toInt = (r 0).toInt + 1 := by rw [ti_add (by omega) (by omega), e1]
        refine ⟨hb1, r1, r2, r3, r4, r5, r6, fun i hi => ?_, fun d hd => ?_, fun t ht => ?_, fun j hj => ?_⟩
        · by_cases e : i = tn (r 0)
          · have z0 := vq 0 (by omega)
            rw [Nat.add_zero] at z0
            rw [e, z0, vq 1 (by omega), vq 2 (by omega), vq 3 (by omega)]
            exact ⟨w0, w1, w2, w3⟩
          · rw [vo _ (by omega) (by omega), vo _ (by omega) (by omega), vo _ (by omega) (by omega), vo _ (by omega) (by omega)]
            exact rs i (by omega)
        · rw [vo _ (by omega) (by omega), vo _ (by omega) (by omega), vo _ (by omega) (by omega), vo _ (by omega) (by omega), vo _ (by omega) (by omega)]
          obtain ⟨c1, c2, c3, c4, c5, c6⟩ := rc d hd
          exact ⟨c1, c2, by omega, c4, c5, c6⟩
        · rw [vo _ (by omega) (by omega), vo _ (by omega) (by omega)]
          exact rt t ht
        · rw [vo _ (by omega) (by omega)]
          exact rz j (by omega)
  · rw [tkC hq r0] at hk ⊢
    by_cases a : r 1 = 4
    · rw [if_pos a] at hk; exact absurd rfl hk
    · rw [if_neg a] at hk ⊢
      by_cases b : s_aw q (mj_sc 102) (mj_sc 103) 5 0 = 0
      · rw [if_pos b] at hk; exact absurd rfl hk
      · rw [if_neg b] at hk ⊢
        by_cases ow : q 1 < r 0
        · rw [if_pos ow]
          rw [ti_lt] at ow
          have hw := aw_1 5 0 ((aw_01 _ _).resolve_left b)
          have a' : ¬ (r 1).toInt = (4 : Int32).toInt := fun z => a (ti_eq.mpr z)
          have e4 : (4 : Int32).toInt = 4 := rfl
          have hn := tn_1p r1 (by omega)
          have w0 : bd (q 0) 0 5 := nn_bd (hw 0 (by omega) (by omega))
          have w1 : bd (q 1) 0 3 := nn_bd (hw 1 (by omega) (by omega))
          have w2 : bd (q 2) 0 299 := nn_bd (hw 2 (by omega) (by omega))
          have w3 : bd (q 3) 1 20 := nn_bd (hw 3 (by omega) (by omega))
          have w4 : bd (q 4) 0 30 := nn_bd (hw 4 (by omega) (by omega))
          obtain ⟨R, hR⟩ : ∃ R, R = upd (s_cp r (23 + 5 * tn (r 1)) q 5) 1 (r 1 + 1) := ⟨_, rfl⟩
          have v0 : R 1 = r 1 + 1 := by rw [hR, ud_s]
          have v : ∀ j, j ≠ 1 → R j = if 23 + 5 * tn (r 1) ≤ j ∧ j < 23 + 5 * tn (r 1) + 5 then q (j - (23 + 5 * tn (r 1))) else r j := fun j hj => by rw [hR, ud_o hj, cp_v]
          have vo : ∀ j, j ≠ 1 → ¬ (23 + 5 * tn (r 1) ≤ j ∧ j < 23 + 5 * tn (r 1) + 5) → R j = r j := fun j hj hn => by rw [v j hj, if_neg hn]
          have vq : ∀ w, w < 5 → R (23 + 5 * tn (r 1) + w) = q w := fun w hw => by rw [v _ (by omega), if_pos (by omega), show 23 + 5 * tn (r 1) + w - (23 + 5 * tn (r 1)) = w by omega]
          show dR (upd (s_cp r (23 + 5 * tn (r 1)) q 5) 1 (r 1 + 1))
          rw [← hR]
          have hb1 := bd_1p r1 (by omega) (by exact a)
          unfold dR
          rw [v0, vo 0 (by omega) (by omega), vo 2 (by omega) (by omega), vo 3 (by omega) (by omega), vo 4 (by omega) (by omega), vo 5 (by omega) (by omega), vo 6 (by omega) (by omega), hn]
          refine ⟨r0, hb1, r2, r3, r4, r5, r6, fun i hi => ?_, fun d hd => ?_, fun t ht => ?_, fun j hj => ?_⟩
          · rw [vo _ (by omega) (by omega), vo _ (by omega) (by omega), vo _ (by omega) (by omega), vo _ (by omega) (by omega)]
            exact rs i hi
          · by_cases e : d = tn (r 1)
            · have z0 := vq 0 (by omega)
              rw [Nat.add_zero] at z0
              rw [e, z0, vq 1 (by omega), vq 2 (by omega), vq 3 (by omega), vq 4 (by omega)]
              exact ⟨w0, w1, ow, ⟨w2.1, by have := w2.2; omega⟩, w3, w4⟩
            · rw [vo _ (by omega) (by omega), vo _ (by omega) (by omega), vo _ (by omega) (by omega), vo _ (by omega) (by omega), vo _ (by omega) (by omega)]
              exact rc d (by omega)
          · rw [vo _ (by omega) (by omega), vo _ (by omega) (by omega)]
            exact rt t ht
          · rw [vo _ (by omega) (by omega)]
            exact rz j (by omega)
        · rw [if_neg ow] at hk
          exact absurd rfl hk
  · rw [tkT hq] at hk ⊢
    by_cases a : r 2 = 6
    · rw [if_pos a] at hk; exact absurd rfl hk
    · rw [if_neg a] at hk ⊢
      by_cases b : s_aw q (mj_sc 104) (mj_sc 105) 2 0 = 0
      · rw [if_pos b] at hk; exact absurd rfl hk
      · rw [if_neg b]
        have hw := aw_1 2 0 ((aw_01 _ _).resolve_left b)
        have a' : ¬ (r 2).toInt = (6 : Int32).toInt := fun z => a (ti_eq.mpr z)
        have e6 : (6 : Int32).toInt = 6 := rfl
        have hn := tn_1p r2 (by omega)
        have w0 : bd (q 0) 1 60 := nn_bd (hw 0 (by omega) (by omega))
        have w1 : bd (q 1) 0 99 := nn_bd (hw 1 (by omega) (by omega))
        obtain ⟨R, hR⟩ : ∃ R, R = upd (s_cp r (43 + 2 * tn (r 2)) q 2) 2 (r 2 + 1) := ⟨_, rfl⟩
        have v0 : R 2 = r 2 + 1 := by rw [hR, ud_s]
        have v : ∀ j, j ≠ 2 → R j = if 43 + 2 * tn (r 2) ≤ j ∧ j < 43 + 2 * tn (r 2) + 2 then q (j - (43 + 2 * tn (r 2))) else r j := fun j hj => by rw [hR, ud_o hj, cp_v]
        have vo : ∀ j, j ≠ 2 → ¬ (43 + 2 * tn (r 2) ≤ j ∧ j < 43 + 2 * tn (r 2) + 2) → R j = r j := fun j hj hn => by rw [v j hj, if_neg hn]
        have vq : ∀ w, w < 2 → R (43 + 2 * tn (r 2) + w) = q w := fun w hw => by rw [v _ (by omega), if_pos (by omega), show 43 + 2 * tn (r 2) + w - (43 + 2 * tn (r 2)) = w by omega]
        show dR (upd (s_cp r (43 + 2 * tn (r 2)) q 2) 2 (r 2 + 1))
        rw [← hR]
        have hb1 := bd_1p r2 (by omega) (by exact a)
        unfold dR
        rw [v0, vo 0 (by omega) (by omega), vo 1 (by omega) (by omega), vo 3 (by omega) (by omega), vo 4 (by omega) (by omega), vo 5 (by omega) (by omega), vo 6 (by omega) (by omega), hn]
        refine ⟨r0, r1, hb1, r3, r4, r5, r6, fun i hi => ?_, fun d hd => ?_, fun t ht => ?_, fun j hj => ?_⟩
        · rw [vo _ (by omega) (by omega), vo _ (by omega) (by omega), vo _ (by omega) (by omega), vo _ (by omega) (by omega)]
          exact rs i hi
        · rw [vo _ (by omega) (by omega), vo _ (by omega) (by omega), vo _ (by omega) (by omega), vo _ (by omega) (by omega), vo _ (by omega) (by omega)]
          exact rc d hd
        · by_cases e : t = tn (r 2)
          · have z0 := vq 0 (by omega)
            rw [Nat.add_zero] at z0
            rw [e, z0, vq 1 (by omega)]
            exact ⟨w0, w1⟩
          · rw [vo _ (by omega) (by omega), vo _ (by omega) (by omega)]
            exact rt t (by omega)
        · rw [vo _ (by omega) (by omega)]
          exact rz j (by omega)
  · have e : s_tk r 98 q = (if q 0 < 300 then 1 else 0, upd r 3 (q 0)) := rfl
    rw [e] at hk ⊢
    have h3 : q 0 < 300 := Classical.not_not.mp (fun z => hk (if_neg z))
    have hb := hq.2.2.2.1 rfl
    have z3 : (300 : Int32).toInt = 300 := rfl
    rw [ti_lt] at h3
    exact dR_num ⟨r0, r1, r2, r3, r4, r5, r6, rs, rc, rt, rz⟩ (Or.inl ⟨rfl, hb.1, by omega⟩)
  · have e : s_tk r 102 q = (1, upd r 4 (q 0)) := rfl
    rw [e]
    exact dR_num ⟨r0, r1, r2, r3, r4, r5, r6, rs, rc, rt, rz⟩ (Or.inr (Or.inl ⟨rfl, hq.2.2.2.2 rfl⟩))
theorem r2_dR {T : Nat → Int32} {n : Int32} (hT : dT T n) : ∀ (f : Nat) (p : Int32) (r : Nat → Int32), dR r → (p < n → okT T n p) → dR (s_r2 T n f p r).2.2 := by
  intro f
  induction f with
  | zero => intro p r h _; exact h
  | succ f ih =>
    intro p r h hok
    rw [s_r2]
    by_cases hp : p < n
    · rw [if_pos hp]
      obtain ⟨o1, o2⟩ := okT_st (hok hp)
      obtain ⟨hx, hq⟩ := st_q hT o1
      by_cases hk : (s_tk r (s_sg T n p) (s_st T n p (fun _ => 0)).2.2).1 = 0
      · rw [if_pos hk]
        exact h
      · rw [if_neg hk]
        exact ih _ _ (tk_dR h hx hq hk) o2
    · rw [if_neg hp]
      exact h
theorem r1_01 {T : Nat → Int32} {n : Int32} : ∀ (f : Nat) (p k : Int32), (s_r1 T n f p k).1 = 0 ∨ (s_r1 T n f p k).1 = 1 := by
  intro f
  induction f with
  | zero => intro p k; exact Or.inl rfl
  | succ f ih =>
    intro p k
    rw [s_r1]
    split
    · exact Or.inl rfl
    · split
      · exact ih _ _
      · exact Or.inr rfl
theorem k_room {σ : mj_M} (h : dS σ) : dS (F_room σ).2 := by
  obtain ⟨d0, d1, d2, d3, d4, d5, d6⟩ := h
  have hT : dT (σ 2) (σ 5 1) := ⟨d3, d4⟩
  have hR : dR (s_rd (σ 2) (σ 5 1) (σ 0)).2 := by
    unfold s_rd
    by_cases a : (s_r1 (σ 2) (σ 5 1) 97 0 0).1 = 0
    · rw [if_pos a]
      exact d0
    · rw [if_neg a]
      have a1 := (r1_01 97 0 0).resolve_left a
      by_cases b : (s_r2 (σ 2) (σ 5 1) 97 0 (σ 0)).1 = 0
      · rw [if_pos b]
        exact d0
      · rw [if_neg b]
        exact r2_dR hT 97 0 _ d0 (fun _ => ⟨97, 0, a1⟩)
  have g1 : (F_room σ).2 1 = σ 1 := by
    show mj_up σ 5 1 0 1 = σ 1
    exact up_ne (by decide)
  have g2 : (F_room σ).2 2 = σ 2 := by
    show mj_up σ 5 1 0 2 = σ 2
    exact up_ne (by decide)
  have g5 : (F_room σ).2 5 = upd (σ 5) 1 0 := by
    show mj_up σ 5 1 0 5 = _
    exact up_s
  unfold dS
  rw [g1, g2, g5, ud_o (show (0 : Nat) ≠ 1 by decide), ud_s, ud_o (show (2 : Nat) ≠ 1 by decide)]
  exact ⟨hR, d1, d2, ⟨by decide, by decide⟩, d4, d5, d6⟩
