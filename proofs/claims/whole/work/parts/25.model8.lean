/-! the reference's room() -/
/-- two readings that differ in what was told before alone -/
def eQ (m : Nat) (x y : Int32 × Int32 × (Nat → Int32)) : Prop := x.1 = y.1 ∧ x.2.1 = y.2.1 ∧ (¬ x.1 = 0 → ∀ j, j < m → x.2.2 j = y.2.2 j)
theorem eQ_n {T : Nat → Int32} {n least p : Int32} {most k : Nat} {q q' : Nat → Int32} (h : ∀ j, j < k → q j = q' j) : eQ (k + 1) (s_pn T n least most p k q) (s_pn T n least most p k q') := by
  refine ⟨rfl, rfl, fun _ j hj => ?_⟩
  show upd q k _ j = upd q' k _ j
  by_cases e : j = k
  · rw [e, ud_s, ud_s]
  · rw [ud_o e, ud_o e]
    exact h j (by omega)
theorem eQ_s {T : Nat → Int32} {n c p : Int32} {k : Nat} {q q' : Nat → Int32} (h : ∀ j, j < k → q j = q' j) : eQ k (s_ps T n c p q) (s_ps T n c p q') := by
  unfold s_ps
  split
  · exact ⟨rfl, rfl, fun _ => h⟩
  · exact ⟨rfl, rfl, fun _ => h⟩
theorem eQ_k {kind p : Int32} {q q' : Nat → Int32} : eQ 1 (s_pk kind p 0 q) (s_pk kind p 0 q') := by
  have key : ∀ j, j < 1 → upd q 0 kind j = upd q' 0 kind j := fun j hj => by
    rw [show j = 0 by omega, ud_s, ud_s]
  unfold s_pk
  split
  · exact ⟨rfl, rfl, fun _ => key⟩
  · exact ⟨rfl, rfl, fun _ => key⟩
theorem eQ_t {k m : Nat} {a b : Int32 × Int32 × (Nat → Int32)} {f : Int32 → (Nat → Int32) → Int32 × Int32 × (Nat → Int32)} (h : eQ k a b) (hf : ∀ p q q', (∀ j, j < k → q j = q' j) → eQ m (f p q) (f p q')) : eQ m (s_th a f) (s_th b f) := by
  obtain ⟨h1, h2, h3⟩ := h
  unfold s_th
  by_cases e : a.1 = 0
  · rw [if_pos e, if_pos (h1 ▸ e)]
    exact ⟨h1, h2, fun z => absurd e z⟩
  · rw [if_neg e, if_neg (h1 ▸ e), ← h2]
    exact hf _ _ _ (h3 e)
/-- how many numbers a statement tells -/
def s_nc (c : Int32) : Nat := if c = 115 then 4 else if c = 99 then 5 else if c = 116 then 2 else 1
theorem eQ_st {T : Nat → Int32} {n p : Int32} {q q' : Nat → Int32} : eQ (s_nc (s_sg T n p)) (s_st T n p q) (s_st T n p q') := by
  unfold s_st
  split
  · refine eQ_t (k := s_nc (s_sg T n p)) ?_ (fun p q q' h => eQ_s h)
    unfold s_xa s_nc
    split
    · exact eQ_t eQ_k fun p q q' h => eQ_t (eQ_n h) fun p q q' h => eQ_t (eQ_s h) fun p q q' h => eQ_t (eQ_n h) fun p q q' h => eQ_t (eQ_s h) fun p q q' h => eQ_n h
    · split
      · exact eQ_t eQ_k fun p q q' h => eQ_t (eQ_n h) fun p q q' h => eQ_t (eQ_s h) fun p q q' h => eQ_t (eQ_n h) fun p q q' h => eQ_t (eQ_s h) fun p q q' h => eQ_t (eQ_n h) fun p q q' h => eQ_t (eQ_s h) fun p q q' h => eQ_n h
      · split
        · exact eQ_t (eQ_n (fun j hj => absurd hj (by omega))) fun p q q' h => eQ_t (eQ_s h) fun p q q' h => eQ_n h
        · split
          · exact eQ_n (fun j hj => absurd hj (by omega))
          · exact eQ_n (fun j hj => absurd hj (by omega))
  · exact ⟨rfl, rfl, fun h => absurd rfl h⟩
theorem tk_cg {r : Nat → Int32} {c : Int32} {q q' : Nat → Int32} (h : ∀ j, j < s_nc c → q j = q' j) : s_tk r c q = s_tk r c q' := by
  unfold s_tk s_nc at *
  split
  · rename_i e
    rw [if_pos e] at h
    rw [h 0 (by omega), h 1 (by omega), h 2 (by omega), h 3 (by omega)]
  · rename_i e
    rw [if_neg e] at h
    split
    · rename_i e2
      rw [if_pos e2] at h
      rw [h 0 (by omega), h 1 (by omega), h 2 (by omega), h 3 (by omega), h 4 (by omega)]
    · rename_i e2
      rw [if_neg e2] at h
      split
      · rename_i e3
        rw [if_pos e3] at h
        rw [h 0 (by omega), h 1 (by omega)]
      · rename_i e3
        rw [if_neg e3] at h
        rw [h 0 (by omega)]
/-- the counts of a row -/
def cB (r : Nat → Int32) : Prop := bd (r 0) 0 4 ∧ bd (r 1) 0 4 ∧ bd (r 2) 0 6
theorem cp_e {r q : Nat → Int32} {b : Nat} : ∀ {n j : Nat}, b + n ≤ j → s_cp r b q n j = r j := by
  intro n
  induction n with
  | zero => intro j _; rfl
  | succ n ih =>
    intro j hj
    show upd _ _ _ j = r j
    rw [ud_o (by omega)]
    exact ih (by omega)
theorem tk_ok {r : Nat → Int32} {c : Int32} {q : Nat → Int32} (h : cB r) : cB (s_tk r c q).2 ∧ ∀ j, 55 ≤ j → (s_tk r c q).2 j = r j := by
  obtain ⟨h0, h1, h2⟩ := h
  have e1 : (1 : Int32).toInt = 1 := rfl
  have e4 : (4 : Int32).toInt = 4 := rfl
  have e6 : (6 : Int32).toInt = 6 := rfl
  have t0 := tn_of h0.1
  have t1 := tn_of h1.1
  have t2 := tn_of h2.1
  have b02 := h0.2
  have b12 := h1.2
  have b22 := h2.2
  have b01 := h0.1
  have b11 := h1.1
  have b21 := h2.1
  have same : cB r ∧ ∀ j, 55 ≤ j → r j = r j := ⟨⟨h0, h1, h2⟩, fun _ _ => rfl⟩
  unfold s_tk
  split
  · split
    · exact same
    · split
      · exact same
      · split
        · exact same
        · split
          · exact same
          · rename_i z
            have z2 : ¬ (r 0).toInt = (4 : Int32).toInt := fun w => z (ti_eq.mpr w)
            show cB (upd (s_cp r (7 + 4 * tn (r 0)) q 4) 0 (r 0 + 1)) ∧ ∀ j, 55 ≤ j → upd (s_cp r (7 + 4 * tn (r 0)) q 4) 0 (r 0 + 1) j = r j
            refine ⟨⟨?_, ?_, ?_⟩, fun j hj => ?_⟩
            · rw [ud_s]; exact ⟨by rw [ti_add (by omega) (by omega)]; omega, by rw [ti_add (by omega) (by omega)]; omega⟩
            · rw [ud_o (by decide), cp_o (by omega)]; exact h1
            · rw [ud_o (by decide), cp_o (by omega)]; exact h2
            · rw [ud_o (by omega)]; exact cp_e (by omega)
  · split
    · split
      · exact same
      · split
        · split
          · exact same
          · split
            · exact same
            · split
              · exact same
              · split
                · exact same
                · rename_i z
                  have z2 : ¬ (r 1).toInt = (4 : Int32).toInt := fun w => z (ti_eq.mpr w)
                  show cB (upd (s_cp r (23 + 5 * tn (r 1)) q 5) 1 (r 1 + 1)) ∧ ∀ j, 55 ≤ j → upd (s_cp r (23 + 5 * tn (r 1)) q 5) 1 (r 1 + 1) j = r j
                  refine ⟨⟨?_, ?_, ?_⟩, fun j hj => ?_⟩
                  · rw [ud_o (by decide), cp_o (by omega)]; exact h0
                  · rw [ud_s]; exact ⟨by rw [ti_add (by omega) (by omega)]; omega, by rw [ti_add (by omega) (by omega)]; omega⟩
                  · rw [ud_o (by decide), cp_o (by omega)]; exact h2
                  · rw [ud_o (by omega)]; exact cp_e (by omega)
        · exact same
    · split
      · split
        · exact same
        · split
          · exact same
          · split
            · exact same
            · rename_i z
              have z2 : ¬ (r 2).toInt = (6 : Int32).toInt := fun w => z (ti_eq.mpr w)
              show cB (upd (s_cp r (43 + 2 * tn (r 2)) q 2) 2 (r 2 + 1)) ∧ ∀ j, 55 ≤ j → upd (s_cp r (43 + 2 * tn (r 2)) q 2) 2 (r 2 + 1) j = r j
              refine ⟨⟨?_, ?_, ?_⟩, fun j hj => ?_⟩
              · rw [ud_o (by decide), cp_o (by omega)]; exact h0
              · rw [ud_o (by decide), cp_o (by omega)]; exact h1
              · rw [ud_s]; exact ⟨by rw [ti_add (by omega) (by omega)]; omega, by rw [ti_add (by omega) (by omega)]; omega⟩
              · rw [ud_o (by omega)]; exact cp_e (by omega)
      · split
        · exact ⟨⟨by show bd (upd _ _ _ 0) _ _; rw [ud_o (by decide)]; exact h0, by show bd (upd _ _ _ 1) _ _; rw [ud_o (by decide)]; exact h1, by show bd (upd _ _ _ 2) _ _; rw [ud_o (by decide)]; exact h2⟩, fun j hj => by show upd _ _ _ j = _; rw [ud_o (by omega)]⟩
        · exact ⟨⟨by show bd (upd _ _ _ 0) _ _; rw [ud_o (by decide)]; exact h0, by show bd (upd _ _ _ 1) _ _; rw [ud_o (by decide)]; exact h1, by show bd (upd _ _ _ 2) _ _; rw [ud_o (by decide)]; exact h2⟩, fun j hj => by show upd _ _ _ j = _; rw [ud_o (by omega)]⟩
/-- the rest of a text is as statements are -/
def okT (T : Nat → Int32) (n p : Int32) : Prop := ∃ (f : Nat) (k : Int32), (s_r1 T n f p k).1 = 1
theorem okT_st {T : Nat → Int32} {n p : Int32} (h : okT T n p) : ¬ (s_st T n p (fun _ => 0)).1 = 0 ∧ ((s_st T n p (fun _ => 0)).2.1 < n → okT T n (s_st T n p (fun _ => 0)).2.1) := by
  obtain ⟨f, k, h2⟩ := h
  cases f with
  | zero => exact absurd h2 (show ¬ (0 : Int32) = 1 by decide)
  | succ f =>
    rw [s_r1] at h2
    by_cases e : (s_st T n p (fun _ => 0)).1 = 0
    · rw [if_pos e] at h2
      exact absurd h2 (show ¬ (0 : Int32) = 1 by decide)
    · rw [if_neg e] at h2
      refine ⟨e, fun w => ⟨f, k + 1, ?_⟩⟩
      rw [if_pos w] at h2
      exact h2
/-- what stays while room() reads -/
def wR (M M1 : mj_M) : Prop := (∀ k, k ≠ 63 → k ≠ 65 → k ≠ 67 → k ≠ 70 → M1 k = M k) ∧ ∀ j, j ≠ 9 → M1 63 j = M 63 j
theorem wR_w {M M1 M2 : mj_M} {p : Int32} {q : Nat → Int32} (h : wR M M1) (h2 : wP M1 M2 p q) : wR M M2 := ⟨fun k a b c d => (h2.2.2.1 k a d).trans (h.1 k a b c d), fun j a => (h2.2.2.2 j a).trans (h.2 j a)⟩
theorem wR_5 {M M1 M2 : mj_M} (h : wR M M1) (h2 : ∀ k, k ≠ 65 → M2 k = M1 k) : wR M M2 := ⟨fun k a b c d => (h2 k b).trans (h.1 k a b c d), fun j a => (congrFun (h2 63 (by decide)) j).trans (h.2 j a)⟩
theorem wR_c {M M1 : mj_M} (h : wR M M1) {f t : Nat} (ht : t = 65 ∨ t = 67) : wR M (mj_cp M1 f t) := by
  have e : ∀ k, k ≠ t → mj_cp M1 f t k = M1 k := fun k hk => by
    funext i
    unfold mj_cp
    rw [if_neg hk]
  refine ⟨fun k a b c d => (e k (by rcases ht with rfl | rfl <;> assumption)).trans (h.1 k a b c d), fun j a => ?_⟩
  rw [e 63 (by rcases ht with rfl | rfl <;> decide)]
  exact h.2 j a
theorem wR_9 {M M1 : mj_M} (h : wR M M1) (x : Int32) : wR M (mj_up M1 63 9 x) := ⟨fun k a b c d => by rw [up_ne a]; exact h.1 k a b c d, fun j a => by rw [up_s, ud_o a]; exact h.2 j a⟩
def C_M_reads : mj_C := (1, rk1, fun avs M => ma_r avs fun a => (a = 63 ∧ dT (M 69) (M 63 8) ∧ cB (M 65)), fun avs M r M' => ma_r avs fun a => (r = .inl (s_rd (M 69) (M 63 8) (M 65)).1 ∧ M' 65 = (s_rd (M 69) (M 63 8) (M 65)).2 ∧ wR M M'))
theorem rc_M_reads : ∀ avs M, C_M_reads.2.2.1 avs M → ∃ a r, avs = .inr a :: r ∧ mj_ob a = 7 := by
  intro avs M h
  obtain ⟨a, rfl, h⟩ := mc_r h
  exact ⟨_, _, rfl, by rw [h.1]; rfl⟩
set_option maxRecDepth 20000 in
set_option maxHeartbeats 2000000 in
theorem t_M_reads : mj_T yX7_reads cX7_reads 5 (some .int) 3 C_M_reads := by
  refine mj_T_of (own := 7) (rk := 1) [(137, C_M_lays), (192, C_M_sign), (264, C_M_readsStatement), (276, C_M_comes)] (by decide) rfl (by decide) ⟨rfl, rfl⟩ (List.forall_mem_cons.mpr ⟨mj_KS (own := 7) (nest := false) t_M_lays ⟨wc_X7_lays, wi_X7, by decide, wl_7_45⟩ wn_X7_lays (by decide +kernel) (by decide), (List.forall_mem_cons.mpr ⟨mj_KV (own := 7) (nest := false) t_M_sign ⟨wc_X7_sign, wi_X7, by decide, wl_7_64⟩ wn_X7_sign ws_X7_sign (c0 := 7) (by decide) rfl (by decide +kernel) rc_M_sign (by decide), (List.forall_mem_cons.mpr ⟨mj_KV (own := 7) (nest := false) t_M_readsStatement ⟨wc_X7_readsStatement, wi_X7, by decide, wl_7_88⟩ wn_X7_readsStatement ws_X7_readsStatement (c0 := 7) (by decide) rfl (by decide +kernel) rc_M_readsStatement (by decide), (List.forall_mem_cons.mpr ⟨mj_KV (own := 7) (nest := false) t_M_comes ⟨wc_X7_comes, wi_X7, by decide, wl_7_92⟩ wn_X7_comes ws_X7_comes (c0 := 7) (by decide) rfl (by decide +kernel) rc_M_comes (by decide), (fun _ h => absurd h List.not_mem_nil)⟩)⟩)⟩)⟩) ?_
  intro avs M hlen hpre V hV
  obtain ⟨a, rfl, hp⟩ := mc_r hpre
  show V 0 [some (.inr a), none, none, none, none] [] M
  have b_0 := hV h_X7_reads_0; have b_7 := hV h_X7_reads_7; have b_23 := hV h_X7_reads_23; have b_53 := hV h_X7_reads_53; have b_105 := hV h_X7_reads_105; have b_108 := hV h_X7_reads_108
  clear hlen hpre hV
  obtain ⟨rfl, hT, hB⟩ := hp
  have hn := hT.1.2
  have e1 : (1 : Int32).toInt = 1 := rfl
  have loop2 : ∀ (f : Nat) (k : Int32) (M1 : mj_M) (L2 L3 L4 : Option mj_V), wR M M1 → 0 ≤ (M1 63 9).toInt → (M1 63 9).toInt ≤ (M 63 8).toInt → (M 63 8).toInt - (M1 63 9).toInt < f → s_r1 (M 69) (M 63 8) 97 0 0 = (1, k) → s_r2 (M 69) (M 63 8) f (M1 63 9) (M1 65) = s_r2 (M 69) (M 63 8) 97 0 (M 65) → cB (M1 65) → (∀ j, 55 ≤ j → M1 65 j = M 65 j) → (∀ j, j < 55 → M1 67 j = M 65 j) → (M1 63 9 < M 63 8 → okT (M 69) (M 63 8) (M1 63 9)) → V 53 [some (.inr 63), some (.inl k), L2, L3, L4] [] M1 := by
    intro f
    induction f with
    | zero =>
      intro k M1 L2 L3 L4 hw h0 h1 hf
      omega
    | succ f ih =>
      intro k M1 L2 L3 L4 hw h0 h1 hf hr1 hr2 hc h55 h67 hok
      have e8 : M1 63 8 = M 63 8 := hw.2 8 (by decide)
      have e69 : M1 69 = M 69 := hw.1 69 (by decide) (by decide) (by decide) (by decide)
      (refine b_53 _ _ _ ?_; simp only [k_X7_reads_0, k_X7_reads_7, k_X7_reads_23, k_X7_reads_53, k_X7_reads_105, k_X7_reads_108, xp_1, xp_2, xp_3, xp_4, xp_5, xp_6, xp_7, xp_10, xp_11, xp_12, xp_13, xp_14, xp_15, xp_16, xp_17, xp_18, xp_19, xp_20, xp_21, xp_22, xp_23, xp_30, xp_31, xp_32, xp_33, xp_34, xp_35, xp_36, xp_37, xp_38, xp_39, xp_40, xp_41, xp_42, xp_43, xp_50, xp_51, xp_52, xp_53, xp_60, xp_61, xp_62, xp_63, xp_64, xp_65, xp_70, xp_80, xp_81, xp_82, up_ne, up_s, ud_s, ud_o, xw_0, xw_1, xg_0, xg_1, xl_i, xl_r, xs_0, xs_1, xq_i, xq_r, xq_v, xc_0, xc_1, xt_0, xt_1, xr_0, xr_1, xr_2, xe_0, xe_1, ob_0, ob_18, ob_36, ob_54, ak_55, ln_55, cq_55, ak_56, ln_56, cq_56, ob_57, ak_58, ln_58, cq_58, ak_59, ln_59, cq_59, ob_60, ak_61, ln_61, cq_61, ak_62, ln_62, cq_62, ob_63, ak_64, ln_64, cq_64, ak_65, ln_65, cq_65, ak_66, ln_66, cq_66, ak_67, ln_67, cq_67, ak_68, ln_68, cq_68, ak_69, ln_69, cq_69, ak_70, ln_70, cq_70, ak_71, ln_71, cq_71, ak_72, ln_72, cq_72, ak_73, ln_73, cq_73, pt_54_0, pt_54_1, pt_57_0, pt_57_3, pt_60_0, pt_60_1, pt_60_2, pt_60_4, pt_60_5, pt_60_6, pt_60_8, pt_63_0, pt_63_1, pt_63_2, pt_63_3, pt_63_4, pt_63_6, pt_63_7, pt_63_10, pt_63_11, pt_63_17, true_and, and_true, List.length_cons, List.length_nil, Nat.reduceAdd, Nat.reduceLeDiff, forall_eq, ne_eq, Nat.reduceEqDiff, not_false_eq_true, or_false, false_or, or_true, true_or, reduceCtorEq, Nat.zero_le, Nat.reduceMul, Nat.add_zero, false_and, and_false, false_implies, true_implies, forall_const, implies_true, List.append_nil, List.nil_append, List.cons_append, mb_i, mb_ii, mb_iii, mb_r, mb_ri, mb_rii, mb_riii, mb_rr, mb_rri, mb_rrii, mb_rriii, mb_riiiii, mb_rrr, mb_rir, mb_iiii, mb_riiii, tn_0, tn_1, tn_2, tn_3, tn_4, tn_5, tn_6, tc_0, tc_1, tc_2, tc_3, tc_4, tc_5, tc_6, xf_0, xf_1, xf_2, Sum.inl.injEq, Sum.inr.injEq, C_M_comes, C_M_lays, C_M_reads, C_M_readsStatement, C_M_sign])
      rw [e8, e69]
      refine ⟨fun hge => ?_, fun hlt => ?_⟩
      · (refine b_108 _ _ _ ?_; simp only [k_X7_reads_0, k_X7_reads_7, k_X7_reads_23, k_X7_reads_53, k_X7_reads_105, k_X7_reads_108, xp_1, xp_2, xp_3, xp_4, xp_5, xp_6, xp_7, xp_10, xp_11, xp_12, xp_13, xp_14, xp_15, xp_16, xp_17, xp_18, xp_19, xp_20, xp_21, xp_22, xp_23, xp_30, xp_31, xp_32, xp_33, xp_34, xp_35, xp_36, xp_37, xp_38, xp_39, xp_40, xp_41, xp_42, xp_43, xp_50, xp_51, xp_52, xp_53, xp_60, xp_61, xp_62, xp_63, xp_64, xp_65, xp_70, xp_80, xp_81, xp_82, up_ne, up_s, ud_s, ud_o, xw_0, xw_1, xg_0, xg_1, xl_i, xl_r, xs_0, xs_1, xq_i, xq_r, xq_v, xc_0, xc_1, xt_0, xt_1, xr_0, xr_1, xr_2, xe_0, xe_1, ob_0, ob_18, ob_36, ob_54, ak_55, ln_55, cq_55, ak_56, ln_56, cq_56, ob_57, ak_58, ln_58, cq_58, ak_59, ln_59, cq_59, ob_60, ak_61, ln_61, cq_61, ak_62, ln_62, cq_62, ob_63, ak_64, ln_64, cq_64, ak_65, ln_65, cq_65, ak_66, ln_66, cq_66, ak_67, ln_67, cq_67, ak_68, ln_68, cq_68, ak_69, ln_69, cq_69, ak_70, ln_70, cq_70, ak_71, ln_71, cq_71, ak_72, ln_72, cq_72, ak_73, ln_73, cq_73, pt_54_0, pt_54_1, pt_57_0, pt_57_3, pt_60_0, pt_60_1, pt_60_2, pt_60_4, pt_60_5, pt_60_6, pt_60_8, pt_63_0, pt_63_1, pt_63_2, pt_63_3, pt_63_4, pt_63_6, pt_63_7, pt_63_10, pt_63_11, pt_63_17, true_and, and_true, List.length_cons, List.length_nil, Nat.reduceAdd, Nat.reduceLeDiff, forall_eq, ne_eq, Nat.reduceEqDiff, not_false_eq_true, or_false, false_or, or_true, true_or, reduceCtorEq, Nat.zero_le, Nat.reduceMul, Nat.add_zero, false_and, and_false, false_implies, true_implies, forall_const, implies_true, List.append_nil, List.nil_append, List.cons_append, mb_i, mb_ii, mb_iii, mb_r, mb_ri, mb_rii, mb_riii, mb_rr, mb_rri, mb_rrii, mb_rriii, mb_riiiii, mb_rrr, mb_rir, mb_iiii, mb_riiii, tn_0, tn_1, tn_2, tn_3, tn_4, tn_5, tn_6, tc_0, tc_1, tc_2, tc_3, tc_4, tc_5, tc_6, xf_0, xf_1, xf_2, Sum.inl.injEq, Sum.inr.injEq, C_M_comes, C_M_lays, C_M_reads, C_M_readsStatement, C_M_sign])
        have z : s_rd (M 69) (M 63 8) (M 65) = (k, M1 65) := by
          unfold s_rd
          rw [hr1, ← hr2, s_r2, if_neg hge]
          rfl
        rw [z]
        exact ⟨rfl, rfl, hw⟩
      · have ho := okT_st (hok hlt)
        have hlt2 := hlt
        rw [ti_lt] at hlt2
        have hp : pP M1 := ⟨by rw [e69, e8]; exact hT, h0, by rw [e8]; exact h1⟩
        refine ⟨⟨hT.1, h0⟩, hp, fun x M2 hx => ?_⟩
        obtain ⟨hx, hw2⟩ := hx
        obtain ⟨q1, q2, q3⟩ := eQ_st (T := M 69) (n := M 63 8) (p := M1 63 9) (q := M1 70) (q' := fun _ => 0)
        have st := st_p (T := M 69) (n := M 63 8) (p := M1 63 9) (q := fun _ => 0) hT h0 h1
        have hne := ho.1
        have hpr : (M1 63 9).toInt < (s_st (M 69) (M 63 8) (M1 63 9) (fun _ => 0)).2.1.toInt := st.2.resolve_left hne
        have hwM2 := wR_w hw hw2
        have e65 : M2 65 = M1 65 := hw2.2.2.1 65 (by decide) (by decide)
        have e67 : M2 67 = M1 67 := hw2.2.2.1 67 (by decide) (by decide)
        have e70 : M2 70 = (s_st (M 69) (M 63 8) (M1 63 9) (M1 70)).2.2 := hw2.2.1
        have e9 : M2 63 9 = (s_st (M 69) (M 63 8) (M1 63 9) (fun _ => 0)).2.1 := hw2.1.trans q2
        refine ⟨by rw [e65]; exact hc, fun y M3 hy => ?_⟩
        obtain ⟨hy, hy65, hyk⟩ := hy
        have etk : s_tk (M2 65) (s_sg (M 69) (M 63 8) (M1 63 9)) (M2 70) = s_tk (M1 65) (s_sg (M 69) (M 63 8) (M1 63 9)) (s_st (M 69) (M 63 8) (M1 63 9) (fun _ => 0)).2.2 := by
          rw [e65, e70]
          exact tk_cg (q3 (by rw [q1]; exact hne))
        rw [etk] at hy hy65
        have hw3 := wR_5 hwM2 hyk
        have e67' : M3 67 = M1 67 := (hyk 67 (by decide)).trans e67
        have e9' : M3 63 9 = (s_st (M 69) (M 63 8) (M1 63 9) (fun _ => 0)).2.1 := (congrFun (hyk 63 (by decide)) 9).trans e9
        have hk := tk_ok (c := s_sg (M 69) (M 63 8) (M1 63 9)) (q := (s_st (M 69) (M 63 8) (M1 63 9) (fun _ => 0)).2.2) hc
        rw [s_r2, if_pos hlt] at hr2
        refine ⟨fun hy0 => ?_, fun hy0 => ?_⟩
        · (refine b_105 _ _ _ ?_; simp only [k_X7_reads_0, k_X7_reads_7, k_X7_reads_23, k_X7_reads_53, k_X7_reads_105, k_X7_reads_108, xp_1, xp_2, xp_3, xp_4, xp_5, xp_6, xp_7, xp_10, xp_11, xp_12, xp_13, xp_14, xp_15, xp_16, xp_17, xp_18, xp_19, xp_20, xp_21, xp_22, xp_23, xp_30, xp_31, xp_32, xp_33, xp_34, xp_35, xp_36, xp_37, xp_38, xp_39, xp_40, xp_41, xp_42, xp_43, xp_50, xp_51, xp_52, xp_53, xp_60, xp_61, xp_62, xp_63, xp_64, xp_65, xp_70, xp_80, xp_81, xp_82, up_ne, up_s, ud_s, ud_o, xw_0, xw_1, xg_0, xg_1, xl_i, xl_r, xs_0, xs_1, xq_i, xq_r, xq_v, xc_0, xc_1, xt_0, xt_1, xr_0, xr_1, xr_2, xe_0, xe_1, ob_0, ob_18, ob_36, ob_54, ak_55, ln_55, cq_55, ak_56, ln_56, cq_56, ob_57, ak_58, ln_58, cq_58, ak_59, ln_59, cq_59, ob_60, ak_61, ln_61, cq_61, ak_62, ln_62, cq_62, ob_63, ak_64, ln_64, cq_64, ak_65, ln_65, cq_65, ak_66, ln_66, cq_66, ak_67, ln_67, cq_67, ak_68, ln_68, cq_68, ak_69, ln_69, cq_69, ak_70, ln_70, cq_70, ak_71, ln_71, cq_71, ak_72, ln_72, cq_72, ak_73, ln_73, cq_73, pt_54_0, pt_54_1, pt_57_0, pt_57_3, pt_60_0, pt_60_1, pt_60_2, pt_60_4, pt_60_5, pt_60_6, pt_60_8, pt_63_0, pt_63_1, pt_63_2, pt_63_3, pt_63_4, pt_63_6, pt_63_7, pt_63_10, pt_63_11, pt_63_17, true_and, and_true, List.length_cons, List.length_nil, Nat.reduceAdd, Nat.reduceLeDiff, forall_eq, ne_eq, Nat.reduceEqDiff, not_false_eq_true, or_false, false_or, or_true, true_or, reduceCtorEq, Nat.zero_le, Nat.reduceMul, Nat.add_zero, false_and, and_false, false_implies, true_implies, forall_const, implies_true, List.append_nil, List.nil_append, List.cons_append, mb_i, mb_ii, mb_iii, mb_r, mb_ri, mb_rii, mb_riii, mb_rr, mb_rri, mb_rrii, mb_rriii, mb_riiiii, mb_rrr, mb_rir, mb_iiii, mb_riiii, tn_0, tn_1, tn_2, tn_3, tn_4, tn_5, tn_6, tc_0, tc_1, tc_2, tc_3, tc_4, tc_5, tc_6, xf_0, xf_1, xf_2, Sum.inl.injEq, Sum.inr.injEq, C_M_comes, C_M_lays, C_M_reads, C_M_readsStatement, C_M_sign])
          rw [if_neg (fun z => hy0 (hy.trans z))] at hr2
          refine ih k M3 _ _ _ hw3 ?_ ?_ ?_ hr1 ?_ ?_ ?_ ?_ ?_
          · rw [e9']; omega
          · rw [e9']; exact st.1.2
          · rw [e9']; omega
          · rw [e9', hy65]; exact hr2
          · rw [hy65]; exact hk.1
          · intro j hj
            rw [hy65, hk.2 j hj]
            exact h55 j hj
          · intro j hj
            rw [e67']
            exact h67 j hj
          · rw [e9']
            exact ho.2
        · rw [if_pos (hy.symm.trans hy0)] at hr2
          have z : s_rd (M 69) (M 63 8) (M 65) = (-2000 - M1 63 9, M 65) := by
            unfold s_rd
            rw [hr1, ← hr2]
            rfl
          rw [z]
          refine ⟨rfl, ?_, wR_c hw3 (Or.inl rfl)⟩
          funext j
          unfold mj_cp
          rw [if_pos rfl, e67']
          by_cases hj : j < 55
          · rw [if_pos hj]
            exact h67 j hj
          · rw [if_neg hj, hy65, hk.2 j (by omega)]
            exact h55 j (by omega)
  have loop1 : ∀ (f : Nat) (k : Int32) (M1 : mj_M) (L2 L3 L4 : Option mj_V), wR M M1 → 0 ≤ (M1 63 9).toInt → (M1 63 9).toInt ≤ (M 63 8).toInt → (M 63 8).toInt - (M1 63 9).toInt < f → s_r1 (M 69) (M 63 8) f (M1 63 9) k = s_r1 (M 69) (M 63 8) 97 0 0 → M1 65 = M 65 → ((s_r1 (M 69) (M 63 8) f (M1 63 9) k).1 = 1 → okT (M 69) (M 63 8) 0) → V 7 [some (.inr 63), some (.inl k), L2, L3, L4] [] M1 := by
    intro f
    induction f with
    | zero =>
      intro k M1 L2 L3 L4 hw h0 h1 hf
      omega
    | succ f ih =>
      intro k M1 L2 L3 L4 hw h0 h1 hf hr1 h65 hok
      have e8 : M1 63 8 = M 63 8 := hw.2 8 (by decide)
      have e69 : M1 69 = M 69 := hw.1 69 (by decide) (by decide) (by decide) (by decide)
      have hp : pP M1 := ⟨by rw [e69, e8]; exact hT, h0, by rw [e8]; exact h1⟩
      obtain ⟨q1, q2, q3⟩ := eQ_st (T := M 69) (n := M 63 8) (p := M1 63 9) (q := M1 70) (q' := fun _ => 0)
      have st := st_p (T := M 69) (n := M 63 8) (p := M1 63 9) (q := fun _ => 0) hT h0 h1
      (refine b_7 _ _ _ ?_; simp only [k_X7_reads_0, k_X7_reads_7, k_X7_reads_23, k_X7_reads_53, k_X7_reads_105, k_X7_reads_108, xp_1, xp_2, xp_3, xp_4, xp_5, xp_6, xp_7, xp_10, xp_11, xp_12, xp_13, xp_14, xp_15, xp_16, xp_17, xp_18, xp_19, xp_20, xp_21, xp_22, xp_23, xp_30, xp_31, xp_32, xp_33, xp_34, xp_35, xp_36, xp_37, xp_38, xp_39, xp_40, xp_41, xp_42, xp_43, xp_50, xp_51, xp_52, xp_53, xp_60, xp_61, xp_62, xp_63, xp_64, xp_65, xp_70, xp_80, xp_81, xp_82, up_ne, up_s, ud_s, ud_o, xw_0, xw_1, xg_0, xg_1, xl_i, xl_r, xs_0, xs_1, xq_i, xq_r, xq_v, xc_0, xc_1, xt_0, xt_1, xr_0, xr_1, xr_2, xe_0, xe_1, ob_0, ob_18, ob_36, ob_54, ak_55, ln_55, cq_55, ak_56, ln_56, cq_56, ob_57, ak_58, ln_58, cq_58, ak_59, ln_59, cq_59, ob_60, ak_61, ln_61, cq_61, ak_62, ln_62, cq_62, ob_63, ak_64, ln_64, cq_64, ak_65, ln_65, cq_65, ak_66, ln_66, cq_66, ak_67, ln_67, cq_67, ak_68, ln_68, cq_68, ak_69, ln_69, cq_69, ak_70, ln_70, cq_70, ak_71, ln_71, cq_71, ak_72, ln_72, cq_72, ak_73, ln_73, cq_73, pt_54_0, pt_54_1, pt_57_0, pt_57_3, pt_60_0, pt_60_1, pt_60_2, pt_60_4, pt_60_5, pt_60_6, pt_60_8, pt_63_0, pt_63_1, pt_63_2, pt_63_3, pt_63_4, pt_63_6, pt_63_7, pt_63_10, pt_63_11, pt_63_17, true_and, and_true, List.length_cons, List.length_nil, Nat.reduceAdd, Nat.reduceLeDiff, forall_eq, ne_eq, Nat.reduceEqDiff, not_false_eq_true, or_false, false_or, or_true, true_or, reduceCtorEq, Nat.zero_le, Nat.reduceMul, Nat.add_zero, false_and, and_false, false_implies, true_implies, forall_const, implies_true, List.append_nil, List.nil_append, List.cons_append, mb_i, mb_ii, mb_iii, mb_r, mb_ri, mb_rii, mb_riii, mb_rr, mb_rri, mb_rrii, mb_rriii, mb_riiiii, mb_rrr, mb_rir, mb_iiii, mb_riiii, tn_0, tn_1, tn_2, tn_3, tn_4, tn_5, tn_6, tc_0, tc_1, tc_2, tc_3, tc_4, tc_5, tc_6, xf_0, xf_1, xf_2, Sum.inl.injEq, Sum.inr.injEq, C_M_comes, C_M_lays, C_M_reads, C_M_readsStatement, C_M_sign])
      rw [e8, e69]
      refine ⟨hp, fun x M2 hx => ?_⟩
      obtain ⟨hx, hw2⟩ := hx
      have hwM2 := wR_w hw hw2
      have e65 : M2 65 = M 65 := (hw2.2.2.1 65 (by decide) (by decide)).trans h65
      have e9 : M2 63 9 = (s_st (M 69) (M 63 8) (M1 63 9) (fun _ => 0)).2.1 := hw2.1.trans q2
      have e8' : M2 63 8 = M 63 8 := hwM2.2 8 (by decide)
      rw [s_r1] at hr1 hok
      refine ⟨fun hx0 => ?_, fun hx0 => ?_⟩
      · have hne : ¬ (s_st (M 69) (M 63 8) (M1 63 9) (fun _ => 0)).1 = 0 := by
          rw [← q1, ← hx]
          exact hx0
        have hpr := st.2.resolve_left hne
        rw [if_neg hne] at hr1 hok
        (refine b_23 _ _ _ ?_; simp only [k_X7_reads_0, k_X7_reads_7, k_X7_reads_23, k_X7_reads_53, k_X7_reads_105, k_X7_reads_108, xp_1, xp_2, xp_3, xp_4, xp_5, xp_6, xp_7, xp_10, xp_11, xp_12, xp_13, xp_14, xp_15, xp_16, xp_17, xp_18, xp_19, xp_20, xp_21, xp_22, xp_23, xp_30, xp_31, xp_32, xp_33, xp_34, xp_35, xp_36, xp_37, xp_38, xp_39, xp_40, xp_41, xp_42, xp_43, xp_50, xp_51, xp_52, xp_53, xp_60, xp_61, xp_62, xp_63, xp_64, xp_65, xp_70, xp_80, xp_81, xp_82, up_ne, up_s, ud_s, ud_o, xw_0, xw_1, xg_0, xg_1, xl_i, xl_r, xs_0, xs_1, xq_i, xq_r, xq_v, xc_0, xc_1, xt_0, xt_1, xr_0, xr_1, xr_2, xe_0, xe_1, ob_0, ob_18, ob_36, ob_54, ak_55, ln_55, cq_55, ak_56, ln_56, cq_56, ob_57, ak_58, ln_58, cq_58, ak_59, ln_59, cq_59, ob_60, ak_61, ln_61, cq_61, ak_62, ln_62, cq_62, ob_63, ak_64, ln_64, cq_64, ak_65, ln_65, cq_65, ak_66, ln_66, cq_66, ak_67, ln_67, cq_67, ak_68, ln_68, cq_68, ak_69, ln_69, cq_69, ak_70, ln_70, cq_70, ak_71, ln_71, cq_71, ak_72, ln_72, cq_72, ak_73, ln_73, cq_73, pt_54_0, pt_54_1, pt_57_0, pt_57_3, pt_60_0, pt_60_1, pt_60_2, pt_60_4, pt_60_5, pt_60_6, pt_60_8, pt_63_0, pt_63_1, pt_63_2, pt_63_3, pt_63_4, pt_63_6, pt_63_7, pt_63_10, pt_63_11, pt_63_17, true_and, and_true, List.length_cons, List.length_nil, Nat.reduceAdd, Nat.reduceLeDiff, forall_eq, ne_eq, Nat.reduceEqDiff, not_false_eq_true, or_false, false_or, or_true, true_or, reduceCtorEq, Nat.zero_le, Nat.reduceMul, Nat.add_zero, false_and, and_false, false_implies, true_implies, forall_const, implies_true, List.append_nil, List.nil_append, List.cons_append, mb_i, mb_ii, mb_iii, mb_r, mb_ri, mb_rii, mb_riii, mb_rr, mb_rri, mb_rrii, mb_rriii, mb_riiiii, mb_rrr, mb_rir, mb_iiii, mb_riiii, tn_0, tn_1, tn_2, tn_3, tn_4, tn_5, tn_6, tc_0, tc_1, tc_2, tc_3, tc_4, tc_5, tc_6, xf_0, xf_1, xf_2, Sum.inl.injEq, Sum.inr.injEq, C_M_comes, C_M_lays, C_M_reads, C_M_readsStatement, C_M_sign])
        rw [e8', e9]
        refine ⟨fun hlt => ?_, fun hge => ?_⟩
        · rw [if_pos hlt] at hr1 hok
          refine ih _ M2 _ _ _ hwM2 ?_ ?_ ?_ ?_ e65 ?_
          · rw [e9]; omega
          · rw [e9]; exact st.1.2
          · rw [e9]; omega
          · rw [e9]; exact hr1
          · rw [e9]; exact hok
        · rw [if_neg hge] at hr1 hok
          have hok := hok rfl
          have z9 : mj_up (mj_cp M2 65 67) 63 9 0 63 9 = 0 := by rw [up_s, ud_s]
          have z65 : mj_up (mj_cp M2 65 67) 63 9 0 65 = M 65 := by
            rw [up_ne (by decide), ← e65]
            rfl
          have z0 : (0 : Int32).toInt = 0 := rfl
          have hn0 := hT.1.1
          refine loop2 97 _ _ _ _ _ (wR_9 (wR_c hwM2 (Or.inr rfl)) 0) ?_ ?_ ?_ hr1.symm ?_ ?_ ?_ ?_ ?_
          · rw [z9]; decide
          · rw [z9]; omega
          · rw [z9]; omega
          · rw [z9, z65]
          · rw [z65]; exact hB
          · intro j _
            rw [z65]
          · intro j hj
            rw [up_ne (by decide)]
            show (if 67 = 67 then (if j < 55 then M2 65 j else M2 67 j) else M2 67 j) = M 65 j
            rw [if_pos rfl, if_pos hj, e65]
          · intro _
            rw [z9]
            exact hok
      · have he : (s_st (M 69) (M 63 8) (M1 63 9) (fun _ => 0)).1 = 0 := by
          rw [← q1, ← hx]
          exact hx0
        rw [if_pos he] at hr1
        have z : s_rd (M 69) (M 63 8) (M 65) = (-1000 - (s_st (M 69) (M 63 8) (M1 63 9) (fun _ => 0)).2.1, M 65) := by
          unfold s_rd
          rw [← hr1]
          rfl
        rw [z, e9]
        exact ⟨rfl, e65, hwM2⟩
  (refine b_0 _ _ _ ?_; simp only [k_X7_reads_0, k_X7_reads_7, k_X7_reads_23, k_X7_reads_53, k_X7_reads_105, k_X7_reads_108, xp_1, xp_2, xp_3, xp_4, xp_5, xp_6, xp_7, xp_10, xp_11, xp_12, xp_13, xp_14, xp_15, xp_16, xp_17, xp_18, xp_19, xp_20, xp_21, xp_22, xp_23, xp_30, xp_31, xp_32, xp_33, xp_34, xp_35, xp_36, xp_37, xp_38, xp_39, xp_40, xp_41, xp_42, xp_43, xp_50, xp_51, xp_52, xp_53, xp_60, xp_61, xp_62, xp_63, xp_64, xp_65, xp_70, xp_80, xp_81, xp_82, up_ne, up_s, ud_s, ud_o, xw_0, xw_1, xg_0, xg_1, xl_i, xl_r, xs_0, xs_1, xq_i, xq_r, xq_v, xc_0, xc_1, xt_0, xt_1, xr_0, xr_1, xr_2, xe_0, xe_1, ob_0, ob_18, ob_36, ob_54, ak_55, ln_55, cq_55, ak_56, ln_56, cq_56, ob_57, ak_58, ln_58, cq_58, ak_59, ln_59, cq_59, ob_60, ak_61, ln_61, cq_61, ak_62, ln_62, cq_62, ob_63, ak_64, ln_64, cq_64, ak_65, ln_65, cq_65, ak_66, ln_66, cq_66, ak_67, ln_67, cq_67, ak_68, ln_68, cq_68, ak_69, ln_69, cq_69, ak_70, ln_70, cq_70, ak_71, ln_71, cq_71, ak_72, ln_72, cq_72, ak_73, ln_73, cq_73, pt_54_0, pt_54_1, pt_57_0, pt_57_3, pt_60_0, pt_60_1, pt_60_2, pt_60_4, pt_60_5, pt_60_6, pt_60_8, pt_63_0, pt_63_1, pt_63_2, pt_63_3, pt_63_4, pt_63_6, pt_63_7, pt_63_10, pt_63_11, pt_63_17, true_and, and_true, List.length_cons, List.length_nil, Nat.reduceAdd, Nat.reduceLeDiff, forall_eq, ne_eq, Nat.reduceEqDiff, not_false_eq_true, or_false, false_or, or_true, true_or, reduceCtorEq, Nat.zero_le, Nat.reduceMul, Nat.add_zero, false_and, and_false, false_implies, true_implies, forall_const, implies_true, List.append_nil, List.nil_append, List.cons_append, mb_i, mb_ii, mb_iii, mb_r, mb_ri, mb_rii, mb_riii, mb_rr, mb_rri, mb_rrii, mb_rriii, mb_riiiii, mb_rrr, mb_rir, mb_iiii, mb_riiii, tn_0, tn_1, tn_2, tn_3, tn_4, tn_5, tn_6, tc_0, tc_1, tc_2, tc_3, tc_4, tc_5, tc_6, xf_0, xf_1, xf_2, Sum.inl.injEq, Sum.inr.injEq, C_M_comes, C_M_lays, C_M_reads, C_M_readsStatement, C_M_sign])
  have z9 : mj_up M 63 9 0 63 9 = 0 := by rw [up_s, ud_s]
  have z0 : (0 : Int32).toInt = 0 := rfl
  have hn0 := hT.1.1
  refine loop1 97 0 _ _ _ _ (wR_9 ⟨fun _ _ _ _ _ => rfl, fun _ _ => rfl⟩ 0) ?_ ?_ ?_ ?_ ?_ ?_
  · rw [z9]; decide
  · rw [z9]; omega
  · rw [z9]; omega
  · rw [z9]
  · rw [up_ne (by decide)]
  · intro h
    rw [z9] at h
    exact ⟨97, 0, h⟩

def C_M_room : mj_C := (1, rk1, fun avs M => ma_r avs fun a => (a = 63 ∧ dS (mS M)), fun avs M r M' => ma_r avs fun a => (r = .inl (F_room (mS M)).1 ∧ mS M' = (F_room (mS M)).2 ∧ fr1 M M'))
theorem rc_M_room : ∀ avs M, C_M_room.2.2.1 avs M → ∃ a r, avs = .inr a :: r ∧ mj_ob a = 7 := by
  intro avs M h
  obtain ⟨a, rfl, h⟩ := mc_r h
  exact ⟨_, _, rfl, by rw [h.1]; rfl⟩
set_option maxRecDepth 20000 in
set_option maxHeartbeats 2000000 in
theorem t_M_room : mj_T yX7_room cX7_room 2 (some .int) 4 C_M_room := by
  refine mj_T_of (own := 7) (rk := 1) [(285, C_M_reads)] (by decide) rfl (by decide) ⟨rfl, rfl⟩ (List.forall_mem_cons.mpr ⟨mj_KV (own := 7) (nest := false) t_M_reads ⟨wc_X7_reads, wi_X7, by decide, wl_7_95⟩ wn_X7_reads ws_X7_reads (c0 := 7) (by decide) rfl (by decide +kernel) rc_M_reads (by decide), (fun _ h => absurd h List.not_mem_nil)⟩) ?_
  intro avs M hlen hpre V hV
  obtain ⟨a, rfl, hp⟩ := mc_r hpre
  show V 0 [some (.inr a), none] [] M
  have b_0 := hV h_X7_room_0
  clear hlen hpre hV
  obtain ⟨rfl, hd⟩ := hp
  (refine b_0 _ _ _ ?_; simp only [k_X7_room_0, xp_1, xp_2, xp_3, xp_4, xp_5, xp_6, xp_7, xp_10, xp_11, xp_12, xp_13, xp_14, xp_15, xp_16, xp_17, xp_18, xp_19, xp_20, xp_21, xp_22, xp_23, xp_30, xp_31, xp_32, xp_33, xp_34, xp_35, xp_36, xp_37, xp_38, xp_39, xp_40, xp_41, xp_42, xp_43, xp_50, xp_51, xp_52, xp_53, xp_60, xp_61, xp_62, xp_63, xp_64, xp_65, xp_70, xp_80, xp_81, xp_82, up_ne, up_s, ud_s, ud_o, xw_0, xw_1, xg_0, xg_1, xl_i, xl_r, xs_0, xs_1, xq_i, xq_r, xq_v, xc_0, xc_1, xt_0, xt_1, xr_0, xr_1, xr_2, xe_0, xe_1, ob_0, ob_18, ob_36, ob_54, ak_55, ln_55, cq_55, ak_56, ln_56, cq_56, ob_57, ak_58, ln_58, cq_58, ak_59, ln_59, cq_59, ob_60, ak_61, ln_61, cq_61, ak_62, ln_62, cq_62, ob_63, ak_64, ln_64, cq_64, ak_65, ln_65, cq_65, ak_66, ln_66, cq_66, ak_67, ln_67, cq_67, ak_68, ln_68, cq_68, ak_69, ln_69, cq_69, ak_70, ln_70, cq_70, ak_71, ln_71, cq_71, ak_72, ln_72, cq_72, ak_73, ln_73, cq_73, pt_54_0, pt_54_1, pt_57_0, pt_57_3, pt_60_0, pt_60_1, pt_60_2, pt_60_4, pt_60_5, pt_60_6, pt_60_8, pt_63_0, pt_63_1, pt_63_2, pt_63_3, pt_63_4, pt_63_6, pt_63_7, pt_63_10, pt_63_11, pt_63_17, true_and, and_true, List.length_cons, List.length_nil, Nat.reduceAdd, Nat.reduceLeDiff, forall_eq, ne_eq, Nat.reduceEqDiff, not_false_eq_true, or_false, false_or, or_true, true_or, reduceCtorEq, Nat.zero_le, Nat.reduceMul, Nat.add_zero, false_and, and_false, false_implies, true_implies, forall_const, implies_true, List.append_nil, List.nil_append, List.cons_append, mb_i, mb_ii, mb_iii, mb_r, mb_ri, mb_rii, mb_riii, mb_rr, mb_rri, mb_rrii, mb_rriii, mb_riiiii, mb_rrr, mb_rir, mb_iiii, mb_riiii, tn_0, tn_1, tn_2, tn_3, tn_4, tn_5, tn_6, tc_0, tc_1, tc_2, tc_3, tc_4, tc_5, tc_6, xf_0, xf_1, xf_2, Sum.inl.injEq, Sum.inr.injEq, C_M_reads, C_M_room])
  have hT : dT (M 69) (M 63 8) := ⟨hd.2.2.2.1, hd.2.2.2.2.1⟩
  have hB : cB (M 65) := ⟨hd.1.1, hd.1.2.1, hd.1.2.2.1⟩
  refine ⟨⟨hT, hB⟩, fun x M2 hx => ?_⟩
  obtain ⟨hx, h65, hw⟩ := hx
  refine ⟨hx, ?_, fun k hk => ?_⟩
  · refine mS_ext ?_ ?_ ?_ ?_ ?_ ?_ ?_ ?_ (fun j => ?_) (fun c j => ?_)
    · rw [up_ne (by decide)]; exact h65
    · rw [up_ne (by decide)]; exact hw.1 66 (by decide) (by decide) (by decide) (by decide)
    · rw [up_ne (by decide)]; exact hw.1 69 (by decide) (by decide) (by decide) (by decide)
    · rw [up_ne (by decide)]; exact hw.1 73 (by decide) (by decide) (by decide) (by decide)
    · rw [up_ne (by decide)]; exact hw.1 64 (by decide) (by decide) (by decide) (by decide)
    · rw [up_s, ud_o (by decide)]; exact hw.2 5 (by decide)
    · rw [up_s, ud_s]; rfl
    · rw [up_s, ud_o (by decide)]; exact hw.2 18 (by decide)
    · rfl
    · rfl
  · rw [up_ne (by omega)]
    exact hw.1 k (by omega) (by omega) (by omega) (by omega)

