/-! the class reads letters -/
theorem s_in_dg {c : Int32} (h : bd c (-1) 255) : (s_in (c - 48) 10 = 0) ↔ (c < 48 ∨ 57 < c) := by
  have z48 : (48 : Int32).toInt = 48 := rfl
  have z57 : (57 : Int32).toInt = 57 := rfl
  have z10 : (10 : Int32).toInt = 10 := rfl
  have z0 : (0 : Int32).toInt = 0 := rfl
  have h1 := h.1
  have h2 := h.2
  have e : (c - 48).toInt = c.toInt - 48 := by rw [ti_sub (by omega) (by omega), z48]
  unfold s_in
  by_cases a : c - 48 < 0
  · rw [if_pos a]
    rw [ti_lt, e, z0] at a
    refine ⟨fun _ => Or.inl (by rw [ti_lt, z48]; omega), fun _ => rfl⟩
  · rw [if_neg a]
    rw [ti_lt, e, z0] at a
    by_cases b : c - 48 < 10
    · rw [if_pos b]
      rw [ti_lt, e, z10] at b
      refine ⟨fun w => absurd w (by decide), fun w => ?_⟩
      rcases w with w | w
      · rw [ti_lt, z48] at w; omega
      · rw [ti_lt, z57] at w; omega
    · rw [if_neg b]
      rw [ti_lt, e, z10] at b
      exact ⟨fun _ => Or.inr (by rw [ti_lt, z57]; omega), fun _ => rfl⟩
/-- a reading goes on: place, numbers told, how many; all else stays -/
def wT (M M1 : mj_M) (p : Int32) (q : Nat → Int32) (k : Int32) : Prop := M1 57 2 = p ∧ M1 59 = q ∧ M1 57 4 = k ∧ (∀ c, c ≠ 57 → c ≠ 59 → M1 c = M c) ∧ ∀ j, j ≠ 2 → j ≠ 4 → M1 57 j = M 57 j
def pT (M : mj_M) : Prop := dT (M 58) (M 57 1) ∧ 0 ≤ (M 57 2).toInt ∧ (M 57 2).toInt ≤ (M 57 1).toInt
theorem wT_r (M : mj_M) : wT M M (M 57 2) (M 59) (M 57 4) := ⟨rfl, rfl, rfl, fun _ _ _ => rfl, fun _ _ _ => rfl⟩
theorem wT_t {M M1 M2 : mj_M} {p p2 k k2 : Int32} {q q2 : Nat → Int32} (h : wT M M1 p q k) (h2 : wT M1 M2 p2 q2 k2) : wT M M2 p2 q2 k2 := ⟨h2.1, h2.2.1, h2.2.2.1, fun c a b => (h2.2.2.2.1 c a b).trans (h.2.2.2.1 c a b), fun j a b => (h2.2.2.2.2 j a b).trans (h.2.2.2.2 j a b)⟩
theorem wT_2 {M M1 : mj_M} {p k : Int32} {q : Nat → Int32} (h : wT M M1 p q k) (x : Int32) : wT M (mj_up M1 57 2 x) x q k := ⟨by rw [up_s, ud_s], by rw [up_ne (by decide)]; exact h.2.1, by rw [up_s, ud_o (by decide)]; exact h.2.2.1, fun c a b => by rw [up_ne a]; exact h.2.2.2.1 c a b, fun j a b => by rw [up_s, ud_o a]; exact h.2.2.2.2 j a b⟩
theorem wT_4 {M M1 : mj_M} {p k : Int32} {q : Nat → Int32} (h : wT M M1 p q k) (x : Int32) : wT M (mj_up M1 57 4 x) p q x := ⟨by rw [up_s, ud_o (by decide)]; exact h.1, by rw [up_ne (by decide)]; exact h.2.1, by rw [up_s, ud_s], fun c a b => by rw [up_ne a]; exact h.2.2.2.1 c a b, fun j a b => by rw [up_s, ud_o b]; exact h.2.2.2.2 j a b⟩
theorem wT_q {M M1 : mj_M} {p k : Int32} {q : Nat → Int32} (h : wT M M1 p q k) (i : Nat) (x : Int32) : wT M (mj_up M1 59 i x) p (upd q i x) k := ⟨by rw [up_ne (by decide)]; exact h.1, by rw [up_s, h.2.1], by rw [up_ne (by decide)]; exact h.2.2.1, fun c a b => by rw [up_ne b]; exact h.2.2.2.1 c a b, fun j a b => by rw [up_ne (by decide)]; exact h.2.2.2.2 j a b⟩
theorem wT_T {M M1 : mj_M} {p k : Int32} {q : Nat → Int32} (h : wT M M1 p q k) : M1 58 = M 58 := h.2.2.2.1 _ (by decide) (by decide)
theorem wT_n {M M1 : mj_M} {p k : Int32} {q : Nat → Int32} (h : wT M M1 p q k) : M1 57 1 = M 57 1 := h.2.2.2.2 _ (by decide) (by decide)
theorem pT_w {M M1 : mj_M} {p k : Int32} {q : Nat → Int32} (hM : pT M) (h : wT M M1 p q k) (h0 : 0 ≤ p.toInt) (hp : p.toInt ≤ (M 57 1).toInt) : pT M1 := by
  unfold pT
  rw [wT_T h, wT_n h, h.1]
  exact ⟨hM.1, h0, hp⟩
def C_M_letterAt : mj_C := (2, 1, fun avs M => ma_ri avs fun a p => (a = 57 ∧ bd (M 57 1) 0 96 ∧ 0 ≤ p.toInt), fun avs M r M' => ma_ri avs fun a p => (r = .inl (s_sg (M 58) (M 57 1) p) ∧ M' = M))
theorem rc_M_letterAt : ∀ avs M, C_M_letterAt.2.2.1 avs M → ∃ a r, avs = .inr a :: r ∧ mj_ob a = 5 := by
  intro avs M h
  obtain ⟨a, p, rfl, h⟩ := mc_ri h
  exact ⟨_, _, rfl, by rw [h.1]; rfl⟩
set_option maxRecDepth 20000 in
set_option maxHeartbeats 2000000 in
theorem t_M_letterAt : mj_T yX5_letterAt cX5_letterAt 2 (some .int) 0 C_M_letterAt := by
  refine mj_T_of (own := 5) (rk := 1) [] (by decide) rfl (by decide) ⟨rfl, rfl⟩ (fun _ h => absurd h List.not_mem_nil) ?_
  intro avs M hlen hpre V hV
  obtain ⟨a, p, rfl, hp⟩ := mc_ri hpre
  show V 0 [some (.inr a), some (.inl p)] [] M
  have b_0 := hV h_X5_letterAt_0; have b_30 := hV h_X5_letterAt_30; have b_31 := hV h_X5_letterAt_31
  clear hlen hpre hV
  obtain ⟨rfl, h1, h2⟩ := hp
  have n0 : ¬ p < 0 := by
    rw [ti_lt]
    have : (0 : Int32).toInt = 0 := rfl
    omega
  have e96 : nI 96 = 96 := rfl
  have h30 : ¬ p < M 57 1 → V 30 [some (.inr 57), some (.inl p)] [] M := by
    intro h
    (refine b_30 _ _ _ ?_; simp only [k_X5_letterAt_0, k_X5_letterAt_30, k_X5_letterAt_31, xp_1, xp_2, xp_3, xp_4, xp_5, xp_6, xp_7, xp_10, xp_11, xp_12, xp_13, xp_14, xp_15, xp_16, xp_17, xp_18, xp_19, xp_20, xp_21, xp_22, xp_23, xp_30, xp_31, xp_32, xp_33, xp_34, xp_35, xp_36, xp_37, xp_38, xp_39, xp_40, xp_41, xp_42, xp_43, xp_50, xp_51, xp_52, xp_53, xp_60, xp_61, xp_62, xp_63, xp_64, xp_65, xp_70, xp_80, xp_81, xp_82, up_ne, up_s, ud_s, ud_o, xw_0, xw_1, xg_0, xg_1, xl_i, xl_r, xs_0, xs_1, xq_i, xq_r, xq_v, xc_0, xc_1, xt_0, xt_1, xr_0, xr_1, xr_2, xe_0, xe_1, ob_0, ob_18, ob_36, ob_54, ak_55, ln_55, cq_55, ak_56, ln_56, cq_56, ob_57, ak_58, ln_58, cq_58, ak_59, ln_59, cq_59, ob_60, ak_61, ln_61, cq_61, ak_62, ln_62, cq_62, ob_63, ak_64, ln_64, cq_64, ak_65, ln_65, cq_65, ak_66, ln_66, cq_66, ak_67, ln_67, cq_67, ak_68, ln_68, cq_68, ak_69, ln_69, cq_69, ak_70, ln_70, cq_70, ak_71, ln_71, cq_71, ak_72, ln_72, cq_72, ak_73, ln_73, cq_73, pt_54_0, pt_54_1, pt_57_0, pt_57_3, pt_60_0, pt_60_1, pt_60_2, pt_60_4, pt_60_5, pt_60_6, pt_60_8, pt_63_0, pt_63_1, pt_63_2, pt_63_3, pt_63_4, pt_63_6, pt_63_7, pt_63_10, pt_63_11, pt_63_17, true_and, and_true, List.length_cons, List.length_nil, Nat.reduceAdd, Nat.reduceLeDiff, forall_eq, ne_eq, Nat.reduceEqDiff, not_false_eq_true, or_false, false_or, or_true, true_or, reduceCtorEq, Nat.zero_le, Nat.reduceMul, Nat.add_zero, false_and, and_false, false_implies, true_implies, forall_const, implies_true, List.append_nil, List.nil_append, List.cons_append, mb_i, mb_ii, mb_iii, mb_r, mb_ri, mb_rii, mb_riii, mb_rr, mb_rri, mb_rrii, mb_rriii, mb_riiiii, mb_rrr, mb_rir, mb_iiii, mb_riiii, tn_0, tn_1, tn_2, tn_3, tn_4, tn_5, tn_6, tc_0, tc_1, tc_2, tc_3, tc_4, tc_5, tc_6, xf_0, xf_1, xf_2, Sum.inl.injEq, Sum.inr.injEq, C_M_letterAt])
    (refine b_31 _ _ _ ?_; simp only [k_X5_letterAt_0, k_X5_letterAt_30, k_X5_letterAt_31, xp_1, xp_2, xp_3, xp_4, xp_5, xp_6, xp_7, xp_10, xp_11, xp_12, xp_13, xp_14, xp_15, xp_16, xp_17, xp_18, xp_19, xp_20, xp_21, xp_22, xp_23, xp_30, xp_31, xp_32, xp_33, xp_34, xp_35, xp_36, xp_37, xp_38, xp_39, xp_40, xp_41, xp_42, xp_43, xp_50, xp_51, xp_52, xp_53, xp_60, xp_61, xp_62, xp_63, xp_64, xp_65, xp_70, xp_80, xp_81, xp_82, up_ne, up_s, ud_s, ud_o, xw_0, xw_1, xg_0, xg_1, xl_i, xl_r, xs_0, xs_1, xq_i, xq_r, xq_v, xc_0, xc_1, xt_0, xt_1, xr_0, xr_1, xr_2, xe_0, xe_1, ob_0, ob_18, ob_36, ob_54, ak_55, ln_55, cq_55, ak_56, ln_56, cq_56, ob_57, ak_58, ln_58, cq_58, ak_59, ln_59, cq_59, ob_60, ak_61, ln_61, cq_61, ak_62, ln_62, cq_62, ob_63, ak_64, ln_64, cq_64, ak_65, ln_65, cq_65, ak_66, ln_66, cq_66, ak_67, ln_67, cq_67, ak_68, ln_68, cq_68, ak_69, ln_69, cq_69, ak_70, ln_70, cq_70, ak_71, ln_71, cq_71, ak_72, ln_72, cq_72, ak_73, ln_73, cq_73, pt_54_0, pt_54_1, pt_57_0, pt_57_3, pt_60_0, pt_60_1, pt_60_2, pt_60_4, pt_60_5, pt_60_6, pt_60_8, pt_63_0, pt_63_1, pt_63_2, pt_63_3, pt_63_4, pt_63_6, pt_63_7, pt_63_10, pt_63_11, pt_63_17, true_and, and_true, List.length_cons, List.length_nil, Nat.reduceAdd, Nat.reduceLeDiff, forall_eq, ne_eq, Nat.reduceEqDiff, not_false_eq_true, or_false, false_or, or_true, true_or, reduceCtorEq, Nat.zero_le, Nat.reduceMul, Nat.add_zero, false_and, and_false, false_implies, true_implies, forall_const, implies_true, List.append_nil, List.nil_append, List.cons_append, mb_i, mb_ii, mb_iii, mb_r, mb_ri, mb_rii, mb_riii, mb_rr, mb_rri, mb_rrii, mb_rriii, mb_riiiii, mb_rrr, mb_rir, mb_iiii, mb_riiii, tn_0, tn_1, tn_2, tn_3, tn_4, tn_5, tn_6, tc_0, tc_1, tc_2, tc_3, tc_4, tc_5, tc_6, xf_0, xf_1, xf_2, Sum.inl.injEq, Sum.inr.injEq, C_M_letterAt])
    unfold s_sg
    rw [if_neg h]
  (refine b_0 _ _ _ ?_; simp only [k_X5_letterAt_0, k_X5_letterAt_30, k_X5_letterAt_31, xp_1, xp_2, xp_3, xp_4, xp_5, xp_6, xp_7, xp_10, xp_11, xp_12, xp_13, xp_14, xp_15, xp_16, xp_17, xp_18, xp_19, xp_20, xp_21, xp_22, xp_23, xp_30, xp_31, xp_32, xp_33, xp_34, xp_35, xp_36, xp_37, xp_38, xp_39, xp_40, xp_41, xp_42, xp_43, xp_50, xp_51, xp_52, xp_53, xp_60, xp_61, xp_62, xp_63, xp_64, xp_65, xp_70, xp_80, xp_81, xp_82, up_ne, up_s, ud_s, ud_o, xw_0, xw_1, xg_0, xg_1, xl_i, xl_r, xs_0, xs_1, xq_i, xq_r, xq_v, xc_0, xc_1, xt_0, xt_1, xr_0, xr_1, xr_2, xe_0, xe_1, ob_0, ob_18, ob_36, ob_54, ak_55, ln_55, cq_55, ak_56, ln_56, cq_56, ob_57, ak_58, ln_58, cq_58, ak_59, ln_59, cq_59, ob_60, ak_61, ln_61, cq_61, ak_62, ln_62, cq_62, ob_63, ak_64, ln_64, cq_64, ak_65, ln_65, cq_65, ak_66, ln_66, cq_66, ak_67, ln_67, cq_67, ak_68, ln_68, cq_68, ak_69, ln_69, cq_69, ak_70, ln_70, cq_70, ak_71, ln_71, cq_71, ak_72, ln_72, cq_72, ak_73, ln_73, cq_73, pt_54_0, pt_54_1, pt_57_0, pt_57_3, pt_60_0, pt_60_1, pt_60_2, pt_60_4, pt_60_5, pt_60_6, pt_60_8, pt_63_0, pt_63_1, pt_63_2, pt_63_3, pt_63_4, pt_63_6, pt_63_7, pt_63_10, pt_63_11, pt_63_17, true_and, and_true, List.length_cons, List.length_nil, Nat.reduceAdd, Nat.reduceLeDiff, forall_eq, ne_eq, Nat.reduceEqDiff, not_false_eq_true, or_false, false_or, or_true, true_or, reduceCtorEq, Nat.zero_le, Nat.reduceMul, Nat.add_zero, false_and, and_false, false_implies, true_implies, forall_const, implies_true, List.append_nil, List.nil_append, List.cons_append, mb_i, mb_ii, mb_iii, mb_r, mb_ri, mb_rii, mb_riii, mb_rr, mb_rri, mb_rrii, mb_rriii, mb_riiiii, mb_rrr, mb_rir, mb_iiii, mb_riiii, tn_0, tn_1, tn_2, tn_3, tn_4, tn_5, tn_6, tc_0, tc_1, tc_2, tc_3, tc_4, tc_5, tc_6, xf_0, xf_1, xf_2, Sum.inl.injEq, Sum.inr.injEq, C_M_letterAt])
  rw [e96]
  refine ⟨fun h => absurd h n0, fun _ => ⟨fun h => h30 h, fun h => ?_⟩⟩
  have h3 := h
  rw [ti_lt] at h3
  have h4 := h1.2
  have h5 : p < 96 := by
    rw [ti_lt]
    show p.toInt < 96
    omega
  refine ⟨fun z => absurd h5 z, fun _ => ⟨vi_x h2 (by omega), ?_⟩⟩
  (refine b_31 _ _ _ ?_; simp only [k_X5_letterAt_0, k_X5_letterAt_30, k_X5_letterAt_31, xp_1, xp_2, xp_3, xp_4, xp_5, xp_6, xp_7, xp_10, xp_11, xp_12, xp_13, xp_14, xp_15, xp_16, xp_17, xp_18, xp_19, xp_20, xp_21, xp_22, xp_23, xp_30, xp_31, xp_32, xp_33, xp_34, xp_35, xp_36, xp_37, xp_38, xp_39, xp_40, xp_41, xp_42, xp_43, xp_50, xp_51, xp_52, xp_53, xp_60, xp_61, xp_62, xp_63, xp_64, xp_65, xp_70, xp_80, xp_81, xp_82, up_ne, up_s, ud_s, ud_o, xw_0, xw_1, xg_0, xg_1, xl_i, xl_r, xs_0, xs_1, xq_i, xq_r, xq_v, xc_0, xc_1, xt_0, xt_1, xr_0, xr_1, xr_2, xe_0, xe_1, ob_0, ob_18, ob_36, ob_54, ak_55, ln_55, cq_55, ak_56, ln_56, cq_56, ob_57, ak_58, ln_58, cq_58, ak_59, ln_59, cq_59, ob_60, ak_61, ln_61, cq_61, ak_62, ln_62, cq_62, ob_63, ak_64, ln_64, cq_64, ak_65, ln_65, cq_65, ak_66, ln_66, cq_66, ak_67, ln_67, cq_67, ak_68, ln_68, cq_68, ak_69, ln_69, cq_69, ak_70, ln_70, cq_70, ak_71, ln_71, cq_71, ak_72, ln_72, cq_72, ak_73, ln_73, cq_73, pt_54_0, pt_54_1, pt_57_0, pt_57_3, pt_60_0, pt_60_1, pt_60_2, pt_60_4, pt_60_5, pt_60_6, pt_60_8, pt_63_0, pt_63_1, pt_63_2, pt_63_3, pt_63_4, pt_63_6, pt_63_7, pt_63_10, pt_63_11, pt_63_17, true_and, and_true, List.length_cons, List.length_nil, Nat.reduceAdd, Nat.reduceLeDiff, forall_eq, ne_eq, Nat.reduceEqDiff, not_false_eq_true, or_false, false_or, or_true, true_or, reduceCtorEq, Nat.zero_le, Nat.reduceMul, Nat.add_zero, false_and, and_false, false_implies, true_implies, forall_const, implies_true, List.append_nil, List.nil_append, List.cons_append, mb_i, mb_ii, mb_iii, mb_r, mb_ri, mb_rii, mb_riii, mb_rr, mb_rri, mb_rrii, mb_rriii, mb_riiiii, mb_rrr, mb_rir, mb_iiii, mb_riiii, tn_0, tn_1, tn_2, tn_3, tn_4, tn_5, tn_6, tc_0, tc_1, tc_2, tc_3, tc_4, tc_5, tc_6, xf_0, xf_1, xf_2, Sum.inl.injEq, Sum.inr.injEq, C_M_letterAt])
  unfold s_sg
  rw [if_pos h]

def C_M_isDigit : mj_C := (1, 1, fun avs M => ma_i avs fun c => (bd c (-1) 255), fun avs M r M' => ma_i avs fun c => (r = .inl (if s_in (c - 48) 10 = 0 then 0 else 1) ∧ M' = M))
set_option maxRecDepth 20000 in
set_option maxHeartbeats 2000000 in
theorem t_M_isDigit : mj_T yX5_isDigit cX5_isDigit 1 (some .boolean) 0 C_M_isDigit := by
  refine mj_T_of (own := 5) (rk := 3) [] (by decide) rfl (by decide) ⟨rfl, rfl, rfl⟩ (fun _ h => absurd h List.not_mem_nil) ?_
  intro avs M hlen hpre V hV
  obtain ⟨c, rfl, hp⟩ := mc_i hpre
  show V 0 [some (.inl c)] [] M
  have b_0 := hV h_X5_isDigit_0; have b_16 := hV h_X5_isDigit_16; have b_17 := hV h_X5_isDigit_17
  clear hlen hpre hV
  have hd := s_in_dg hp
  have h16 : s_in (c - 48) 10 = 0 → V 16 [some (.inl c)] [] M := by
    intro h
    (refine b_16 _ _ _ ?_; simp only [k_X5_isDigit_0, k_X5_isDigit_16, k_X5_isDigit_17, xp_1, xp_2, xp_3, xp_4, xp_5, xp_6, xp_7, xp_10, xp_11, xp_12, xp_13, xp_14, xp_15, xp_16, xp_17, xp_18, xp_19, xp_20, xp_21, xp_22, xp_23, xp_30, xp_31, xp_32, xp_33, xp_34, xp_35, xp_36, xp_37, xp_38, xp_39, xp_40, xp_41, xp_42, xp_43, xp_50, xp_51, xp_52, xp_53, xp_60, xp_61, xp_62, xp_63, xp_64, xp_65, xp_70, xp_80, xp_81, xp_82, up_ne, up_s, ud_s, ud_o, xw_0, xw_1, xg_0, xg_1, xl_i, xl_r, xs_0, xs_1, xq_i, xq_r, xq_v, xc_0, xc_1, xt_0, xt_1, xr_0, xr_1, xr_2, xe_0, xe_1, ob_0, ob_18, ob_36, ob_54, ak_55, ln_55, cq_55, ak_56, ln_56, cq_56, ob_57, ak_58, ln_58, cq_58, ak_59, ln_59, cq_59, ob_60, ak_61, ln_61, cq_61, ak_62, ln_62, cq_62, ob_63, ak_64, ln_64, cq_64, ak_65, ln_65, cq_65, ak_66, ln_66, cq_66, ak_67, ln_67, cq_67, ak_68, ln_68, cq_68, ak_69, ln_69, cq_69, ak_70, ln_70, cq_70, ak_71, ln_71, cq_71, ak_72, ln_72, cq_72, ak_73, ln_73, cq_73, pt_54_0, pt_54_1, pt_57_0, pt_57_3, pt_60_0, pt_60_1, pt_60_2, pt_60_4, pt_60_5, pt_60_6, pt_60_8, pt_63_0, pt_63_1, pt_63_2, pt_63_3, pt_63_4, pt_63_6, pt_63_7, pt_63_10, pt_63_11, pt_63_17, true_and, and_true, List.length_cons, List.length_nil, Nat.reduceAdd, Nat.reduceLeDiff, forall_eq, ne_eq, Nat.reduceEqDiff, not_false_eq_true, or_false, false_or, or_true, true_or, reduceCtorEq, Nat.zero_le, Nat.reduceMul, Nat.add_zero, false_and, and_false, false_implies, true_implies, forall_const, implies_true, List.append_nil, List.nil_append, List.cons_append, mb_i, mb_ii, mb_iii, mb_r, mb_ri, mb_rii, mb_riii, mb_rr, mb_rri, mb_rrii, mb_rriii, mb_riiiii, mb_rrr, mb_rir, mb_iiii, mb_riiii, tn_0, tn_1, tn_2, tn_3, tn_4, tn_5, tn_6, tc_0, tc_1, tc_2, tc_3, tc_4, tc_5, tc_6, xf_0, xf_1, xf_2, Sum.inl.injEq, Sum.inr.injEq, C_M_isDigit])
    (refine b_17 _ _ _ ?_; simp only [k_X5_isDigit_0, k_X5_isDigit_16, k_X5_isDigit_17, xp_1, xp_2, xp_3, xp_4, xp_5, xp_6, xp_7, xp_10, xp_11, xp_12, xp_13, xp_14, xp_15, xp_16, xp_17, xp_18, xp_19, xp_20, xp_21, xp_22, xp_23, xp_30, xp_31, xp_32, xp_33, xp_34, xp_35, xp_36, xp_37, xp_38, xp_39, xp_40, xp_41, xp_42, xp_43, xp_50, xp_51, xp_52, xp_53, xp_60, xp_61, xp_62, xp_63, xp_64, xp_65, xp_70, xp_80, xp_81, xp_82, up_ne, up_s, ud_s, ud_o, xw_0, xw_1, xg_0, xg_1, xl_i, xl_r, xs_0, xs_1, xq_i, xq_r, xq_v, xc_0, xc_1, xt_0, xt_1, xr_0, xr_1, xr_2, xe_0, xe_1, ob_0, ob_18, ob_36, ob_54, ak_55, ln_55, cq_55, ak_56, ln_56, cq_56, ob_57, ak_58, ln_58, cq_58, ak_59, ln_59, cq_59, ob_60, ak_61, ln_61, cq_61, ak_62, ln_62, cq_62, ob_63, ak_64, ln_64, cq_64, ak_65, ln_65, cq_65, ak_66, ln_66, cq_66, ak_67, ln_67, cq_67, ak_68, ln_68, cq_68, ak_69, ln_69, cq_69, ak_70, ln_70, cq_70, ak_71, ln_71, cq_71, ak_72, ln_72, cq_72, ak_73, ln_73, cq_73, pt_54_0, pt_54_1, pt_57_0, pt_57_3, pt_60_0, pt_60_1, pt_60_2, pt_60_4, pt_60_5, pt_60_6, pt_60_8, pt_63_0, pt_63_1, pt_63_2, pt_63_3, pt_63_4, pt_63_6, pt_63_7, pt_63_10, pt_63_11, pt_63_17, true_and, and_true, List.length_cons, List.length_nil, Nat.reduceAdd, Nat.reduceLeDiff, forall_eq, ne_eq, Nat.reduceEqDiff, not_false_eq_true, or_false, false_or, or_true, true_or, reduceCtorEq, Nat.zero_le, Nat.reduceMul, Nat.add_zero, false_and, and_false, false_implies, true_implies, forall_const, implies_true, List.append_nil, List.nil_append, List.cons_append, mb_i, mb_ii, mb_iii, mb_r, mb_ri, mb_rii, mb_riii, mb_rr, mb_rri, mb_rrii, mb_rriii, mb_riiiii, mb_rrr, mb_rir, mb_iiii, mb_riiii, tn_0, tn_1, tn_2, tn_3, tn_4, tn_5, tn_6, tc_0, tc_1, tc_2, tc_3, tc_4, tc_5, tc_6, xf_0, xf_1, xf_2, Sum.inl.injEq, Sum.inr.injEq, C_M_isDigit])
    rw [if_pos h]
  (refine b_0 _ _ _ ?_; simp only [k_X5_isDigit_0, k_X5_isDigit_16, k_X5_isDigit_17, xp_1, xp_2, xp_3, xp_4, xp_5, xp_6, xp_7, xp_10, xp_11, xp_12, xp_13, xp_14, xp_15, xp_16, xp_17, xp_18, xp_19, xp_20, xp_21, xp_22, xp_23, xp_30, xp_31, xp_32, xp_33, xp_34, xp_35, xp_36, xp_37, xp_38, xp_39, xp_40, xp_41, xp_42, xp_43, xp_50, xp_51, xp_52, xp_53, xp_60, xp_61, xp_62, xp_63, xp_64, xp_65, xp_70, xp_80, xp_81, xp_82, up_ne, up_s, ud_s, ud_o, xw_0, xw_1, xg_0, xg_1, xl_i, xl_r, xs_0, xs_1, xq_i, xq_r, xq_v, xc_0, xc_1, xt_0, xt_1, xr_0, xr_1, xr_2, xe_0, xe_1, ob_0, ob_18, ob_36, ob_54, ak_55, ln_55, cq_55, ak_56, ln_56, cq_56, ob_57, ak_58, ln_58, cq_58, ak_59, ln_59, cq_59, ob_60, ak_61, ln_61, cq_61, ak_62, ln_62, cq_62, ob_63, ak_64, ln_64, cq_64, ak_65, ln_65, cq_65, ak_66, ln_66, cq_66, ak_67, ln_67, cq_67, ak_68, ln_68, cq_68, ak_69, ln_69, cq_69, ak_70, ln_70, cq_70, ak_71, ln_71, cq_71, ak_72, ln_72, cq_72, ak_73, ln_73, cq_73, pt_54_0, pt_54_1, pt_57_0, pt_57_3, pt_60_0, pt_60_1, pt_60_2, pt_60_4, pt_60_5, pt_60_6, pt_60_8, pt_63_0, pt_63_1, pt_63_2, pt_63_3, pt_63_4, pt_63_6, pt_63_7, pt_63_10, pt_63_11, pt_63_17, true_and, and_true, List.length_cons, List.length_nil, Nat.reduceAdd, Nat.reduceLeDiff, forall_eq, ne_eq, Nat.reduceEqDiff, not_false_eq_true, or_false, false_or, or_true, true_or, reduceCtorEq, Nat.zero_le, Nat.reduceMul, Nat.add_zero, false_and, and_false, false_implies, true_implies, forall_const, implies_true, List.append_nil, List.nil_append, List.cons_append, mb_i, mb_ii, mb_iii, mb_r, mb_ri, mb_rii, mb_riii, mb_rr, mb_rri, mb_rrii, mb_rriii, mb_riiiii, mb_rrr, mb_rir, mb_iiii, mb_riiii, tn_0, tn_1, tn_2, tn_3, tn_4, tn_5, tn_6, tc_0, tc_1, tc_2, tc_3, tc_4, tc_5, tc_6, xf_0, xf_1, xf_2, Sum.inl.injEq, Sum.inr.injEq, C_M_isDigit])
  refine ⟨fun h => h16 (hd.mpr (Or.inl h)), fun h => ⟨fun h2 => h16 (hd.mpr (Or.inr h2)), fun h2 => ?_⟩⟩
  (refine b_17 _ _ _ ?_; simp only [k_X5_isDigit_0, k_X5_isDigit_16, k_X5_isDigit_17, xp_1, xp_2, xp_3, xp_4, xp_5, xp_6, xp_7, xp_10, xp_11, xp_12, xp_13, xp_14, xp_15, xp_16, xp_17, xp_18, xp_19, xp_20, xp_21, xp_22, xp_23, xp_30, xp_31, xp_32, xp_33, xp_34, xp_35, xp_36, xp_37, xp_38, xp_39, xp_40, xp_41, xp_42, xp_43, xp_50, xp_51, xp_52, xp_53, xp_60, xp_61, xp_62, xp_63, xp_64, xp_65, xp_70, xp_80, xp_81, xp_82, up_ne, up_s, ud_s, ud_o, xw_0, xw_1, xg_0, xg_1, xl_i, xl_r, xs_0, xs_1, xq_i, xq_r, xq_v, xc_0, xc_1, xt_0, xt_1, xr_0, xr_1, xr_2, xe_0, xe_1, ob_0, ob_18, ob_36, ob_54, ak_55, ln_55, cq_55, ak_56, ln_56, cq_56, ob_57, ak_58, ln_58, cq_58, ak_59, ln_59, cq_59, ob_60, ak_61, ln_61, cq_61, ak_62, ln_62, cq_62, ob_63, ak_64, ln_64, cq_64, ak_65, ln_65, cq_65, ak_66, ln_66, cq_66, ak_67, ln_67, cq_67, ak_68, ln_68, cq_68, ak_69, ln_69, cq_69, ak_70, ln_70, cq_70, ak_71, ln_71, cq_71, ak_72, ln_72, cq_72, ak_73, ln_73, cq_73, pt_54_0, pt_54_1, pt_57_0, pt_57_3, pt_60_0, pt_60_1, pt_60_2, pt_60_4, pt_60_5, pt_60_6, pt_60_8, pt_63_0, pt_63_1, pt_63_2, pt_63_3, pt_63_4, pt_63_6, pt_63_7, pt_63_10, pt_63_11, pt_63_17, true_and, and_true, List.length_cons, List.length_nil, Nat.reduceAdd, Nat.reduceLeDiff, forall_eq, ne_eq, Nat.reduceEqDiff, not_false_eq_true, or_false, false_or, or_true, true_or, reduceCtorEq, Nat.zero_le, Nat.reduceMul, Nat.add_zero, false_and, and_false, false_implies, true_implies, forall_const, implies_true, List.append_nil, List.nil_append, List.cons_append, mb_i, mb_ii, mb_iii, mb_r, mb_ri, mb_rii, mb_riii, mb_rr, mb_rri, mb_rrii, mb_rriii, mb_riiiii, mb_rrr, mb_rir, mb_iiii, mb_riiii, tn_0, tn_1, tn_2, tn_3, tn_4, tn_5, tn_6, tc_0, tc_1, tc_2, tc_3, tc_4, tc_5, tc_6, xf_0, xf_1, xf_2, Sum.inl.injEq, Sum.inr.injEq, C_M_isDigit])
  rw [if_neg]
  intro z
  rcases hd.mp z with w | w
  · exact h w
  · exact h2 w

def C_M_keep : mj_C := (2, 0, fun avs M => ma_ri avs fun a v => (a = 57 ∧ bd (M 57 4) 0 4), fun avs M r M' => ma_ri avs fun a v => (M' = mj_up (mj_up M 59 (tn (M 57 4)) v) 57 4 (M 57 4 + 1)))
theorem rc_M_keep : ∀ avs M, C_M_keep.2.2.1 avs M → ∃ a r, avs = .inr a :: r ∧ mj_ob a = 5 := by
  intro avs M h
  obtain ⟨a, v, rfl, h⟩ := mc_ri h
  exact ⟨_, _, rfl, by rw [h.1]; rfl⟩
set_option maxRecDepth 20000 in
set_option maxHeartbeats 2000000 in
theorem t_M_keep : mj_T yX5_keep cX5_keep 2 none 0 C_M_keep := by
  refine mj_T_of (own := 5) (rk := 0) [] (by decide) rfl (by decide) ⟨rfl, rfl⟩ (fun _ h => absurd h List.not_mem_nil) ?_
  intro avs M hlen hpre V hV
  obtain ⟨a, v, rfl, hp⟩ := mc_ri hpre
  show V 0 [some (.inr a), some (.inl v)] [] M
  have b_0 := hV h_X5_keep_0; have b_32 := hV h_X5_keep_32
  clear hlen hpre hV
  obtain ⟨rfl, h⟩ := hp
  have h1 := h.2
  have e5 : nI 5 = 5 := rfl
  have h5 : M 57 4 < 5 := by
    rw [ti_lt]
    show (M 57 4).toInt < 5
    omega
  (refine b_0 _ _ _ ?_; simp only [k_X5_keep_0, k_X5_keep_32, xp_1, xp_2, xp_3, xp_4, xp_5, xp_6, xp_7, xp_10, xp_11, xp_12, xp_13, xp_14, xp_15, xp_16, xp_17, xp_18, xp_19, xp_20, xp_21, xp_22, xp_23, xp_30, xp_31, xp_32, xp_33, xp_34, xp_35, xp_36, xp_37, xp_38, xp_39, xp_40, xp_41, xp_42, xp_43, xp_50, xp_51, xp_52, xp_53, xp_60, xp_61, xp_62, xp_63, xp_64, xp_65, xp_70, xp_80, xp_81, xp_82, up_ne, up_s, ud_s, ud_o, xw_0, xw_1, xg_0, xg_1, xl_i, xl_r, xs_0, xs_1, xq_i, xq_r, xq_v, xc_0, xc_1, xt_0, xt_1, xr_0, xr_1, xr_2, xe_0, xe_1, ob_0, ob_18, ob_36, ob_54, ak_55, ln_55, cq_55, ak_56, ln_56, cq_56, ob_57, ak_58, ln_58, cq_58, ak_59, ln_59, cq_59, ob_60, ak_61, ln_61, cq_61, ak_62, ln_62, cq_62, ob_63, ak_64, ln_64, cq_64, ak_65, ln_65, cq_65, ak_66, ln_66, cq_66, ak_67, ln_67, cq_67, ak_68, ln_68, cq_68, ak_69, ln_69, cq_69, ak_70, ln_70, cq_70, ak_71, ln_71, cq_71, ak_72, ln_72, cq_72, ak_73, ln_73, cq_73, pt_54_0, pt_54_1, pt_57_0, pt_57_3, pt_60_0, pt_60_1, pt_60_2, pt_60_4, pt_60_5, pt_60_6, pt_60_8, pt_63_0, pt_63_1, pt_63_2, pt_63_3, pt_63_4, pt_63_6, pt_63_7, pt_63_10, pt_63_11, pt_63_17, true_and, and_true, List.length_cons, List.length_nil, Nat.reduceAdd, Nat.reduceLeDiff, forall_eq, ne_eq, Nat.reduceEqDiff, not_false_eq_true, or_false, false_or, or_true, true_or, reduceCtorEq, Nat.zero_le, Nat.reduceMul, Nat.add_zero, false_and, and_false, false_implies, true_implies, forall_const, implies_true, List.append_nil, List.nil_append, List.cons_append, mb_i, mb_ii, mb_iii, mb_r, mb_ri, mb_rii, mb_riii, mb_rr, mb_rri, mb_rrii, mb_rriii, mb_riiiii, mb_rrr, mb_rir, mb_iiii, mb_riiii, tn_0, tn_1, tn_2, tn_3, tn_4, tn_5, tn_6, tc_0, tc_1, tc_2, tc_3, tc_4, tc_5, tc_6, xf_0, xf_1, xf_2, Sum.inl.injEq, Sum.inr.injEq, C_M_keep])
  rw [e5]
  refine ⟨fun z => absurd h5 z, fun _ => ⟨vi_x h.1 (by omega), ?_⟩⟩
  (refine b_32 _ _ _ ?_; simp only [k_X5_keep_0, k_X5_keep_32, xp_1, xp_2, xp_3, xp_4, xp_5, xp_6, xp_7, xp_10, xp_11, xp_12, xp_13, xp_14, xp_15, xp_16, xp_17, xp_18, xp_19, xp_20, xp_21, xp_22, xp_23, xp_30, xp_31, xp_32, xp_33, xp_34, xp_35, xp_36, xp_37, xp_38, xp_39, xp_40, xp_41, xp_42, xp_43, xp_50, xp_51, xp_52, xp_53, xp_60, xp_61, xp_62, xp_63, xp_64, xp_65, xp_70, xp_80, xp_81, xp_82, up_ne, up_s, ud_s, ud_o, xw_0, xw_1, xg_0, xg_1, xl_i, xl_r, xs_0, xs_1, xq_i, xq_r, xq_v, xc_0, xc_1, xt_0, xt_1, xr_0, xr_1, xr_2, xe_0, xe_1, ob_0, ob_18, ob_36, ob_54, ak_55, ln_55, cq_55, ak_56, ln_56, cq_56, ob_57, ak_58, ln_58, cq_58, ak_59, ln_59, cq_59, ob_60, ak_61, ln_61, cq_61, ak_62, ln_62, cq_62, ob_63, ak_64, ln_64, cq_64, ak_65, ln_65, cq_65, ak_66, ln_66, cq_66, ak_67, ln_67, cq_67, ak_68, ln_68, cq_68, ak_69, ln_69, cq_69, ak_70, ln_70, cq_70, ak_71, ln_71, cq_71, ak_72, ln_72, cq_72, ak_73, ln_73, cq_73, pt_54_0, pt_54_1, pt_57_0, pt_57_3, pt_60_0, pt_60_1, pt_60_2, pt_60_4, pt_60_5, pt_60_6, pt_60_8, pt_63_0, pt_63_1, pt_63_2, pt_63_3, pt_63_4, pt_63_6, pt_63_7, pt_63_10, pt_63_11, pt_63_17, true_and, and_true, List.length_cons, List.length_nil, Nat.reduceAdd, Nat.reduceLeDiff, forall_eq, ne_eq, Nat.reduceEqDiff, not_false_eq_true, or_false, false_or, or_true, true_or, reduceCtorEq, Nat.zero_le, Nat.reduceMul, Nat.add_zero, false_and, and_false, false_implies, true_implies, forall_const, implies_true, List.append_nil, List.nil_append, List.cons_append, mb_i, mb_ii, mb_iii, mb_r, mb_ri, mb_rii, mb_riii, mb_rr, mb_rri, mb_rrii, mb_rriii, mb_riiiii, mb_rrr, mb_rir, mb_iiii, mb_riiii, tn_0, tn_1, tn_2, tn_3, tn_4, tn_5, tn_6, tc_0, tc_1, tc_2, tc_3, tc_4, tc_5, tc_6, xf_0, xf_1, xf_2, Sum.inl.injEq, Sum.inr.injEq, C_M_keep])

def C_M_readSign : mj_C := (2, rk1, fun avs M => ma_ri avs fun a c => (a = 57 ∧ pT M), fun avs M r M' => ma_ri avs fun a c => (r = .inl (s_ps (M 58) (M 57 1) c (M 57 2) (M 59)).1 ∧ wT M M' (s_ps (M 58) (M 57 1) c (M 57 2) (M 59)).2.1 (s_ps (M 58) (M 57 1) c (M 57 2) (M 59)).2.2 (M 57 4)))
theorem rc_M_readSign : ∀ avs M, C_M_readSign.2.2.1 avs M → ∃ a r, avs = .inr a :: r ∧ mj_ob a = 5 := by
  intro avs M h
  obtain ⟨a, c, rfl, h⟩ := mc_ri h
  exact ⟨_, _, rfl, by rw [h.1]; rfl⟩
set_option maxRecDepth 20000 in
set_option maxHeartbeats 2000000 in
theorem t_M_readSign : mj_T yX5_readSign cX5_readSign 2 (some .boolean) 1 C_M_readSign := by
  refine mj_T_of (own := 5) (rk := 3) [(108, C_M_letterAt)] (by decide) rfl (by decide) ⟨rfl, rfl, rfl⟩ (List.forall_mem_cons.mpr ⟨mj_KV (own := 5) (nest := false) t_M_letterAt ⟨wc_X5_letterAt, wi_X5, by decide, wl_5_36⟩ wn_X5_letterAt ws_X5_letterAt (c0 := 5) (by decide) rfl (by decide +kernel) rc_M_letterAt (by decide), (fun _ h => absurd h List.not_mem_nil)⟩) ?_
  intro avs M hlen hpre V hV
  obtain ⟨a, c, rfl, hp⟩ := mc_ri hpre
  show V 0 [some (.inr a), some (.inl c)] [] M
  have b_0 := hV h_X5_readSign_0; have b_14 := hV h_X5_readSign_14
  clear hlen hpre hV
  obtain ⟨rfl, hpp⟩ := hp
  (refine b_0 _ _ _ ?_; simp only [k_X5_readSign_0, k_X5_readSign_14, xp_1, xp_2, xp_3, xp_4, xp_5, xp_6, xp_7, xp_10, xp_11, xp_12, xp_13, xp_14, xp_15, xp_16, xp_17, xp_18, xp_19, xp_20, xp_21, xp_22, xp_23, xp_30, xp_31, xp_32, xp_33, xp_34, xp_35, xp_36, xp_37, xp_38, xp_39, xp_40, xp_41, xp_42, xp_43, xp_50, xp_51, xp_52, xp_53, xp_60, xp_61, xp_62, xp_63, xp_64, xp_65, xp_70, xp_80, xp_81, xp_82, up_ne, up_s, ud_s, ud_o, xw_0, xw_1, xg_0, xg_1, xl_i, xl_r, xs_0, xs_1, xq_i, xq_r, xq_v, xc_0, xc_1, xt_0, xt_1, xr_0, xr_1, xr_2, xe_0, xe_1, ob_0, ob_18, ob_36, ob_54, ak_55, ln_55, cq_55, ak_56, ln_56, cq_56, ob_57, ak_58, ln_58, cq_58, ak_59, ln_59, cq_59, ob_60, ak_61, ln_61, cq_61, ak_62, ln_62, cq_62, ob_63, ak_64, ln_64, cq_64, ak_65, ln_65, cq_65, ak_66, ln_66, cq_66, ak_67, ln_67, cq_67, ak_68, ln_68, cq_68, ak_69, ln_69, cq_69, ak_70, ln_70, cq_70, ak_71, ln_71, cq_71, ak_72, ln_72, cq_72, ak_73, ln_73, cq_73, pt_54_0, pt_54_1, pt_57_0, pt_57_3, pt_60_0, pt_60_1, pt_60_2, pt_60_4, pt_60_5, pt_60_6, pt_60_8, pt_63_0, pt_63_1, pt_63_2, pt_63_3, pt_63_4, pt_63_6, pt_63_7, pt_63_10, pt_63_11, pt_63_17, true_and, and_true, List.length_cons, List.length_nil, Nat.reduceAdd, Nat.reduceLeDiff, forall_eq, ne_eq, Nat.reduceEqDiff, not_false_eq_true, or_false, false_or, or_true, true_or, reduceCtorEq, Nat.zero_le, Nat.reduceMul, Nat.add_zero, false_and, and_false, false_implies, true_implies, forall_const, implies_true, List.append_nil, List.nil_append, List.cons_append, mb_i, mb_ii, mb_iii, mb_r, mb_ri, mb_rii, mb_riii, mb_rr, mb_rri, mb_rrii, mb_rriii, mb_riiiii, mb_rrr, mb_rir, mb_iiii, mb_riiii, tn_0, tn_1, tn_2, tn_3, tn_4, tn_5, tn_6, tc_0, tc_1, tc_2, tc_3, tc_4, tc_5, tc_6, xf_0, xf_1, xf_2, Sum.inl.injEq, Sum.inr.injEq, C_M_letterAt, C_M_readSign])
  unfold s_ps
  refine ⟨⟨hpp.1.1, hpp.2.1⟩, fun h => ?_, fun h => ?_⟩
  · (refine b_14 _ _ _ ?_; simp only [k_X5_readSign_0, k_X5_readSign_14, xp_1, xp_2, xp_3, xp_4, xp_5, xp_6, xp_7, xp_10, xp_11, xp_12, xp_13, xp_14, xp_15, xp_16, xp_17, xp_18, xp_19, xp_20, xp_21, xp_22, xp_23, xp_30, xp_31, xp_32, xp_33, xp_34, xp_35, xp_36, xp_37, xp_38, xp_39, xp_40, xp_41, xp_42, xp_43, xp_50, xp_51, xp_52, xp_53, xp_60, xp_61, xp_62, xp_63, xp_64, xp_65, xp_70, xp_80, xp_81, xp_82, up_ne, up_s, ud_s, ud_o, xw_0, xw_1, xg_0, xg_1, xl_i, xl_r, xs_0, xs_1, xq_i, xq_r, xq_v, xc_0, xc_1, xt_0, xt_1, xr_0, xr_1, xr_2, xe_0, xe_1, ob_0, ob_18, ob_36, ob_54, ak_55, ln_55, cq_55, ak_56, ln_56, cq_56, ob_57, ak_58, ln_58, cq_58, ak_59, ln_59, cq_59, ob_60, ak_61, ln_61, cq_61, ak_62, ln_62, cq_62, ob_63, ak_64, ln_64, cq_64, ak_65, ln_65, cq_65, ak_66, ln_66, cq_66, ak_67, ln_67, cq_67, ak_68, ln_68, cq_68, ak_69, ln_69, cq_69, ak_70, ln_70, cq_70, ak_71, ln_71, cq_71, ak_72, ln_72, cq_72, ak_73, ln_73, cq_73, pt_54_0, pt_54_1, pt_57_0, pt_57_3, pt_60_0, pt_60_1, pt_60_2, pt_60_4, pt_60_5, pt_60_6, pt_60_8, pt_63_0, pt_63_1, pt_63_2, pt_63_3, pt_63_4, pt_63_6, pt_63_7, pt_63_10, pt_63_11, pt_63_17, true_and, and_true, List.length_cons, List.length_nil, Nat.reduceAdd, Nat.reduceLeDiff, forall_eq, ne_eq, Nat.reduceEqDiff, not_false_eq_true, or_false, false_or, or_true, true_or, reduceCtorEq, Nat.zero_le, Nat.reduceMul, Nat.add_zero, false_and, and_false, false_implies, true_implies, forall_const, implies_true, List.append_nil, List.nil_append, List.cons_append, mb_i, mb_ii, mb_iii, mb_r, mb_ri, mb_rii, mb_riii, mb_rr, mb_rri, mb_rrii, mb_rriii, mb_riiiii, mb_rrr, mb_rir, mb_iiii, mb_riiii, tn_0, tn_1, tn_2, tn_3, tn_4, tn_5, tn_6, tc_0, tc_1, tc_2, tc_3, tc_4, tc_5, tc_6, xf_0, xf_1, xf_2, Sum.inl.injEq, Sum.inr.injEq, C_M_letterAt, C_M_readSign])
    unfold s_ps
    rw [if_pos h]
    exact ⟨rfl, wT_2 (wT_r M) _⟩
  · rw [if_neg h]
    exact ⟨rfl, wT_r M⟩

def C_M_readNumber : mj_C := (3, rk1, fun avs M => ma_rii avs fun a least most => (a = 57 ∧ pT M ∧ bd most 1 3 ∧ bd (M 57 4) 0 4), fun avs M r M' => ma_rii avs fun a least most => (r = .inl (s_pn (M 58) (M 57 1) least (tn most) (M 57 2) (tn (M 57 4)) (M 59)).1 ∧ wT M M' (s_pn (M 58) (M 57 1) least (tn most) (M 57 2) (tn (M 57 4)) (M 59)).2.1 (s_pn (M 58) (M 57 1) least (tn most) (M 57 2) (tn (M 57 4)) (M 59)).2.2 (M 57 4 + 1)))
theorem rc_M_readNumber : ∀ avs M, C_M_readNumber.2.2.1 avs M → ∃ a r, avs = .inr a :: r ∧ mj_ob a = 5 := by
  intro avs M h
  obtain ⟨a, least, most, rfl, h⟩ := mc_rii h
  exact ⟨_, _, rfl, by rw [h.1]; rfl⟩
set_option maxRecDepth 20000 in
set_option maxHeartbeats 2000000 in
theorem t_M_readNumber : mj_T yX5_readNumber cX5_readNumber 5 (some .boolean) 1 C_M_readNumber := by
  refine mj_T_of (own := 5) (rk := 3) [(108, C_M_letterAt), (288, C_M_keep), (302, C_M_isDigit)] (by decide) rfl (by decide) ⟨rfl, rfl, rfl⟩ (List.forall_mem_cons.mpr ⟨mj_KV (own := 5) (nest := false) t_M_letterAt ⟨wc_X5_letterAt, wi_X5, by decide, wl_5_36⟩ wn_X5_letterAt ws_X5_letterAt (c0 := 5) (by decide) rfl (by decide +kernel) rc_M_letterAt (by decide), (List.forall_mem_cons.mpr ⟨mj_KV (own := 5) (nest := false) t_M_keep ⟨wc_X5_keep, wi_X5, by decide, wl_5_96⟩ wn_X5_keep ws_X5_keep (c0 := 5) (by decide) rfl (by decide +kernel) rc_M_keep (by decide), (List.forall_mem_cons.mpr ⟨mj_KS (own := 5) (nest := false) t_M_isDigit ⟨wc_X5_isDigit, wi_X5, by decide, wl_5_100⟩ wn_X5_isDigit (by decide +kernel) (by decide), (fun _ h => absurd h List.not_mem_nil)⟩)⟩)⟩) ?_
  intro avs M hlen hpre V hV
  obtain ⟨a, least, most, rfl, hp⟩ := mc_rii hpre
  show V 0 [some (.inr a), some (.inl least), some (.inl most), none, none] [] M
  have b_0 := hV h_X5_readNumber_0; have b_5 := hV h_X5_readNumber_5; have b_58 := hV h_X5_readNumber_58; have b_73 := hV h_X5_readNumber_73; have b_74 := hV h_X5_readNumber_74
  clear hlen hpre hV
  obtain ⟨rfl, hpp, hm, hk⟩ := hp
  have hmt := tn_of (x := most) (by have := hm.1; omega)
  have hm2 := hm.2
  have e1 : (1 : Int32).toInt = 1 := rfl
  have hn96 := hpp.1.1.2
  have fin : ∀ (c : Nat) (p v : Int32) (M1 : mj_M), wT M M1 p (M 59) (M 57 4) → (p, v, c) = s_nv (M 58) (M 57 1) (tn most) (M 57 2) 0 0 → V 58 [some (.inr 57), some (.inl least), some (.inl most), some (.inl v), some (.inl (nI c))] [] M1 := by
    intro c p v M1 hw he
    have hw2 := wT_4 (wT_q hw (tn (M 57 4)) v) (M 57 4 + 1)
    have h74 : ∀ x : Int32, x = (s_pn (M 58) (M 57 1) least (tn most) (M 57 2) (tn (M 57 4)) (M 59)).1 → V 74 [some (.inr 57), some (.inl least), some (.inl most), some (.inl v), some (.inl (nI c))] [.inl x] (mj_up (mj_up M1 59 (tn (M 57 4)) v) 57 4 (M 57 4 + 1)) := by
      intro x hx
      (refine b_74 _ _ _ ?_; simp only [k_X5_readNumber_0, k_X5_readNumber_5, k_X5_readNumber_58, k_X5_readNumber_73, k_X5_readNumber_74, xp_1, xp_2, xp_3, xp_4, xp_5, xp_6, xp_7, xp_10, xp_11, xp_12, xp_13, xp_14, xp_15, xp_16, xp_17, xp_18, xp_19, xp_20, xp_21, xp_22, xp_23, xp_30, xp_31, xp_32, xp_33, xp_34, xp_35, xp_36, xp_37, xp_38, xp_39, xp_40, xp_41, xp_42, xp_43, xp_50, xp_51, xp_52, xp_53, xp_60, xp_61, xp_62, xp_63, xp_64, xp_65, xp_70, xp_80, xp_81, xp_82, up_ne, up_s, ud_s, ud_o, xw_0, xw_1, xg_0, xg_1, xl_i, xl_r, xs_0, xs_1, xq_i, xq_r, xq_v, xc_0, xc_1, xt_0, xt_1, xr_0, xr_1, xr_2, xe_0, xe_1, ob_0, ob_18, ob_36, ob_54, ak_55, ln_55, cq_55, ak_56, ln_56, cq_56, ob_57, ak_58, ln_58, cq_58, ak_59, ln_59, cq_59, ob_60, ak_61, ln_61, cq_61, ak_62, ln_62, cq_62, ob_63, ak_64, ln_64, cq_64, ak_65, ln_65, cq_65, ak_66, ln_66, cq_66, ak_67, ln_67, cq_67, ak_68, ln_68, cq_68, ak_69, ln_69, cq_69, ak_70, ln_70, cq_70, ak_71, ln_71, cq_71, ak_72, ln_72, cq_72, ak_73, ln_73, cq_73, pt_54_0, pt_54_1, pt_57_0, pt_57_3, pt_60_0, pt_60_1, pt_60_2, pt_60_4, pt_60_5, pt_60_6, pt_60_8, pt_63_0, pt_63_1, pt_63_2, pt_63_3, pt_63_4, pt_63_6, pt_63_7, pt_63_10, pt_63_11, pt_63_17, true_and, and_true, List.length_cons, List.length_nil, Nat.reduceAdd, Nat.reduceLeDiff, forall_eq, ne_eq, Nat.reduceEqDiff, not_false_eq_true, or_false, false_or, or_true, true_or, reduceCtorEq, Nat.zero_le, Nat.reduceMul, Nat.add_zero, false_and, and_false, false_implies, true_implies, forall_const, implies_true, List.append_nil, List.nil_append, List.cons_append, mb_i, mb_ii, mb_iii, mb_r, mb_ri, mb_rii, mb_riii, mb_rr, mb_rri, mb_rrii, mb_rriii, mb_riiiii, mb_rrr, mb_rir, mb_iiii, mb_riiii, tn_0, tn_1, tn_2, tn_3, tn_4, tn_5, tn_6, tc_0, tc_1, tc_2, tc_3, tc_4, tc_5, tc_6, xf_0, xf_1, xf_2, Sum.inl.injEq, Sum.inr.injEq, C_M_isDigit, C_M_keep, C_M_letterAt, C_M_readNumber, nI_1])
      refine ⟨?_, hx, ?_⟩
      · rw [hx]
        unfold s_pn
        dsimp only
        split
        · exact Or.inl rfl
        · exact Or.inr rfl
      · unfold s_pn
        rw [← he]
        exact hw2
    (refine b_58 _ _ _ ?_; simp only [k_X5_readNumber_0, k_X5_readNumber_5, k_X5_readNumber_58, k_X5_readNumber_73, k_X5_readNumber_74, xp_1, xp_2, xp_3, xp_4, xp_5, xp_6, xp_7, xp_10, xp_11, xp_12, xp_13, xp_14, xp_15, xp_16, xp_17, xp_18, xp_19, xp_20, xp_21, xp_22, xp_23, xp_30, xp_31, xp_32, xp_33, xp_34, xp_35, xp_36, xp_37, xp_38, xp_39, xp_40, xp_41, xp_42, xp_43, xp_50, xp_51, xp_52, xp_53, xp_60, xp_61, xp_62, xp_63, xp_64, xp_65, xp_70, xp_80, xp_81, xp_82, up_ne, up_s, ud_s, ud_o, xw_0, xw_1, xg_0, xg_1, xl_i, xl_r, xs_0, xs_1, xq_i, xq_r, xq_v, xc_0, xc_1, xt_0, xt_1, xr_0, xr_1, xr_2, xe_0, xe_1, ob_0, ob_18, ob_36, ob_54, ak_55, ln_55, cq_55, ak_56, ln_56, cq_56, ob_57, ak_58, ln_58, cq_58, ak_59, ln_59, cq_59, ob_60, ak_61, ln_61, cq_61, ak_62, ln_62, cq_62, ob_63, ak_64, ln_64, cq_64, ak_65, ln_65, cq_65, ak_66, ln_66, cq_66, ak_67, ln_67, cq_67, ak_68, ln_68, cq_68, ak_69, ln_69, cq_69, ak_70, ln_70, cq_70, ak_71, ln_71, cq_71, ak_72, ln_72, cq_72, ak_73, ln_73, cq_73, pt_54_0, pt_54_1, pt_57_0, pt_57_3, pt_60_0, pt_60_1, pt_60_2, pt_60_4, pt_60_5, pt_60_6, pt_60_8, pt_63_0, pt_63_1, pt_63_2, pt_63_3, pt_63_4, pt_63_6, pt_63_7, pt_63_10, pt_63_11, pt_63_17, true_and, and_true, List.length_cons, List.length_nil, Nat.reduceAdd, Nat.reduceLeDiff, forall_eq, ne_eq, Nat.reduceEqDiff, not_false_eq_true, or_false, false_or, or_true, true_or, reduceCtorEq, Nat.zero_le, Nat.reduceMul, Nat.add_zero, false_and, and_false, false_implies, true_implies, forall_const, implies_true, List.append_nil, List.nil_append, List.cons_append, mb_i, mb_ii, mb_iii, mb_r, mb_ri, mb_rii, mb_riii, mb_rr, mb_rri, mb_rrii, mb_rriii, mb_riiiii, mb_rrr, mb_rir, mb_iiii, mb_riiii, tn_0, tn_1, tn_2, tn_3, tn_4, tn_5, tn_6, tc_0, tc_1, tc_2, tc_3, tc_4, tc_5, tc_6, xf_0, xf_1, xf_2, Sum.inl.injEq, Sum.inr.injEq, C_M_isDigit, C_M_keep, C_M_letterAt, C_M_readNumber, nI_1])
    rw [hw.2.2.1]
    refine ⟨hk, fun hlt => ?_, fun hge => ?_⟩
    · (refine b_73 _ _ _ ?_; simp only [k_X5_readNumber_0, k_X5_readNumber_5, k_X5_readNumber_58, k_X5_readNumber_73, k_X5_readNumber_74, xp_1, xp_2, xp_3, xp_4, xp_5, xp_6, xp_7, xp_10, xp_11, xp_12, xp_13, xp_14, xp_15, xp_16, xp_17, xp_18, xp_19, xp_20, xp_21, xp_22, xp_23, xp_30, xp_31, xp_32, xp_33, xp_34, xp_35, xp_36, xp_37, xp_38, xp_39, xp_40, xp_41, xp_42, xp_43, xp_50, xp_51, xp_52, xp_53, xp_60, xp_61, xp_62, xp_63, xp_64, xp_65, xp_70, xp_80, xp_81, xp_82, up_ne, up_s, ud_s, ud_o, xw_0, xw_1, xg_0, xg_1, xl_i, xl_r, xs_0, xs_1, xq_i, xq_r, xq_v, xc_0, xc_1, xt_0, xt_1, xr_0, xr_1, xr_2, xe_0, xe_1, ob_0, ob_18, ob_36, ob_54, ak_55, ln_55, cq_55, ak_56, ln_56, cq_56, ob_57, ak_58, ln_58, cq_58, ak_59, ln_59, cq_59, ob_60, ak_61, ln_61, cq_61, ak_62, ln_62, cq_62, ob_63, ak_64, ln_64, cq_64, ak_65, ln_65, cq_65, ak_66, ln_66, cq_66, ak_67, ln_67, cq_67, ak_68, ln_68, cq_68, ak_69, ln_69, cq_69, ak_70, ln_70, cq_70, ak_71, ln_71, cq_71, ak_72, ln_72, cq_72, ak_73, ln_73, cq_73, pt_54_0, pt_54_1, pt_57_0, pt_57_3, pt_60_0, pt_60_1, pt_60_2, pt_60_4, pt_60_5, pt_60_6, pt_60_8, pt_63_0, pt_63_1, pt_63_2, pt_63_3, pt_63_4, pt_63_6, pt_63_7, pt_63_10, pt_63_11, pt_63_17, true_and, and_true, List.length_cons, List.length_nil, Nat.reduceAdd, Nat.reduceLeDiff, forall_eq, ne_eq, Nat.reduceEqDiff, not_false_eq_true, or_false, false_or, or_true, true_or, reduceCtorEq, Nat.zero_le, Nat.reduceMul, Nat.add_zero, false_and, and_false, false_implies, true_implies, forall_const, implies_true, List.append_nil, List.nil_append, List.cons_append, mb_i, mb_ii, mb_iii, mb_r, mb_ri, mb_rii, mb_riii, mb_rr, mb_rri, mb_rrii, mb_rriii, mb_riiiii, mb_rrr, mb_rir, mb_iiii, mb_riiii, tn_0, tn_1, tn_2, tn_3, tn_4, tn_5, tn_6, tc_0, tc_1, tc_2, tc_3, tc_4, tc_5, tc_6, xf_0, xf_1, xf_2, Sum.inl.injEq, Sum.inr.injEq, C_M_isDigit, C_M_keep, C_M_letterAt, C_M_readNumber, nI_1])
      refine h74 _ ?_
      unfold s_pn
      rw [← he, if_pos hlt]
    · refine h74 _ ?_
      unfold s_pn
      rw [← he, if_neg hge]
  have loop : ∀ (f c : Nat) (p v : Int32) (M1 : mj_M), c + f = tn most → 0 ≤ p.toInt → p.toInt ≤ (M 57 1).toInt → wT M M1 p (M 59) (M 57 4) → s_nv (M 58) (M 57 1) f p v c = s_nv (M 58) (M 57 1) (tn most) (M 57 2) 0 0 → V 5 [some (.inr 57), some (.inl least), some (.inl most), some (.inl v), some (.inl (nI c))] [] M1 := by
    intro f
    induction f with
    | zero =>
      intro c p v M1 hc h0 hpn hw he
      (refine b_5 _ _ _ ?_; simp only [k_X5_readNumber_0, k_X5_readNumber_5, k_X5_readNumber_58, k_X5_readNumber_73, k_X5_readNumber_74, xp_1, xp_2, xp_3, xp_4, xp_5, xp_6, xp_7, xp_10, xp_11, xp_12, xp_13, xp_14, xp_15, xp_16, xp_17, xp_18, xp_19, xp_20, xp_21, xp_22, xp_23, xp_30, xp_31, xp_32, xp_33, xp_34, xp_35, xp_36, xp_37, xp_38, xp_39, xp_40, xp_41, xp_42, xp_43, xp_50, xp_51, xp_52, xp_53, xp_60, xp_61, xp_62, xp_63, xp_64, xp_65, xp_70, xp_80, xp_81, xp_82, up_ne, up_s, ud_s, ud_o, xw_0, xw_1, xg_0, xg_1, xl_i, xl_r, xs_0, xs_1, xq_i, xq_r, xq_v, xc_0, xc_1, xt_0, xt_1, xr_0, xr_1, xr_2, xe_0, xe_1, ob_0, ob_18, ob_36, ob_54, ak_55, ln_55, cq_55, ak_56, ln_56, cq_56, ob_57, ak_58, ln_58, cq_58, ak_59, ln_59, cq_59, ob_60, ak_61, ln_61, cq_61, ak_62, ln_62, cq_62, ob_63, ak_64, ln_64, cq_64, ak_65, ln_65, cq_65, ak_66, ln_66, cq_66, ak_67, ln_67, cq_67, ak_68, ln_68, cq_68, ak_69, ln_69, cq_69, ak_70, ln_70, cq_70, ak_71, ln_71, cq_71, ak_72, ln_72, cq_72, ak_73, ln_73, cq_73, pt_54_0, pt_54_1, pt_57_0, pt_57_3, pt_60_0, pt_60_1, pt_60_2, pt_60_4, pt_60_5, pt_60_6, pt_60_8, pt_63_0, pt_63_1, pt_63_2, pt_63_3, pt_63_4, pt_63_6, pt_63_7, pt_63_10, pt_63_11, pt_63_17, true_and, and_true, List.length_cons, List.length_nil, Nat.reduceAdd, Nat.reduceLeDiff, forall_eq, ne_eq, Nat.reduceEqDiff, not_false_eq_true, or_false, false_or, or_true, true_or, reduceCtorEq, Nat.zero_le, Nat.reduceMul, Nat.add_zero, false_and, and_false, false_implies, true_implies, forall_const, implies_true, List.append_nil, List.nil_append, List.cons_append, mb_i, mb_ii, mb_iii, mb_r, mb_ri, mb_rii, mb_riii, mb_rr, mb_rri, mb_rrii, mb_rriii, mb_riiiii, mb_rrr, mb_rir, mb_iiii, mb_riiii, tn_0, tn_1, tn_2, tn_3, tn_4, tn_5, tn_6, tc_0, tc_1, tc_2, tc_3, tc_4, tc_5, tc_6, xf_0, xf_1, xf_2, Sum.inl.injEq, Sum.inr.injEq, C_M_isDigit, C_M_keep, C_M_letterAt, C_M_readNumber, nI_1])
      refine ⟨fun _ => fin c p v M1 hw he, fun hlt => absurd hlt (by rw [ti_lt, ti_nI (by omega)]; omega)⟩
    | succ f ih =>
      intro c p v M1 hc h0 hpn hw he
      have hsg := sg_bd (p := p) hpp.1
      have hdg := s_in_dg hsg
      have hT := wT_T hw
      have hn := wT_n hw
      have hp1 : M1 57 2 = p := hw.1
      rw [s_nv] at he
      (refine b_5 _ _ _ ?_; simp only [k_X5_readNumber_0, k_X5_readNumber_5, k_X5_readNumber_58, k_X5_readNumber_73, k_X5_readNumber_74, xp_1, xp_2, xp_3, xp_4, xp_5, xp_6, xp_7, xp_10, xp_11, xp_12, xp_13, xp_14, xp_15, xp_16, xp_17, xp_18, xp_19, xp_20, xp_21, xp_22, xp_23, xp_30, xp_31, xp_32, xp_33, xp_34, xp_35, xp_36, xp_37, xp_38, xp_39, xp_40, xp_41, xp_42, xp_43, xp_50, xp_51, xp_52, xp_53, xp_60, xp_61, xp_62, xp_63, xp_64, xp_65, xp_70, xp_80, xp_81, xp_82, up_ne, up_s, ud_s, ud_o, xw_0, xw_1, xg_0, xg_1, xl_i, xl_r, xs_0, xs_1, xq_i, xq_r, xq_v, xc_0, xc_1, xt_0, xt_1, xr_0, xr_1, xr_2, xe_0, xe_1, ob_0, ob_18, ob_36, ob_54, ak_55, ln_55, cq_55, ak_56, ln_56, cq_56, ob_57, ak_58, ln_58, cq_58, ak_59, ln_59, cq_59, ob_60, ak_61, ln_61, cq_61, ak_62, ln_62, cq_62, ob_63, ak_64, ln_64, cq_64, ak_65, ln_65, cq_65, ak_66, ln_66, cq_66, ak_67, ln_67, cq_67, ak_68, ln_68, cq_68, ak_69, ln_69, cq_69, ak_70, ln_70, cq_70, ak_71, ln_71, cq_71, ak_72, ln_72, cq_72, ak_73, ln_73, cq_73, pt_54_0, pt_54_1, pt_57_0, pt_57_3, pt_60_0, pt_60_1, pt_60_2, pt_60_4, pt_60_5, pt_60_6, pt_60_8, pt_63_0, pt_63_1, pt_63_2, pt_63_3, pt_63_4, pt_63_6, pt_63_7, pt_63_10, pt_63_11, pt_63_17, true_and, and_true, List.length_cons, List.length_nil, Nat.reduceAdd, Nat.reduceLeDiff, forall_eq, ne_eq, Nat.reduceEqDiff, not_false_eq_true, or_false, false_or, or_true, true_or, reduceCtorEq, Nat.zero_le, Nat.reduceMul, Nat.add_zero, false_and, and_false, false_implies, true_implies, forall_const, implies_true, List.append_nil, List.nil_append, List.cons_append, mb_i, mb_ii, mb_iii, mb_r, mb_ri, mb_rii, mb_riii, mb_rr, mb_rri, mb_rrii, mb_rriii, mb_riiiii, mb_rrr, mb_rir, mb_iiii, mb_riiii, tn_0, tn_1, tn_2, tn_3, tn_4, tn_5, tn_6, tc_0, tc_1, tc_2, tc_3, tc_4, tc_5, tc_6, xf_0, xf_1, xf_2, Sum.inl.injEq, Sum.inr.injEq, C_M_isDigit, C_M_keep, C_M_letterAt, C_M_readNumber, nI_1])
      rw [hT, hn, hp1]
      refine ⟨fun hge => absurd (by rw [ti_lt, ti_nI (by omega)]; omega) hge, fun _ => ⟨⟨hpp.1.1, h0⟩, hsg, fun hz => ?_, fun hz => ⟨⟨hpp.1.1, h0⟩, ?_⟩⟩⟩
      · by_cases hd : s_in (s_sg (M 58) (M 57 1) p - 48) 10 = 0
        · rw [if_pos hd] at he
          exact fin c p v M1 hw he
        · rw [if_neg hd] at hz
          exact absurd hz (by decide)
      · by_cases hd : s_in (s_sg (M 58) (M 57 1) p - 48) 10 = 0
        · rw [if_pos hd] at hz
          exact absurd rfl hz
        · rw [if_neg hd] at he
          have hlt : p < M 57 1 := sg_lt (T := M 58) (n := M 57 1) (fun z => hd (by rw [z]; decide))
          rw [ti_lt] at hlt
          have ep : (p + 1).toInt = p.toInt + 1 := by rw [ti_add (by omega) (by omega), e1]
          rw [Int32.mul_comm v 10]
          exact ih (c + 1) (p + 1) _ _ (by omega) (by omega) (by omega) (wT_2 hw _) he
  (refine b_0 _ _ _ ?_; simp only [k_X5_readNumber_0, k_X5_readNumber_5, k_X5_readNumber_58, k_X5_readNumber_73, k_X5_readNumber_74, xp_1, xp_2, xp_3, xp_4, xp_5, xp_6, xp_7, xp_10, xp_11, xp_12, xp_13, xp_14, xp_15, xp_16, xp_17, xp_18, xp_19, xp_20, xp_21, xp_22, xp_23, xp_30, xp_31, xp_32, xp_33, xp_34, xp_35, xp_36, xp_37, xp_38, xp_39, xp_40, xp_41, xp_42, xp_43, xp_50, xp_51, xp_52, xp_53, xp_60, xp_61, xp_62, xp_63, xp_64, xp_65, xp_70, xp_80, xp_81, xp_82, up_ne, up_s, ud_s, ud_o, xw_0, xw_1, xg_0, xg_1, xl_i, xl_r, xs_0, xs_1, xq_i, xq_r, xq_v, xc_0, xc_1, xt_0, xt_1, xr_0, xr_1, xr_2, xe_0, xe_1, ob_0, ob_18, ob_36, ob_54, ak_55, ln_55, cq_55, ak_56, ln_56, cq_56, ob_57, ak_58, ln_58, cq_58, ak_59, ln_59, cq_59, ob_60, ak_61, ln_61, cq_61, ak_62, ln_62, cq_62, ob_63, ak_64, ln_64, cq_64, ak_65, ln_65, cq_65, ak_66, ln_66, cq_66, ak_67, ln_67, cq_67, ak_68, ln_68, cq_68, ak_69, ln_69, cq_69, ak_70, ln_70, cq_70, ak_71, ln_71, cq_71, ak_72, ln_72, cq_72, ak_73, ln_73, cq_73, pt_54_0, pt_54_1, pt_57_0, pt_57_3, pt_60_0, pt_60_1, pt_60_2, pt_60_4, pt_60_5, pt_60_6, pt_60_8, pt_63_0, pt_63_1, pt_63_2, pt_63_3, pt_63_4, pt_63_6, pt_63_7, pt_63_10, pt_63_11, pt_63_17, true_and, and_true, List.length_cons, List.length_nil, Nat.reduceAdd, Nat.reduceLeDiff, forall_eq, ne_eq, Nat.reduceEqDiff, not_false_eq_true, or_false, false_or, or_true, true_or, reduceCtorEq, Nat.zero_le, Nat.reduceMul, Nat.add_zero, false_and, and_false, false_implies, true_implies, forall_const, implies_true, List.append_nil, List.nil_append, List.cons_append, mb_i, mb_ii, mb_iii, mb_r, mb_ri, mb_rii, mb_riii, mb_rr, mb_rri, mb_rrii, mb_rriii, mb_riiiii, mb_rrr, mb_rir, mb_iiii, mb_riiii, tn_0, tn_1, tn_2, tn_3, tn_4, tn_5, tn_6, tc_0, tc_1, tc_2, tc_3, tc_4, tc_5, tc_6, xf_0, xf_1, xf_2, Sum.inl.injEq, Sum.inr.injEq, C_M_isDigit, C_M_keep, C_M_letterAt, C_M_readNumber, nI_1])
  exact loop (tn most) 0 (M 57 2) 0 M (by omega) hpp.2.1 hpp.2.2 (wT_r M) rfl

/-- the kinds, by their texts -/
def s_kk (s : Nat) (c : Int32) : Int32 := if s = 206 then s_ks c else s_kc c
theorem kk_ix {s : Nat} {c : Int32} (hs : s = 206 ∨ s = 207) : (sIx (s - 200) c < 0 ↔ s_kk s c < 0) ∧ (¬ sIx (s - 200) c < 0 → sIx (s - 200) c = s_kk s c ∧ bd (s_kk s c) 0 5) := by
  rcases hs with rfl | rfl
  · show (sIxF c [115, 108, 100, 111, 98, 110] 0 < 0 ↔ (if (206 : Nat) = 206 then s_ks c else s_kc c) < 0) ∧ (¬ sIxF c [115, 108, 100, 111, 98, 110] 0 < 0 → sIxF c [115, 108, 100, 111, 98, 110] 0 = (if (206 : Nat) = 206 then s_ks c else s_kc c) ∧ bd (if (206 : Nat) = 206 then s_ks c else s_kc c) 0 5)
    rw [if_pos rfl]
    unfold s_ks bd
    by_cases h1 : c = 115
    · subst h1; decide
    by_cases h2 : c = 108
    · subst h2; decide
    by_cases h3 : c = 100
    · subst h3; decide
    by_cases h4 : c = 111
    · subst h4; decide
    by_cases h5 : c = 98
    · subst h5; decide
    by_cases h6 : c = 110
    · subst h6; decide
    rw [if_neg h1, if_neg h2, if_neg h3, if_neg h4, if_neg h5, if_neg h6]
    unfold sIxF
    rw [if_neg (Ne.symm h1)]
    unfold sIxF
    rw [if_neg (Ne.symm h2)]
    unfold sIxF
    rw [if_neg (Ne.symm h3)]
    unfold sIxF
    rw [if_neg (Ne.symm h4)]
    unfold sIxF
    rw [if_neg (Ne.symm h5)]
    unfold sIxF
    rw [if_neg (Ne.symm h6)]
    unfold sIxF
    exact ⟨by decide, fun h => absurd (by decide) h⟩
  · show (sIxF c [99, 102, 112, 114, 113, 119] 0 < 0 ↔ (if (207 : Nat) = 206 then s_ks c else s_kc c) < 0) ∧ (¬ sIxF c [99, 102, 112, 114, 113, 119] 0 < 0 → sIxF c [99, 102, 112, 114, 113, 119] 0 = (if (207 : Nat) = 206 then s_ks c else s_kc c) ∧ bd (if (207 : Nat) = 206 then s_ks c else s_kc c) 0 5)
    rw [if_neg (by decide)]
    unfold s_kc bd
    by_cases h1 : c = 99
    · subst h1; decide
    by_cases h2 : c = 102
    · subst h2; decide
    by_cases h3 : c = 112
    · subst h3; decide
    by_cases h4 : c = 114
    · subst h4; decide
    by_cases h5 : c = 113
    · subst h5; decide
    by_cases h6 : c = 119
    · subst h6; decide
    rw [if_neg h1, if_neg h2, if_neg h3, if_neg h4, if_neg h5, if_neg h6]
    unfold sIxF
    rw [if_neg (Ne.symm h1)]
    unfold sIxF
    rw [if_neg (Ne.symm h2)]
    unfold sIxF
    rw [if_neg (Ne.symm h3)]
    unfold sIxF
    rw [if_neg (Ne.symm h4)]
    unfold sIxF
    rw [if_neg (Ne.symm h5)]
    unfold sIxF
    rw [if_neg (Ne.symm h6)]
    unfold sIxF
    exact ⟨by decide, fun h => absurd (by decide) h⟩
def C_M_readKind : mj_C := (2, rk1, fun avs M => ma_rr avs fun a s => (a = 57 ∧ pT M ∧ (s = 206 ∨ s = 207) ∧ bd (M 57 4) 0 4), fun avs M r M' => ma_rr avs fun a s => (r = .inl (s_pk (s_kk s (s_sg (M 58) (M 57 1) (M 57 2))) (M 57 2) (tn (M 57 4)) (M 59)).1 ∧ (s_kk s (s_sg (M 58) (M 57 1) (M 57 2)) < 0 → M' = M) ∧ (¬ s_kk s (s_sg (M 58) (M 57 1) (M 57 2)) < 0 → wT M M' (M 57 2 + 1) (upd (M 59) (tn (M 57 4)) (s_kk s (s_sg (M 58) (M 57 1) (M 57 2)))) (M 57 4 + 1))))
theorem rc_M_readKind : ∀ avs M, C_M_readKind.2.2.1 avs M → ∃ a r, avs = .inr a :: r ∧ mj_ob a = 5 := by
  intro avs M h
  obtain ⟨a, s, rfl, h⟩ := mc_rr h
  exact ⟨_, _, rfl, by rw [h.1]; rfl⟩
set_option maxRecDepth 20000 in
set_option maxHeartbeats 2000000 in
theorem t_M_readKind : mj_T yX5_readKind cX5_readKind 4 (some .boolean) 4 C_M_readKind := by
  refine mj_T_of (own := 5) (rk := 3) [(108, C_M_letterAt), (279, C_J_indexOf), (288, C_M_keep)] (by decide) rfl (by decide) ⟨rfl, rfl, rfl⟩ (List.forall_mem_cons.mpr ⟨mj_KV (own := 5) (nest := false) t_M_letterAt ⟨wc_X5_letterAt, wi_X5, by decide, wl_5_36⟩ wn_X5_letterAt ws_X5_letterAt (c0 := 5) (by decide) rfl (by decide +kernel) rc_M_letterAt (by decide), (List.forall_mem_cons.mpr ⟨J_indexOf_5_93, (List.forall_mem_cons.mpr ⟨mj_KV (own := 5) (nest := false) t_M_keep ⟨wc_X5_keep, wi_X5, by decide, wl_5_96⟩ wn_X5_keep ws_X5_keep (c0 := 5) (by decide) rfl (by decide +kernel) rc_M_keep (by decide), (fun _ h => absurd h List.not_mem_nil)⟩)⟩)⟩) ?_
  intro avs M hlen hpre V hV
  obtain ⟨a, s, rfl, hp⟩ := mc_rr hpre
  show V 0 [some (.inr a), some (.inr s), none, none] [] M
  have b_0 := hV h_X5_readKind_0; have b_18 := hV h_X5_readKind_18; have b_24 := hV h_X5_readKind_24; have b_31 := hV h_X5_readKind_31
  clear hlen hpre hV
  obtain ⟨rfl, hpp, hs, hk⟩ := hp
  have hsg := sg_bd (p := M 57 2) hpp.1
  have hkk := kk_ix (c := s_sg (M 58) (M 57 1) (M 57 2)) hs
  have h24 : ∀ x : Int32, (x < 0 ↔ s_kk s (s_sg (M 58) (M 57 1) (M 57 2)) < 0) → (¬ x < 0 → x = s_kk s (s_sg (M 58) (M 57 1) (M 57 2))) → V 24 [some (.inr 57), some (.inr s), some (.inl (s_sg (M 58) (M 57 1) (M 57 2))), none] [.inl x] M := by
    intro x hx hx2
    (refine b_24 _ _ _ ?_; simp only [k_X5_readKind_0, k_X5_readKind_18, k_X5_readKind_24, k_X5_readKind_31, xp_1, xp_2, xp_3, xp_4, xp_5, xp_6, xp_7, xp_10, xp_11, xp_12, xp_13, xp_14, xp_15, xp_16, xp_17, xp_18, xp_19, xp_20, xp_21, xp_22, xp_23, xp_30, xp_31, xp_32, xp_33, xp_34, xp_35, xp_36, xp_37, xp_38, xp_39, xp_40, xp_41, xp_42, xp_43, xp_50, xp_51, xp_52, xp_53, xp_60, xp_61, xp_62, xp_63, xp_64, xp_65, xp_70, xp_80, xp_81, xp_82, up_ne, up_s, ud_s, ud_o, xw_0, xw_1, xg_0, xg_1, xl_i, xl_r, xs_0, xs_1, xq_i, xq_r, xq_v, xc_0, xc_1, xt_0, xt_1, xr_0, xr_1, xr_2, xe_0, xe_1, ob_0, ob_18, ob_36, ob_54, ak_55, ln_55, cq_55, ak_56, ln_56, cq_56, ob_57, ak_58, ln_58, cq_58, ak_59, ln_59, cq_59, ob_60, ak_61, ln_61, cq_61, ak_62, ln_62, cq_62, ob_63, ak_64, ln_64, cq_64, ak_65, ln_65, cq_65, ak_66, ln_66, cq_66, ak_67, ln_67, cq_67, ak_68, ln_68, cq_68, ak_69, ln_69, cq_69, ak_70, ln_70, cq_70, ak_71, ln_71, cq_71, ak_72, ln_72, cq_72, ak_73, ln_73, cq_73, pt_54_0, pt_54_1, pt_57_0, pt_57_3, pt_60_0, pt_60_1, pt_60_2, pt_60_4, pt_60_5, pt_60_6, pt_60_8, pt_63_0, pt_63_1, pt_63_2, pt_63_3, pt_63_4, pt_63_6, pt_63_7, pt_63_10, pt_63_11, pt_63_17, true_and, and_true, List.length_cons, List.length_nil, Nat.reduceAdd, Nat.reduceLeDiff, forall_eq, ne_eq, Nat.reduceEqDiff, not_false_eq_true, or_false, false_or, or_true, true_or, reduceCtorEq, Nat.zero_le, Nat.reduceMul, Nat.add_zero, false_and, and_false, false_implies, true_implies, forall_const, implies_true, List.append_nil, List.nil_append, List.cons_append, mb_i, mb_ii, mb_iii, mb_r, mb_ri, mb_rii, mb_riii, mb_rr, mb_rri, mb_rrii, mb_rriii, mb_riiiii, mb_rrr, mb_rir, mb_iiii, mb_riiii, tn_0, tn_1, tn_2, tn_3, tn_4, tn_5, tn_6, tc_0, tc_1, tc_2, tc_3, tc_4, tc_5, tc_6, xf_0, xf_1, xf_2, Sum.inl.injEq, Sum.inr.injEq, C_J_indexOf, C_M_keep, C_M_letterAt, C_M_readKind])
    refine ⟨fun h => ?_, fun h => ?_⟩
    · have hn : ¬ s_kk s (s_sg (M 58) (M 57 1) (M 57 2)) < 0 := fun z => h (hx.mpr z)
      (refine b_31 _ _ _ ?_; simp only [k_X5_readKind_0, k_X5_readKind_18, k_X5_readKind_24, k_X5_readKind_31, xp_1, xp_2, xp_3, xp_4, xp_5, xp_6, xp_7, xp_10, xp_11, xp_12, xp_13, xp_14, xp_15, xp_16, xp_17, xp_18, xp_19, xp_20, xp_21, xp_22, xp_23, xp_30, xp_31, xp_32, xp_33, xp_34, xp_35, xp_36, xp_37, xp_38, xp_39, xp_40, xp_41, xp_42, xp_43, xp_50, xp_51, xp_52, xp_53, xp_60, xp_61, xp_62, xp_63, xp_64, xp_65, xp_70, xp_80, xp_81, xp_82, up_ne, up_s, ud_s, ud_o, xw_0, xw_1, xg_0, xg_1, xl_i, xl_r, xs_0, xs_1, xq_i, xq_r, xq_v, xc_0, xc_1, xt_0, xt_1, xr_0, xr_1, xr_2, xe_0, xe_1, ob_0, ob_18, ob_36, ob_54, ak_55, ln_55, cq_55, ak_56, ln_56, cq_56, ob_57, ak_58, ln_58, cq_58, ak_59, ln_59, cq_59, ob_60, ak_61, ln_61, cq_61, ak_62, ln_62, cq_62, ob_63, ak_64, ln_64, cq_64, ak_65, ln_65, cq_65, ak_66, ln_66, cq_66, ak_67, ln_67, cq_67, ak_68, ln_68, cq_68, ak_69, ln_69, cq_69, ak_70, ln_70, cq_70, ak_71, ln_71, cq_71, ak_72, ln_72, cq_72, ak_73, ln_73, cq_73, pt_54_0, pt_54_1, pt_57_0, pt_57_3, pt_60_0, pt_60_1, pt_60_2, pt_60_4, pt_60_5, pt_60_6, pt_60_8, pt_63_0, pt_63_1, pt_63_2, pt_63_3, pt_63_4, pt_63_6, pt_63_7, pt_63_10, pt_63_11, pt_63_17, true_and, and_true, List.length_cons, List.length_nil, Nat.reduceAdd, Nat.reduceLeDiff, forall_eq, ne_eq, Nat.reduceEqDiff, not_false_eq_true, or_false, false_or, or_true, true_or, reduceCtorEq, Nat.zero_le, Nat.reduceMul, Nat.add_zero, false_and, and_false, false_implies, true_implies, forall_const, implies_true, List.append_nil, List.nil_append, List.cons_append, mb_i, mb_ii, mb_iii, mb_r, mb_ri, mb_rii, mb_riii, mb_rr, mb_rri, mb_rrii, mb_rriii, mb_riiiii, mb_rrr, mb_rir, mb_iiii, mb_riiii, tn_0, tn_1, tn_2, tn_3, tn_4, tn_5, tn_6, tc_0, tc_1, tc_2, tc_3, tc_4, tc_5, tc_6, xf_0, xf_1, xf_2, Sum.inl.injEq, Sum.inr.injEq, C_J_indexOf, C_M_keep, C_M_letterAt, C_M_readKind])
      refine ⟨hk, ?_, fun z => absurd z hn, fun _ => ?_⟩
      · unfold s_pk
        rw [if_neg hn]
      · rw [hx2 h]
        exact wT_2 (wT_4 (wT_q (wT_r M) _ _) _) _
    · have hn := hx.mp h
      refine ⟨?_, fun z => absurd hn z⟩
      unfold s_pk
      rw [if_pos hn]
  (refine b_0 _ _ _ ?_; simp only [k_X5_readKind_0, k_X5_readKind_18, k_X5_readKind_24, k_X5_readKind_31, xp_1, xp_2, xp_3, xp_4, xp_5, xp_6, xp_7, xp_10, xp_11, xp_12, xp_13, xp_14, xp_15, xp_16, xp_17, xp_18, xp_19, xp_20, xp_21, xp_22, xp_23, xp_30, xp_31, xp_32, xp_33, xp_34, xp_35, xp_36, xp_37, xp_38, xp_39, xp_40, xp_41, xp_42, xp_43, xp_50, xp_51, xp_52, xp_53, xp_60, xp_61, xp_62, xp_63, xp_64, xp_65, xp_70, xp_80, xp_81, xp_82, up_ne, up_s, ud_s, ud_o, xw_0, xw_1, xg_0, xg_1, xl_i, xl_r, xs_0, xs_1, xq_i, xq_r, xq_v, xc_0, xc_1, xt_0, xt_1, xr_0, xr_1, xr_2, xe_0, xe_1, ob_0, ob_18, ob_36, ob_54, ak_55, ln_55, cq_55, ak_56, ln_56, cq_56, ob_57, ak_58, ln_58, cq_58, ak_59, ln_59, cq_59, ob_60, ak_61, ln_61, cq_61, ak_62, ln_62, cq_62, ob_63, ak_64, ln_64, cq_64, ak_65, ln_65, cq_65, ak_66, ln_66, cq_66, ak_67, ln_67, cq_67, ak_68, ln_68, cq_68, ak_69, ln_69, cq_69, ak_70, ln_70, cq_70, ak_71, ln_71, cq_71, ak_72, ln_72, cq_72, ak_73, ln_73, cq_73, pt_54_0, pt_54_1, pt_57_0, pt_57_3, pt_60_0, pt_60_1, pt_60_2, pt_60_4, pt_60_5, pt_60_6, pt_60_8, pt_63_0, pt_63_1, pt_63_2, pt_63_3, pt_63_4, pt_63_6, pt_63_7, pt_63_10, pt_63_11, pt_63_17, true_and, and_true, List.length_cons, List.length_nil, Nat.reduceAdd, Nat.reduceLeDiff, forall_eq, ne_eq, Nat.reduceEqDiff, not_false_eq_true, or_false, false_or, or_true, true_or, reduceCtorEq, Nat.zero_le, Nat.reduceMul, Nat.add_zero, false_and, and_false, false_implies, true_implies, forall_const, implies_true, List.append_nil, List.nil_append, List.cons_append, mb_i, mb_ii, mb_iii, mb_r, mb_ri, mb_rii, mb_riii, mb_rr, mb_rri, mb_rrii, mb_rriii, mb_riiiii, mb_rrr, mb_rir, mb_iiii, mb_riiii, tn_0, tn_1, tn_2, tn_3, tn_4, tn_5, tn_6, tc_0, tc_1, tc_2, tc_3, tc_4, tc_5, tc_6, xf_0, xf_1, xf_2, Sum.inl.injEq, Sum.inr.injEq, C_J_indexOf, C_M_keep, C_M_letterAt, C_M_readKind])
  refine ⟨⟨hpp.1.1, hpp.2.1⟩, fun hne => ?_, fun he => ?_⟩
  · (refine b_18 _ _ _ ?_; simp only [k_X5_readKind_0, k_X5_readKind_18, k_X5_readKind_24, k_X5_readKind_31, xp_1, xp_2, xp_3, xp_4, xp_5, xp_6, xp_7, xp_10, xp_11, xp_12, xp_13, xp_14, xp_15, xp_16, xp_17, xp_18, xp_19, xp_20, xp_21, xp_22, xp_23, xp_30, xp_31, xp_32, xp_33, xp_34, xp_35, xp_36, xp_37, xp_38, xp_39, xp_40, xp_41, xp_42, xp_43, xp_50, xp_51, xp_52, xp_53, xp_60, xp_61, xp_62, xp_63, xp_64, xp_65, xp_70, xp_80, xp_81, xp_82, up_ne, up_s, ud_s, ud_o, xw_0, xw_1, xg_0, xg_1, xl_i, xl_r, xs_0, xs_1, xq_i, xq_r, xq_v, xc_0, xc_1, xt_0, xt_1, xr_0, xr_1, xr_2, xe_0, xe_1, ob_0, ob_18, ob_36, ob_54, ak_55, ln_55, cq_55, ak_56, ln_56, cq_56, ob_57, ak_58, ln_58, cq_58, ak_59, ln_59, cq_59, ob_60, ak_61, ln_61, cq_61, ak_62, ln_62, cq_62, ob_63, ak_64, ln_64, cq_64, ak_65, ln_65, cq_65, ak_66, ln_66, cq_66, ak_67, ln_67, cq_67, ak_68, ln_68, cq_68, ak_69, ln_69, cq_69, ak_70, ln_70, cq_70, ak_71, ln_71, cq_71, ak_72, ln_72, cq_72, ak_73, ln_73, cq_73, pt_54_0, pt_54_1, pt_57_0, pt_57_3, pt_60_0, pt_60_1, pt_60_2, pt_60_4, pt_60_5, pt_60_6, pt_60_8, pt_63_0, pt_63_1, pt_63_2, pt_63_3, pt_63_4, pt_63_6, pt_63_7, pt_63_10, pt_63_11, pt_63_17, true_and, and_true, List.length_cons, List.length_nil, Nat.reduceAdd, Nat.reduceLeDiff, forall_eq, ne_eq, Nat.reduceEqDiff, not_false_eq_true, or_false, false_or, or_true, true_or, reduceCtorEq, Nat.zero_le, Nat.reduceMul, Nat.add_zero, false_and, and_false, false_implies, true_implies, forall_const, implies_true, List.append_nil, List.nil_append, List.cons_append, mb_i, mb_ii, mb_iii, mb_r, mb_ri, mb_rii, mb_riii, mb_rr, mb_rri, mb_rrii, mb_rriii, mb_riiiii, mb_rrr, mb_rir, mb_iiii, mb_riiii, tn_0, tn_1, tn_2, tn_3, tn_4, tn_5, tn_6, tc_0, tc_1, tc_2, tc_3, tc_4, tc_5, tc_6, xf_0, xf_1, xf_2, Sum.inl.injEq, Sum.inr.injEq, C_J_indexOf, C_M_keep, C_M_letterAt, C_M_readKind])
    have hb : bd (s_sg (M 58) (M 57 1) (M 57 2)) 0 255 := by
      have e : ¬ (s_sg (M 58) (M 57 1) (M 57 2)).toInt = (-1 : Int32).toInt := fun z => hne (ti_eq.mpr z)
      have em : (-1 : Int32).toInt = -1 := rfl
      have h1 := hsg.1
      exact ⟨by omega, hsg.2⟩
    rw [i2c_id hb]
    refine ⟨?_, ?_⟩
    · rcases hs with rfl | rfl
      · exact ⟨6, by decide, rfl, by decide, hb⟩
      · exact ⟨7, by decide, rfl, by decide, hb⟩
    · exact h24 _ hkk.1 (fun h => (hkk.2 h).1)
  · have hneg : s_kk s (s_sg (M 58) (M 57 1) (M 57 2)) < 0 := by
      rw [he]
      rcases hs with rfl | rfl <;> decide
    exact h24 (-1) ⟨fun _ => hneg, fun _ => by decide⟩ (fun h => absurd (by decide) h)

