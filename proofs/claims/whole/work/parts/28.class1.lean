/-! the class's small words -/
def C_M_outside : mj_C := (3, 1, fun avs M => ma_iii avs fun v least most => (True), fun avs M r M' => ma_iii avs fun v least most => (r = .inl (s_wi v least most) ∧ M' = M))
set_option maxRecDepth 20000 in
set_option maxHeartbeats 2000000 in
theorem t_M_outside : mj_T yX6_outside cX6_outside 3 (some .int) 0 C_M_outside := by
  refine mj_T_of (own := 6) (rk := 1) [] (by decide) rfl (by decide) ⟨rfl, rfl⟩ (fun _ h => absurd h List.not_mem_nil) ?_
  intro avs M hlen hpre V hV
  obtain ⟨v, least, most, rfl, hp⟩ := mc_iii hpre
  show V 0 [some (.inl v), some (.inl least), some (.inl most)] [] M
  have b_0 := hV h_X6_outside_0; have b_8 := hV h_X6_outside_8; have b_18 := hV h_X6_outside_18; have b_19 := hV h_X6_outside_19
  clear hlen hpre hV
  repeat' (first | (with_reducible refine And.intro ?_ ?_) | (with_reducible intro _) | ((first | refine b_0 _ _ _ ?_ | refine b_8 _ _ _ ?_ | refine b_18 _ _ _ ?_ | refine b_19 _ _ _ ?_); simp only [k_X6_outside_0, k_X6_outside_8, k_X6_outside_18, k_X6_outside_19, xp_1, xp_2, xp_3, xp_4, xp_5, xp_6, xp_7, xp_10, xp_11, xp_12, xp_13, xp_14, xp_15, xp_16, xp_17, xp_18, xp_19, xp_20, xp_21, xp_22, xp_23, xp_30, xp_31, xp_32, xp_33, xp_34, xp_35, xp_36, xp_37, xp_38, xp_39, xp_40, xp_41, xp_42, xp_43, xp_50, xp_51, xp_52, xp_53, xp_60, xp_61, xp_62, xp_63, xp_64, xp_65, xp_70, xp_80, xp_81, xp_82, up_ne, up_s, ud_s, ud_o, xw_0, xw_1, xg_0, xg_1, xl_i, xl_r, xs_0, xs_1, xq_i, xq_r, xq_v, xc_0, xc_1, xt_0, xt_1, xr_0, xr_1, xr_2, xe_0, xe_1, ob_0, ob_18, ob_36, ob_54, ak_55, ln_55, cq_55, ak_56, ln_56, cq_56, ob_57, ak_58, ln_58, cq_58, ak_59, ln_59, cq_59, ob_60, ak_61, ln_61, cq_61, ak_62, ln_62, cq_62, ob_63, ak_64, ln_64, cq_64, ak_65, ln_65, cq_65, ak_66, ln_66, cq_66, ak_67, ln_67, cq_67, ak_68, ln_68, cq_68, ak_69, ln_69, cq_69, ak_70, ln_70, cq_70, ak_71, ln_71, cq_71, ak_72, ln_72, cq_72, ak_73, ln_73, cq_73, pt_54_0, pt_54_1, pt_57_0, pt_57_3, pt_60_0, pt_60_1, pt_60_2, pt_60_4, pt_60_5, pt_60_6, pt_60_8, pt_63_0, pt_63_1, pt_63_2, pt_63_3, pt_63_4, pt_63_6, pt_63_7, pt_63_10, pt_63_11, pt_63_17, true_and, and_true, List.length_cons, List.length_nil, Nat.reduceAdd, Nat.reduceLeDiff, forall_eq, ne_eq, Nat.reduceEqDiff, not_false_eq_true, or_false, false_or, or_true, true_or, reduceCtorEq, Nat.zero_le, Nat.reduceMul, Nat.add_zero, false_and, and_false, false_implies, true_implies, forall_const, implies_true, List.append_nil, List.nil_append, List.cons_append, mb_i, mb_ii, mb_iii, mb_r, mb_ri, mb_rii, mb_riii, mb_rr, mb_rri, mb_rrii, mb_rriii, mb_riiiii, mb_rrr, mb_rir, mb_iiii, mb_riiii, tn_0, tn_1, tn_2, tn_3, tn_4, tn_5, tn_6, tc_0, tc_1, tc_2, tc_3, tc_4, tc_5, tc_6, xf_0, xf_1, xf_2, Sum.inl.injEq, Sum.inr.injEq, C_M_outside]))
  all_goals clear b_0 b_8 b_18 b_19
  all_goals simp [s_wi, *]

def C_M_first : mj_C := (2, 1, fun avs M => ma_ii avs fun x y => (True), fun avs M r M' => ma_ii avs fun x y => (r = .inl (s_ft x y) ∧ M' = M))
set_option maxRecDepth 20000 in
set_option maxHeartbeats 2000000 in
theorem t_M_first : mj_T yX6_first cX6_first 2 (some .int) 0 C_M_first := by
  refine mj_T_of (own := 6) (rk := 1) [] (by decide) rfl (by decide) ⟨rfl, rfl⟩ (fun _ h => absurd h List.not_mem_nil) ?_
  intro avs M hlen hpre V hV
  obtain ⟨x, y, rfl, hp⟩ := mc_ii hpre
  show V 0 [some (.inl x), some (.inl y)] [] M
  have b_0 := hV h_X6_first_0; have b_8 := hV h_X6_first_8; have b_9 := hV h_X6_first_9
  clear hlen hpre hV
  repeat' (first | (with_reducible refine And.intro ?_ ?_) | (with_reducible intro _) | ((first | refine b_0 _ _ _ ?_ | refine b_8 _ _ _ ?_ | refine b_9 _ _ _ ?_); simp only [k_X6_first_0, k_X6_first_8, k_X6_first_9, xp_1, xp_2, xp_3, xp_4, xp_5, xp_6, xp_7, xp_10, xp_11, xp_12, xp_13, xp_14, xp_15, xp_16, xp_17, xp_18, xp_19, xp_20, xp_21, xp_22, xp_23, xp_30, xp_31, xp_32, xp_33, xp_34, xp_35, xp_36, xp_37, xp_38, xp_39, xp_40, xp_41, xp_42, xp_43, xp_50, xp_51, xp_52, xp_53, xp_60, xp_61, xp_62, xp_63, xp_64, xp_65, xp_70, xp_80, xp_81, xp_82, up_ne, up_s, ud_s, ud_o, xw_0, xw_1, xg_0, xg_1, xl_i, xl_r, xs_0, xs_1, xq_i, xq_r, xq_v, xc_0, xc_1, xt_0, xt_1, xr_0, xr_1, xr_2, xe_0, xe_1, ob_0, ob_18, ob_36, ob_54, ak_55, ln_55, cq_55, ak_56, ln_56, cq_56, ob_57, ak_58, ln_58, cq_58, ak_59, ln_59, cq_59, ob_60, ak_61, ln_61, cq_61, ak_62, ln_62, cq_62, ob_63, ak_64, ln_64, cq_64, ak_65, ln_65, cq_65, ak_66, ln_66, cq_66, ak_67, ln_67, cq_67, ak_68, ln_68, cq_68, ak_69, ln_69, cq_69, ak_70, ln_70, cq_70, ak_71, ln_71, cq_71, ak_72, ln_72, cq_72, ak_73, ln_73, cq_73, pt_54_0, pt_54_1, pt_57_0, pt_57_3, pt_60_0, pt_60_1, pt_60_2, pt_60_4, pt_60_5, pt_60_6, pt_60_8, pt_63_0, pt_63_1, pt_63_2, pt_63_3, pt_63_4, pt_63_6, pt_63_7, pt_63_10, pt_63_11, pt_63_17, true_and, and_true, List.length_cons, List.length_nil, Nat.reduceAdd, Nat.reduceLeDiff, forall_eq, ne_eq, Nat.reduceEqDiff, not_false_eq_true, or_false, false_or, or_true, true_or, reduceCtorEq, Nat.zero_le, Nat.reduceMul, Nat.add_zero, false_and, and_false, false_implies, true_implies, forall_const, implies_true, List.append_nil, List.nil_append, List.cons_append, mb_i, mb_ii, mb_iii, mb_r, mb_ri, mb_rii, mb_riii, mb_rr, mb_rri, mb_rrii, mb_rriii, mb_riiiii, mb_rrr, mb_rir, mb_iiii, mb_riiii, tn_0, tn_1, tn_2, tn_3, tn_4, tn_5, tn_6, tc_0, tc_1, tc_2, tc_3, tc_4, tc_5, tc_6, xf_0, xf_1, xf_2, Sum.inl.injEq, Sum.inr.injEq, C_M_first]))
  all_goals clear b_0 b_8 b_9
  all_goals simp [s_ft, *]

def C_M_otherThan : mj_C := (2, 1, fun avs M => ma_ii avs fun w n => (True), fun avs M r M' => ma_ii avs fun w n => (r = .inl (s_ot w n) ∧ M' = M))
set_option maxRecDepth 20000 in
set_option maxHeartbeats 2000000 in
theorem t_M_otherThan : mj_T yX6_otherThan cX6_otherThan 2 (some .int) 0 C_M_otherThan := by
  refine mj_T_of (own := 6) (rk := 1) [] (by decide) rfl (by decide) ⟨rfl, rfl⟩ (fun _ h => absurd h List.not_mem_nil) ?_
  intro avs M hlen hpre V hV
  obtain ⟨w, n, rfl, hp⟩ := mc_ii hpre
  show V 0 [some (.inl w), some (.inl n)] [] M
  have b_0 := hV h_X6_otherThan_0; have b_9 := hV h_X6_otherThan_9; have b_14 := hV h_X6_otherThan_14; have b_15 := hV h_X6_otherThan_15
  clear hlen hpre hV
  repeat' (first | (with_reducible refine And.intro ?_ ?_) | (with_reducible intro _) | ((first | refine b_0 _ _ _ ?_ | refine b_9 _ _ _ ?_ | refine b_14 _ _ _ ?_ | refine b_15 _ _ _ ?_); simp only [k_X6_otherThan_0, k_X6_otherThan_9, k_X6_otherThan_14, k_X6_otherThan_15, xp_1, xp_2, xp_3, xp_4, xp_5, xp_6, xp_7, xp_10, xp_11, xp_12, xp_13, xp_14, xp_15, xp_16, xp_17, xp_18, xp_19, xp_20, xp_21, xp_22, xp_23, xp_30, xp_31, xp_32, xp_33, xp_34, xp_35, xp_36, xp_37, xp_38, xp_39, xp_40, xp_41, xp_42, xp_43, xp_50, xp_51, xp_52, xp_53, xp_60, xp_61, xp_62, xp_63, xp_64, xp_65, xp_70, xp_80, xp_81, xp_82, up_ne, up_s, ud_s, ud_o, xw_0, xw_1, xg_0, xg_1, xl_i, xl_r, xs_0, xs_1, xq_i, xq_r, xq_v, xc_0, xc_1, xt_0, xt_1, xr_0, xr_1, xr_2, xe_0, xe_1, ob_0, ob_18, ob_36, ob_54, ak_55, ln_55, cq_55, ak_56, ln_56, cq_56, ob_57, ak_58, ln_58, cq_58, ak_59, ln_59, cq_59, ob_60, ak_61, ln_61, cq_61, ak_62, ln_62, cq_62, ob_63, ak_64, ln_64, cq_64, ak_65, ln_65, cq_65, ak_66, ln_66, cq_66, ak_67, ln_67, cq_67, ak_68, ln_68, cq_68, ak_69, ln_69, cq_69, ak_70, ln_70, cq_70, ak_71, ln_71, cq_71, ak_72, ln_72, cq_72, ak_73, ln_73, cq_73, pt_54_0, pt_54_1, pt_57_0, pt_57_3, pt_60_0, pt_60_1, pt_60_2, pt_60_4, pt_60_5, pt_60_6, pt_60_8, pt_63_0, pt_63_1, pt_63_2, pt_63_3, pt_63_4, pt_63_6, pt_63_7, pt_63_10, pt_63_11, pt_63_17, true_and, and_true, List.length_cons, List.length_nil, Nat.reduceAdd, Nat.reduceLeDiff, forall_eq, ne_eq, Nat.reduceEqDiff, not_false_eq_true, or_false, false_or, or_true, true_or, reduceCtorEq, Nat.zero_le, Nat.reduceMul, Nat.add_zero, false_and, and_false, false_implies, true_implies, forall_const, implies_true, List.append_nil, List.nil_append, List.cons_append, mb_i, mb_ii, mb_iii, mb_r, mb_ri, mb_rii, mb_riii, mb_rr, mb_rri, mb_rrii, mb_rriii, mb_riiiii, mb_rrr, mb_rir, mb_iiii, mb_riiii, tn_0, tn_1, tn_2, tn_3, tn_4, tn_5, tn_6, tc_0, tc_1, tc_2, tc_3, tc_4, tc_5, tc_6, xf_0, xf_1, xf_2, Sum.inl.injEq, Sum.inr.injEq, C_M_otherThan]))
  all_goals clear b_0 b_9 b_14 b_15
  all_goals simp [s_ot, s_in, *]

def C_M_noSleeper : mj_C := (2, 1, fun avs M => ma_ri avs fun a i => (a = 60), fun avs M r M' => ma_ri avs fun a i => (r = .inl (nB i (M 0 3)) ∧ M' = M))
theorem rc_M_noSleeper : ∀ avs M, C_M_noSleeper.2.2.1 avs M → ∃ a r, avs = .inr a :: r ∧ mj_ob a = 6 := by
  intro avs M h
  obtain ⟨a, i, rfl, h⟩ := mc_ri h
  exact ⟨_, _, rfl, by rw [h]; rfl⟩
set_option maxRecDepth 20000 in
set_option maxHeartbeats 2000000 in
theorem t_M_noSleeper : mj_T yX6_noSleeper cX6_noSleeper 2 (some .int) 0 C_M_noSleeper := by
  refine mj_T_of (own := 6) (rk := 1) [] (by decide) rfl (by decide) ⟨rfl, rfl⟩ (fun _ h => absurd h List.not_mem_nil) ?_
  intro avs M hlen hpre V hV
  obtain ⟨a, i, rfl, hp⟩ := mc_ri hpre
  show V 0 [some (.inr a), some (.inl i)] [] M
  have b_0 := hV h_X6_noSleeper_0; have b_15 := hV h_X6_noSleeper_15; have b_19 := hV h_X6_noSleeper_19; have b_20 := hV h_X6_noSleeper_20
  clear hlen hpre hV
  subst hp
  repeat' (first | (with_reducible refine And.intro ?_ ?_) | (with_reducible intro _) | ((first | refine b_0 _ _ _ ?_ | refine b_15 _ _ _ ?_ | refine b_19 _ _ _ ?_ | refine b_20 _ _ _ ?_); simp only [k_X6_noSleeper_0, k_X6_noSleeper_15, k_X6_noSleeper_19, k_X6_noSleeper_20, xp_1, xp_2, xp_3, xp_4, xp_5, xp_6, xp_7, xp_10, xp_11, xp_12, xp_13, xp_14, xp_15, xp_16, xp_17, xp_18, xp_19, xp_20, xp_21, xp_22, xp_23, xp_30, xp_31, xp_32, xp_33, xp_34, xp_35, xp_36, xp_37, xp_38, xp_39, xp_40, xp_41, xp_42, xp_43, xp_50, xp_51, xp_52, xp_53, xp_60, xp_61, xp_62, xp_63, xp_64, xp_65, xp_70, xp_80, xp_81, xp_82, up_ne, up_s, ud_s, ud_o, xw_0, xw_1, xg_0, xg_1, xl_i, xl_r, xs_0, xs_1, xq_i, xq_r, xq_v, xc_0, xc_1, xt_0, xt_1, xr_0, xr_1, xr_2, xe_0, xe_1, ob_0, ob_18, ob_36, ob_54, ak_55, ln_55, cq_55, ak_56, ln_56, cq_56, ob_57, ak_58, ln_58, cq_58, ak_59, ln_59, cq_59, ob_60, ak_61, ln_61, cq_61, ak_62, ln_62, cq_62, ob_63, ak_64, ln_64, cq_64, ak_65, ln_65, cq_65, ak_66, ln_66, cq_66, ak_67, ln_67, cq_67, ak_68, ln_68, cq_68, ak_69, ln_69, cq_69, ak_70, ln_70, cq_70, ak_71, ln_71, cq_71, ak_72, ln_72, cq_72, ak_73, ln_73, cq_73, pt_54_0, pt_54_1, pt_57_0, pt_57_3, pt_60_0, pt_60_1, pt_60_2, pt_60_4, pt_60_5, pt_60_6, pt_60_8, pt_63_0, pt_63_1, pt_63_2, pt_63_3, pt_63_4, pt_63_6, pt_63_7, pt_63_10, pt_63_11, pt_63_17, true_and, and_true, List.length_cons, List.length_nil, Nat.reduceAdd, Nat.reduceLeDiff, forall_eq, ne_eq, Nat.reduceEqDiff, not_false_eq_true, or_false, false_or, or_true, true_or, reduceCtorEq, Nat.zero_le, Nat.reduceMul, Nat.add_zero, false_and, and_false, false_implies, true_implies, forall_const, implies_true, List.append_nil, List.nil_append, List.cons_append, mb_i, mb_ii, mb_iii, mb_r, mb_ri, mb_rii, mb_riii, mb_rr, mb_rri, mb_rrii, mb_rriii, mb_riiiii, mb_rrr, mb_rir, mb_iiii, mb_riiii, tn_0, tn_1, tn_2, tn_3, tn_4, tn_5, tn_6, tc_0, tc_1, tc_2, tc_3, tc_4, tc_5, tc_6, xf_0, xf_1, xf_2, Sum.inl.injEq, Sum.inr.injEq, C_M_noSleeper]))
  all_goals clear b_0 b_15 b_19 b_20
  all_goals simp [nB, s_in, *]

def C_M_noClock : mj_C := (2, 1, fun avs M => ma_ri avs fun a i => (a = 60), fun avs M r M' => ma_ri avs fun a i => (r = .inl (nB i (M 0 4)) ∧ M' = M))
theorem rc_M_noClock : ∀ avs M, C_M_noClock.2.2.1 avs M → ∃ a r, avs = .inr a :: r ∧ mj_ob a = 6 := by
  intro avs M h
  obtain ⟨a, i, rfl, h⟩ := mc_ri h
  exact ⟨_, _, rfl, by rw [h]; rfl⟩
set_option maxRecDepth 20000 in
set_option maxHeartbeats 2000000 in
theorem t_M_noClock : mj_T yX6_noClock cX6_noClock 2 (some .int) 0 C_M_noClock := by
  refine mj_T_of (own := 6) (rk := 1) [] (by decide) rfl (by decide) ⟨rfl, rfl⟩ (fun _ h => absurd h List.not_mem_nil) ?_
  intro avs M hlen hpre V hV
  obtain ⟨a, i, rfl, hp⟩ := mc_ri hpre
  show V 0 [some (.inr a), some (.inl i)] [] M
  have b_0 := hV h_X6_noClock_0; have b_15 := hV h_X6_noClock_15; have b_19 := hV h_X6_noClock_19; have b_20 := hV h_X6_noClock_20
  clear hlen hpre hV
  subst hp
  repeat' (first | (with_reducible refine And.intro ?_ ?_) | (with_reducible intro _) | ((first | refine b_0 _ _ _ ?_ | refine b_15 _ _ _ ?_ | refine b_19 _ _ _ ?_ | refine b_20 _ _ _ ?_); simp only [k_X6_noClock_0, k_X6_noClock_15, k_X6_noClock_19, k_X6_noClock_20, xp_1, xp_2, xp_3, xp_4, xp_5, xp_6, xp_7, xp_10, xp_11, xp_12, xp_13, xp_14, xp_15, xp_16, xp_17, xp_18, xp_19, xp_20, xp_21, xp_22, xp_23, xp_30, xp_31, xp_32, xp_33, xp_34, xp_35, xp_36, xp_37, xp_38, xp_39, xp_40, xp_41, xp_42, xp_43, xp_50, xp_51, xp_52, xp_53, xp_60, xp_61, xp_62, xp_63, xp_64, xp_65, xp_70, xp_80, xp_81, xp_82, up_ne, up_s, ud_s, ud_o, xw_0, xw_1, xg_0, xg_1, xl_i, xl_r, xs_0, xs_1, xq_i, xq_r, xq_v, xc_0, xc_1, xt_0, xt_1, xr_0, xr_1, xr_2, xe_0, xe_1, ob_0, ob_18, ob_36, ob_54, ak_55, ln_55, cq_55, ak_56, ln_56, cq_56, ob_57, ak_58, ln_58, cq_58, ak_59, ln_59, cq_59, ob_60, ak_61, ln_61, cq_61, ak_62, ln_62, cq_62, ob_63, ak_64, ln_64, cq_64, ak_65, ln_65, cq_65, ak_66, ln_66, cq_66, ak_67, ln_67, cq_67, ak_68, ln_68, cq_68, ak_69, ln_69, cq_69, ak_70, ln_70, cq_70, ak_71, ln_71, cq_71, ak_72, ln_72, cq_72, ak_73, ln_73, cq_73, pt_54_0, pt_54_1, pt_57_0, pt_57_3, pt_60_0, pt_60_1, pt_60_2, pt_60_4, pt_60_5, pt_60_6, pt_60_8, pt_63_0, pt_63_1, pt_63_2, pt_63_3, pt_63_4, pt_63_6, pt_63_7, pt_63_10, pt_63_11, pt_63_17, true_and, and_true, List.length_cons, List.length_nil, Nat.reduceAdd, Nat.reduceLeDiff, forall_eq, ne_eq, Nat.reduceEqDiff, not_false_eq_true, or_false, false_or, or_true, true_or, reduceCtorEq, Nat.zero_le, Nat.reduceMul, Nat.add_zero, false_and, and_false, false_implies, true_implies, forall_const, implies_true, List.append_nil, List.nil_append, List.cons_append, mb_i, mb_ii, mb_iii, mb_r, mb_ri, mb_rii, mb_riii, mb_rr, mb_rri, mb_rrii, mb_rriii, mb_riiiii, mb_rrr, mb_rir, mb_iiii, mb_riiii, tn_0, tn_1, tn_2, tn_3, tn_4, tn_5, tn_6, tc_0, tc_1, tc_2, tc_3, tc_4, tc_5, tc_6, xf_0, xf_1, xf_2, Sum.inl.injEq, Sum.inr.injEq, C_M_noClock]))
  all_goals clear b_0 b_15 b_19 b_20
  all_goals simp [nB, s_in, *]

def C_M_noTask : mj_C := (2, 1, fun avs M => ma_ri avs fun a i => (a = 60), fun avs M r M' => ma_ri avs fun a i => (r = .inl (nB i (M 0 5)) ∧ M' = M))
theorem rc_M_noTask : ∀ avs M, C_M_noTask.2.2.1 avs M → ∃ a r, avs = .inr a :: r ∧ mj_ob a = 6 := by
  intro avs M h
  obtain ⟨a, i, rfl, h⟩ := mc_ri h
  exact ⟨_, _, rfl, by rw [h]; rfl⟩
set_option maxRecDepth 20000 in
set_option maxHeartbeats 2000000 in
theorem t_M_noTask : mj_T yX6_noTask cX6_noTask 2 (some .int) 0 C_M_noTask := by
  refine mj_T_of (own := 6) (rk := 1) [] (by decide) rfl (by decide) ⟨rfl, rfl⟩ (fun _ h => absurd h List.not_mem_nil) ?_
  intro avs M hlen hpre V hV
  obtain ⟨a, i, rfl, hp⟩ := mc_ri hpre
  show V 0 [some (.inr a), some (.inl i)] [] M
  have b_0 := hV h_X6_noTask_0; have b_15 := hV h_X6_noTask_15; have b_19 := hV h_X6_noTask_19; have b_20 := hV h_X6_noTask_20
  clear hlen hpre hV
  subst hp
  repeat' (first | (with_reducible refine And.intro ?_ ?_) | (with_reducible intro _) | ((first | refine b_0 _ _ _ ?_ | refine b_15 _ _ _ ?_ | refine b_19 _ _ _ ?_ | refine b_20 _ _ _ ?_); simp only [k_X6_noTask_0, k_X6_noTask_15, k_X6_noTask_19, k_X6_noTask_20, xp_1, xp_2, xp_3, xp_4, xp_5, xp_6, xp_7, xp_10, xp_11, xp_12, xp_13, xp_14, xp_15, xp_16, xp_17, xp_18, xp_19, xp_20, xp_21, xp_22, xp_23, xp_30, xp_31, xp_32, xp_33, xp_34, xp_35, xp_36, xp_37, xp_38, xp_39, xp_40, xp_41, xp_42, xp_43, xp_50, xp_51, xp_52, xp_53, xp_60, xp_61, xp_62, xp_63, xp_64, xp_65, xp_70, xp_80, xp_81, xp_82, up_ne, up_s, ud_s, ud_o, xw_0, xw_1, xg_0, xg_1, xl_i, xl_r, xs_0, xs_1, xq_i, xq_r, xq_v, xc_0, xc_1, xt_0, xt_1, xr_0, xr_1, xr_2, xe_0, xe_1, ob_0, ob_18, ob_36, ob_54, ak_55, ln_55, cq_55, ak_56, ln_56, cq_56, ob_57, ak_58, ln_58, cq_58, ak_59, ln_59, cq_59, ob_60, ak_61, ln_61, cq_61, ak_62, ln_62, cq_62, ob_63, ak_64, ln_64, cq_64, ak_65, ln_65, cq_65, ak_66, ln_66, cq_66, ak_67, ln_67, cq_67, ak_68, ln_68, cq_68, ak_69, ln_69, cq_69, ak_70, ln_70, cq_70, ak_71, ln_71, cq_71, ak_72, ln_72, cq_72, ak_73, ln_73, cq_73, pt_54_0, pt_54_1, pt_57_0, pt_57_3, pt_60_0, pt_60_1, pt_60_2, pt_60_4, pt_60_5, pt_60_6, pt_60_8, pt_63_0, pt_63_1, pt_63_2, pt_63_3, pt_63_4, pt_63_6, pt_63_7, pt_63_10, pt_63_11, pt_63_17, true_and, and_true, List.length_cons, List.length_nil, Nat.reduceAdd, Nat.reduceLeDiff, forall_eq, ne_eq, Nat.reduceEqDiff, not_false_eq_true, or_false, false_or, or_true, true_or, reduceCtorEq, Nat.zero_le, Nat.reduceMul, Nat.add_zero, false_and, and_false, false_implies, true_implies, forall_const, implies_true, List.append_nil, List.nil_append, List.cons_append, mb_i, mb_ii, mb_iii, mb_r, mb_ri, mb_rii, mb_riii, mb_rr, mb_rri, mb_rrii, mb_rriii, mb_riiiii, mb_rrr, mb_rir, mb_iiii, mb_riiii, tn_0, tn_1, tn_2, tn_3, tn_4, tn_5, tn_6, tc_0, tc_1, tc_2, tc_3, tc_4, tc_5, tc_6, xf_0, xf_1, xf_2, Sum.inl.injEq, Sum.inr.injEq, C_M_noTask]))
  all_goals clear b_0 b_15 b_19 b_20
  all_goals simp [nB, s_in, *]

theorem rc_ge {code : Int32} (h : s_rc code) : code < 0 ∧ ¬ code < -6 := by
  rcases h with h | h | h | h | h <;> (rw [h]; decide)
def C_M_refuse6 : mj_C := (2, 1, fun avs M => ma_ri avs fun a code => (a = 60 ∧ s_rc code), fun avs M r M' => ma_ri avs fun a code => (r = .inl code ∧ M' = s_bp M 62 code))
theorem rc_M_refuse6 : ∀ avs M, C_M_refuse6.2.2.1 avs M → ∃ a r, avs = .inr a :: r ∧ mj_ob a = 6 := by
  intro avs M h
  obtain ⟨a, code, rfl, h⟩ := mc_ri h
  exact ⟨_, _, rfl, by rw [h.1]; rfl⟩
set_option maxRecDepth 20000 in
set_option maxHeartbeats 2000000 in
theorem t_M_refuse6 : mj_T yX6_refuse cX6_refuse 2 (some .int) 0 C_M_refuse6 := by
  refine mj_T_of (own := 6) (rk := 1) [] (by decide) rfl (by decide) ⟨rfl, rfl⟩ (fun _ h => absurd h List.not_mem_nil) ?_
  intro avs M hlen hpre V hV
  obtain ⟨a, code, rfl, hp⟩ := mc_ri hpre
  show V 0 [some (.inr a), some (.inl code)] [] M
  have b_0 := hV h_X6_refuse_0; have b_21 := hV h_X6_refuse_21
  clear hlen hpre hV
  obtain ⟨rfl, hp⟩ := hp
  have h1 := s_rc_in hp
  have h2 := rc_ge hp
  repeat' (first | (with_reducible refine And.intro ?_ ?_) | (with_reducible intro _) | ((first | refine b_0 _ _ _ ?_ | refine b_21 _ _ _ ?_); simp only [k_X6_refuse_0, k_X6_refuse_21, xp_1, xp_2, xp_3, xp_4, xp_5, xp_6, xp_7, xp_10, xp_11, xp_12, xp_13, xp_14, xp_15, xp_16, xp_17, xp_18, xp_19, xp_20, xp_21, xp_22, xp_23, xp_30, xp_31, xp_32, xp_33, xp_34, xp_35, xp_36, xp_37, xp_38, xp_39, xp_40, xp_41, xp_42, xp_43, xp_50, xp_51, xp_52, xp_53, xp_60, xp_61, xp_62, xp_63, xp_64, xp_65, xp_70, xp_80, xp_81, xp_82, up_ne, up_s, ud_s, ud_o, xw_0, xw_1, xg_0, xg_1, xl_i, xl_r, xs_0, xs_1, xq_i, xq_r, xq_v, xc_0, xc_1, xt_0, xt_1, xr_0, xr_1, xr_2, xe_0, xe_1, ob_0, ob_18, ob_36, ob_54, ak_55, ln_55, cq_55, ak_56, ln_56, cq_56, ob_57, ak_58, ln_58, cq_58, ak_59, ln_59, cq_59, ob_60, ak_61, ln_61, cq_61, ak_62, ln_62, cq_62, ob_63, ak_64, ln_64, cq_64, ak_65, ln_65, cq_65, ak_66, ln_66, cq_66, ak_67, ln_67, cq_67, ak_68, ln_68, cq_68, ak_69, ln_69, cq_69, ak_70, ln_70, cq_70, ak_71, ln_71, cq_71, ak_72, ln_72, cq_72, ak_73, ln_73, cq_73, pt_54_0, pt_54_1, pt_57_0, pt_57_3, pt_60_0, pt_60_1, pt_60_2, pt_60_4, pt_60_5, pt_60_6, pt_60_8, pt_63_0, pt_63_1, pt_63_2, pt_63_3, pt_63_4, pt_63_6, pt_63_7, pt_63_10, pt_63_11, pt_63_17, true_and, and_true, List.length_cons, List.length_nil, Nat.reduceAdd, Nat.reduceLeDiff, forall_eq, ne_eq, Nat.reduceEqDiff, not_false_eq_true, or_false, false_or, or_true, true_or, reduceCtorEq, Nat.zero_le, Nat.reduceMul, Nat.add_zero, false_and, and_false, false_implies, true_implies, forall_const, implies_true, List.append_nil, List.nil_append, List.cons_append, mb_i, mb_ii, mb_iii, mb_r, mb_ri, mb_rii, mb_riii, mb_rr, mb_rri, mb_rrii, mb_rriii, mb_riiiii, mb_rrr, mb_rir, mb_iiii, mb_riiii, tn_0, tn_1, tn_2, tn_3, tn_4, tn_5, tn_6, tc_0, tc_1, tc_2, tc_3, tc_4, tc_5, tc_6, xf_0, xf_1, xf_2, Sum.inl.injEq, Sum.inr.injEq, C_M_refuse6]))
  all_goals clear b_0 b_21
  all_goals first | exact h1 | rfl | (exfalso; simp_all; done)

def C_M_refuseValue : mj_C := (2, 1, fun avs M => ma_ri avs fun a code => (a = 60 ∧ s_rc code), fun avs M r M' => ma_ri avs fun a code => (r = .inl (1000000000 - code) ∧ M' = s_bp M 62 code))
theorem rc_M_refuseValue : ∀ avs M, C_M_refuseValue.2.2.1 avs M → ∃ a r, avs = .inr a :: r ∧ mj_ob a = 6 := by
  intro avs M h
  obtain ⟨a, code, rfl, h⟩ := mc_ri h
  exact ⟨_, _, rfl, by rw [h.1]; rfl⟩
set_option maxRecDepth 20000 in
set_option maxHeartbeats 2000000 in
theorem t_M_refuseValue : mj_T yX6_refuseValue cX6_refuseValue 2 (some .int) 1 C_M_refuseValue := by
  refine mj_T_of (own := 6) (rk := 1) [(177, C_M_refuse6)] (by decide) rfl (by decide) ⟨rfl, rfl⟩ (List.forall_mem_cons.mpr ⟨mj_KV (own := 6) (nest := false) t_M_refuse6 ⟨wc_X6_refuse, wi_X6, by decide, wl_6_59⟩ wn_X6_refuse ws_X6_refuse (c0 := 6) (by decide) rfl (by decide +kernel) rc_M_refuse6 (by decide), (fun _ h => absurd h List.not_mem_nil)⟩) ?_
  intro avs M hlen hpre V hV
  obtain ⟨a, code, rfl, hp⟩ := mc_ri hpre
  show V 0 [some (.inr a), some (.inl code)] [] M
  have b_0 := hV h_X6_refuseValue_0
  clear hlen hpre hV
  obtain ⟨rfl, hp⟩ := hp
  repeat' (first | (with_reducible refine And.intro ?_ ?_) | (with_reducible intro _) | ((first | refine b_0 _ _ _ ?_); simp only [k_X6_refuseValue_0, xp_1, xp_2, xp_3, xp_4, xp_5, xp_6, xp_7, xp_10, xp_11, xp_12, xp_13, xp_14, xp_15, xp_16, xp_17, xp_18, xp_19, xp_20, xp_21, xp_22, xp_23, xp_30, xp_31, xp_32, xp_33, xp_34, xp_35, xp_36, xp_37, xp_38, xp_39, xp_40, xp_41, xp_42, xp_43, xp_50, xp_51, xp_52, xp_53, xp_60, xp_61, xp_62, xp_63, xp_64, xp_65, xp_70, xp_80, xp_81, xp_82, up_ne, up_s, ud_s, ud_o, xw_0, xw_1, xg_0, xg_1, xl_i, xl_r, xs_0, xs_1, xq_i, xq_r, xq_v, xc_0, xc_1, xt_0, xt_1, xr_0, xr_1, xr_2, xe_0, xe_1, ob_0, ob_18, ob_36, ob_54, ak_55, ln_55, cq_55, ak_56, ln_56, cq_56, ob_57, ak_58, ln_58, cq_58, ak_59, ln_59, cq_59, ob_60, ak_61, ln_61, cq_61, ak_62, ln_62, cq_62, ob_63, ak_64, ln_64, cq_64, ak_65, ln_65, cq_65, ak_66, ln_66, cq_66, ak_67, ln_67, cq_67, ak_68, ln_68, cq_68, ak_69, ln_69, cq_69, ak_70, ln_70, cq_70, ak_71, ln_71, cq_71, ak_72, ln_72, cq_72, ak_73, ln_73, cq_73, pt_54_0, pt_54_1, pt_57_0, pt_57_3, pt_60_0, pt_60_1, pt_60_2, pt_60_4, pt_60_5, pt_60_6, pt_60_8, pt_63_0, pt_63_1, pt_63_2, pt_63_3, pt_63_4, pt_63_6, pt_63_7, pt_63_10, pt_63_11, pt_63_17, true_and, and_true, List.length_cons, List.length_nil, Nat.reduceAdd, Nat.reduceLeDiff, forall_eq, ne_eq, Nat.reduceEqDiff, not_false_eq_true, or_false, false_or, or_true, true_or, reduceCtorEq, Nat.zero_le, Nat.reduceMul, Nat.add_zero, false_and, and_false, false_implies, true_implies, forall_const, implies_true, List.append_nil, List.nil_append, List.cons_append, mb_i, mb_ii, mb_iii, mb_r, mb_ri, mb_rii, mb_riii, mb_rr, mb_rri, mb_rrii, mb_rriii, mb_riiiii, mb_rrr, mb_rir, mb_iiii, mb_riiii, tn_0, tn_1, tn_2, tn_3, tn_4, tn_5, tn_6, tc_0, tc_1, tc_2, tc_3, tc_4, tc_5, tc_6, xf_0, xf_1, xf_2, Sum.inl.injEq, Sum.inr.injEq, C_M_refuse6, C_M_refuseValue]))
  all_goals clear b_0
  all_goals first | exact hp | rfl

def C_M_refusalsOf : mj_C := (2, 1, fun avs M => ma_ri avs fun a w => (a = 60), fun avs M r M' => ma_ri avs fun a w => (r = .inl (if 10 < w ∧ w < 17 then M 62 (tn (w - 10)) else -9) ∧ M' = M))
theorem rc_M_refusalsOf : ∀ avs M, C_M_refusalsOf.2.2.1 avs M → ∃ a r, avs = .inr a :: r ∧ mj_ob a = 6 := by
  intro avs M h
  obtain ⟨a, w, rfl, h⟩ := mc_ri h
  exact ⟨_, _, rfl, by rw [h]; rfl⟩
set_option maxRecDepth 20000 in
set_option maxHeartbeats 2000000 in
theorem t_M_refusalsOf : mj_T yX6_refusalsOf cX6_refusalsOf 2 (some .int) 0 C_M_refusalsOf := by
  refine mj_T_of (own := 6) (rk := 1) [] (by decide) rfl (by decide) ⟨rfl, rfl⟩ (fun _ h => absurd h List.not_mem_nil) ?_
  intro avs M hlen hpre V hV
  obtain ⟨a, w, rfl, hp⟩ := mc_ri hpre
  show V 0 [some (.inr a), some (.inl w)] [] M
  have b_0 := hV h_X6_refusalsOf_0; have b_12 := hV h_X6_refusalsOf_12; have b_15 := hV h_X6_refusalsOf_15
  clear hlen hpre hV
  subst hp
  have e10 : (10 : Int32).toInt = 10 := rfl
  have e17 : (17 : Int32).toInt = 17 := rfl
  have e16 : (16 : Int32).toInt = 16 := rfl
  have h0 : ¬ 10 < w → ¬ (10 < w ∧ w < 17) := fun h z => h z.1
  have h1 : 16 < w → ¬ (10 < w ∧ w < 17) := fun h z => by
    have := z.2
    rw [ti_lt] at h this
    omega
  have h2 : 10 < w → ¬ 16 < w → (10 < w ∧ w < 17) ∧ vp_in (w - 10) 7 := fun h z => by
    have k := h
    rw [ti_lt] at k z
    have e : (w - 10).toInt = w.toInt - 10 := by rw [ti_sub (by omega) (by omega), e10]
    exact ⟨⟨h, by rw [ti_lt]; omega⟩, vi_x (by omega) (by omega)⟩
  (refine b_0 _ _ _ ?_; simp only [k_X6_refusalsOf_0, k_X6_refusalsOf_12, k_X6_refusalsOf_15, xp_1, xp_2, xp_3, xp_4, xp_5, xp_6, xp_7, xp_10, xp_11, xp_12, xp_13, xp_14, xp_15, xp_16, xp_17, xp_18, xp_19, xp_20, xp_21, xp_22, xp_23, xp_30, xp_31, xp_32, xp_33, xp_34, xp_35, xp_36, xp_37, xp_38, xp_39, xp_40, xp_41, xp_42, xp_43, xp_50, xp_51, xp_52, xp_53, xp_60, xp_61, xp_62, xp_63, xp_64, xp_65, xp_70, xp_80, xp_81, xp_82, up_ne, up_s, ud_s, ud_o, xw_0, xw_1, xg_0, xg_1, xl_i, xl_r, xs_0, xs_1, xq_i, xq_r, xq_v, xc_0, xc_1, xt_0, xt_1, xr_0, xr_1, xr_2, xe_0, xe_1, ob_0, ob_18, ob_36, ob_54, ak_55, ln_55, cq_55, ak_56, ln_56, cq_56, ob_57, ak_58, ln_58, cq_58, ak_59, ln_59, cq_59, ob_60, ak_61, ln_61, cq_61, ak_62, ln_62, cq_62, ob_63, ak_64, ln_64, cq_64, ak_65, ln_65, cq_65, ak_66, ln_66, cq_66, ak_67, ln_67, cq_67, ak_68, ln_68, cq_68, ak_69, ln_69, cq_69, ak_70, ln_70, cq_70, ak_71, ln_71, cq_71, ak_72, ln_72, cq_72, ak_73, ln_73, cq_73, pt_54_0, pt_54_1, pt_57_0, pt_57_3, pt_60_0, pt_60_1, pt_60_2, pt_60_4, pt_60_5, pt_60_6, pt_60_8, pt_63_0, pt_63_1, pt_63_2, pt_63_3, pt_63_4, pt_63_6, pt_63_7, pt_63_10, pt_63_11, pt_63_17, true_and, and_true, List.length_cons, List.length_nil, Nat.reduceAdd, Nat.reduceLeDiff, forall_eq, ne_eq, Nat.reduceEqDiff, not_false_eq_true, or_false, false_or, or_true, true_or, reduceCtorEq, Nat.zero_le, Nat.reduceMul, Nat.add_zero, false_and, and_false, false_implies, true_implies, forall_const, implies_true, List.append_nil, List.nil_append, List.cons_append, mb_i, mb_ii, mb_iii, mb_r, mb_ri, mb_rii, mb_riii, mb_rr, mb_rri, mb_rrii, mb_rriii, mb_riiiii, mb_rrr, mb_rir, mb_iiii, mb_riiii, tn_0, tn_1, tn_2, tn_3, tn_4, tn_5, tn_6, tc_0, tc_1, tc_2, tc_3, tc_4, tc_5, tc_6, xf_0, xf_1, xf_2, Sum.inl.injEq, Sum.inr.injEq, C_M_refusalsOf])
  refine ⟨fun h => ?_, fun h => ⟨fun k => ?_, fun k => ?_⟩⟩
  · (refine b_12 _ _ _ ?_; simp only [k_X6_refusalsOf_0, k_X6_refusalsOf_12, k_X6_refusalsOf_15, xp_1, xp_2, xp_3, xp_4, xp_5, xp_6, xp_7, xp_10, xp_11, xp_12, xp_13, xp_14, xp_15, xp_16, xp_17, xp_18, xp_19, xp_20, xp_21, xp_22, xp_23, xp_30, xp_31, xp_32, xp_33, xp_34, xp_35, xp_36, xp_37, xp_38, xp_39, xp_40, xp_41, xp_42, xp_43, xp_50, xp_51, xp_52, xp_53, xp_60, xp_61, xp_62, xp_63, xp_64, xp_65, xp_70, xp_80, xp_81, xp_82, up_ne, up_s, ud_s, ud_o, xw_0, xw_1, xg_0, xg_1, xl_i, xl_r, xs_0, xs_1, xq_i, xq_r, xq_v, xc_0, xc_1, xt_0, xt_1, xr_0, xr_1, xr_2, xe_0, xe_1, ob_0, ob_18, ob_36, ob_54, ak_55, ln_55, cq_55, ak_56, ln_56, cq_56, ob_57, ak_58, ln_58, cq_58, ak_59, ln_59, cq_59, ob_60, ak_61, ln_61, cq_61, ak_62, ln_62, cq_62, ob_63, ak_64, ln_64, cq_64, ak_65, ln_65, cq_65, ak_66, ln_66, cq_66, ak_67, ln_67, cq_67, ak_68, ln_68, cq_68, ak_69, ln_69, cq_69, ak_70, ln_70, cq_70, ak_71, ln_71, cq_71, ak_72, ln_72, cq_72, ak_73, ln_73, cq_73, pt_54_0, pt_54_1, pt_57_0, pt_57_3, pt_60_0, pt_60_1, pt_60_2, pt_60_4, pt_60_5, pt_60_6, pt_60_8, pt_63_0, pt_63_1, pt_63_2, pt_63_3, pt_63_4, pt_63_6, pt_63_7, pt_63_10, pt_63_11, pt_63_17, true_and, and_true, List.length_cons, List.length_nil, Nat.reduceAdd, Nat.reduceLeDiff, forall_eq, ne_eq, Nat.reduceEqDiff, not_false_eq_true, or_false, false_or, or_true, true_or, reduceCtorEq, Nat.zero_le, Nat.reduceMul, Nat.add_zero, false_and, and_false, false_implies, true_implies, forall_const, implies_true, List.append_nil, List.nil_append, List.cons_append, mb_i, mb_ii, mb_iii, mb_r, mb_ri, mb_rii, mb_riii, mb_rr, mb_rri, mb_rrii, mb_rriii, mb_riiiii, mb_rrr, mb_rir, mb_iiii, mb_riiii, tn_0, tn_1, tn_2, tn_3, tn_4, tn_5, tn_6, tc_0, tc_1, tc_2, tc_3, tc_4, tc_5, tc_6, xf_0, xf_1, xf_2, Sum.inl.injEq, Sum.inr.injEq, C_M_refusalsOf])
    rw [if_neg (h0 h)]
  · (refine b_15 _ _ _ ?_; simp only [k_X6_refusalsOf_0, k_X6_refusalsOf_12, k_X6_refusalsOf_15, xp_1, xp_2, xp_3, xp_4, xp_5, xp_6, xp_7, xp_10, xp_11, xp_12, xp_13, xp_14, xp_15, xp_16, xp_17, xp_18, xp_19, xp_20, xp_21, xp_22, xp_23, xp_30, xp_31, xp_32, xp_33, xp_34, xp_35, xp_36, xp_37, xp_38, xp_39, xp_40, xp_41, xp_42, xp_43, xp_50, xp_51, xp_52, xp_53, xp_60, xp_61, xp_62, xp_63, xp_64, xp_65, xp_70, xp_80, xp_81, xp_82, up_ne, up_s, ud_s, ud_o, xw_0, xw_1, xg_0, xg_1, xl_i, xl_r, xs_0, xs_1, xq_i, xq_r, xq_v, xc_0, xc_1, xt_0, xt_1, xr_0, xr_1, xr_2, xe_0, xe_1, ob_0, ob_18, ob_36, ob_54, ak_55, ln_55, cq_55, ak_56, ln_56, cq_56, ob_57, ak_58, ln_58, cq_58, ak_59, ln_59, cq_59, ob_60, ak_61, ln_61, cq_61, ak_62, ln_62, cq_62, ob_63, ak_64, ln_64, cq_64, ak_65, ln_65, cq_65, ak_66, ln_66, cq_66, ak_67, ln_67, cq_67, ak_68, ln_68, cq_68, ak_69, ln_69, cq_69, ak_70, ln_70, cq_70, ak_71, ln_71, cq_71, ak_72, ln_72, cq_72, ak_73, ln_73, cq_73, pt_54_0, pt_54_1, pt_57_0, pt_57_3, pt_60_0, pt_60_1, pt_60_2, pt_60_4, pt_60_5, pt_60_6, pt_60_8, pt_63_0, pt_63_1, pt_63_2, pt_63_3, pt_63_4, pt_63_6, pt_63_7, pt_63_10, pt_63_11, pt_63_17, true_and, and_true, List.length_cons, List.length_nil, Nat.reduceAdd, Nat.reduceLeDiff, forall_eq, ne_eq, Nat.reduceEqDiff, not_false_eq_true, or_false, false_or, or_true, true_or, reduceCtorEq, Nat.zero_le, Nat.reduceMul, Nat.add_zero, false_and, and_false, false_implies, true_implies, forall_const, implies_true, List.append_nil, List.nil_append, List.cons_append, mb_i, mb_ii, mb_iii, mb_r, mb_ri, mb_rii, mb_riii, mb_rr, mb_rri, mb_rrii, mb_rriii, mb_riiiii, mb_rrr, mb_rir, mb_iiii, mb_riiii, tn_0, tn_1, tn_2, tn_3, tn_4, tn_5, tn_6, tc_0, tc_1, tc_2, tc_3, tc_4, tc_5, tc_6, xf_0, xf_1, xf_2, Sum.inl.injEq, Sum.inr.injEq, C_M_refusalsOf])
    rw [if_pos (h2 h k).1]
    exact ⟨(h2 h k).2, rfl⟩
  · (refine b_12 _ _ _ ?_; simp only [k_X6_refusalsOf_0, k_X6_refusalsOf_12, k_X6_refusalsOf_15, xp_1, xp_2, xp_3, xp_4, xp_5, xp_6, xp_7, xp_10, xp_11, xp_12, xp_13, xp_14, xp_15, xp_16, xp_17, xp_18, xp_19, xp_20, xp_21, xp_22, xp_23, xp_30, xp_31, xp_32, xp_33, xp_34, xp_35, xp_36, xp_37, xp_38, xp_39, xp_40, xp_41, xp_42, xp_43, xp_50, xp_51, xp_52, xp_53, xp_60, xp_61, xp_62, xp_63, xp_64, xp_65, xp_70, xp_80, xp_81, xp_82, up_ne, up_s, ud_s, ud_o, xw_0, xw_1, xg_0, xg_1, xl_i, xl_r, xs_0, xs_1, xq_i, xq_r, xq_v, xc_0, xc_1, xt_0, xt_1, xr_0, xr_1, xr_2, xe_0, xe_1, ob_0, ob_18, ob_36, ob_54, ak_55, ln_55, cq_55, ak_56, ln_56, cq_56, ob_57, ak_58, ln_58, cq_58, ak_59, ln_59, cq_59, ob_60, ak_61, ln_61, cq_61, ak_62, ln_62, cq_62, ob_63, ak_64, ln_64, cq_64, ak_65, ln_65, cq_65, ak_66, ln_66, cq_66, ak_67, ln_67, cq_67, ak_68, ln_68, cq_68, ak_69, ln_69, cq_69, ak_70, ln_70, cq_70, ak_71, ln_71, cq_71, ak_72, ln_72, cq_72, ak_73, ln_73, cq_73, pt_54_0, pt_54_1, pt_57_0, pt_57_3, pt_60_0, pt_60_1, pt_60_2, pt_60_4, pt_60_5, pt_60_6, pt_60_8, pt_63_0, pt_63_1, pt_63_2, pt_63_3, pt_63_4, pt_63_6, pt_63_7, pt_63_10, pt_63_11, pt_63_17, true_and, and_true, List.length_cons, List.length_nil, Nat.reduceAdd, Nat.reduceLeDiff, forall_eq, ne_eq, Nat.reduceEqDiff, not_false_eq_true, or_false, false_or, or_true, true_or, reduceCtorEq, Nat.zero_le, Nat.reduceMul, Nat.add_zero, false_and, and_false, false_implies, true_implies, forall_const, implies_true, List.append_nil, List.nil_append, List.cons_append, mb_i, mb_ii, mb_iii, mb_r, mb_ri, mb_rii, mb_riii, mb_rr, mb_rri, mb_rrii, mb_rriii, mb_riiiii, mb_rrr, mb_rir, mb_iiii, mb_riiii, tn_0, tn_1, tn_2, tn_3, tn_4, tn_5, tn_6, tc_0, tc_1, tc_2, tc_3, tc_4, tc_5, tc_6, xf_0, xf_1, xf_2, Sum.inl.injEq, Sum.inr.injEq, C_M_refusalsOf])
    rw [if_neg (h1 k)]

/-! sleepers, clocks, tasks -/
theorem bd_4 {w : Int32} (h : bd w 0 4) : w = 0 ∨ w = 1 ∨ w = 2 ∨ w = 3 ∨ w = 4 := by
  obtain ⟨h1, h2⟩ := h
  rcases (show w.toInt = 0 ∨ w.toInt = 1 ∨ w.toInt = 2 ∨ w.toInt = 3 ∨ w.toInt = 4 by omega) with h | h | h | h | h
  · exact Or.inl (ti_eq.mpr h)
  · exact Or.inr (Or.inl (ti_eq.mpr h))
  · exact Or.inr (Or.inr (Or.inl (ti_eq.mpr h)))
  · exact Or.inr (Or.inr (Or.inr (Or.inl (ti_eq.mpr h))))
  · exact Or.inr (Or.inr (Or.inr (Or.inr (ti_eq.mpr h))))
def C_M_partOf0 : mj_C := (2, 1, fun avs M => ma_ri avs fun a w => (mj_ob a = 0 ∧ bd w 0 4), fun avs M r M' => ma_ri avs fun a w => (r = .inl (M a (tn w)) ∧ M' = M))
theorem rc_M_partOf0 : ∀ avs M, C_M_partOf0.2.2.1 avs M → ∃ a r, avs = .inr a :: r ∧ mj_ob a = 0 := by
  intro avs M h
  obtain ⟨a, w, rfl, h⟩ := mc_ri h
  exact ⟨_, _, rfl, h.1⟩
set_option maxRecDepth 20000 in
set_option maxHeartbeats 2000000 in
theorem t_M_partOf0 : mj_T yX0_partOf cX0_partOf 2 (some .int) 0 C_M_partOf0 := by
  refine mj_T_of (own := 0) (rk := 1) [] (by decide) rfl (by decide) ⟨rfl, rfl⟩ (fun _ h => absurd h List.not_mem_nil) ?_
  intro avs M hlen hpre V hV
  obtain ⟨a, w, rfl, hp⟩ := mc_ri hpre
  show V 0 [some (.inr a), some (.inl w)] [] M
  have b_0 := hV h_X0_partOf_0; have b_32 := hV h_X0_partOf_32; have b_37 := hV h_X0_partOf_37; have b_42 := hV h_X0_partOf_42; have b_47 := hV h_X0_partOf_47; have b_52 := hV h_X0_partOf_52
  clear hlen hpre hV
  obtain ⟨ho, hw⟩ := hp
  rcases bd_4 hw with rfl | rfl | rfl | rfl | rfl
  all_goals repeat' (first | (with_reducible refine And.intro ?_ ?_) | (with_reducible intro _) | ((first | refine b_0 _ _ _ ?_ | refine b_32 _ _ _ ?_ | refine b_37 _ _ _ ?_ | refine b_42 _ _ _ ?_ | refine b_47 _ _ _ ?_ | refine b_52 _ _ _ ?_); simp only [k_X0_partOf_0, k_X0_partOf_32, k_X0_partOf_37, k_X0_partOf_42, k_X0_partOf_47, k_X0_partOf_52, xp_1, xp_2, xp_3, xp_4, xp_5, xp_6, xp_7, xp_10, xp_11, xp_12, xp_13, xp_14, xp_15, xp_16, xp_17, xp_18, xp_19, xp_20, xp_21, xp_22, xp_23, xp_30, xp_31, xp_32, xp_33, xp_34, xp_35, xp_36, xp_37, xp_38, xp_39, xp_40, xp_41, xp_42, xp_43, xp_50, xp_51, xp_52, xp_53, xp_60, xp_61, xp_62, xp_63, xp_64, xp_65, xp_70, xp_80, xp_81, xp_82, up_ne, up_s, ud_s, ud_o, xw_0, xw_1, xg_0, xg_1, xl_i, xl_r, xs_0, xs_1, xq_i, xq_r, xq_v, xc_0, xc_1, xt_0, xt_1, xr_0, xr_1, xr_2, xe_0, xe_1, ob_0, ob_18, ob_36, ob_54, ak_55, ln_55, cq_55, ak_56, ln_56, cq_56, ob_57, ak_58, ln_58, cq_58, ak_59, ln_59, cq_59, ob_60, ak_61, ln_61, cq_61, ak_62, ln_62, cq_62, ob_63, ak_64, ln_64, cq_64, ak_65, ln_65, cq_65, ak_66, ln_66, cq_66, ak_67, ln_67, cq_67, ak_68, ln_68, cq_68, ak_69, ln_69, cq_69, ak_70, ln_70, cq_70, ak_71, ln_71, cq_71, ak_72, ln_72, cq_72, ak_73, ln_73, cq_73, pt_54_0, pt_54_1, pt_57_0, pt_57_3, pt_60_0, pt_60_1, pt_60_2, pt_60_4, pt_60_5, pt_60_6, pt_60_8, pt_63_0, pt_63_1, pt_63_2, pt_63_3, pt_63_4, pt_63_6, pt_63_7, pt_63_10, pt_63_11, pt_63_17, true_and, and_true, List.length_cons, List.length_nil, Nat.reduceAdd, Nat.reduceLeDiff, forall_eq, ne_eq, Nat.reduceEqDiff, not_false_eq_true, or_false, false_or, or_true, true_or, reduceCtorEq, Nat.zero_le, Nat.reduceMul, Nat.add_zero, false_and, and_false, false_implies, true_implies, forall_const, implies_true, List.append_nil, List.nil_append, List.cons_append, mb_i, mb_ii, mb_iii, mb_r, mb_ri, mb_rii, mb_riii, mb_rr, mb_rri, mb_rrii, mb_rriii, mb_riiiii, mb_rrr, mb_rir, mb_iiii, mb_riiii, tn_0, tn_1, tn_2, tn_3, tn_4, tn_5, tn_6, tc_0, tc_1, tc_2, tc_3, tc_4, tc_5, tc_6, xf_0, xf_1, xf_2, Sum.inl.injEq, Sum.inr.injEq, C_M_partOf0]))
  all_goals first | exact ho | rfl | (exfalso; simp_all; done) | skip
  all_goals exact (0 : Nat)

def C_M_partOf3 : mj_C := (2, 1, fun avs M => ma_ri avs fun a w => (mj_ob a = 3 ∧ bd w 0 3), fun avs M r M' => ma_ri avs fun a w => (r = .inl (M a (tn w)) ∧ M' = M))
theorem rc_M_partOf3 : ∀ avs M, C_M_partOf3.2.2.1 avs M → ∃ a r, avs = .inr a :: r ∧ mj_ob a = 3 := by
  intro avs M h
  obtain ⟨a, w, rfl, h⟩ := mc_ri h
  exact ⟨_, _, rfl, h.1⟩
set_option maxRecDepth 20000 in
set_option maxHeartbeats 2000000 in
theorem t_M_partOf3 : mj_T yX3_partOf cX3_partOf 2 (some .int) 0 C_M_partOf3 := by
  refine mj_T_of (own := 3) (rk := 1) [] (by decide) rfl (by decide) ⟨rfl, rfl⟩ (fun _ h => absurd h List.not_mem_nil) ?_
  intro avs M hlen hpre V hV
  obtain ⟨a, w, rfl, hp⟩ := mc_ri hpre
  show V 0 [some (.inr a), some (.inl w)] [] M
  have b_0 := hV h_X3_partOf_0; have b_28 := hV h_X3_partOf_28; have b_33 := hV h_X3_partOf_33; have b_38 := hV h_X3_partOf_38; have b_43 := hV h_X3_partOf_43
  clear hlen hpre hV
  obtain ⟨ho, hw⟩ := hp
  rcases bd_4 ⟨hw.1, by have := hw.2; omega⟩ with rfl | rfl | rfl | rfl | rfl
  all_goals repeat' (first | (with_reducible refine And.intro ?_ ?_) | (with_reducible intro _) | ((first | refine b_0 _ _ _ ?_ | refine b_28 _ _ _ ?_ | refine b_33 _ _ _ ?_ | refine b_38 _ _ _ ?_ | refine b_43 _ _ _ ?_); simp only [k_X3_partOf_0, k_X3_partOf_28, k_X3_partOf_33, k_X3_partOf_38, k_X3_partOf_43, xp_1, xp_2, xp_3, xp_4, xp_5, xp_6, xp_7, xp_10, xp_11, xp_12, xp_13, xp_14, xp_15, xp_16, xp_17, xp_18, xp_19, xp_20, xp_21, xp_22, xp_23, xp_30, xp_31, xp_32, xp_33, xp_34, xp_35, xp_36, xp_37, xp_38, xp_39, xp_40, xp_41, xp_42, xp_43, xp_50, xp_51, xp_52, xp_53, xp_60, xp_61, xp_62, xp_63, xp_64, xp_65, xp_70, xp_80, xp_81, xp_82, up_ne, up_s, ud_s, ud_o, xw_0, xw_1, xg_0, xg_1, xl_i, xl_r, xs_0, xs_1, xq_i, xq_r, xq_v, xc_0, xc_1, xt_0, xt_1, xr_0, xr_1, xr_2, xe_0, xe_1, ob_0, ob_18, ob_36, ob_54, ak_55, ln_55, cq_55, ak_56, ln_56, cq_56, ob_57, ak_58, ln_58, cq_58, ak_59, ln_59, cq_59, ob_60, ak_61, ln_61, cq_61, ak_62, ln_62, cq_62, ob_63, ak_64, ln_64, cq_64, ak_65, ln_65, cq_65, ak_66, ln_66, cq_66, ak_67, ln_67, cq_67, ak_68, ln_68, cq_68, ak_69, ln_69, cq_69, ak_70, ln_70, cq_70, ak_71, ln_71, cq_71, ak_72, ln_72, cq_72, ak_73, ln_73, cq_73, pt_54_0, pt_54_1, pt_57_0, pt_57_3, pt_60_0, pt_60_1, pt_60_2, pt_60_4, pt_60_5, pt_60_6, pt_60_8, pt_63_0, pt_63_1, pt_63_2, pt_63_3, pt_63_4, pt_63_6, pt_63_7, pt_63_10, pt_63_11, pt_63_17, true_and, and_true, List.length_cons, List.length_nil, Nat.reduceAdd, Nat.reduceLeDiff, forall_eq, ne_eq, Nat.reduceEqDiff, not_false_eq_true, or_false, false_or, or_true, true_or, reduceCtorEq, Nat.zero_le, Nat.reduceMul, Nat.add_zero, false_and, and_false, false_implies, true_implies, forall_const, implies_true, List.append_nil, List.nil_append, List.cons_append, mb_i, mb_ii, mb_iii, mb_r, mb_ri, mb_rii, mb_riii, mb_rr, mb_rri, mb_rrii, mb_rriii, mb_riiiii, mb_rrr, mb_rir, mb_iiii, mb_riiii, tn_0, tn_1, tn_2, tn_3, tn_4, tn_5, tn_6, tc_0, tc_1, tc_2, tc_3, tc_4, tc_5, tc_6, xf_0, xf_1, xf_2, Sum.inl.injEq, Sum.inr.injEq, C_M_partOf3]))
  all_goals first | exact ho | rfl | (exfalso; simp_all; done) | (exfalso; exact absurd hw.2 (by decide))

def C_M_partOf4 : mj_C := (2, 1, fun avs M => ma_ri avs fun a w => (mj_ob a = 4 ∧ bd w 0 1), fun avs M r M' => ma_ri avs fun a w => (r = .inl (M a (tn w)) ∧ M' = M))
theorem rc_M_partOf4 : ∀ avs M, C_M_partOf4.2.2.1 avs M → ∃ a r, avs = .inr a :: r ∧ mj_ob a = 4 := by
  intro avs M h
  obtain ⟨a, w, rfl, h⟩ := mc_ri h
  exact ⟨_, _, rfl, h.1⟩
set_option maxRecDepth 20000 in
set_option maxHeartbeats 2000000 in
theorem t_M_partOf4 : mj_T yX4_partOf cX4_partOf 2 (some .int) 0 C_M_partOf4 := by
  refine mj_T_of (own := 4) (rk := 1) [] (by decide) rfl (by decide) ⟨rfl, rfl⟩ (fun _ h => absurd h List.not_mem_nil) ?_
  intro avs M hlen hpre V hV
  obtain ⟨a, w, rfl, hp⟩ := mc_ri hpre
  show V 0 [some (.inr a), some (.inl w)] [] M
  have b_0 := hV h_X4_partOf_0; have b_11 := hV h_X4_partOf_11; have b_15 := hV h_X4_partOf_15
  clear hlen hpre hV
  obtain ⟨ho, hw⟩ := hp
  rcases bd_4 ⟨hw.1, by have := hw.2; omega⟩ with rfl | rfl | rfl | rfl | rfl
  all_goals repeat' (first | (with_reducible refine And.intro ?_ ?_) | (with_reducible intro _) | ((first | refine b_0 _ _ _ ?_ | refine b_11 _ _ _ ?_ | refine b_15 _ _ _ ?_); simp only [k_X4_partOf_0, k_X4_partOf_11, k_X4_partOf_15, xp_1, xp_2, xp_3, xp_4, xp_5, xp_6, xp_7, xp_10, xp_11, xp_12, xp_13, xp_14, xp_15, xp_16, xp_17, xp_18, xp_19, xp_20, xp_21, xp_22, xp_23, xp_30, xp_31, xp_32, xp_33, xp_34, xp_35, xp_36, xp_37, xp_38, xp_39, xp_40, xp_41, xp_42, xp_43, xp_50, xp_51, xp_52, xp_53, xp_60, xp_61, xp_62, xp_63, xp_64, xp_65, xp_70, xp_80, xp_81, xp_82, up_ne, up_s, ud_s, ud_o, xw_0, xw_1, xg_0, xg_1, xl_i, xl_r, xs_0, xs_1, xq_i, xq_r, xq_v, xc_0, xc_1, xt_0, xt_1, xr_0, xr_1, xr_2, xe_0, xe_1, ob_0, ob_18, ob_36, ob_54, ak_55, ln_55, cq_55, ak_56, ln_56, cq_56, ob_57, ak_58, ln_58, cq_58, ak_59, ln_59, cq_59, ob_60, ak_61, ln_61, cq_61, ak_62, ln_62, cq_62, ob_63, ak_64, ln_64, cq_64, ak_65, ln_65, cq_65, ak_66, ln_66, cq_66, ak_67, ln_67, cq_67, ak_68, ln_68, cq_68, ak_69, ln_69, cq_69, ak_70, ln_70, cq_70, ak_71, ln_71, cq_71, ak_72, ln_72, cq_72, ak_73, ln_73, cq_73, pt_54_0, pt_54_1, pt_57_0, pt_57_3, pt_60_0, pt_60_1, pt_60_2, pt_60_4, pt_60_5, pt_60_6, pt_60_8, pt_63_0, pt_63_1, pt_63_2, pt_63_3, pt_63_4, pt_63_6, pt_63_7, pt_63_10, pt_63_11, pt_63_17, true_and, and_true, List.length_cons, List.length_nil, Nat.reduceAdd, Nat.reduceLeDiff, forall_eq, ne_eq, Nat.reduceEqDiff, not_false_eq_true, or_false, false_or, or_true, true_or, reduceCtorEq, Nat.zero_le, Nat.reduceMul, Nat.add_zero, false_and, and_false, false_implies, true_implies, forall_const, implies_true, List.append_nil, List.nil_append, List.cons_append, mb_i, mb_ii, mb_iii, mb_r, mb_ri, mb_rii, mb_riii, mb_rr, mb_rri, mb_rrii, mb_rriii, mb_riiiii, mb_rrr, mb_rir, mb_iiii, mb_riiii, tn_0, tn_1, tn_2, tn_3, tn_4, tn_5, tn_6, tc_0, tc_1, tc_2, tc_3, tc_4, tc_5, tc_6, xf_0, xf_1, xf_2, Sum.inl.injEq, Sum.inr.injEq, C_M_partOf4]))
  all_goals first | exact ho | rfl | (exfalso; simp_all; done) | (exfalso; exact absurd hw.2 (by decide))

def C_M_put0 : mj_C := (3, 1, fun avs M => ma_rii avs fun a w v => (mj_ob a = 0 ∧ (w = 2 ∨ w = 3)), fun avs M r M' => ma_rii avs fun a w v => (r = .inl (M a (tn w)) ∧ M' = mj_up M a (tn w) v))
theorem rc_M_put0 : ∀ avs M, C_M_put0.2.2.1 avs M → ∃ a r, avs = .inr a :: r ∧ mj_ob a = 0 := by
  intro avs M h
  obtain ⟨a, w, v, rfl, h⟩ := mc_rii h
  exact ⟨_, _, rfl, h.1⟩
set_option maxRecDepth 20000 in
set_option maxHeartbeats 2000000 in
theorem t_M_put0 : mj_T yX0_put cX0_put 4 (some .int) 1 C_M_put0 := by
  refine mj_T_of (own := 0) (rk := 1) [(114, C_M_partOf0)] (by decide) rfl (by decide) ⟨rfl, rfl⟩ (List.forall_mem_cons.mpr ⟨mj_KV (own := 0) (nest := false) t_M_partOf0 ⟨wc_X0_partOf, wi_X0, by decide, wl_0_38⟩ wn_X0_partOf ws_X0_partOf (c0 := 0) (by decide) rfl (by decide +kernel) rc_M_partOf0 (by decide), (fun _ h => absurd h List.not_mem_nil)⟩) ?_
  intro avs M hlen hpre V hV
  obtain ⟨a, w, v, rfl, hp⟩ := mc_rii hpre
  show V 0 [some (.inr a), some (.inl w), some (.inl v), none] [] M
  have b_0 := hV h_X0_put_0; have b_19 := hV h_X0_put_19; have b_29 := hV h_X0_put_29
  clear hlen hpre hV
  obtain ⟨ho, hw⟩ := hp
  rcases hw with rfl | rfl
  all_goals repeat' (first | (with_reducible refine And.intro ?_ ?_) | (with_reducible intro _) | ((first | refine b_0 _ _ _ ?_ | refine b_19 _ _ _ ?_ | refine b_29 _ _ _ ?_); simp only [k_X0_put_0, k_X0_put_19, k_X0_put_29, xp_1, xp_2, xp_3, xp_4, xp_5, xp_6, xp_7, xp_10, xp_11, xp_12, xp_13, xp_14, xp_15, xp_16, xp_17, xp_18, xp_19, xp_20, xp_21, xp_22, xp_23, xp_30, xp_31, xp_32, xp_33, xp_34, xp_35, xp_36, xp_37, xp_38, xp_39, xp_40, xp_41, xp_42, xp_43, xp_50, xp_51, xp_52, xp_53, xp_60, xp_61, xp_62, xp_63, xp_64, xp_65, xp_70, xp_80, xp_81, xp_82, up_ne, up_s, ud_s, ud_o, xw_0, xw_1, xg_0, xg_1, xl_i, xl_r, xs_0, xs_1, xq_i, xq_r, xq_v, xc_0, xc_1, xt_0, xt_1, xr_0, xr_1, xr_2, xe_0, xe_1, ob_0, ob_18, ob_36, ob_54, ak_55, ln_55, cq_55, ak_56, ln_56, cq_56, ob_57, ak_58, ln_58, cq_58, ak_59, ln_59, cq_59, ob_60, ak_61, ln_61, cq_61, ak_62, ln_62, cq_62, ob_63, ak_64, ln_64, cq_64, ak_65, ln_65, cq_65, ak_66, ln_66, cq_66, ak_67, ln_67, cq_67, ak_68, ln_68, cq_68, ak_69, ln_69, cq_69, ak_70, ln_70, cq_70, ak_71, ln_71, cq_71, ak_72, ln_72, cq_72, ak_73, ln_73, cq_73, pt_54_0, pt_54_1, pt_57_0, pt_57_3, pt_60_0, pt_60_1, pt_60_2, pt_60_4, pt_60_5, pt_60_6, pt_60_8, pt_63_0, pt_63_1, pt_63_2, pt_63_3, pt_63_4, pt_63_6, pt_63_7, pt_63_10, pt_63_11, pt_63_17, true_and, and_true, List.length_cons, List.length_nil, Nat.reduceAdd, Nat.reduceLeDiff, forall_eq, ne_eq, Nat.reduceEqDiff, not_false_eq_true, or_false, false_or, or_true, true_or, reduceCtorEq, Nat.zero_le, Nat.reduceMul, Nat.add_zero, false_and, and_false, false_implies, true_implies, forall_const, implies_true, List.append_nil, List.nil_append, List.cons_append, mb_i, mb_ii, mb_iii, mb_r, mb_ri, mb_rii, mb_riii, mb_rr, mb_rri, mb_rrii, mb_rriii, mb_riiiii, mb_rrr, mb_rir, mb_iiii, mb_riiii, tn_0, tn_1, tn_2, tn_3, tn_4, tn_5, tn_6, tc_0, tc_1, tc_2, tc_3, tc_4, tc_5, tc_6, xf_0, xf_1, xf_2, Sum.inl.injEq, Sum.inr.injEq, C_M_partOf0, C_M_put0]))
  all_goals first | exact ho | rfl | (exact ⟨by decide, by decide⟩) | (exfalso; simp_all; done)

def C_M_mayPress0 : mj_C := (2, 1, fun avs M => ma_ri avs fun a k => (mj_ob a = 0), fun avs M r M' => ma_ri avs fun a k => (r = .inl (s_mp (M a 0) k) ∧ M' = M))
theorem rc_M_mayPress0 : ∀ avs M, C_M_mayPress0.2.2.1 avs M → ∃ a r, avs = .inr a :: r ∧ mj_ob a = 0 := by
  intro avs M h
  obtain ⟨a, k, rfl, h⟩ := mc_ri h
  exact ⟨_, _, rfl, h⟩
set_option maxRecDepth 20000 in
set_option maxHeartbeats 2000000 in
theorem t_M_mayPress0 : mj_T yX0_mayPress cX0_mayPress 2 (some .boolean) 0 C_M_mayPress0 := by
  refine mj_T_of (own := 0) (rk := 3) [] (by decide) rfl (by decide) ⟨rfl, rfl, rfl⟩ (fun _ h => absurd h List.not_mem_nil) ?_
  intro avs M hlen hpre V hV
  obtain ⟨a, k, rfl, hp⟩ := mc_ri hpre
  show V 0 [some (.inr a), some (.inl k)] [] M
  have b_0 := hV h_X0_mayPress_0; have b_40 := hV h_X0_mayPress_40; have b_48 := hV h_X0_mayPress_48; have b_49 := hV h_X0_mayPress_49; have b_50 := hV h_X0_mayPress_50; have b_52 := hV h_X0_mayPress_52
  clear hlen hpre hV
  have ho := hp
  repeat' (first | (with_reducible refine And.intro ?_ ?_) | (with_reducible intro _) | ((first | refine b_0 _ _ _ ?_ | refine b_40 _ _ _ ?_ | refine b_48 _ _ _ ?_ | refine b_49 _ _ _ ?_ | refine b_50 _ _ _ ?_ | refine b_52 _ _ _ ?_); simp only [k_X0_mayPress_0, k_X0_mayPress_40, k_X0_mayPress_48, k_X0_mayPress_49, k_X0_mayPress_50, k_X0_mayPress_52, xp_1, xp_2, xp_3, xp_4, xp_5, xp_6, xp_7, xp_10, xp_11, xp_12, xp_13, xp_14, xp_15, xp_16, xp_17, xp_18, xp_19, xp_20, xp_21, xp_22, xp_23, xp_30, xp_31, xp_32, xp_33, xp_34, xp_35, xp_36, xp_37, xp_38, xp_39, xp_40, xp_41, xp_42, xp_43, xp_50, xp_51, xp_52, xp_53, xp_60, xp_61, xp_62, xp_63, xp_64, xp_65, xp_70, xp_80, xp_81, xp_82, up_ne, up_s, ud_s, ud_o, xw_0, xw_1, xg_0, xg_1, xl_i, xl_r, xs_0, xs_1, xq_i, xq_r, xq_v, xc_0, xc_1, xt_0, xt_1, xr_0, xr_1, xr_2, xe_0, xe_1, ob_0, ob_18, ob_36, ob_54, ak_55, ln_55, cq_55, ak_56, ln_56, cq_56, ob_57, ak_58, ln_58, cq_58, ak_59, ln_59, cq_59, ob_60, ak_61, ln_61, cq_61, ak_62, ln_62, cq_62, ob_63, ak_64, ln_64, cq_64, ak_65, ln_65, cq_65, ak_66, ln_66, cq_66, ak_67, ln_67, cq_67, ak_68, ln_68, cq_68, ak_69, ln_69, cq_69, ak_70, ln_70, cq_70, ak_71, ln_71, cq_71, ak_72, ln_72, cq_72, ak_73, ln_73, cq_73, pt_54_0, pt_54_1, pt_57_0, pt_57_3, pt_60_0, pt_60_1, pt_60_2, pt_60_4, pt_60_5, pt_60_6, pt_60_8, pt_63_0, pt_63_1, pt_63_2, pt_63_3, pt_63_4, pt_63_6, pt_63_7, pt_63_10, pt_63_11, pt_63_17, true_and, and_true, List.length_cons, List.length_nil, Nat.reduceAdd, Nat.reduceLeDiff, forall_eq, ne_eq, Nat.reduceEqDiff, not_false_eq_true, or_false, false_or, or_true, true_or, reduceCtorEq, Nat.zero_le, Nat.reduceMul, Nat.add_zero, false_and, and_false, false_implies, true_implies, forall_const, implies_true, List.append_nil, List.nil_append, List.cons_append, mb_i, mb_ii, mb_iii, mb_r, mb_ri, mb_rii, mb_riii, mb_rr, mb_rri, mb_rrii, mb_rriii, mb_riiiii, mb_rrr, mb_rir, mb_iiii, mb_riiii, tn_0, tn_1, tn_2, tn_3, tn_4, tn_5, tn_6, tc_0, tc_1, tc_2, tc_3, tc_4, tc_5, tc_6, xf_0, xf_1, xf_2, Sum.inl.injEq, Sum.inr.injEq, C_M_mayPress0]))
  all_goals clear b_0 b_40 b_48 b_49 b_50 b_52
  all_goals first | exact ho | (simp [s_mp, *]; done) | skip

def C_M_wakes0 : mj_C := (3, 1, fun avs M => ma_rii avs fun a m d => (mj_ob a = 0), fun avs M r M' => ma_rii avs fun a m d => (r = .inl (s_wk (M a 0) (M a 4) m d) ∧ M' = M))
theorem rc_M_wakes0 : ∀ avs M, C_M_wakes0.2.2.1 avs M → ∃ a r, avs = .inr a :: r ∧ mj_ob a = 0 := by
  intro avs M h
  obtain ⟨a, m, d, rfl, h⟩ := mc_rii h
  exact ⟨_, _, rfl, h⟩
set_option maxRecDepth 20000 in
set_option maxHeartbeats 2000000 in
theorem t_M_wakes0 : mj_T yX0_wakes cX0_wakes 3 (some .boolean) 0 C_M_wakes0 := by
  refine mj_T_of (own := 0) (rk := 3) [] (by decide) rfl (by decide) ⟨rfl, rfl, rfl⟩ (fun _ h => absurd h List.not_mem_nil) ?_
  intro avs M hlen hpre V hV
  obtain ⟨a, m, d, rfl, hp⟩ := mc_rii hpre
  show V 0 [some (.inr a), some (.inl m), some (.inl d)] [] M
  have b_0 := hV h_X0_wakes_0; have b_32 := hV h_X0_wakes_32; have b_47 := hV h_X0_wakes_47; have b_48 := hV h_X0_wakes_48; have b_49 := hV h_X0_wakes_49; have b_66 := hV h_X0_wakes_66; have b_67 := hV h_X0_wakes_67; have b_68 := hV h_X0_wakes_68; have b_80 := hV h_X0_wakes_80; have b_81 := hV h_X0_wakes_81
  clear hlen hpre hV
  have ho := hp
  repeat' (first | (with_reducible refine And.intro ?_ ?_) | (with_reducible intro _) | ((first | refine b_0 _ _ _ ?_ | refine b_32 _ _ _ ?_ | refine b_47 _ _ _ ?_ | refine b_48 _ _ _ ?_ | refine b_49 _ _ _ ?_ | refine b_66 _ _ _ ?_ | refine b_67 _ _ _ ?_ | refine b_68 _ _ _ ?_ | refine b_80 _ _ _ ?_ | refine b_81 _ _ _ ?_); simp only [k_X0_wakes_0, k_X0_wakes_32, k_X0_wakes_47, k_X0_wakes_48, k_X0_wakes_49, k_X0_wakes_66, k_X0_wakes_67, k_X0_wakes_68, k_X0_wakes_80, k_X0_wakes_81, xp_1, xp_2, xp_3, xp_4, xp_5, xp_6, xp_7, xp_10, xp_11, xp_12, xp_13, xp_14, xp_15, xp_16, xp_17, xp_18, xp_19, xp_20, xp_21, xp_22, xp_23, xp_30, xp_31, xp_32, xp_33, xp_34, xp_35, xp_36, xp_37, xp_38, xp_39, xp_40, xp_41, xp_42, xp_43, xp_50, xp_51, xp_52, xp_53, xp_60, xp_61, xp_62, xp_63, xp_64, xp_65, xp_70, xp_80, xp_81, xp_82, up_ne, up_s, ud_s, ud_o, xw_0, xw_1, xg_0, xg_1, xl_i, xl_r, xs_0, xs_1, xq_i, xq_r, xq_v, xc_0, xc_1, xt_0, xt_1, xr_0, xr_1, xr_2, xe_0, xe_1, ob_0, ob_18, ob_36, ob_54, ak_55, ln_55, cq_55, ak_56, ln_56, cq_56, ob_57, ak_58, ln_58, cq_58, ak_59, ln_59, cq_59, ob_60, ak_61, ln_61, cq_61, ak_62, ln_62, cq_62, ob_63, ak_64, ln_64, cq_64, ak_65, ln_65, cq_65, ak_66, ln_66, cq_66, ak_67, ln_67, cq_67, ak_68, ln_68, cq_68, ak_69, ln_69, cq_69, ak_70, ln_70, cq_70, ak_71, ln_71, cq_71, ak_72, ln_72, cq_72, ak_73, ln_73, cq_73, pt_54_0, pt_54_1, pt_57_0, pt_57_3, pt_60_0, pt_60_1, pt_60_2, pt_60_4, pt_60_5, pt_60_6, pt_60_8, pt_63_0, pt_63_1, pt_63_2, pt_63_3, pt_63_4, pt_63_6, pt_63_7, pt_63_10, pt_63_11, pt_63_17, true_and, and_true, List.length_cons, List.length_nil, Nat.reduceAdd, Nat.reduceLeDiff, forall_eq, ne_eq, Nat.reduceEqDiff, not_false_eq_true, or_false, false_or, or_true, true_or, reduceCtorEq, Nat.zero_le, Nat.reduceMul, Nat.add_zero, false_and, and_false, false_implies, true_implies, forall_const, implies_true, List.append_nil, List.nil_append, List.cons_append, mb_i, mb_ii, mb_iii, mb_r, mb_ri, mb_rii, mb_riii, mb_rr, mb_rri, mb_rrii, mb_rriii, mb_riiiii, mb_rrr, mb_rir, mb_iiii, mb_riiii, tn_0, tn_1, tn_2, tn_3, tn_4, tn_5, tn_6, tc_0, tc_1, tc_2, tc_3, tc_4, tc_5, tc_6, xf_0, xf_1, xf_2, Sum.inl.injEq, Sum.inr.injEq, C_M_wakes0]))
  all_goals clear b_0 b_32 b_47 b_48 b_49 b_66 b_67 b_68 b_80 b_81
  all_goals first | exact ho | (simp [s_wk, *]; done) | skip

/-- the first slots of a cell laid over another's -/
def cpo (M : mj_M) (a b n : Nat) : mj_M := fun k j => if k = a then (if j < n then M b j else M a j) else M k j
theorem cpo_0 {M : mj_M} {a b : Nat} : cpo M a b 0 = M := by
  funext k j
  unfold cpo
  by_cases h : k = a
  · rw [if_pos h, if_neg (by omega), h]
  · rw [if_neg h]
theorem cpo_n {M : mj_M} {a b n : Nat} (h : a ≠ b) : mj_up (cpo M a b n) a n (cpo M a b n b n) = cpo M a b (n + 1) := by
  have e : cpo M a b n b n = M b n := if_neg (Ne.symm h)
  rw [e]
  funext k j
  by_cases h1 : k = a
  · subst h1
    rw [up_s]
    by_cases h2 : j = n
    · subst h2
      rw [ud_s]
      unfold cpo
      rw [if_pos rfl, if_pos (by omega)]
    · rw [ud_o h2]
      unfold cpo
      rw [if_pos rfl, if_pos rfl]
      by_cases h3 : j < n
      · rw [if_pos h3, if_pos (by omega)]
      · rw [if_neg h3, if_neg (by omega)]
  · rw [up_ne h1]
    unfold cpo
    rw [if_neg h1, if_neg h1]
theorem cpo_o {M : mj_M} {a b n k : Nat} (h : k ≠ a) : cpo M a b n k = M k := by
  funext j
  exact if_neg h
theorem cpo_s {M : mj_M} {a b n j : Nat} (h : j < n) : cpo M a b n a j = M b j := by
  unfold cpo
  rw [if_pos rfl, if_pos h]
theorem cpo_5 {M : mj_M} {a b : Nat} (h : a ≠ b) : cpo M a b 5 = mj_up (cpo M a b 4) a 4 (cpo M a b 4 b 4) := (cpo_n h).symm
def C_M_copyFrom0 : mj_C := (2, 0, fun avs M => ma_rr avs fun a b => (mj_ob a = 0 ∧ mj_ob b = 0 ∧ a ≠ b), fun avs M r M' => ma_rr avs fun a b => (M' = cpo M a b 5))
theorem rc_M_copyFrom0 : ∀ avs M, C_M_copyFrom0.2.2.1 avs M → ∃ a r, avs = .inr a :: r ∧ mj_ob a = 0 := by
  intro avs M h
  obtain ⟨a, b, rfl, h⟩ := mc_rr h
  exact ⟨_, _, rfl, h.1⟩
set_option maxRecDepth 20000 in
set_option maxHeartbeats 2000000 in
theorem t_M_copyFrom0 : mj_T yX0_copyFrom cX0_copyFrom 2 none 0 C_M_copyFrom0 := by
  refine mj_T_of (own := 0) (rk := 0) [] (by decide) rfl (by decide) ⟨rfl, rfl⟩ (fun _ h => absurd h List.not_mem_nil) ?_
  intro avs M hlen hpre V hV
  obtain ⟨a, b, rfl, hp⟩ := mc_rr hpre
  show V 0 [some (.inr a), some (.inr b)] [] M
  have b_0 := hV h_X0_copyFrom_0
  clear hlen hpre hV
  obtain ⟨ha, hb, hne⟩ := hp
  repeat' (first | (with_reducible refine And.intro ?_ ?_) | (with_reducible intro _) | ((first | refine b_0 _ _ _ ?_); simp only [k_X0_copyFrom_0, xp_1, xp_2, xp_3, xp_4, xp_5, xp_6, xp_7, xp_10, xp_11, xp_12, xp_13, xp_14, xp_15, xp_16, xp_17, xp_18, xp_19, xp_20, xp_21, xp_22, xp_23, xp_30, xp_31, xp_32, xp_33, xp_34, xp_35, xp_36, xp_37, xp_38, xp_39, xp_40, xp_41, xp_42, xp_43, xp_50, xp_51, xp_52, xp_53, xp_60, xp_61, xp_62, xp_63, xp_64, xp_65, xp_70, xp_80, xp_81, xp_82, up_ne, up_s, ud_s, ud_o, xw_0, xw_1, xg_0, xg_1, xl_i, xl_r, xs_0, xs_1, xq_i, xq_r, xq_v, xc_0, xc_1, xt_0, xt_1, xr_0, xr_1, xr_2, xe_0, xe_1, ob_0, ob_18, ob_36, ob_54, ak_55, ln_55, cq_55, ak_56, ln_56, cq_56, ob_57, ak_58, ln_58, cq_58, ak_59, ln_59, cq_59, ob_60, ak_61, ln_61, cq_61, ak_62, ln_62, cq_62, ob_63, ak_64, ln_64, cq_64, ak_65, ln_65, cq_65, ak_66, ln_66, cq_66, ak_67, ln_67, cq_67, ak_68, ln_68, cq_68, ak_69, ln_69, cq_69, ak_70, ln_70, cq_70, ak_71, ln_71, cq_71, ak_72, ln_72, cq_72, ak_73, ln_73, cq_73, pt_54_0, pt_54_1, pt_57_0, pt_57_3, pt_60_0, pt_60_1, pt_60_2, pt_60_4, pt_60_5, pt_60_6, pt_60_8, pt_63_0, pt_63_1, pt_63_2, pt_63_3, pt_63_4, pt_63_6, pt_63_7, pt_63_10, pt_63_11, pt_63_17, true_and, and_true, List.length_cons, List.length_nil, Nat.reduceAdd, Nat.reduceLeDiff, forall_eq, ne_eq, Nat.reduceEqDiff, not_false_eq_true, or_false, false_or, or_true, true_or, reduceCtorEq, Nat.zero_le, Nat.reduceMul, Nat.add_zero, false_and, and_false, false_implies, true_implies, forall_const, implies_true, List.append_nil, List.nil_append, List.cons_append, mb_i, mb_ii, mb_iii, mb_r, mb_ri, mb_rii, mb_riii, mb_rr, mb_rri, mb_rrii, mb_rriii, mb_riiiii, mb_rrr, mb_rir, mb_iiii, mb_riiii, tn_0, tn_1, tn_2, tn_3, tn_4, tn_5, tn_6, tc_0, tc_1, tc_2, tc_3, tc_4, tc_5, tc_6, xf_0, xf_1, xf_2, Sum.inl.injEq, Sum.inr.injEq, C_M_copyFrom0]))
  all_goals first | exact ha | exact hb | skip
  rw [← cpo_n hne, ← cpo_n hne, ← cpo_n hne, ← cpo_n hne, ← cpo_n hne, cpo_0]

def C_M_copyFrom3 : mj_C := (2, 0, fun avs M => ma_rr avs fun a b => (mj_ob a = 3 ∧ mj_ob b = 3 ∧ a ≠ b), fun avs M r M' => ma_rr avs fun a b => (M' = cpo M a b 4))
theorem rc_M_copyFrom3 : ∀ avs M, C_M_copyFrom3.2.2.1 avs M → ∃ a r, avs = .inr a :: r ∧ mj_ob a = 3 := by
  intro avs M h
  obtain ⟨a, b, rfl, h⟩ := mc_rr h
  exact ⟨_, _, rfl, h.1⟩
set_option maxRecDepth 20000 in
set_option maxHeartbeats 2000000 in
theorem t_M_copyFrom3 : mj_T yX3_copyFrom cX3_copyFrom 2 none 0 C_M_copyFrom3 := by
  refine mj_T_of (own := 3) (rk := 0) [] (by decide) rfl (by decide) ⟨rfl, rfl⟩ (fun _ h => absurd h List.not_mem_nil) ?_
  intro avs M hlen hpre V hV
  obtain ⟨a, b, rfl, hp⟩ := mc_rr hpre
  show V 0 [some (.inr a), some (.inr b)] [] M
  have b_0 := hV h_X3_copyFrom_0
  clear hlen hpre hV
  obtain ⟨ha, hb, hne⟩ := hp
  repeat' (first | (with_reducible refine And.intro ?_ ?_) | (with_reducible intro _) | ((first | refine b_0 _ _ _ ?_); simp only [k_X3_copyFrom_0, xp_1, xp_2, xp_3, xp_4, xp_5, xp_6, xp_7, xp_10, xp_11, xp_12, xp_13, xp_14, xp_15, xp_16, xp_17, xp_18, xp_19, xp_20, xp_21, xp_22, xp_23, xp_30, xp_31, xp_32, xp_33, xp_34, xp_35, xp_36, xp_37, xp_38, xp_39, xp_40, xp_41, xp_42, xp_43, xp_50, xp_51, xp_52, xp_53, xp_60, xp_61, xp_62, xp_63, xp_64, xp_65, xp_70, xp_80, xp_81, xp_82, up_ne, up_s, ud_s, ud_o, xw_0, xw_1, xg_0, xg_1, xl_i, xl_r, xs_0, xs_1, xq_i, xq_r, xq_v, xc_0, xc_1, xt_0, xt_1, xr_0, xr_1, xr_2, xe_0, xe_1, ob_0, ob_18, ob_36, ob_54, ak_55, ln_55, cq_55, ak_56, ln_56, cq_56, ob_57, ak_58, ln_58, cq_58, ak_59, ln_59, cq_59, ob_60, ak_61, ln_61, cq_61, ak_62, ln_62, cq_62, ob_63, ak_64, ln_64, cq_64, ak_65, ln_65, cq_65, ak_66, ln_66, cq_66, ak_67, ln_67, cq_67, ak_68, ln_68, cq_68, ak_69, ln_69, cq_69, ak_70, ln_70, cq_70, ak_71, ln_71, cq_71, ak_72, ln_72, cq_72, ak_73, ln_73, cq_73, pt_54_0, pt_54_1, pt_57_0, pt_57_3, pt_60_0, pt_60_1, pt_60_2, pt_60_4, pt_60_5, pt_60_6, pt_60_8, pt_63_0, pt_63_1, pt_63_2, pt_63_3, pt_63_4, pt_63_6, pt_63_7, pt_63_10, pt_63_11, pt_63_17, true_and, and_true, List.length_cons, List.length_nil, Nat.reduceAdd, Nat.reduceLeDiff, forall_eq, ne_eq, Nat.reduceEqDiff, not_false_eq_true, or_false, false_or, or_true, true_or, reduceCtorEq, Nat.zero_le, Nat.reduceMul, Nat.add_zero, false_and, and_false, false_implies, true_implies, forall_const, implies_true, List.append_nil, List.nil_append, List.cons_append, mb_i, mb_ii, mb_iii, mb_r, mb_ri, mb_rii, mb_riii, mb_rr, mb_rri, mb_rrii, mb_rriii, mb_riiiii, mb_rrr, mb_rir, mb_iiii, mb_riiii, tn_0, tn_1, tn_2, tn_3, tn_4, tn_5, tn_6, tc_0, tc_1, tc_2, tc_3, tc_4, tc_5, tc_6, xf_0, xf_1, xf_2, Sum.inl.injEq, Sum.inr.injEq, C_M_copyFrom3]))
  all_goals first | exact ha | exact hb | skip
  rw [← cpo_n hne, ← cpo_n hne, ← cpo_n hne, ← cpo_n hne, cpo_0]

def C_M_copyFrom4 : mj_C := (2, 0, fun avs M => ma_rr avs fun a b => (mj_ob a = 4 ∧ mj_ob b = 4 ∧ a ≠ b), fun avs M r M' => ma_rr avs fun a b => (M' = cpo M a b 2))
theorem rc_M_copyFrom4 : ∀ avs M, C_M_copyFrom4.2.2.1 avs M → ∃ a r, avs = .inr a :: r ∧ mj_ob a = 4 := by
  intro avs M h
  obtain ⟨a, b, rfl, h⟩ := mc_rr h
  exact ⟨_, _, rfl, h.1⟩
set_option maxRecDepth 20000 in
set_option maxHeartbeats 2000000 in
theorem t_M_copyFrom4 : mj_T yX4_copyFrom cX4_copyFrom 2 none 0 C_M_copyFrom4 := by
  refine mj_T_of (own := 4) (rk := 0) [] (by decide) rfl (by decide) ⟨rfl, rfl⟩ (fun _ h => absurd h List.not_mem_nil) ?_
  intro avs M hlen hpre V hV
  obtain ⟨a, b, rfl, hp⟩ := mc_rr hpre
  show V 0 [some (.inr a), some (.inr b)] [] M
  have b_0 := hV h_X4_copyFrom_0
  clear hlen hpre hV
  obtain ⟨ha, hb, hne⟩ := hp
  repeat' (first | (with_reducible refine And.intro ?_ ?_) | (with_reducible intro _) | ((first | refine b_0 _ _ _ ?_); simp only [k_X4_copyFrom_0, xp_1, xp_2, xp_3, xp_4, xp_5, xp_6, xp_7, xp_10, xp_11, xp_12, xp_13, xp_14, xp_15, xp_16, xp_17, xp_18, xp_19, xp_20, xp_21, xp_22, xp_23, xp_30, xp_31, xp_32, xp_33, xp_34, xp_35, xp_36, xp_37, xp_38, xp_39, xp_40, xp_41, xp_42, xp_43, xp_50, xp_51, xp_52, xp_53, xp_60, xp_61, xp_62, xp_63, xp_64, xp_65, xp_70, xp_80, xp_81, xp_82, up_ne, up_s, ud_s, ud_o, xw_0, xw_1, xg_0, xg_1, xl_i, xl_r, xs_0, xs_1, xq_i, xq_r, xq_v, xc_0, xc_1, xt_0, xt_1, xr_0, xr_1, xr_2, xe_0, xe_1, ob_0, ob_18, ob_36, ob_54, ak_55, ln_55, cq_55, ak_56, ln_56, cq_56, ob_57, ak_58, ln_58, cq_58, ak_59, ln_59, cq_59, ob_60, ak_61, ln_61, cq_61, ak_62, ln_62, cq_62, ob_63, ak_64, ln_64, cq_64, ak_65, ln_65, cq_65, ak_66, ln_66, cq_66, ak_67, ln_67, cq_67, ak_68, ln_68, cq_68, ak_69, ln_69, cq_69, ak_70, ln_70, cq_70, ak_71, ln_71, cq_71, ak_72, ln_72, cq_72, ak_73, ln_73, cq_73, pt_54_0, pt_54_1, pt_57_0, pt_57_3, pt_60_0, pt_60_1, pt_60_2, pt_60_4, pt_60_5, pt_60_6, pt_60_8, pt_63_0, pt_63_1, pt_63_2, pt_63_3, pt_63_4, pt_63_6, pt_63_7, pt_63_10, pt_63_11, pt_63_17, true_and, and_true, List.length_cons, List.length_nil, Nat.reduceAdd, Nat.reduceLeDiff, forall_eq, ne_eq, Nat.reduceEqDiff, not_false_eq_true, or_false, false_or, or_true, true_or, reduceCtorEq, Nat.zero_le, Nat.reduceMul, Nat.add_zero, false_and, and_false, false_implies, true_implies, forall_const, implies_true, List.append_nil, List.nil_append, List.cons_append, mb_i, mb_ii, mb_iii, mb_r, mb_ri, mb_rii, mb_riii, mb_rr, mb_rri, mb_rrii, mb_rriii, mb_riiiii, mb_rrr, mb_rir, mb_iiii, mb_riiii, tn_0, tn_1, tn_2, tn_3, tn_4, tn_5, tn_6, tc_0, tc_1, tc_2, tc_3, tc_4, tc_5, tc_6, xf_0, xf_1, xf_2, Sum.inl.injEq, Sum.inr.injEq, C_M_copyFrom4]))
  all_goals first | exact ha | exact hb | skip
  rw [← cpo_n hne, ← cpo_n hne, cpo_0]

def C_M_gap : mj_C := (2, 1, fun avs M => ma_ri avs fun a k => (mj_ob a = 0 ∧ bd (M a 3) 1 20 ∧ bd k 0 1201), fun avs M r M' => ma_ri avs fun a k => (r = .inl (s_lt (M a 0) (M a 3) k) ∧ M' = M))
theorem rc_M_gap : ∀ avs M, C_M_gap.2.2.1 avs M → ∃ a r, avs = .inr a :: r ∧ mj_ob a = 0 := by
  intro avs M h
  obtain ⟨a, k, rfl, h⟩ := mc_ri h
  exact ⟨_, _, rfl, h.1⟩
set_option maxRecDepth 20000 in
set_option maxHeartbeats 2000000 in
theorem t_M_gap : mj_T yX0_gap cX0_gap 2 (some .int) 1 C_M_gap := by
  refine mj_T_of (own := 0) (rk := 1) [(128, C_J_max)] (by decide) rfl (by decide) ⟨rfl, rfl⟩ (List.forall_mem_cons.mpr ⟨J_max_0_42, (fun _ h => absurd h List.not_mem_nil)⟩) ?_
  intro avs M hlen hpre V hV
  obtain ⟨a, k, rfl, hp⟩ := mc_ri hpre
  show V 0 [some (.inr a), some (.inl k)] [] M
  have b_0 := hV h_X0_gap_0; have b_32 := hV h_X0_gap_32; have b_34 := hV h_X0_gap_34; have b_45 := hV h_X0_gap_45
  clear hlen hpre hV
  obtain ⟨ha, h3, hk⟩ := hp
  have e1 : (1 : Int32).toInt = 1 := rfl
  have h31 := h3.1
  have h32 := h3.2
  have hk1 := hk.1
  have hk2 := hk.2
  have key : (1 < M a 3 - k) = (k + 1 < M a 3) := propext (by
    rw [ti_lt, ti_lt, ti_sub (by omega) (by omega), ti_add (by omega) (by omega)]
    omega)
  repeat' (first | (with_reducible refine And.intro ?_ ?_) | (with_reducible intro _) | ((first | refine b_0 _ _ _ ?_ | refine b_32 _ _ _ ?_ | refine b_34 _ _ _ ?_ | refine b_45 _ _ _ ?_); simp only [k_X0_gap_0, k_X0_gap_32, k_X0_gap_34, k_X0_gap_45, xp_1, xp_2, xp_3, xp_4, xp_5, xp_6, xp_7, xp_10, xp_11, xp_12, xp_13, xp_14, xp_15, xp_16, xp_17, xp_18, xp_19, xp_20, xp_21, xp_22, xp_23, xp_30, xp_31, xp_32, xp_33, xp_34, xp_35, xp_36, xp_37, xp_38, xp_39, xp_40, xp_41, xp_42, xp_43, xp_50, xp_51, xp_52, xp_53, xp_60, xp_61, xp_62, xp_63, xp_64, xp_65, xp_70, xp_80, xp_81, xp_82, up_ne, up_s, ud_s, ud_o, xw_0, xw_1, xg_0, xg_1, xl_i, xl_r, xs_0, xs_1, xq_i, xq_r, xq_v, xc_0, xc_1, xt_0, xt_1, xr_0, xr_1, xr_2, xe_0, xe_1, ob_0, ob_18, ob_36, ob_54, ak_55, ln_55, cq_55, ak_56, ln_56, cq_56, ob_57, ak_58, ln_58, cq_58, ak_59, ln_59, cq_59, ob_60, ak_61, ln_61, cq_61, ak_62, ln_62, cq_62, ob_63, ak_64, ln_64, cq_64, ak_65, ln_65, cq_65, ak_66, ln_66, cq_66, ak_67, ln_67, cq_67, ak_68, ln_68, cq_68, ak_69, ln_69, cq_69, ak_70, ln_70, cq_70, ak_71, ln_71, cq_71, ak_72, ln_72, cq_72, ak_73, ln_73, cq_73, pt_54_0, pt_54_1, pt_57_0, pt_57_3, pt_60_0, pt_60_1, pt_60_2, pt_60_4, pt_60_5, pt_60_6, pt_60_8, pt_63_0, pt_63_1, pt_63_2, pt_63_3, pt_63_4, pt_63_6, pt_63_7, pt_63_10, pt_63_11, pt_63_17, true_and, and_true, List.length_cons, List.length_nil, Nat.reduceAdd, Nat.reduceLeDiff, forall_eq, ne_eq, Nat.reduceEqDiff, not_false_eq_true, or_false, false_or, or_true, true_or, reduceCtorEq, Nat.zero_le, Nat.reduceMul, Nat.add_zero, false_and, and_false, false_implies, true_implies, forall_const, implies_true, List.append_nil, List.nil_append, List.cons_append, mb_i, mb_ii, mb_iii, mb_r, mb_ri, mb_rii, mb_riii, mb_rr, mb_rri, mb_rrii, mb_rriii, mb_riiiii, mb_rrr, mb_rir, mb_iiii, mb_riiii, tn_0, tn_1, tn_2, tn_3, tn_4, tn_5, tn_6, tc_0, tc_1, tc_2, tc_3, tc_4, tc_5, tc_6, xf_0, xf_1, xf_2, Sum.inl.injEq, Sum.inr.injEq, C_J_max, C_M_gap]))
  all_goals clear b_0 b_32 b_34 b_45
  all_goals first | exact ha | (simp [s_lt, key, *]; done) | skip

