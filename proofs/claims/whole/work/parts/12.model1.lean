/-! the reference's small methods -/
def C_M_isIn : mj_C := (2, 1, fun avs _ => ma_ii avs fun _ _ => True, fun avs M r M' => ma_ii avs fun v n => r = .inl (if 0 ≤ v ∧ v < n then 1 else 0) ∧ M' = M)
set_option maxRecDepth 20000 in
theorem t_M_isIn : mj_T yX7_isIn cX7_isIn 2 (some .boolean) 0 C_M_isIn := by
  refine mj_T_of (own := 7) (rk := 3) [] (by decide) rfl (by decide) ⟨rfl, rfl, rfl⟩ (fun q h => absurd h List.not_mem_nil) ?_
  intro avs M hlen hpre V hV
  obtain ⟨v, n, rfl, -⟩ := mc_ii hpre
  show V 0 [some (.inl v), some (.inl n)] [] M
  have b_0 := hV h_X7_isIn_0; have b_13 := hV h_X7_isIn_13; have b_14 := hV h_X7_isIn_14
  repeat' (first | (refine And.intro ?_ ?_) | (intro _) | ((first | refine b_0 _ _ _ ?_ | refine b_13 _ _ _ ?_ | refine b_14 _ _ _ ?_); simp only [k_X7_isIn_0, k_X7_isIn_13, k_X7_isIn_14, xp_1, xp_2, xp_3, xp_4, xp_5, xp_6, xp_7, xp_10, xp_11, xp_12, xp_13, xp_14, xp_15, xp_16, xp_17, xp_18, xp_19, xp_20, xp_21, xp_22, xp_23, xp_30, xp_31, xp_32, xp_33, xp_34, xp_35, xp_36, xp_37, xp_38, xp_39, xp_40, xp_41, xp_42, xp_43, xp_50, xp_51, xp_52, xp_53, xp_60, xp_61, xp_62, xp_63, xp_64, xp_65, xp_70, xp_80, xp_81, xp_82, xw_0, xw_1, xg_0, xg_1, xl_i, xl_r, xs_0, xs_1, xq_i, xq_r, xq_v, xc_0, xc_1, xt_0, xt_1, xe_0, xe_1, ob_0, ob_18, ob_36, ob_54, ak_55, ln_55, cq_55, ak_56, ln_56, cq_56, ob_57, ak_58, ln_58, cq_58, ak_59, ln_59, cq_59, ob_60, ak_61, ln_61, cq_61, ak_62, ln_62, cq_62, ob_63, ak_64, ln_64, cq_64, ak_65, ln_65, cq_65, ak_66, ln_66, cq_66, ak_67, ln_67, cq_67, ak_68, ln_68, cq_68, ak_69, ln_69, cq_69, ak_70, ln_70, cq_70, ak_71, ln_71, cq_71, ak_72, ln_72, cq_72, ak_73, ln_73, cq_73, pt_54_0, pt_54_1, pt_57_0, pt_57_3, pt_60_0, pt_60_1, pt_60_2, pt_60_4, pt_60_5, pt_60_6, pt_60_8, pt_63_0, pt_63_1, pt_63_2, pt_63_3, pt_63_4, pt_63_6, pt_63_7, pt_63_10, pt_63_11, pt_63_17, true_and, and_true, List.length_cons, List.length_nil, Nat.reduceAdd, Nat.reduceLeDiff, forall_eq, ne_eq, Nat.reduceEqDiff, not_false_eq_true, or_false, false_or, or_true, true_or, reduceCtorEq, Nat.zero_le, Nat.reduceMul, false_and, and_false, forall_const, implies_true, List.append_nil, List.nil_append, List.cons_append, mb_i, mb_ii, mb_iii, mb_r, mb_ri, mb_rii, mb_riii, mb_rr, mb_rri, mb_rrii, mb_rriii, mb_riiiii, mb_rrr, mb_rir, mb_iiii, mb_riiii, xf_0, xf_1, xf_2, Sum.inl.injEq, Sum.inr.injEq, C_M_isIn]))
  all_goals trace_state
  all_goals sorry
