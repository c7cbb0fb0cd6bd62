/-! the class takes statements -/
/-- whether all from the jth on are within, n of them -/
def s_aw (q lo hi : Nat → Int32) : Nat → Nat → Int32
  | 0, _ => 1
  | n + 1, j => if q j < lo j then 0 else if hi j < q j then 0 else s_aw q lo hi n (j + 1)
theorem aw_01 {q lo hi : Nat → Int32} : ∀ n j, s_aw q lo hi n j = 0 ∨ s_aw q lo hi n j = 1 := by
  intro n
  induction n with
  | zero => intro j; exact Or.inr rfl
  | succ n ih =>
    intro j
    rw [s_aw]
    split
    · exact Or.inl rfl
    · split
      · exact Or.inl rfl
      · exact ih _
/-- pairs of static rows -/
def s_lh (lo hi : Nat) : Prop := (lo = 100 ∧ hi = 101) ∨ (lo = 102 ∧ hi = 103) ∨ (lo = 104 ∧ hi = 105) ∨ (lo = 106 ∧ hi = 107) ∨ (lo = 108 ∧ hi = 109)
theorem lh_f {lo hi : Nat} (h : s_lh lo hi) : mj_ak lo = 3 ∧ mj_ak hi = 3 ∧ mj_ln mj_s0 hi = mj_ln mj_s0 lo ∧ (∀ (M : mj_M) (j : Nat), mj_cq mj_s0 M lo j = mj_sc lo j) ∧ (∀ (M : mj_M) (j : Nat), mj_cq mj_s0 M hi j = mj_sc hi j) ∧ mj_ln mj_s0 lo ≤ 5 := by
  rcases h with ⟨rfl, rfl⟩ | ⟨rfl, rfl⟩ | ⟨rfl, rfl⟩ | ⟨rfl, rfl⟩ | ⟨rfl, rfl⟩ <;> exact ⟨rfl, rfl, rfl, fun _ _ => rfl, fun _ _ => rfl, by decide⟩
def C_M_areWithin : mj_C := (3, 1, fun avs M => ma_rrr avs fun q lo hi => (q = 59 ∧ s_lh lo hi), fun avs M r M' => ma_rrr avs fun q lo hi => (r = .inl (s_aw (M 59) (mj_sc lo) (mj_sc hi) (mj_ln mj_s0 lo) 0) ∧ M' = M))
set_option maxRecDepth 20000 in
set_option maxHeartbeats 2000000 in
theorem t_M_areWithin : mj_T yX6_areWithin cX6_areWithin 4 (some .boolean) 0 C_M_areWithin := by
  refine mj_T_of (own := 6) (rk := 3) [] (by decide) rfl (by decide) ⟨rfl, rfl, rfl⟩ (fun _ h => absurd h List.not_mem_nil) ?_
  intro avs M hlen hpre V hV
  obtain ⟨q, lo, hi, rfl, hp⟩ := mc_rrr hpre
  show V 0 [some (.inr q), some (.inr lo), some (.inr hi), none] [] M
  have b_0 := hV h_X6_areWithin_0; have b_9 := hV h_X6_areWithin_9; have b_11 := hV h_X6_areWithin_11; have b_41 := hV h_X6_areWithin_41; have b_43 := hV h_X6_areWithin_43; have b_49 := hV h_X6_areWithin_49
  clear hlen hpre hV
  obtain ⟨rfl, hlh⟩ := hp
  obtain ⟨k1, k2, l2, c1, c2, l5⟩ := lh_f hlh
  obtain ⟨N, hN⟩ : ∃ N, N = mj_ln mj_s0 lo := ⟨_, rfl⟩
  rw [← hN] at l5
  have h41 : ∀ L3 : Option mj_V, s_aw (M 59) (mj_sc lo) (mj_sc hi) N 0 = 0 → V 41 [some (.inr 59), some (.inr lo), some (.inr hi), L3] [] M := by
    intro L3 h
    (refine b_41 _ _ _ ?_; simp only [k_X6_areWithin_0, k_X6_areWithin_9, k_X6_areWithin_11, k_X6_areWithin_41, k_X6_areWithin_43, k_X6_areWithin_49, xp_1, xp_2, xp_3, xp_4, xp_5, xp_6, xp_7, xp_10, xp_11, xp_12, xp_13, xp_14, xp_15, xp_16, xp_17, xp_18, xp_19, xp_20, xp_21, xp_22, xp_23, xp_30, xp_31, xp_32, xp_33, xp_34, xp_35, xp_36, xp_37, xp_38, xp_39, xp_40, xp_41, xp_42, xp_43, xp_50, xp_51, xp_52, xp_53, xp_60, xp_61, xp_62, xp_63, xp_64, xp_65, xp_70, xp_80, xp_81, xp_82, up_ne, up_s, ud_s, ud_o, xw_0, xw_1, xg_0, xg_1, xl_i, xl_r, xs_0, xs_1, xq_i, xq_r, xq_v, xc_0, xc_1, xt_0, xt_1, xr_0, xr_1, xr_2, xe_0, xe_1, ob_0, ob_18, ob_36, ob_54, ak_55, ln_55, cq_55, ak_56, ln_56, cq_56, ob_57, ak_58, ln_58, cq_58, ak_59, ln_59, cq_59, ob_60, ak_61, ln_61, cq_61, ak_62, ln_62, cq_62, ob_63, ak_64, ln_64, cq_64, ak_65, ln_65, cq_65, ak_66, ln_66, cq_66, ak_67, ln_67, cq_67, ak_68, ln_68, cq_68, ak_69, ln_69, cq_69, ak_70, ln_70, cq_70, ak_71, ln_71, cq_71, ak_72, ln_72, cq_72, ak_73, ln_73, cq_73, pt_54_0, pt_54_1, pt_57_0, pt_57_3, pt_60_0, pt_60_1, pt_60_2, pt_60_4, pt_60_5, pt_60_6, pt_60_8, pt_63_0, pt_63_1, pt_63_2, pt_63_3, pt_63_4, pt_63_6, pt_63_7, pt_63_10, pt_63_11, pt_63_17, true_and, and_true, List.length_cons, List.length_nil, Nat.reduceAdd, Nat.reduceLeDiff, forall_eq, ne_eq, Nat.reduceEqDiff, not_false_eq_true, or_false, false_or, or_true, true_or, reduceCtorEq, Nat.zero_le, Nat.reduceMul, Nat.add_zero, false_and, and_false, false_implies, true_implies, forall_const, implies_true, List.append_nil, List.nil_append, List.cons_append, mb_i, mb_ii, mb_iii, mb_r, mb_ri, mb_rii, mb_riii, mb_rr, mb_rri, mb_rrii, mb_rriii, mb_riiiii, mb_rrr, mb_rir, mb_iiii, mb_riiii, tn_0, tn_1, tn_2, tn_3, tn_4, tn_5, tn_6, tc_0, tc_1, tc_2, tc_3, tc_4, tc_5, tc_6, xf_0, xf_1, xf_2, Sum.inl.injEq, Sum.inr.injEq, C_M_areWithin, nI_1, k1, k2, l2, c1, c2])
    rw [← hN, h]
  have loop : ∀ (f j : Nat), j + f = N → s_aw (M 59) (mj_sc lo) (mj_sc hi) f j = s_aw (M 59) (mj_sc lo) (mj_sc hi) N 0 → V 11 [some (.inr 59), some (.inr lo), some (.inr hi), some (.inl (nI j))] [] M := by
    intro f
    induction f with
    | zero =>
      intro j hj he
      have h49 : V 49 [some (.inr 59), some (.inr lo), some (.inr hi), some (.inl (nI j))] [] M := by
        (refine b_49 _ _ _ ?_; simp only [k_X6_areWithin_0, k_X6_areWithin_9, k_X6_areWithin_11, k_X6_areWithin_41, k_X6_areWithin_43, k_X6_areWithin_49, xp_1, xp_2, xp_3, xp_4, xp_5, xp_6, xp_7, xp_10, xp_11, xp_12, xp_13, xp_14, xp_15, xp_16, xp_17, xp_18, xp_19, xp_20, xp_21, xp_22, xp_23, xp_30, xp_31, xp_32, xp_33, xp_34, xp_35, xp_36, xp_37, xp_38, xp_39, xp_40, xp_41, xp_42, xp_43, xp_50, xp_51, xp_52, xp_53, xp_60, xp_61, xp_62, xp_63, xp_64, xp_65, xp_70, xp_80, xp_81, xp_82, up_ne, up_s, ud_s, ud_o, xw_0, xw_1, xg_0, xg_1, xl_i, xl_r, xs_0, xs_1, xq_i, xq_r, xq_v, xc_0, xc_1, xt_0, xt_1, xr_0, xr_1, xr_2, xe_0, xe_1, ob_0, ob_18, ob_36, ob_54, ak_55, ln_55, cq_55, ak_56, ln_56, cq_56, ob_57, ak_58, ln_58, cq_58, ak_59, ln_59, cq_59, ob_60, ak_61, ln_61, cq_61, ak_62, ln_62, cq_62, ob_63, ak_64, ln_64, cq_64, ak_65, ln_65, cq_65, ak_66, ln_66, cq_66, ak_67, ln_67, cq_67, ak_68, ln_68, cq_68, ak_69, ln_69, cq_69, ak_70, ln_70, cq_70, ak_71, ln_71, cq_71, ak_72, ln_72, cq_72, ak_73, ln_73, cq_73, pt_54_0, pt_54_1, pt_57_0, pt_57_3, pt_60_0, pt_60_1, pt_60_2, pt_60_4, pt_60_5, pt_60_6, pt_60_8, pt_63_0, pt_63_1, pt_63_2, pt_63_3, pt_63_4, pt_63_6, pt_63_7, pt_63_10, pt_63_11, pt_63_17, true_and, and_true, List.length_cons, List.length_nil, Nat.reduceAdd, Nat.reduceLeDiff, forall_eq, ne_eq, Nat.reduceEqDiff, not_false_eq_true, or_false, false_or, or_true, true_or, reduceCtorEq, Nat.zero_le, Nat.reduceMul, Nat.add_zero, false_and, and_false, false_implies, true_implies, forall_const, implies_true, List.append_nil, List.nil_append, List.cons_append, mb_i, mb_ii, mb_iii, mb_r, mb_ri, mb_rii, mb_riii, mb_rr, mb_rri, mb_rrii, mb_rriii, mb_riiiii, mb_rrr, mb_rir, mb_iiii, mb_riiii, tn_0, tn_1, tn_2, tn_3, tn_4, tn_5, tn_6, tc_0, tc_1, tc_2, tc_3, tc_4, tc_5, tc_6, xf_0, xf_1, xf_2, Sum.inl.injEq, Sum.inr.injEq, C_M_areWithin, nI_1, k1, k2, l2, c1, c2])
        rw [← hN, ← he]
        rfl
      (refine b_11 _ _ _ ?_; simp only [k_X6_areWithin_0, k_X6_areWithin_9, k_X6_areWithin_11, k_X6_areWithin_41, k_X6_areWithin_43, k_X6_areWithin_49, xp_1, xp_2, xp_3, xp_4, xp_5, xp_6, xp_7, xp_10, xp_11, xp_12, xp_13, xp_14, xp_15, xp_16, xp_17, xp_18, xp_19, xp_20, xp_21, xp_22, xp_23, xp_30, xp_31, xp_32, xp_33, xp_34, xp_35, xp_36, xp_37, xp_38, xp_39, xp_40, xp_41, xp_42, xp_43, xp_50, xp_51, xp_52, xp_53, xp_60, xp_61, xp_62, xp_63, xp_64, xp_65, xp_70, xp_80, xp_81, xp_82, up_ne, up_s, ud_s, ud_o, xw_0, xw_1, xg_0, xg_1, xl_i, xl_r, xs_0, xs_1, xq_i, xq_r, xq_v, xc_0, xc_1, xt_0, xt_1, xr_0, xr_1, xr_2, xe_0, xe_1, ob_0, ob_18, ob_36, ob_54, ak_55, ln_55, cq_55, ak_56, ln_56, cq_56, ob_57, ak_58, ln_58, cq_58, ak_59, ln_59, cq_59, ob_60, ak_61, ln_61, cq_61, ak_62, ln_62, cq_62, ob_63, ak_64, ln_64, cq_64, ak_65, ln_65, cq_65, ak_66, ln_66, cq_66, ak_67, ln_67, cq_67, ak_68, ln_68, cq_68, ak_69, ln_69, cq_69, ak_70, ln_70, cq_70, ak_71, ln_71, cq_71, ak_72, ln_72, cq_72, ak_73, ln_73, cq_73, pt_54_0, pt_54_1, pt_57_0, pt_57_3, pt_60_0, pt_60_1, pt_60_2, pt_60_4, pt_60_5, pt_60_6, pt_60_8, pt_63_0, pt_63_1, pt_63_2, pt_63_3, pt_63_4, pt_63_6, pt_63_7, pt_63_10, pt_63_11, pt_63_17, true_and, and_true, List.length_cons, List.length_nil, Nat.reduceAdd, Nat.reduceLeDiff, forall_eq, ne_eq, Nat.reduceEqDiff, not_false_eq_true, or_false, false_or, or_true, true_or, reduceCtorEq, Nat.zero_le, Nat.reduceMul, Nat.add_zero, false_and, and_false, false_implies, true_implies, forall_const, implies_true, List.append_nil, List.nil_append, List.cons_append, mb_i, mb_ii, mb_iii, mb_r, mb_ri, mb_rii, mb_riii, mb_rr, mb_rri, mb_rrii, mb_rriii, mb_riiiii, mb_rrr, mb_rir, mb_iiii, mb_riiii, tn_0, tn_1, tn_2, tn_3, tn_4, tn_5, tn_6, tc_0, tc_1, tc_2, tc_3, tc_4, tc_5, tc_6, xf_0, xf_1, xf_2, Sum.inl.injEq, Sum.inr.injEq, C_M_areWithin, nI_1, k1, k2, l2, c1, c2])
      rw [← hN]
      refine ⟨fun _ => h49, fun h => ⟨fun _ => h49, fun h => absurd h (by rw [ti_lt, ti_nI (by omega), ti_nI (by omega)]; omega)⟩⟩
    | succ f ih =>
      intro j hj he
      have ej : (nI j).toNatClampNeg = j := tn_nI (by omega)
      have hlt : nI j < nI N := by rw [ti_lt, ti_nI (by omega), ti_nI (by omega)]; omega
      have hx5 : vp_in (nI j) 5 := vi_l (by omega) (by omega)
      have hxN : vp_in (nI j) N := vi_l (by omega) (by omega)
      rw [s_aw] at he
      have h43 : ¬ mj_sc hi j < M 59 j → ¬ M 59 j < mj_sc lo j → V 43 [some (.inr 59), some (.inr lo), some (.inr hi), some (.inl (nI j))] [] M := by
        intro h1 h2
        rw [if_neg h2, if_neg h1] at he
        (refine b_43 _ _ _ ?_; simp only [k_X6_areWithin_0, k_X6_areWithin_9, k_X6_areWithin_11, k_X6_areWithin_41, k_X6_areWithin_43, k_X6_areWithin_49, xp_1, xp_2, xp_3, xp_4, xp_5, xp_6, xp_7, xp_10, xp_11, xp_12, xp_13, xp_14, xp_15, xp_16, xp_17, xp_18, xp_19, xp_20, xp_21, xp_22, xp_23, xp_30, xp_31, xp_32, xp_33, xp_34, xp_35, xp_36, xp_37, xp_38, xp_39, xp_40, xp_41, xp_42, xp_43, xp_50, xp_51, xp_52, xp_53, xp_60, xp_61, xp_62, xp_63, xp_64, xp_65, xp_70, xp_80, xp_81, xp_82, up_ne, up_s, ud_s, ud_o, xw_0, xw_1, xg_0, xg_1, xl_i, xl_r, xs_0, xs_1, xq_i, xq_r, xq_v, xc_0, xc_1, xt_0, xt_1, xr_0, xr_1, xr_2, xe_0, xe_1, ob_0, ob_18, ob_36, ob_54, ak_55, ln_55, cq_55, ak_56, ln_56, cq_56, ob_57, ak_58, ln_58, cq_58, ak_59, ln_59, cq_59, ob_60, ak_61, ln_61, cq_61, ak_62, ln_62, cq_62, ob_63, ak_64, ln_64, cq_64, ak_65, ln_65, cq_65, ak_66, ln_66, cq_66, ak_67, ln_67, cq_67, ak_68, ln_68, cq_68, ak_69, ln_69, cq_69, ak_70, ln_70, cq_70, ak_71, ln_71, cq_71, ak_72, ln_72, cq_72, ak_73, ln_73, cq_73, pt_54_0, pt_54_1, pt_57_0, pt_57_3, pt_60_0, pt_60_1, pt_60_2, pt_60_4, pt_60_5, pt_60_6, pt_60_8, pt_63_0, pt_63_1, pt_63_2, pt_63_3, pt_63_4, pt_63_6, pt_63_7, pt_63_10, pt_63_11, pt_63_17, true_and, and_true, List.length_cons, List.length_nil, Nat.reduceAdd, Nat.reduceLeDiff, forall_eq, ne_eq, Nat.reduceEqDiff, not_false_eq_true, or_false, false_or, or_true, true_or, reduceCtorEq, Nat.zero_le, Nat.reduceMul, Nat.add_zero, false_and, and_false, false_implies, true_implies, forall_const, implies_true, List.append_nil, List.nil_append, List.cons_append, mb_i, mb_ii, mb_iii, mb_r, mb_ri, mb_rii, mb_riii, mb_rr, mb_rri, mb_rrii, mb_rriii, mb_riiiii, mb_rrr, mb_rir, mb_iiii, mb_riiii, tn_0, tn_1, tn_2, tn_3, tn_4, tn_5, tn_6, tc_0, tc_1, tc_2, tc_3, tc_4, tc_5, tc_6, xf_0, xf_1, xf_2, Sum.inl.injEq, Sum.inr.injEq, C_M_areWithin, nI_1, k1, k2, l2, c1, c2])
        exact ih (j + 1) (by omega) he
      (refine b_11 _ _ _ ?_; simp only [k_X6_areWithin_0, k_X6_areWithin_9, k_X6_areWithin_11, k_X6_areWithin_41, k_X6_areWithin_43, k_X6_areWithin_49, xp_1, xp_2, xp_3, xp_4, xp_5, xp_6, xp_7, xp_10, xp_11, xp_12, xp_13, xp_14, xp_15, xp_16, xp_17, xp_18, xp_19, xp_20, xp_21, xp_22, xp_23, xp_30, xp_31, xp_32, xp_33, xp_34, xp_35, xp_36, xp_37, xp_38, xp_39, xp_40, xp_41, xp_42, xp_43, xp_50, xp_51, xp_52, xp_53, xp_60, xp_61, xp_62, xp_63, xp_64, xp_65, xp_70, xp_80, xp_81, xp_82, up_ne, up_s, ud_s, ud_o, xw_0, xw_1, xg_0, xg_1, xl_i, xl_r, xs_0, xs_1, xq_i, xq_r, xq_v, xc_0, xc_1, xt_0, xt_1, xr_0, xr_1, xr_2, xe_0, xe_1, ob_0, ob_18, ob_36, ob_54, ak_55, ln_55, cq_55, ak_56, ln_56, cq_56, ob_57, ak_58, ln_58, cq_58, ak_59, ln_59, cq_59, ob_60, ak_61, ln_61, cq_61, ak_62, ln_62, cq_62, ob_63, ak_64, ln_64, cq_64, ak_65, ln_65, cq_65, ak_66, ln_66, cq_66, ak_67, ln_67, cq_67, ak_68, ln_68, cq_68, ak_69, ln_69, cq_69, ak_70, ln_70, cq_70, ak_71, ln_71, cq_71, ak_72, ln_72, cq_72, ak_73, ln_73, cq_73, pt_54_0, pt_54_1, pt_57_0, pt_57_3, pt_60_0, pt_60_1, pt_60_2, pt_60_4, pt_60_5, pt_60_6, pt_60_8, pt_63_0, pt_63_1, pt_63_2, pt_63_3, pt_63_4, pt_63_6, pt_63_7, pt_63_10, pt_63_11, pt_63_17, true_and, and_true, List.length_cons, List.length_nil, Nat.reduceAdd, Nat.reduceLeDiff, forall_eq, ne_eq, Nat.reduceEqDiff, not_false_eq_true, or_false, false_or, or_true, true_or, reduceCtorEq, Nat.zero_le, Nat.reduceMul, Nat.add_zero, false_and, and_false, false_implies, true_implies, forall_const, implies_true, List.append_nil, List.nil_append, List.cons_append, mb_i, mb_ii, mb_iii, mb_r, mb_ri, mb_rii, mb_riii, mb_rr, mb_rri, mb_rrii, mb_rriii, mb_riiiii, mb_rrr, mb_rir, mb_iiii, mb_riiii, tn_0, tn_1, tn_2, tn_3, tn_4, tn_5, tn_6, tc_0, tc_1, tc_2, tc_3, tc_4, tc_5, tc_6, xf_0, xf_1, xf_2, Sum.inl.injEq, Sum.inr.injEq, C_M_areWithin, nI_1, k1, k2, l2, c1, c2])
      rw [← hN, ej]
      refine ⟨fun h => absurd hlt h, fun _ => ⟨fun h => absurd hlt h, fun _ => ⟨hx5, hxN, fun h => ?_, fun h => ⟨hx5, hxN, fun h2 => h43 h2 h, fun h2 => ?_⟩⟩⟩⟩
      · rw [if_pos h] at he
        exact h41 _ he.symm
      · rw [if_neg h, if_pos h2] at he
        exact h41 _ he.symm
  have e5 : nI 5 = 5 := rfl
  (refine b_0 _ _ _ ?_; simp only [k_X6_areWithin_0, k_X6_areWithin_9, k_X6_areWithin_11, k_X6_areWithin_41, k_X6_areWithin_43, k_X6_areWithin_49, xp_1, xp_2, xp_3, xp_4, xp_5, xp_6, xp_7, xp_10, xp_11, xp_12, xp_13, xp_14, xp_15, xp_16, xp_17, xp_18, xp_19, xp_20, xp_21, xp_22, xp_23, xp_30, xp_31, xp_32, xp_33, xp_34, xp_35, xp_36, xp_37, xp_38, xp_39, xp_40, xp_41, xp_42, xp_43, xp_50, xp_51, xp_52, xp_53, xp_60, xp_61, xp_62, xp_63, xp_64, xp_65, xp_70, xp_80, xp_81, xp_82, up_ne, up_s, ud_s, ud_o, xw_0, xw_1, xg_0, xg_1, xl_i, xl_r, xs_0, xs_1, xq_i, xq_r, xq_v, xc_0, xc_1, xt_0, xt_1, xr_0, xr_1, xr_2, xe_0, xe_1, ob_0, ob_18, ob_36, ob_54, ak_55, ln_55, cq_55, ak_56, ln_56, cq_56, ob_57, ak_58, ln_58, cq_58, ak_59, ln_59, cq_59, ob_60, ak_61, ln_61, cq_61, ak_62, ln_62, cq_62, ob_63, ak_64, ln_64, cq_64, ak_65, ln_65, cq_65, ak_66, ln_66, cq_66, ak_67, ln_67, cq_67, ak_68, ln_68, cq_68, ak_69, ln_69, cq_69, ak_70, ln_70, cq_70, ak_71, ln_71, cq_71, ak_72, ln_72, cq_72, ak_73, ln_73, cq_73, pt_54_0, pt_54_1, pt_57_0, pt_57_3, pt_60_0, pt_60_1, pt_60_2, pt_60_4, pt_60_5, pt_60_6, pt_60_8, pt_63_0, pt_63_1, pt_63_2, pt_63_3, pt_63_4, pt_63_6, pt_63_7, pt_63_10, pt_63_11, pt_63_17, true_and, and_true, List.length_cons, List.length_nil, Nat.reduceAdd, Nat.reduceLeDiff, forall_eq, ne_eq, Nat.reduceEqDiff, not_false_eq_true, or_false, false_or, or_true, true_or, reduceCtorEq, Nat.zero_le, Nat.reduceMul, Nat.add_zero, false_and, and_false, false_implies, true_implies, forall_const, implies_true, List.append_nil, List.nil_append, List.cons_append, mb_i, mb_ii, mb_iii, mb_r, mb_ri, mb_rii, mb_riii, mb_rr, mb_rri, mb_rrii, mb_rriii, mb_riiiii, mb_rrr, mb_rir, mb_iiii, mb_riiii, tn_0, tn_1, tn_2, tn_3, tn_4, tn_5, tn_6, tc_0, tc_1, tc_2, tc_3, tc_4, tc_5, tc_6, xf_0, xf_1, xf_2, Sum.inl.injEq, Sum.inr.injEq, C_M_areWithin, nI_1, k1, k2, l2, c1, c2])
  rw [← hN]
  refine ⟨fun _ => ?_, fun h => absurd h (by rw [ti_lt, ti_nI (by omega), ti_nI (by omega)]; omega)⟩
  (refine b_9 _ _ _ ?_; simp only [k_X6_areWithin_0, k_X6_areWithin_9, k_X6_areWithin_11, k_X6_areWithin_41, k_X6_areWithin_43, k_X6_areWithin_49, xp_1, xp_2, xp_3, xp_4, xp_5, xp_6, xp_7, xp_10, xp_11, xp_12, xp_13, xp_14, xp_15, xp_16, xp_17, xp_18, xp_19, xp_20, xp_21, xp_22, xp_23, xp_30, xp_31, xp_32, xp_33, xp_34, xp_35, xp_36, xp_37, xp_38, xp_39, xp_40, xp_41, xp_42, xp_43, xp_50, xp_51, xp_52, xp_53, xp_60, xp_61, xp_62, xp_63, xp_64, xp_65, xp_70, xp_80, xp_81, xp_82, up_ne, up_s, ud_s, ud_o, xw_0, xw_1, xg_0, xg_1, xl_i, xl_r, xs_0, xs_1, xq_i, xq_r, xq_v, xc_0, xc_1, xt_0, xt_1, xr_0, xr_1, xr_2, xe_0, xe_1, ob_0, ob_18, ob_36, ob_54, ak_55, ln_55, cq_55, ak_56, ln_56, cq_56, ob_57, ak_58, ln_58, cq_58, ak_59, ln_59, cq_59, ob_60, ak_61, ln_61, cq_61, ak_62, ln_62, cq_62, ob_63, ak_64, ln_64, cq_64, ak_65, ln_65, cq_65, ak_66, ln_66, cq_66, ak_67, ln_67, cq_67, ak_68, ln_68, cq_68, ak_69, ln_69, cq_69, ak_70, ln_70, cq_70, ak_71, ln_71, cq_71, ak_72, ln_72, cq_72, ak_73, ln_73, cq_73, pt_54_0, pt_54_1, pt_57_0, pt_57_3, pt_60_0, pt_60_1, pt_60_2, pt_60_4, pt_60_5, pt_60_6, pt_60_8, pt_63_0, pt_63_1, pt_63_2, pt_63_3, pt_63_4, pt_63_6, pt_63_7, pt_63_10, pt_63_11, pt_63_17, true_and, and_true, List.length_cons, List.length_nil, Nat.reduceAdd, Nat.reduceLeDiff, forall_eq, ne_eq, Nat.reduceEqDiff, not_false_eq_true, or_false, false_or, or_true, true_or, reduceCtorEq, Nat.zero_le, Nat.reduceMul, Nat.add_zero, false_and, and_false, false_implies, true_implies, forall_const, implies_true, List.append_nil, List.nil_append, List.cons_append, mb_i, mb_ii, mb_iii, mb_r, mb_ri, mb_rii, mb_riii, mb_rr, mb_rri, mb_rrii, mb_rriii, mb_riiiii, mb_rrr, mb_rir, mb_iiii, mb_riiii, tn_0, tn_1, tn_2, tn_3, tn_4, tn_5, tn_6, tc_0, tc_1, tc_2, tc_3, tc_4, tc_5, tc_6, xf_0, xf_1, xf_2, Sum.inl.injEq, Sum.inr.injEq, C_M_areWithin, nI_1, k1, k2, l2, c1, c2])
  exact loop N 0 (by omega) rfl

def C_M_beAs3 : mj_C := (2, 1, fun avs M => ma_rr avs fun a c => (mj_ob a = 3 ∧ c = 59 ∧ a < 54), fun avs M r M' => ma_rr avs fun a c => (r = .inl (s_aw (M 59) (mj_sc 100) (mj_sc 101) 4 0) ∧ M' = (if s_aw (M 59) (mj_sc 100) (mj_sc 101) 4 0 = 0 then M else cpo M a 59 4)))
theorem rc_M_beAs3 : ∀ avs M, C_M_beAs3.2.2.1 avs M → ∃ a r, avs = .inr a :: r ∧ mj_ob a = 3 := by
  intro avs M h
  obtain ⟨a, c, rfl, h⟩ := mc_rr h
  exact ⟨_, _, rfl, h.1⟩
set_option maxRecDepth 20000 in
set_option maxHeartbeats 2000000 in
theorem t_M_beAs3 : mj_T yX3_beAs cX3_beAs 2 (some .boolean) 1 C_M_beAs3 := by
  refine mj_T_of (own := 3) (rk := 3) [(95, C_M_areWithin)] (by decide) rfl (by decide) ⟨rfl, rfl, rfl⟩ (List.forall_mem_cons.mpr ⟨mj_KS (own := 3) (nest := true) t_M_areWithin ⟨wc_X6_areWithin, wi_X6, by decide, wl_3_31⟩ wn_X6_areWithin (by decide +kernel) (by decide), (fun _ h => absurd h List.not_mem_nil)⟩) ?_
  intro avs M hlen hpre V hV
  obtain ⟨a, c, rfl, hp⟩ := mc_rr hpre
  show V 0 [some (.inr a), some (.inr c)] [] M
  have b_0 := hV h_X3_beAs_0; have b_19 := hV h_X3_beAs_19; have b_21 := hV h_X3_beAs_21
  clear hlen hpre hV
  obtain ⟨ho, rfl, ha⟩ := hp
  have hne : a ≠ 59 := by omega
  have hlh : s_lh 100 101 := by unfold s_lh; decide
  have h19 : s_aw (M 59) (mj_sc 100) (mj_sc 101) 4 0 = 0 → V 19 [some (.inr a), some (.inr 59)] [] M := by
    intro h
    (refine b_19 _ _ _ ?_; simp only [k_X3_beAs_0, k_X3_beAs_19, k_X3_beAs_21, xp_1, xp_2, xp_3, xp_4, xp_5, xp_6, xp_7, xp_10, xp_11, xp_12, xp_13, xp_14, xp_15, xp_16, xp_17, xp_18, xp_19, xp_20, xp_21, xp_22, xp_23, xp_30, xp_31, xp_32, xp_33, xp_34, xp_35, xp_36, xp_37, xp_38, xp_39, xp_40, xp_41, xp_42, xp_43, xp_50, xp_51, xp_52, xp_53, xp_60, xp_61, xp_62, xp_63, xp_64, xp_65, xp_70, xp_80, xp_81, xp_82, up_ne, up_s, ud_s, ud_o, xw_0, xw_1, xg_0, xg_1, xl_i, xl_r, xs_0, xs_1, xq_i, xq_r, xq_v, xc_0, xc_1, xt_0, xt_1, xr_0, xr_1, xr_2, xe_0, xe_1, ob_0, ob_18, ob_36, ob_54, ak_55, ln_55, cq_55, ak_56, ln_56, cq_56, ob_57, ak_58, ln_58, cq_58, ak_59, ln_59, cq_59, ob_60, ak_61, ln_61, cq_61, ak_62, ln_62, cq_62, ob_63, ak_64, ln_64, cq_64, ak_65, ln_65, cq_65, ak_66, ln_66, cq_66, ak_67, ln_67, cq_67, ak_68, ln_68, cq_68, ak_69, ln_69, cq_69, ak_70, ln_70, cq_70, ak_71, ln_71, cq_71, ak_72, ln_72, cq_72, ak_73, ln_73, cq_73, pt_54_0, pt_54_1, pt_57_0, pt_57_3, pt_60_0, pt_60_1, pt_60_2, pt_60_4, pt_60_5, pt_60_6, pt_60_8, pt_63_0, pt_63_1, pt_63_2, pt_63_3, pt_63_4, pt_63_6, pt_63_7, pt_63_10, pt_63_11, pt_63_17, true_and, and_true, List.length_cons, List.length_nil, Nat.reduceAdd, Nat.reduceLeDiff, forall_eq, ne_eq, Nat.reduceEqDiff, not_false_eq_true, or_false, false_or, or_true, true_or, reduceCtorEq, Nat.zero_le, Nat.reduceMul, Nat.add_zero, false_and, and_false, false_implies, true_implies, forall_const, implies_true, List.append_nil, List.nil_append, List.cons_append, mb_i, mb_ii, mb_iii, mb_r, mb_ri, mb_rii, mb_riii, mb_rr, mb_rri, mb_rrii, mb_rriii, mb_riiiii, mb_rrr, mb_rir, mb_iiii, mb_riiii, tn_0, tn_1, tn_2, tn_3, tn_4, tn_5, tn_6, tc_0, tc_1, tc_2, tc_3, tc_4, tc_5, tc_6, xf_0, xf_1, xf_2, Sum.inl.injEq, Sum.inr.injEq, C_M_areWithin, C_M_beAs3])
    rw [h, if_pos rfl]
    exact ⟨rfl, rfl⟩
  have h21 : ¬ s_aw (M 59) (mj_sc 100) (mj_sc 101) 4 0 = 0 → V 21 [some (.inr a), some (.inr 59)] [] M := by
    intro h
    have e1 : s_aw (M 59) (mj_sc 100) (mj_sc 101) 4 0 = 1 := (aw_01 _ _).resolve_left h
    (refine b_21 _ _ _ ?_; simp only [k_X3_beAs_0, k_X3_beAs_19, k_X3_beAs_21, xp_1, xp_2, xp_3, xp_4, xp_5, xp_6, xp_7, xp_10, xp_11, xp_12, xp_13, xp_14, xp_15, xp_16, xp_17, xp_18, xp_19, xp_20, xp_21, xp_22, xp_23, xp_30, xp_31, xp_32, xp_33, xp_34, xp_35, xp_36, xp_37, xp_38, xp_39, xp_40, xp_41, xp_42, xp_43, xp_50, xp_51, xp_52, xp_53, xp_60, xp_61, xp_62, xp_63, xp_64, xp_65, xp_70, xp_80, xp_81, xp_82, up_ne, up_s, ud_s, ud_o, xw_0, xw_1, xg_0, xg_1, xl_i, xl_r, xs_0, xs_1, xq_i, xq_r, xq_v, xc_0, xc_1, xt_0, xt_1, xr_0, xr_1, xr_2, xe_0, xe_1, ob_0, ob_18, ob_36, ob_54, ak_55, ln_55, cq_55, ak_56, ln_56, cq_56, ob_57, ak_58, ln_58, cq_58, ak_59, ln_59, cq_59, ob_60, ak_61, ln_61, cq_61, ak_62, ln_62, cq_62, ob_63, ak_64, ln_64, cq_64, ak_65, ln_65, cq_65, ak_66, ln_66, cq_66, ak_67, ln_67, cq_67, ak_68, ln_68, cq_68, ak_69, ln_69, cq_69, ak_70, ln_70, cq_70, ak_71, ln_71, cq_71, ak_72, ln_72, cq_72, ak_73, ln_73, cq_73, pt_54_0, pt_54_1, pt_57_0, pt_57_3, pt_60_0, pt_60_1, pt_60_2, pt_60_4, pt_60_5, pt_60_6, pt_60_8, pt_63_0, pt_63_1, pt_63_2, pt_63_3, pt_63_4, pt_63_6, pt_63_7, pt_63_10, pt_63_11, pt_63_17, true_and, and_true, List.length_cons, List.length_nil, Nat.reduceAdd, Nat.reduceLeDiff, forall_eq, ne_eq, Nat.reduceEqDiff, not_false_eq_true, or_false, false_or, or_true, true_or, reduceCtorEq, Nat.zero_le, Nat.reduceMul, Nat.add_zero, false_and, and_false, false_implies, true_implies, forall_const, implies_true, List.append_nil, List.nil_append, List.cons_append, mb_i, mb_ii, mb_iii, mb_r, mb_ri, mb_rii, mb_riii, mb_rr, mb_rri, mb_rrii, mb_rriii, mb_riiiii, mb_rrr, mb_rir, mb_iiii, mb_riiii, tn_0, tn_1, tn_2, tn_3, tn_4, tn_5, tn_6, tc_0, tc_1, tc_2, tc_3, tc_4, tc_5, tc_6, xf_0, xf_1, xf_2, Sum.inl.injEq, Sum.inr.injEq, C_M_areWithin, C_M_beAs3])
    rw [e1]
    repeat' (first | exact ho | exact vi_0 | exact vi_1 | exact vi_2 | exact vi_3 | exact vi_4 | exact Or.inr rfl | exact rfl | refine And.intro ?_ ?_)
    rw [if_neg (show ¬ (1 : Int32) = 0 by decide), ← cpo_n hne, ← cpo_n hne, ← cpo_n hne, ← cpo_n hne, cpo_0]
  (refine b_0 _ _ _ ?_; simp only [k_X3_beAs_0, k_X3_beAs_19, k_X3_beAs_21, xp_1, xp_2, xp_3, xp_4, xp_5, xp_6, xp_7, xp_10, xp_11, xp_12, xp_13, xp_14, xp_15, xp_16, xp_17, xp_18, xp_19, xp_20, xp_21, xp_22, xp_23, xp_30, xp_31, xp_32, xp_33, xp_34, xp_35, xp_36, xp_37, xp_38, xp_39, xp_40, xp_41, xp_42, xp_43, xp_50, xp_51, xp_52, xp_53, xp_60, xp_61, xp_62, xp_63, xp_64, xp_65, xp_70, xp_80, xp_81, xp_82, up_ne, up_s, ud_s, ud_o, xw_0, xw_1, xg_0, xg_1, xl_i, xl_r, xs_0, xs_1, xq_i, xq_r, xq_v, xc_0, xc_1, xt_0, xt_1, xr_0, xr_1, xr_2, xe_0, xe_1, ob_0, ob_18, ob_36, ob_54, ak_55, ln_55, cq_55, ak_56, ln_56, cq_56, ob_57, ak_58, ln_58, cq_58, ak_59, ln_59, cq_59, ob_60, ak_61, ln_61, cq_61, ak_62, ln_62, cq_62, ob_63, ak_64, ln_64, cq_64, ak_65, ln_65, cq_65, ak_66, ln_66, cq_66, ak_67, ln_67, cq_67, ak_68, ln_68, cq_68, ak_69, ln_69, cq_69, ak_70, ln_70, cq_70, ak_71, ln_71, cq_71, ak_72, ln_72, cq_72, ak_73, ln_73, cq_73, pt_54_0, pt_54_1, pt_57_0, pt_57_3, pt_60_0, pt_60_1, pt_60_2, pt_60_4, pt_60_5, pt_60_6, pt_60_8, pt_63_0, pt_63_1, pt_63_2, pt_63_3, pt_63_4, pt_63_6, pt_63_7, pt_63_10, pt_63_11, pt_63_17, true_and, and_true, List.length_cons, List.length_nil, Nat.reduceAdd, Nat.reduceLeDiff, forall_eq, ne_eq, Nat.reduceEqDiff, not_false_eq_true, or_false, false_or, or_true, true_or, reduceCtorEq, Nat.zero_le, Nat.reduceMul, Nat.add_zero, false_and, and_false, false_implies, true_implies, forall_const, implies_true, List.append_nil, List.nil_append, List.cons_append, mb_i, mb_ii, mb_iii, mb_r, mb_ri, mb_rii, mb_riii, mb_rr, mb_rri, mb_rrii, mb_rriii, mb_riiiii, mb_rrr, mb_rir, mb_iiii, mb_riiii, tn_0, tn_1, tn_2, tn_3, tn_4, tn_5, tn_6, tc_0, tc_1, tc_2, tc_3, tc_4, tc_5, tc_6, xf_0, xf_1, xf_2, Sum.inl.injEq, Sum.inr.injEq, C_M_areWithin, C_M_beAs3])
  refine ⟨hlh, fun h => h19 h, fun h => ⟨fun _ => h21 h, fun z => absurd z (by decide)⟩⟩

def C_M_beAs0 : mj_C := (2, 1, fun avs M => ma_rr avs fun a c => (mj_ob a = 0 ∧ c = 59 ∧ a < 54), fun avs M r M' => ma_rr avs fun a c => (r = .inl (s_aw (M 59) (mj_sc 102) (mj_sc 103) 5 0) ∧ M' = (if s_aw (M 59) (mj_sc 102) (mj_sc 103) 5 0 = 0 then M else cpo M a 59 5)))
theorem rc_M_beAs0 : ∀ avs M, C_M_beAs0.2.2.1 avs M → ∃ a r, avs = .inr a :: r ∧ mj_ob a = 0 := by
  intro avs M h
  obtain ⟨a, c, rfl, h⟩ := mc_rr h
  exact ⟨_, _, rfl, h.1⟩
set_option maxRecDepth 20000 in
set_option maxHeartbeats 2000000 in
theorem t_M_beAs0 : mj_T yX0_beAs cX0_beAs 2 (some .boolean) 1 C_M_beAs0 := by
  refine mj_T_of (own := 0) (rk := 3) [(104, C_M_areWithin)] (by decide) rfl (by decide) ⟨rfl, rfl, rfl⟩ (List.forall_mem_cons.mpr ⟨mj_KS (own := 0) (nest := true) t_M_areWithin ⟨wc_X6_areWithin, wi_X6, by decide, wl_0_34⟩ wn_X6_areWithin (by decide +kernel) (by decide), (fun _ h => absurd h List.not_mem_nil)⟩) ?_
  intro avs M hlen hpre V hV
  obtain ⟨a, c, rfl, hp⟩ := mc_rr hpre
  show V 0 [some (.inr a), some (.inr c)] [] M
  have b_0 := hV h_X0_beAs_0; have b_19 := hV h_X0_beAs_19; have b_21 := hV h_X0_beAs_21
  clear hlen hpre hV
  obtain ⟨ho, rfl, ha⟩ := hp
  have hne : a ≠ 59 := by omega
  have hlh : s_lh 102 103 := by unfold s_lh; decide
  have h19 : s_aw (M 59) (mj_sc 102) (mj_sc 103) 5 0 = 0 → V 19 [some (.inr a), some (.inr 59)] [] M := by
    intro h
    (refine b_19 _ _ _ ?_; simp only [k_X0_beAs_0, k_X0_beAs_19, k_X0_beAs_21, xp_1, xp_2, xp_3, xp_4, xp_5, xp_6, xp_7, xp_10, xp_11, xp_12, xp_13, xp_14, xp_15, xp_16, xp_17, xp_18, xp_19, xp_20, xp_21, xp_22, xp_23, xp_30, xp_31, xp_32, xp_33, xp_34, xp_35, xp_36, xp_37, xp_38, xp_39, xp_40, xp_41, xp_42, xp_43, xp_50, xp_51, xp_52, xp_53, xp_60, xp_61, xp_62, xp_63, xp_64, xp_65, xp_70, xp_80, xp_81, xp_82, up_ne, up_s, ud_s, ud_o, xw_0, xw_1, xg_0, xg_1, xl_i, xl_r, xs_0, xs_1, xq_i, xq_r, xq_v, xc_0, xc_1, xt_0, xt_1, xr_0, xr_1, xr_2, xe_0, xe_1, ob_0, ob_18, ob_36, ob_54, ak_55, ln_55, cq_55, ak_56, ln_56, cq_56, ob_57, ak_58, ln_58, cq_58, ak_59, ln_59, cq_59, ob_60, ak_61, ln_61, cq_61, ak_62, ln_62, cq_62, ob_63, ak_64, ln_64, cq_64, ak_65, ln_65, cq_65, ak_66, ln_66, cq_66, ak_67, ln_67, cq_67, ak_68, ln_68, cq_68, ak_69, ln_69, cq_69, ak_70, ln_70, cq_70, ak_71, ln_71, cq_71, ak_72, ln_72, cq_72, ak_73, ln_73, cq_73, pt_54_0, pt_54_1, pt_57_0, pt_57_3, pt_60_0, pt_60_1, pt_60_2, pt_60_4, pt_60_5, pt_60_6, pt_60_8, pt_63_0, pt_63_1, pt_63_2, pt_63_3, pt_63_4, pt_63_6, pt_63_7, pt_63_10, pt_63_11, pt_63_17, true_and, and_true, List.length_cons, List.length_nil, Nat.reduceAdd, Nat.reduceLeDiff, forall_eq, ne_eq, Nat.reduceEqDiff, not_false_eq_true, or_false, false_or, or_true, true_or, reduceCtorEq, Nat.zero_le, Nat.reduceMul, Nat.add_zero, false_and, and_false, false_implies, true_implies, forall_const, implies_true, List.append_nil, List.nil_append, List.cons_append, mb_i, mb_ii, mb_iii, mb_r, mb_ri, mb_rii, mb_riii, mb_rr, mb_rri, mb_rrii, mb_rriii, mb_riiiii, mb_rrr, mb_rir, mb_iiii, mb_riiii, tn_0, tn_1, tn_2, tn_3, tn_4, tn_5, tn_6, tc_0, tc_1, tc_2, tc_3, tc_4, tc_5, tc_6, xf_0, xf_1, xf_2, Sum.inl.injEq, Sum.inr.injEq, C_M_areWithin, C_M_beAs0])
    rw [h, if_pos rfl]
    exact ⟨rfl, rfl⟩
  have h21 : ¬ s_aw (M 59) (mj_sc 102) (mj_sc 103) 5 0 = 0 → V 21 [some (.inr a), some (.inr 59)] [] M := by
    intro h
    have e1 : s_aw (M 59) (mj_sc 102) (mj_sc 103) 5 0 = 1 := (aw_01 _ _).resolve_left h
    (refine b_21 _ _ _ ?_; simp only [k_X0_beAs_0, k_X0_beAs_19, k_X0_beAs_21, xp_1, xp_2, xp_3, xp_4, xp_5, xp_6, xp_7, xp_10, xp_11, xp_12, xp_13, xp_14, xp_15, xp_16, xp_17, xp_18, xp_19, xp_20, xp_21, xp_22, xp_23, xp_30, xp_31, xp_32, xp_33, xp_34, xp_35, xp_36, xp_37, xp_38, xp_39, xp_40, xp_41, xp_42, xp_43, xp_50, xp_51, xp_52, xp_53, xp_60, xp_61, xp_62, xp_63, xp_64, xp_65, xp_70, xp_80, xp_81, xp_82, up_ne, up_s, ud_s, ud_o, xw_0, xw_1, xg_0, xg_1, xl_i, xl_r, xs_0, xs_1, xq_i, xq_r, xq_v, xc_0, xc_1, xt_0, xt_1, xr_0, xr_1, xr_2, xe_0, xe_1, ob_0, ob_18, ob_36, ob_54, ak_55, ln_55, cq_55, ak_56, ln_56, cq_56, ob_57, ak_58, ln_58, cq_58, ak_59, ln_59, cq_59, ob_60, ak_61, ln_61, cq_61, ak_62, ln_62, cq_62, ob_63, ak_64, ln_64, cq_64, ak_65, ln_65, cq_65, ak_66, ln_66, cq_66, ak_67, ln_67, cq_67, ak_68, ln_68, cq_68, ak_69, ln_69, cq_69, ak_70, ln_70, cq_70, ak_71, ln_71, cq_71, ak_72, ln_72, cq_72, ak_73, ln_73, cq_73, pt_54_0, pt_54_1, pt_57_0, pt_57_3, pt_60_0, pt_60_1, pt_60_2, pt_60_4, pt_60_5, pt_60_6, pt_60_8, pt_63_0, pt_63_1, pt_63_2, pt_63_3, pt_63_4, pt_63_6, pt_63_7, pt_63_10, pt_63_11, pt_63_17, true_and, and_true, List.length_cons, List.length_nil, Nat.reduceAdd, Nat.reduceLeDiff, forall_eq, ne_eq, Nat.reduceEqDiff, not_false_eq_true, or_false, false_or, or_true, true_or, reduceCtorEq, Nat.zero_le, Nat.reduceMul, Nat.add_zero, false_and, and_false, false_implies, true_implies, forall_const, implies_true, List.append_nil, List.nil_append, List.cons_append, mb_i, mb_ii, mb_iii, mb_r, mb_ri, mb_rii, mb_riii, mb_rr, mb_rri, mb_rrii, mb_rriii, mb_riiiii, mb_rrr, mb_rir, mb_iiii, mb_riiii, tn_0, tn_1, tn_2, tn_3, tn_4, tn_5, tn_6, tc_0, tc_1, tc_2, tc_3, tc_4, tc_5, tc_6, xf_0, xf_1, xf_2, Sum.inl.injEq, Sum.inr.injEq, C_M_areWithin, C_M_beAs0])
    rw [e1]
    repeat' (first | exact ho | exact vi_0 | exact vi_1 | exact vi_2 | exact vi_3 | exact vi_4 | exact Or.inr rfl | exact rfl | refine And.intro ?_ ?_)
    rw [if_neg (show ¬ (1 : Int32) = 0 by decide), ← cpo_n hne, ← cpo_n hne, ← cpo_n hne, ← cpo_n hne, ← cpo_n hne, cpo_0]
  (refine b_0 _ _ _ ?_; simp only [k_X0_beAs_0, k_X0_beAs_19, k_X0_beAs_21, xp_1, xp_2, xp_3, xp_4, xp_5, xp_6, xp_7, xp_10, xp_11, xp_12, xp_13, xp_14, xp_15, xp_16, xp_17, xp_18, xp_19, xp_20, xp_21, xp_22, xp_23, xp_30, xp_31, xp_32, xp_33, xp_34, xp_35, xp_36, xp_37, xp_38, xp_39, xp_40, xp_41, xp_42, xp_43, xp_50, xp_51, xp_52, xp_53, xp_60, xp_61, xp_62, xp_63, xp_64, xp_65, xp_70, xp_80, xp_81, xp_82, up_ne, up_s, ud_s, ud_o, xw_0, xw_1, xg_0, xg_1, xl_i, xl_r, xs_0, xs_1, xq_i, xq_r, xq_v, xc_0, xc_1, xt_0, xt_1, xr_0, xr_1, xr_2, xe_0, xe_1, ob_0, ob_18, ob_36, ob_54, ak_55, ln_55, cq_55, ak_56, ln_56, cq_56, ob_57, ak_58, ln_58, cq_58, ak_59, ln_59, cq_59, ob_60, ak_61, ln_61, cq_61, ak_62, ln_62, cq_62, ob_63, ak_64, ln_64, cq_64, ak_65, ln_65, cq_65, ak_66, ln_66, cq_66, ak_67, ln_67, cq_67, ak_68, ln_68, cq_68, ak_69, ln_69, cq_69, ak_70, ln_70, cq_70, ak_71, ln_71, cq_71, ak_72, ln_72, cq_72, ak_73, ln_73, cq_73, pt_54_0, pt_54_1, pt_57_0, pt_57_3, pt_60_0, pt_60_1, pt_60_2, pt_60_4, pt_60_5, pt_60_6, pt_60_8, pt_63_0, pt_63_1, pt_63_2, pt_63_3, pt_63_4, pt_63_6, pt_63_7, pt_63_10, pt_63_11, pt_63_17, true_and, and_true, List.length_cons, List.length_nil, Nat.reduceAdd, Nat.reduceLeDiff, forall_eq, ne_eq, Nat.reduceEqDiff, not_false_eq_true, or_false, false_or, or_true, true_or, reduceCtorEq, Nat.zero_le, Nat.reduceMul, Nat.add_zero, false_and, and_false, false_implies, true_implies, forall_const, implies_true, List.append_nil, List.nil_append, List.cons_append, mb_i, mb_ii, mb_iii, mb_r, mb_ri, mb_rii, mb_riii, mb_rr, mb_rri, mb_rrii, mb_rriii, mb_riiiii, mb_rrr, mb_rir, mb_iiii, mb_riiii, tn_0, tn_1, tn_2, tn_3, tn_4, tn_5, tn_6, tc_0, tc_1, tc_2, tc_3, tc_4, tc_5, tc_6, xf_0, xf_1, xf_2, Sum.inl.injEq, Sum.inr.injEq, C_M_areWithin, C_M_beAs0])
  refine ⟨hlh, fun h => h19 h, fun h => ⟨fun _ => h21 h, fun z => absurd z (by decide)⟩⟩

def C_M_beAs4 : mj_C := (2, 1, fun avs M => ma_rr avs fun a c => (mj_ob a = 4 ∧ c = 59 ∧ a < 54), fun avs M r M' => ma_rr avs fun a c => (r = .inl (s_aw (M 59) (mj_sc 104) (mj_sc 105) 2 0) ∧ M' = (if s_aw (M 59) (mj_sc 104) (mj_sc 105) 2 0 = 0 then M else cpo M a 59 2)))
theorem rc_M_beAs4 : ∀ avs M, C_M_beAs4.2.2.1 avs M → ∃ a r, avs = .inr a :: r ∧ mj_ob a = 4 := by
  intro avs M h
  obtain ⟨a, c, rfl, h⟩ := mc_rr h
  exact ⟨_, _, rfl, h.1⟩
set_option maxRecDepth 20000 in
set_option maxHeartbeats 2000000 in
theorem t_M_beAs4 : mj_T yX4_beAs cX4_beAs 2 (some .boolean) 1 C_M_beAs4 := by
  refine mj_T_of (own := 4) (rk := 3) [(77, C_M_areWithin)] (by decide) rfl (by decide) ⟨rfl, rfl, rfl⟩ (List.forall_mem_cons.mpr ⟨mj_KS (own := 4) (nest := true) t_M_areWithin ⟨wc_X6_areWithin, wi_X6, by decide, wl_4_25⟩ wn_X6_areWithin (by decide +kernel) (by decide), (fun _ h => absurd h List.not_mem_nil)⟩) ?_
  intro avs M hlen hpre V hV
  obtain ⟨a, c, rfl, hp⟩ := mc_rr hpre
  show V 0 [some (.inr a), some (.inr c)] [] M
  have b_0 := hV h_X4_beAs_0; have b_19 := hV h_X4_beAs_19; have b_21 := hV h_X4_beAs_21
  clear hlen hpre hV
  obtain ⟨ho, rfl, ha⟩ := hp
  have hne : a ≠ 59 := by omega
  have hlh : s_lh 104 105 := by unfold s_lh; decide
  have h19 : s_aw (M 59) (mj_sc 104) (mj_sc 105) 2 0 = 0 → V 19 [some (.inr a), some (.inr 59)] [] M := by
    intro h
    (refine b_19 _ _ _ ?_; simp only [k_X4_beAs_0, k_X4_beAs_19, k_X4_beAs_21, xp_1, xp_2, xp_3, xp_4, xp_5, xp_6, xp_7, xp_10, xp_11, xp_12, xp_13, xp_14, xp_15, xp_16, xp_17, xp_18, xp_19, xp_20, xp_21, xp_22, xp_23, xp_30, xp_31, xp_32, xp_33, xp_34, xp_35, xp_36, xp_37, xp_38, xp_39, xp_40, xp_41, xp_42, xp_43, xp_50, xp_51, xp_52, xp_53, xp_60, xp_61, xp_62, xp_63, xp_64, xp_65, xp_70, xp_80, xp_81, xp_82, up_ne, up_s, ud_s, ud_o, xw_0, xw_1, xg_0, xg_1, xl_i, xl_r, xs_0, xs_1, xq_i, xq_r, xq_v, xc_0, xc_1, xt_0, xt_1, xr_0, xr_1, xr_2, xe_0, xe_1, ob_0, ob_18, ob_36, ob_54, ak_55, ln_55, cq_55, ak_56, ln_56, cq_56, ob_57, ak_58, ln_58, cq_58, ak_59, ln_59, cq_59, ob_60, ak_61, ln_61, cq_61, ak_62, ln_62, cq_62, ob_63, ak_64, ln_64, cq_64, ak_65, ln_65, cq_65, ak_66, ln_66, cq_66, ak_67, ln_67, cq_67, ak_68, ln_68, cq_68, ak_69, ln_69, cq_69, ak_70, ln_70, cq_70, ak_71, ln_71, cq_71, ak_72, ln_72, cq_72, ak_73, ln_73, cq_73, pt_54_0, pt_54_1, pt_57_0, pt_57_3, pt_60_0, pt_60_1, pt_60_2, pt_60_4, pt_60_5, pt_60_6, pt_60_8, pt_63_0, pt_63_1, pt_63_2, pt_63_3, pt_63_4, pt_63_6, pt_63_7, pt_63_10, pt_63_11, pt_63_17, true_and, and_true, List.length_cons, List.length_nil, Nat.reduceAdd, Nat.reduceLeDiff, forall_eq, ne_eq, Nat.reduceEqDiff, not_false_eq_true, or_false, false_or, or_true, true_or, reduceCtorEq, Nat.zero_le, Nat.reduceMul, Nat.add_zero, false_and, and_false, false_implies, true_implies, forall_const, implies_true, List.append_nil, List.nil_append, List.cons_append, mb_i, mb_ii, mb_iii, mb_r, mb_ri, mb_rii, mb_riii, mb_rr, mb_rri, mb_rrii, mb_rriii, mb_riiiii, mb_rrr, mb_rir, mb_iiii, mb_riiii, tn_0, tn_1, tn_2, tn_3, tn_4, tn_5, tn_6, tc_0, tc_1, tc_2, tc_3, tc_4, tc_5, tc_6, xf_0, xf_1, xf_2, Sum.inl.injEq, Sum.inr.injEq, C_M_areWithin, C_M_beAs4])
    rw [h, if_pos rfl]
    exact ⟨rfl, rfl⟩
  have h21 : ¬ s_aw (M 59) (mj_sc 104) (mj_sc 105) 2 0 = 0 → V 21 [some (.inr a), some (.inr 59)] [] M := by
    intro h
    have e1 : s_aw (M 59) (mj_sc 104) (mj_sc 105) 2 0 = 1 := (aw_01 _ _).resolve_left h
    (refine b_21 _ _ _ ?_; simp only [k_X4_beAs_0, k_X4_beAs_19, k_X4_beAs_21, xp_1, xp_2, xp_3, xp_4, xp_5, xp_6, xp_7, xp_10, xp_11, xp_12, xp_13, xp_14, xp_15, xp_16, xp_17, xp_18, xp_19, xp_20, xp_21, xp_22, xp_23, xp_30, xp_31, xp_32, xp_33, xp_34, xp_35, xp_36, xp_37, xp_38, xp_39, xp_40, xp_41, xp_42, xp_43, xp_50, xp_51, xp_52, xp_53, xp_60, xp_61, xp_62, xp_63, xp_64, xp_65, xp_70, xp_80, xp_81, xp_82, up_ne, up_s, ud_s, ud_o, xw_0, xw_1, xg_0, xg_1, xl_i, xl_r, xs_0, xs_1, xq_i, xq_r, xq_v, xc_0, xc_1, xt_0, xt_1, xr_0, xr_1, xr_2, xe_0, xe_1, ob_0, ob_18, ob_36, ob_54, ak_55, ln_55, cq_55, ak_56, ln_56, cq_56, ob_57, ak_58, ln_58, cq_58, ak_59, ln_59, cq_59, ob_60, ak_61, ln_61, cq_61, ak_62, ln_62, cq_62, ob_63, ak_64, ln_64, cq_64, ak_65, ln_65, cq_65, ak_66, ln_66, cq_66, ak_67, ln_67, cq_67, ak_68, ln_68, cq_68, ak_69, ln_69, cq_69, ak_70, ln_70, cq_70, ak_71, ln_71, cq_71, ak_72, ln_72, cq_72, ak_73, ln_73, cq_73, pt_54_0, pt_54_1, pt_57_0, pt_57_3, pt_60_0, pt_60_1, pt_60_2, pt_60_4, pt_60_5, pt_60_6, pt_60_8, pt_63_0, pt_63_1, pt_63_2, pt_63_3, pt_63_4, pt_63_6, pt_63_7, pt_63_10, pt_63_11, pt_63_17, true_and, and_true, List.length_cons, List.length_nil, Nat.reduceAdd, Nat.reduceLeDiff, forall_eq, ne_eq, Nat.reduceEqDiff, not_false_eq_true, or_false, false_or, or_true, true_or, reduceCtorEq, Nat.zero_le, Nat.reduceMul, Nat.add_zero, false_and, and_false, false_implies, true_implies, forall_const, implies_true, List.append_nil, List.nil_append, List.cons_append, mb_i, mb_ii, mb_iii, mb_r, mb_ri, mb_rii, mb_riii, mb_rr, mb_rri, mb_rrii, mb_rriii, mb_riiiii, mb_rrr, mb_rir, mb_iiii, mb_riiii, tn_0, tn_1, tn_2, tn_3, tn_4, tn_5, tn_6, tc_0, tc_1, tc_2, tc_3, tc_4, tc_5, tc_6, xf_0, xf_1, xf_2, Sum.inl.injEq, Sum.inr.injEq, C_M_areWithin, C_M_beAs4])
    rw [e1]
    repeat' (first | exact ho | exact vi_0 | exact vi_1 | exact vi_2 | exact vi_3 | exact vi_4 | exact Or.inr rfl | exact rfl | refine And.intro ?_ ?_)
    rw [if_neg (show ¬ (1 : Int32) = 0 by decide), ← cpo_n hne, ← cpo_n hne, cpo_0]
  (refine b_0 _ _ _ ?_; simp only [k_X4_beAs_0, k_X4_beAs_19, k_X4_beAs_21, xp_1, xp_2, xp_3, xp_4, xp_5, xp_6, xp_7, xp_10, xp_11, xp_12, xp_13, xp_14, xp_15, xp_16, xp_17, xp_18, xp_19, xp_20, xp_21, xp_22, xp_23, xp_30, xp_31, xp_32, xp_33, xp_34, xp_35, xp_36, xp_37, xp_38, xp_39, xp_40, xp_41, xp_42, xp_43, xp_50, xp_51, xp_52, xp_53, xp_60, xp_61, xp_62, xp_63, xp_64, xp_65, xp_70, xp_80, xp_81, xp_82, up_ne, up_s, ud_s, ud_o, xw_0, xw_1, xg_0, xg_1, xl_i, xl_r, xs_0, xs_1, xq_i, xq_r, xq_v, xc_0, xc_1, xt_0, xt_1, xr_0, xr_1, xr_2, xe_0, xe_1, ob_0, ob_18, ob_36, ob_54, ak_55, ln_55, cq_55, ak_56, ln_56, cq_56, ob_57, ak_58, ln_58, cq_58, ak_59, ln_59, cq_59, ob_60, ak_61, ln_61, cq_61, ak_62, ln_62, cq_62, ob_63, ak_64, ln_64, cq_64, ak_65, ln_65, cq_65, ak_66, ln_66, cq_66, ak_67, ln_67, cq_67, ak_68, ln_68, cq_68, ak_69, ln_69, cq_69, ak_70, ln_70, cq_70, ak_71, ln_71, cq_71, ak_72, ln_72, cq_72, ak_73, ln_73, cq_73, pt_54_0, pt_54_1, pt_57_0, pt_57_3, pt_60_0, pt_60_1, pt_60_2, pt_60_4, pt_60_5, pt_60_6, pt_60_8, pt_63_0, pt_63_1, pt_63_2, pt_63_3, pt_63_4, pt_63_6, pt_63_7, pt_63_10, pt_63_11, pt_63_17, true_and, and_true, List.length_cons, List.length_nil, Nat.reduceAdd, Nat.reduceLeDiff, forall_eq, ne_eq, Nat.reduceEqDiff, not_false_eq_true, or_false, false_or, or_true, true_or, reduceCtorEq, Nat.zero_le, Nat.reduceMul, Nat.add_zero, false_and, and_false, false_implies, true_implies, forall_const, implies_true, List.append_nil, List.nil_append, List.cons_append, mb_i, mb_ii, mb_iii, mb_r, mb_ri, mb_rii, mb_riii, mb_rr, mb_rri, mb_rrii, mb_rriii, mb_riiiii, mb_rrr, mb_rir, mb_iiii, mb_riiii, tn_0, tn_1, tn_2, tn_3, tn_4, tn_5, tn_6, tc_0, tc_1, tc_2, tc_3, tc_4, tc_5, tc_6, xf_0, xf_1, xf_2, Sum.inl.injEq, Sum.inr.injEq, C_M_areWithin, C_M_beAs4])
  refine ⟨hlh, fun h => h19 h, fun h => ⟨fun _ => h21 h, fun z => absurd z (by decide)⟩⟩

theorem cp_v {r q : Nat → Int32} {b : Nat} : ∀ {n j : Nat}, s_cp r b q n j = if b ≤ j ∧ j < b + n then q (j - b) else r j := by
  intro n
  induction n with
  | zero =>
    intro j
    rw [if_neg (by omega)]
    rfl
  | succ n ih =>
    intro j
    show upd _ _ _ j = _
    by_cases e : j = b + n
    · rw [e, ud_s, if_pos (by omega), show b + n - b = n by omega]
    · rw [ud_o e, ih]
      by_cases h : b ≤ j ∧ j < b + n
      · rw [if_pos h, if_pos (by omega)]
      · rw [if_neg h, if_neg (by omega)]
theorem tn_1p {x : Int32} {hi : Int} (h : bd x 0 hi) (hh : hi ≤ 100) : tn (x + 1) = tn x + 1 := by
  have e1 : (1 : Int32).toInt = 1 := rfl
  have h1 := h.1
  have h2 := h.2
  have e : (x + 1).toInt = x.toInt + 1 := by rw [ti_add (by omega) (by omega), e1]
  have := tn_of (x := x + 1) (by omega)
  have := tn_of h1
  omega
theorem rv_addS {M : mj_M} {b n : Nat} (hn : n = tn (M b 3)) (h4 : n < 4) (hb : bd (M b 3) 0 4) (hb2 : b < 54) : rv (mj_up (cpo M (b + 4 + n) 59 4) b 3 (M b 3 + 1)) b = upd (s_cp (rv M b) (7 + 4 * n) (M 59) 4) 0 (rv M b 0 + 1) := by
  have hn1 := tn_1p hb (by omega)
  rw [← hn] at hn1
  funext j
  by_cases e0 : j = 0
  · rw [e0, ud_s, rv_7 (by omega), up_s, ud_s, rv_7 (by omega)]
  · rw [ud_o e0, cp_v]
    rcases (show j < 7 ∨ (7 ≤ j ∧ j < 23) ∨ (23 ≤ j ∧ j < 43) ∨ (43 ≤ j ∧ j < 55) ∨ 55 ≤ j by omega) with h | h | h | h | h
    · rw [rv_7 h, up_s, ud_o (by omega), cpo_o (by omega), if_neg (by omega), rv_7 h]
    · have hL : rv (mj_up (cpo M (b + 4 + n) 59 4) b 3 (M b 3 + 1)) b j = if (j - 7) / 4 < n + 1 then cpo M (b + 4 + n) 59 4 (b + 4 + (j - 7) / 4) ((j - 7) % 4) else 0 := by
        unfold rv
        rw [if_neg (show ¬ j < 7 by omega), if_pos (show j < 23 by omega), up_s, ud_s, hn1, up_ne (show b + 4 + (j - 7) / 4 ≠ b by omega)]
      have hR : rv M b j = if (j - 7) / 4 < n then M (b + 4 + (j - 7) / 4) ((j - 7) % 4) else 0 := by
        unfold rv
        rw [if_neg (show ¬ j < 7 by omega), if_pos (show j < 23 by omega), ← hn]
      rw [hL]
      by_cases hi : (j - 7) / 4 = n
      · rw [if_pos (by omega), if_pos (by omega), hi, cpo_s (by omega), show (j - 7) % 4 = j - (7 + 4 * n) by omega]
      · rw [cpo_o (by omega), hR, if_neg (show ¬ (7 + 4 * n ≤ j ∧ j < 7 + 4 * n + 4) by omega)]
        by_cases hi2 : (j - 7) / 4 < n
        · rw [if_pos (by omega), if_pos hi2]
        · rw [if_neg (by omega), if_neg hi2]
    · have hL : rv (mj_up (cpo M (b + 4 + n) 59 4) b 3 (M b 3 + 1)) b j = rv M b j := by
        unfold rv
        rw [if_neg (show ¬ j < 7 by omega), if_neg (show ¬ j < 23 by omega), if_pos (show j < 43 by omega), if_neg (show ¬ j < 7 by omega), if_neg (show ¬ j < 23 by omega), if_pos (show j < 43 by omega), up_s, ud_o (show (4 : Nat) ≠ 3 by omega), cpo_o (show b ≠ b + 4 + n by omega), up_ne (show b + 8 + (j - 23) / 5 ≠ b by omega), cpo_o (show b + 8 + (j - 23) / 5 ≠ b + 4 + n by omega)]
      rw [hL, if_neg (by omega)]
    · have hL : rv (mj_up (cpo M (b + 4 + n) 59 4) b 3 (M b 3 + 1)) b j = rv M b j := by
        unfold rv
        rw [if_neg (show ¬ j < 7 by omega), if_neg (show ¬ j < 23 by omega), if_neg (show ¬ j < 43 by omega), if_pos (show j < 55 by omega), if_neg (show ¬ j < 7 by omega), if_neg (show ¬ j < 23 by omega), if_neg (show ¬ j < 43 by omega), if_pos (show j < 55 by omega), up_s, ud_o (show (5 : Nat) ≠ 3 by omega), cpo_o (show b ≠ b + 4 + n by omega), up_ne (show b + 12 + (j - 43) / 2 ≠ b by omega), cpo_o (show b + 12 + (j - 43) / 2 ≠ b + 4 + n by omega)]
      rw [hL, if_neg (by omega)]
    · rw [rv_55 h, if_neg (by omega), rv_55 h]
theorem rv_addC {M : mj_M} {b n : Nat} (hn : n = tn (M b 4)) (h4 : n < 4) (hb : bd (M b 4) 0 4) (hb2 : b < 54) : rv (mj_up (cpo M (b + 8 + n) 59 5) b 4 (M b 4 + 1)) b = upd (s_cp (rv M b) (23 + 5 * n) (M 59) 5) 1 (rv M b 1 + 1) := by
  have hn1 := tn_1p hb (by omega)
  rw [← hn] at hn1
  funext j
  by_cases e0 : j = 1
  · rw [e0, ud_s, rv_7 (by omega), up_s, ud_s, rv_7 (by omega)]
  · rw [ud_o e0, cp_v]
    rcases (show j < 7 ∨ (7 ≤ j ∧ j < 23) ∨ (23 ≤ j ∧ j < 43) ∨ (43 ≤ j ∧ j < 55) ∨ 55 ≤ j by omega) with h | h | h | h | h
    · rw [rv_7 h, up_s, ud_o (by omega), cpo_o (by omega), if_neg (by omega), rv_7 h]
    · have hL : rv (mj_up (cpo M (b + 8 + n) 59 5) b 4 (M b 4 + 1)) b j = rv M b j := by
        unfold rv
        rw [if_neg (show ¬ j < 7 by omega), if_pos (show j < 23 by omega), if_neg (show ¬ j < 7 by omega), if_pos (show j < 23 by omega), up_s, ud_o (show (3 : Nat) ≠ 4 by omega), cpo_o (show b ≠ b + 8 + n by omega), up_ne (show b + 4 + (j - 7) / 4 ≠ b by omega), cpo_o (show b + 4 + (j - 7) / 4 ≠ b + 8 + n by omega)]
      rw [hL, if_neg (by omega)]
    · have hL : rv (mj_up (cpo M (b + 8 + n) 59 5) b 4 (M b 4 + 1)) b j = if (j - 23) / 5 < n + 1 then cpo M (b + 8 + n) 59 5 (b + 8 + (j - 23) / 5) ((j - 23) % 5) else 0 := by
        unfold rv
        rw [if_neg (show ¬ j < 7 by omega), if_neg (show ¬ j < 23 by omega), if_pos (show j < 43 by omega), up_s, ud_s, hn1, up_ne (show b + 8 + (j - 23) / 5 ≠ b by omega)]
      have hR : rv M b j = if (j - 23) / 5 < n then M (b + 8 + (j - 23) / 5) ((j - 23) % 5) else 0 := by
        unfold rv
        rw [if_neg (show ¬ j < 7 by omega), if_neg (show ¬ j < 23 by omega), if_pos (show j < 43 by omega), ← hn]
      rw [hL]
      by_cases hi : (j - 23) / 5 = n
      · rw [if_pos (by omega), if_pos (by omega), hi, cpo_s (by omega), show (j - 23) % 5 = j - (23 + 5 * n) by omega]
      · rw [cpo_o (by omega), hR, if_neg (show ¬ (23 + 5 * n ≤ j ∧ j < 23 + 5 * n + 5) by omega)]
        by_cases hi2 : (j - 23) / 5 < n
        · rw [if_pos (by omega), if_pos hi2]
        · rw [if_neg (by omega), if_neg hi2]
    · have hL : rv (mj_up (cpo M (b + 8 + n) 59 5) b 4 (M b 4 + 1)) b j = rv M b j := by
        unfold rv
        rw [if_neg (show ¬ j < 7 by omega), if_neg (show ¬ j < 23 by omega), if_neg (show ¬ j < 43 by omega), if_pos (show j < 55 by omega), if_neg (show ¬ j < 7 by omega), if_neg (show ¬ j < 23 by omega), if_neg (show ¬ j < 43 by omega), if_pos (show j < 55 by omega), up_s, ud_o (show (5 : Nat) ≠ 4 by omega), cpo_o (show b ≠ b + 8 + n by omega), up_ne (show b + 12 + (j - 43) / 2 ≠ b by omega), cpo_o (show b + 12 + (j - 43) / 2 ≠ b + 8 + n by omega)]
      rw [hL, if_neg (by omega)]
    · rw [rv_55 h, if_neg (by omega), rv_55 h]
theorem rv_addT {M : mj_M} {b n : Nat} (hn : n = tn (M b 5)) (h4 : n < 6) (hb : bd (M b 5) 0 6) (hb2 : b < 54) : rv (mj_up (cpo M (b + 12 + n) 59 2) b 5 (M b 5 + 1)) b = upd (s_cp (rv M b) (43 + 2 * n) (M 59) 2) 2 (rv M b 2 + 1) := by
  have hn1 := tn_1p hb (by omega)
  rw [← hn] at hn1
  funext j
  by_cases e0 : j = 2
  · rw [e0, ud_s, rv_7 (by omega), up_s, ud_s, rv_7 (by omega)]
  · rw [ud_o e0, cp_v]
    rcases (show j < 7 ∨ (7 ≤ j ∧ j < 23) ∨ (23 ≤ j ∧ j < 43) ∨ (43 ≤ j ∧ j < 55) ∨ 55 ≤ j by omega) with h | h | h | h | h
    · rw [rv_7 h, up_s, ud_o (by omega), cpo_o (by omega), if_neg (by omega), rv_7 h]
    · have hL : rv (mj_up (cpo M (b + 12 + n) 59 2) b 5 (M b 5 + 1)) b j = rv M b j := by
        unfold rv
        rw [if_neg (show ¬ j < 7 by omega), if_pos (show j < 23 by omega), if_neg (show ¬ j < 7 by omega), if_pos (show j < 23 by omega), up_s, ud_o (show (3 : Nat) ≠ 5 by omega), cpo_o (show b ≠ b + 12 + n by omega), up_ne (show b + 4 + (j - 7) / 4 ≠ b by omega), cpo_o (show b + 4 + (j - 7) / 4 ≠ b + 12 + n by omega)]
      rw [hL, if_neg (by omega)]
    · have hL : rv (mj_up (cpo M (b + 12 + n) 59 2) b 5 (M b 5 + 1)) b j = rv M b j := by
        unfold rv
        rw [if_neg (show ¬ j < 7 by omega), if_neg (show ¬ j < 23 by omega), if_pos (show j < 43 by omega), if_neg (show ¬ j < 7 by omega), if_neg (show ¬ j < 23 by omega), if_pos (show j < 43 by omega), up_s, ud_o (show (4 : Nat) ≠ 5 by omega), cpo_o (show b ≠ b + 12 + n by omega), up_ne (show b + 8 + (j - 23) / 5 ≠ b by omega), cpo_o (show b + 8 + (j - 23) / 5 ≠ b + 12 + n by omega)]
      rw [hL, if_neg (by omega)]
    · have hL : rv (mj_up (cpo M (b + 12 + n) 59 2) b 5 (M b 5 + 1)) b j = if (j - 43) / 2 < n + 1 then cpo M (b + 12 + n) 59 2 (b + 12 + (j - 43) / 2) ((j - 43) % 2) else 0 := by
        unfold rv
        rw [if_neg (show ¬ j < 7 by omega), if_neg (show ¬ j < 23 by omega), if_neg (show ¬ j < 43 by omega), if_pos (show j < 55 by omega), up_s, ud_s, hn1, up_ne (show b + 12 + (j - 43) / 2 ≠ b by omega)]
      have hR : rv M b j = if (j - 43) / 2 < n then M (b + 12 + (j - 43) / 2) ((j - 43) % 2) else 0 := by
        unfold rv
        rw [if_neg (show ¬ j < 7 by omega), if_neg (show ¬ j < 23 by omega), if_neg (show ¬ j < 43 by omega), if_pos (show j < 55 by omega), ← hn]
      rw [hL]
      by_cases hi : (j - 43) / 2 = n
      · rw [if_pos (by omega), if_pos (by omega), hi, cpo_s (by omega), show (j - 43) % 2 = j - (43 + 2 * n) by omega]
      · rw [cpo_o (by omega), hR, if_neg (show ¬ (43 + 2 * n ≤ j ∧ j < 43 + 2 * n + 2) by omega)]
        by_cases hi2 : (j - 43) / 2 < n
        · rw [if_pos (by omega), if_pos hi2]
        · rw [if_neg (by omega), if_neg hi2]
    · rw [rv_55 h, if_neg (by omega), rv_55 h]
