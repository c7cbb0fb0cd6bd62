/-! the class's morning -/
def fp (g : Nat → Int32) : Nat → Int32 × Int32
  | 0 => (-1, 300)
  | j + 1 => if g j < (fp g j).2 then (nI j, g j) else fp g j
def fq (g : Nat → Int32) (f : Nat) : Int32 × Int32 := if g f < 300 then (nI f, g f) else (-1, 300)
theorem fp_s {g : Nat → Int32} {j f f' : Nat} (h : fp g j = fq g f) (hf : f' = if g j < g f then j else f) : fp g (j + 1) = fq g f' := by
  subst hf
  rw [fp, h]
  unfold fq
  by_cases h1 : g f < 300
  · rw [if_pos h1]
    by_cases h2 : g j < g f
    · have h3 : g j < 300 := by
        rw [ti_lt] at *
        omega
      rw [if_pos h2, if_pos h2, if_pos h3]
    · rw [if_neg h2, if_neg h2, if_pos h1]
  · rw [if_neg h1]
    by_cases h2 : g j < 300
    · have h3 : g j < g f := by
        rw [ti_lt] at *
        omega
      rw [if_pos h2, if_pos h3, if_pos h2]
    · rw [if_neg h2]
      by_cases h3 : g j < g f
      · rw [if_pos h3, if_neg h2]
      · rw [if_neg h3, if_neg h1]
theorem fp_4 {g : Nat → Int32} : fp g 4 = fq g (s_f3 g) :=
  fp_s (f := s_f2 g) (fp_s (f := s_f1 g) (fp_s (f := 0) rfl rfl) rfl) rfl
def C_M_firstToRing : mj_C := (1, 1, fun avs M => ma_r avs fun a => (a = 54), fun avs M r M' => ma_r avs fun a => (r = .inl (fq (M 55) (s_f3 (M 55))).1 ∧ M' = M))
theorem rc_M_firstToRing : ∀ avs M, C_M_firstToRing.2.2.1 avs M → ∃ a r, avs = .inr a :: r ∧ mj_ob a = 1 := by
  intro avs M h
  obtain ⟨a, rfl, h⟩ := mc_r h
  exact ⟨_, _, rfl, by rw [h]; rfl⟩
set_option maxRecDepth 20000 in
set_option maxHeartbeats 2000000 in
theorem t_M_firstToRing : mj_T yX1_firstToRing cX1_firstToRing 4 (some .int) 0 C_M_firstToRing := by
  refine mj_T_of (own := 1) (rk := 1) [] (by decide) rfl (by decide) ⟨rfl, rfl⟩ (fun _ h => absurd h List.not_mem_nil) ?_
  intro avs M hlen hpre V hV
  obtain ⟨a, rfl, hp⟩ := mc_r hpre
  show V 0 [some (.inr a), none, none, none] [] M
  have b_0 := hV h_X1_firstToRing_0; have b_8 := hV h_X1_firstToRing_8; have b_32 := hV h_X1_firstToRing_32; have b_38 := hV h_X1_firstToRing_38
  clear hlen hpre hV
  subst hp
  have loop : ∀ (f j : Nat), j + f = 4 → V 8 [some (.inr 54), some (.inl (fp (M 55) j).1), some (.inl (fp (M 55) j).2), some (.inl (nI j))] [] M := by
    intro f
    induction f with
    | zero =>
      intro j hj
      have h1 : ¬ nI j < 4 := by
        rw [show j = 4 by omega]
        decide
      (refine b_8 _ _ _ ?_; simp only [k_X1_firstToRing_0, k_X1_firstToRing_8, k_X1_firstToRing_32, k_X1_firstToRing_38, xp_1, xp_2, xp_3, xp_4, xp_5, xp_6, xp_7, xp_10, xp_11, xp_12, xp_13, xp_14, xp_15, xp_16, xp_17, xp_18, xp_19, xp_20, xp_21, xp_22, xp_23, xp_30, xp_31, xp_32, xp_33, xp_34, xp_35, xp_36, xp_37, xp_38, xp_39, xp_40, xp_41, xp_42, xp_43, xp_50, xp_51, xp_52, xp_53, xp_60, xp_61, xp_62, xp_63, xp_64, xp_65, xp_70, xp_80, xp_81, xp_82, up_ne, up_s, ud_s, ud_o, xw_0, xw_1, xg_0, xg_1, xl_i, xl_r, xs_0, xs_1, xq_i, xq_r, xq_v, xc_0, xc_1, xt_0, xt_1, xr_0, xr_1, xr_2, xe_0, xe_1, ob_0, ob_18, ob_36, ob_54, ak_55, ln_55, cq_55, ak_56, ln_56, cq_56, ob_57, ak_58, ln_58, cq_58, ak_59, ln_59, cq_59, ob_60, ak_61, ln_61, cq_61, ak_62, ln_62, cq_62, ob_63, ak_64, ln_64, cq_64, ak_65, ln_65, cq_65, ak_66, ln_66, cq_66, ak_67, ln_67, cq_67, ak_68, ln_68, cq_68, ak_69, ln_69, cq_69, ak_70, ln_70, cq_70, ak_71, ln_71, cq_71, ak_72, ln_72, cq_72, ak_73, ln_73, cq_73, pt_54_0, pt_54_1, pt_57_0, pt_57_3, pt_60_0, pt_60_1, pt_60_2, pt_60_4, pt_60_5, pt_60_6, pt_60_8, pt_63_0, pt_63_1, pt_63_2, pt_63_3, pt_63_4, pt_63_6, pt_63_7, pt_63_10, pt_63_11, pt_63_17, true_and, and_true, List.length_cons, List.length_nil, Nat.reduceAdd, Nat.reduceLeDiff, forall_eq, ne_eq, Nat.reduceEqDiff, not_false_eq_true, or_false, false_or, or_true, true_or, reduceCtorEq, Nat.zero_le, Nat.reduceMul, Nat.add_zero, false_and, and_false, false_implies, true_implies, forall_const, implies_true, List.append_nil, List.nil_append, List.cons_append, mb_i, mb_ii, mb_iii, mb_r, mb_ri, mb_rii, mb_riii, mb_rr, mb_rri, mb_rrii, mb_rriii, mb_riiiii, mb_rrr, mb_rir, mb_iiii, mb_riiii, tn_0, tn_1, tn_2, tn_3, tn_4, tn_5, tn_6, tc_0, tc_1, tc_2, tc_3, tc_4, tc_5, tc_6, xf_0, xf_1, xf_2, Sum.inl.injEq, Sum.inr.injEq, C_M_firstToRing, nI_1])
      refine ⟨fun _ => ?_, fun z => absurd z h1⟩
      (refine b_38 _ _ _ ?_; simp only [k_X1_firstToRing_0, k_X1_firstToRing_8, k_X1_firstToRing_32, k_X1_firstToRing_38, xp_1, xp_2, xp_3, xp_4, xp_5, xp_6, xp_7, xp_10, xp_11, xp_12, xp_13, xp_14, xp_15, xp_16, xp_17, xp_18, xp_19, xp_20, xp_21, xp_22, xp_23, xp_30, xp_31, xp_32, xp_33, xp_34, xp_35, xp_36, xp_37, xp_38, xp_39, xp_40, xp_41, xp_42, xp_43, xp_50, xp_51, xp_52, xp_53, xp_60, xp_61, xp_62, xp_63, xp_64, xp_65, xp_70, xp_80, xp_81, xp_82, up_ne, up_s, ud_s, ud_o, xw_0, xw_1, xg_0, xg_1, xl_i, xl_r, xs_0, xs_1, xq_i, xq_r, xq_v, xc_0, xc_1, xt_0, xt_1, xr_0, xr_1, xr_2, xe_0, xe_1, ob_0, ob_18, ob_36, ob_54, ak_55, ln_55, cq_55, ak_56, ln_56, cq_56, ob_57, ak_58, ln_58, cq_58, ak_59, ln_59, cq_59, ob_60, ak_61, ln_61, cq_61, ak_62, ln_62, cq_62, ob_63, ak_64, ln_64, cq_64, ak_65, ln_65, cq_65, ak_66, ln_66, cq_66, ak_67, ln_67, cq_67, ak_68, ln_68, cq_68, ak_69, ln_69, cq_69, ak_70, ln_70, cq_70, ak_71, ln_71, cq_71, ak_72, ln_72, cq_72, ak_73, ln_73, cq_73, pt_54_0, pt_54_1, pt_57_0, pt_57_3, pt_60_0, pt_60_1, pt_60_2, pt_60_4, pt_60_5, pt_60_6, pt_60_8, pt_63_0, pt_63_1, pt_63_2, pt_63_3, pt_63_4, pt_63_6, pt_63_7, pt_63_10, pt_63_11, pt_63_17, true_and, and_true, List.length_cons, List.length_nil, Nat.reduceAdd, Nat.reduceLeDiff, forall_eq, ne_eq, Nat.reduceEqDiff, not_false_eq_true, or_false, false_or, or_true, true_or, reduceCtorEq, Nat.zero_le, Nat.reduceMul, Nat.add_zero, false_and, and_false, false_implies, true_implies, forall_const, implies_true, List.append_nil, List.nil_append, List.cons_append, mb_i, mb_ii, mb_iii, mb_r, mb_ri, mb_rii, mb_riii, mb_rr, mb_rri, mb_rrii, mb_rriii, mb_riiiii, mb_rrr, mb_rir, mb_iiii, mb_riiii, tn_0, tn_1, tn_2, tn_3, tn_4, tn_5, tn_6, tc_0, tc_1, tc_2, tc_3, tc_4, tc_5, tc_6, xf_0, xf_1, xf_2, Sum.inl.injEq, Sum.inr.injEq, C_M_firstToRing, nI_1])
      rw [show j = 4 by omega, fp_4]
    | succ f ih =>
      intro j hj
      have h1 : nI j < 4 := by
        rw [ti_lt, ti_nI (by omega)]
        show (j : Int) < 4
        omega
      have ej : (nI j).toNatClampNeg = j := tn_nI (by omega)
      have hx : vp_in (nI j) 4 := vi_l (by omega) (by omega)
      have h32 : V 32 [some (.inr 54), some (.inl (fp (M 55) (j + 1)).1), some (.inl (fp (M 55) (j + 1)).2), some (.inl (nI j))] [] M := by
        (refine b_32 _ _ _ ?_; simp only [k_X1_firstToRing_0, k_X1_firstToRing_8, k_X1_firstToRing_32, k_X1_firstToRing_38, xp_1, xp_2, xp_3, xp_4, xp_5, xp_6, xp_7, xp_10, xp_11, xp_12, xp_13, xp_14, xp_15, xp_16, xp_17, xp_18, xp_19, xp_20, xp_21, xp_22, xp_23, xp_30, xp_31, xp_32, xp_33, xp_34, xp_35, xp_36, xp_37, xp_38, xp_39, xp_40, xp_41, xp_42, xp_43, xp_50, xp_51, xp_52, xp_53, xp_60, xp_61, xp_62, xp_63, xp_64, xp_65, xp_70, xp_80, xp_81, xp_82, up_ne, up_s, ud_s, ud_o, xw_0, xw_1, xg_0, xg_1, xl_i, xl_r, xs_0, xs_1, xq_i, xq_r, xq_v, xc_0, xc_1, xt_0, xt_1, xr_0, xr_1, xr_2, xe_0, xe_1, ob_0, ob_18, ob_36, ob_54, ak_55, ln_55, cq_55, ak_56, ln_56, cq_56, ob_57, ak_58, ln_58, cq_58, ak_59, ln_59, cq_59, ob_60, ak_61, ln_61, cq_61, ak_62, ln_62, cq_62, ob_63, ak_64, ln_64, cq_64, ak_65, ln_65, cq_65, ak_66, ln_66, cq_66, ak_67, ln_67, cq_67, ak_68, ln_68, cq_68, ak_69, ln_69, cq_69, ak_70, ln_70, cq_70, ak_71, ln_71, cq_71, ak_72, ln_72, cq_72, ak_73, ln_73, cq_73, pt_54_0, pt_54_1, pt_57_0, pt_57_3, pt_60_0, pt_60_1, pt_60_2, pt_60_4, pt_60_5, pt_60_6, pt_60_8, pt_63_0, pt_63_1, pt_63_2, pt_63_3, pt_63_4, pt_63_6, pt_63_7, pt_63_10, pt_63_11, pt_63_17, true_and, and_true, List.length_cons, List.length_nil, Nat.reduceAdd, Nat.reduceLeDiff, forall_eq, ne_eq, Nat.reduceEqDiff, not_false_eq_true, or_false, false_or, or_true, true_or, reduceCtorEq, Nat.zero_le, Nat.reduceMul, Nat.add_zero, false_and, and_false, false_implies, true_implies, forall_const, implies_true, List.append_nil, List.nil_append, List.cons_append, mb_i, mb_ii, mb_iii, mb_r, mb_ri, mb_rii, mb_riii, mb_rr, mb_rri, mb_rrii, mb_rriii, mb_riiiii, mb_rrr, mb_rir, mb_iiii, mb_riiii, tn_0, tn_1, tn_2, tn_3, tn_4, tn_5, tn_6, tc_0, tc_1, tc_2, tc_3, tc_4, tc_5, tc_6, xf_0, xf_1, xf_2, Sum.inl.injEq, Sum.inr.injEq, C_M_firstToRing, nI_1])
        exact ih (j + 1) (by omega)
      rw [fp] at h32
      (refine b_8 _ _ _ ?_; simp only [k_X1_firstToRing_0, k_X1_firstToRing_8, k_X1_firstToRing_32, k_X1_firstToRing_38, xp_1, xp_2, xp_3, xp_4, xp_5, xp_6, xp_7, xp_10, xp_11, xp_12, xp_13, xp_14, xp_15, xp_16, xp_17, xp_18, xp_19, xp_20, xp_21, xp_22, xp_23, xp_30, xp_31, xp_32, xp_33, xp_34, xp_35, xp_36, xp_37, xp_38, xp_39, xp_40, xp_41, xp_42, xp_43, xp_50, xp_51, xp_52, xp_53, xp_60, xp_61, xp_62, xp_63, xp_64, xp_65, xp_70, xp_80, xp_81, xp_82, up_ne, up_s, ud_s, ud_o, xw_0, xw_1, xg_0, xg_1, xl_i, xl_r, xs_0, xs_1, xq_i, xq_r, xq_v, xc_0, xc_1, xt_0, xt_1, xr_0, xr_1, xr_2, xe_0, xe_1, ob_0, ob_18, ob_36, ob_54, ak_55, ln_55, cq_55, ak_56, ln_56, cq_56, ob_57, ak_58, ln_58, cq_58, ak_59, ln_59, cq_59, ob_60, ak_61, ln_61, cq_61, ak_62, ln_62, cq_62, ob_63, ak_64, ln_64, cq_64, ak_65, ln_65, cq_65, ak_66, ln_66, cq_66, ak_67, ln_67, cq_67, ak_68, ln_68, cq_68, ak_69, ln_69, cq_69, ak_70, ln_70, cq_70, ak_71, ln_71, cq_71, ak_72, ln_72, cq_72, ak_73, ln_73, cq_73, pt_54_0, pt_54_1, pt_57_0, pt_57_3, pt_60_0, pt_60_1, pt_60_2, pt_60_4, pt_60_5, pt_60_6, pt_60_8, pt_63_0, pt_63_1, pt_63_2, pt_63_3, pt_63_4, pt_63_6, pt_63_7, pt_63_10, pt_63_11, pt_63_17, true_and, and_true, List.length_cons, List.length_nil, Nat.reduceAdd, Nat.reduceLeDiff, forall_eq, ne_eq, Nat.reduceEqDiff, not_false_eq_true, or_false, false_or, or_true, true_or, reduceCtorEq, Nat.zero_le, Nat.reduceMul, Nat.add_zero, false_and, and_false, false_implies, true_implies, forall_const, implies_true, List.append_nil, List.nil_append, List.cons_append, mb_i, mb_ii, mb_iii, mb_r, mb_ri, mb_rii, mb_riii, mb_rr, mb_rri, mb_rrii, mb_rriii, mb_riiiii, mb_rrr, mb_rir, mb_iiii, mb_riiii, tn_0, tn_1, tn_2, tn_3, tn_4, tn_5, tn_6, tc_0, tc_1, tc_2, tc_3, tc_4, tc_5, tc_6, xf_0, xf_1, xf_2, Sum.inl.injEq, Sum.inr.injEq, C_M_firstToRing, nI_1])
      rw [ej]
      refine ⟨fun z => absurd h1 z, fun _ => ⟨hx, fun h => ?_, fun h => ?_⟩⟩
      · rw [if_neg h] at h32
        exact h32
      · rw [if_pos h] at h32
        exact ⟨hx, h32⟩
  (refine b_0 _ _ _ ?_; simp only [k_X1_firstToRing_0, k_X1_firstToRing_8, k_X1_firstToRing_32, k_X1_firstToRing_38, xp_1, xp_2, xp_3, xp_4, xp_5, xp_6, xp_7, xp_10, xp_11, xp_12, xp_13, xp_14, xp_15, xp_16, xp_17, xp_18, xp_19, xp_20, xp_21, xp_22, xp_23, xp_30, xp_31, xp_32, xp_33, xp_34, xp_35, xp_36, xp_37, xp_38, xp_39, xp_40, xp_41, xp_42, xp_43, xp_50, xp_51, xp_52, xp_53, xp_60, xp_61, xp_62, xp_63, xp_64, xp_65, xp_70, xp_80, xp_81, xp_82, up_ne, up_s, ud_s, ud_o, xw_0, xw_1, xg_0, xg_1, xl_i, xl_r, xs_0, xs_1, xq_i, xq_r, xq_v, xc_0, xc_1, xt_0, xt_1, xr_0, xr_1, xr_2, xe_0, xe_1, ob_0, ob_18, ob_36, ob_54, ak_55, ln_55, cq_55, ak_56, ln_56, cq_56, ob_57, ak_58, ln_58, cq_58, ak_59, ln_59, cq_59, ob_60, ak_61, ln_61, cq_61, ak_62, ln_62, cq_62, ob_63, ak_64, ln_64, cq_64, ak_65, ln_65, cq_65, ak_66, ln_66, cq_66, ak_67, ln_67, cq_67, ak_68, ln_68, cq_68, ak_69, ln_69, cq_69, ak_70, ln_70, cq_70, ak_71, ln_71, cq_71, ak_72, ln_72, cq_72, ak_73, ln_73, cq_73, pt_54_0, pt_54_1, pt_57_0, pt_57_3, pt_60_0, pt_60_1, pt_60_2, pt_60_4, pt_60_5, pt_60_6, pt_60_8, pt_63_0, pt_63_1, pt_63_2, pt_63_3, pt_63_4, pt_63_6, pt_63_7, pt_63_10, pt_63_11, pt_63_17, true_and, and_true, List.length_cons, List.length_nil, Nat.reduceAdd, Nat.reduceLeDiff, forall_eq, ne_eq, Nat.reduceEqDiff, not_false_eq_true, or_false, false_or, or_true, true_or, reduceCtorEq, Nat.zero_le, Nat.reduceMul, Nat.add_zero, false_and, and_false, false_implies, true_implies, forall_const, implies_true, List.append_nil, List.nil_append, List.cons_append, mb_i, mb_ii, mb_iii, mb_r, mb_ri, mb_rii, mb_riii, mb_rr, mb_rri, mb_rrii, mb_rriii, mb_riiiii, mb_rrr, mb_rir, mb_iiii, mb_riiii, tn_0, tn_1, tn_2, tn_3, tn_4, tn_5, tn_6, tc_0, tc_1, tc_2, tc_3, tc_4, tc_5, tc_6, xf_0, xf_1, xf_2, Sum.inl.injEq, Sum.inr.injEq, C_M_firstToRing, nI_1])
  exact loop 4 0 (by omega)

def C_M_ring : mj_C := (5, 1, fun avs M => ma_rriii avs fun a c m d k => (a = 54 ∧ mj_ob c = 0 ∧ (c < 54)), fun avs M r M' => ma_rriii avs fun a c m d k => (r = .inl (if s_wk (M c 0) (M c 4) m d = 0 then 0 else if s_mp (M c 0) k = 0 then 0 else if 0 < M 54 2 - m + d then 1 else 0) ∧ M' = (if s_wk (M c 0) (M c 4) m d = 0 then mj_up M 54 5 (M 54 5 + 1) else if s_mp (M c 0) k = 0 then mj_up M 54 3 m else if 0 < M 54 2 - m + d then mj_up M 54 4 (M 54 4 + 1) else mj_up M 54 3 m)))
theorem rc_M_ring : ∀ avs M, C_M_ring.2.2.1 avs M → ∃ a r, avs = .inr a :: r ∧ mj_ob a = 1 := by
  intro avs M h
  obtain ⟨a, c, m, d, k, rfl, h⟩ := mc_rriii h
  exact ⟨_, _, rfl, by rw [h.1]; rfl⟩
set_option maxRecDepth 20000 in
set_option maxHeartbeats 2000000 in
theorem t_M_ring : mj_T yX1_ring cX1_ring 5 (some .boolean) 1 C_M_ring := by
  refine mj_T_of (own := 1) (rk := 3) [(165, C_M_wakes0), (288, C_M_mayPress0)] (by decide) rfl (by decide) ⟨rfl, rfl, rfl⟩ (List.forall_mem_cons.mpr ⟨mj_KV (own := 1) (nest := true) t_M_wakes0 ⟨wc_X0_wakes, wi_X0, by decide, wl_1_55⟩ wn_X0_wakes ws_X0_wakes (c0 := 0) (by decide) rfl (by decide +kernel) rc_M_wakes0 (by decide), (List.forall_mem_cons.mpr ⟨mj_KV (own := 1) (nest := true) t_M_mayPress0 ⟨wc_X0_mayPress, wi_X0, by decide, wl_1_96⟩ wn_X0_mayPress ws_X0_mayPress (c0 := 0) (by decide) rfl (by decide +kernel) rc_M_mayPress0 (by decide), (fun _ h => absurd h List.not_mem_nil)⟩)⟩) ?_
  intro avs M hlen hpre V hV
  obtain ⟨a, c, m, d, k, rfl, hp⟩ := mc_rriii hpre
  show V 0 [some (.inr a), some (.inr c), some (.inl m), some (.inl d), some (.inl k)] [] M
  have b_0 := hV h_X1_ring_0; have b_21 := hV h_X1_ring_21; have b_53 := hV h_X1_ring_53
  clear hlen hpre hV
  obtain ⟨rfl, ho, hc⟩ := hp
  repeat' (first | (with_reducible refine And.intro ?_ ?_) | (with_reducible intro _) | ((first | refine b_0 _ _ _ ?_ | refine b_21 _ _ _ ?_ | refine b_53 _ _ _ ?_); simp only [k_X1_ring_0, k_X1_ring_21, k_X1_ring_53, xp_1, xp_2, xp_3, xp_4, xp_5, xp_6, xp_7, xp_10, xp_11, xp_12, xp_13, xp_14, xp_15, xp_16, xp_17, xp_18, xp_19, xp_20, xp_21, xp_22, xp_23, xp_30, xp_31, xp_32, xp_33, xp_34, xp_35, xp_36, xp_37, xp_38, xp_39, xp_40, xp_41, xp_42, xp_43, xp_50, xp_51, xp_52, xp_53, xp_60, xp_61, xp_62, xp_63, xp_64, xp_65, xp_70, xp_80, xp_81, xp_82, up_ne, up_s, ud_s, ud_o, xw_0, xw_1, xg_0, xg_1, xl_i, xl_r, xs_0, xs_1, xq_i, xq_r, xq_v, xc_0, xc_1, xt_0, xt_1, xr_0, xr_1, xr_2, xe_0, xe_1, ob_0, ob_18, ob_36, ob_54, ak_55, ln_55, cq_55, ak_56, ln_56, cq_56, ob_57, ak_58, ln_58, cq_58, ak_59, ln_59, cq_59, ob_60, ak_61, ln_61, cq_61, ak_62, ln_62, cq_62, ob_63, ak_64, ln_64, cq_64, ak_65, ln_65, cq_65, ak_66, ln_66, cq_66, ak_67, ln_67, cq_67, ak_68, ln_68, cq_68, ak_69, ln_69, cq_69, ak_70, ln_70, cq_70, ak_71, ln_71, cq_71, ak_72, ln_72, cq_72, ak_73, ln_73, cq_73, pt_54_0, pt_54_1, pt_57_0, pt_57_3, pt_60_0, pt_60_1, pt_60_2, pt_60_4, pt_60_5, pt_60_6, pt_60_8, pt_63_0, pt_63_1, pt_63_2, pt_63_3, pt_63_4, pt_63_6, pt_63_7, pt_63_10, pt_63_11, pt_63_17, true_and, and_true, List.length_cons, List.length_nil, Nat.reduceAdd, Nat.reduceLeDiff, forall_eq, ne_eq, Nat.reduceEqDiff, not_false_eq_true, or_false, false_or, or_true, true_or, reduceCtorEq, Nat.zero_le, Nat.reduceMul, Nat.add_zero, false_and, and_false, false_implies, true_implies, forall_const, implies_true, List.append_nil, List.nil_append, List.cons_append, mb_i, mb_ii, mb_iii, mb_r, mb_ri, mb_rii, mb_riii, mb_rr, mb_rri, mb_rrii, mb_rriii, mb_riiiii, mb_rrr, mb_rir, mb_iiii, mb_riiii, tn_0, tn_1, tn_2, tn_3, tn_4, tn_5, tn_6, tc_0, tc_1, tc_2, tc_3, tc_4, tc_5, tc_6, xf_0, xf_1, xf_2, Sum.inl.injEq, Sum.inr.injEq, C_M_mayPress0, C_M_ring, C_M_wakes0]))
  all_goals clear b_0 b_21 b_53
  all_goals first | exact ho | (simp [*]; done)

/-- what is then, when one falls asleep -/
def aS (b : Nat) (i : Int32) (M M1 : mj_M) (j : Nat) : Prop := (∀ c, c < j → M1 55 c = s_g0 (rv M b) i (-9) c ∧ M1 56 c = 0) ∧ ∀ k, k ≠ 55 → k ≠ 56 → M1 k = M k
def C_M_fallAsleep : mj_C := (3, rk0, fun avs M => ma_rri avs fun a b i => (a = 54 ∧ rB b ∧ dR (rv M b) ∧ bd i 0 3 ∧ i.toInt < (M b 3).toInt), fun avs M r M' => ma_rri avs fun a b i => ((∀ c, c < 4 → M' 55 c = s_g0 (rv M b) i (-9) c ∧ M' 56 c = 0) ∧ M' 54 2 = rv M b 3 - s_sb (rv M b) 0 63 (tn (M b 5)) + rv M b (7 + 4 * tn i + 3) - rv M b 4 ∧ M' 54 3 = 300 ∧ M' 54 4 = 0 ∧ M' 54 5 = 0 ∧ M' 54 6 = 0 ∧ ∀ k, k ≠ 54 → k ≠ 55 → k ≠ 56 → M' k = M k))
theorem rc_M_fallAsleep : ∀ avs M, C_M_fallAsleep.2.2.1 avs M → ∃ a r, avs = .inr a :: r ∧ mj_ob a = 1 := by
  intro avs M h
  obtain ⟨a, b, i, rfl, h⟩ := mc_rri h
  exact ⟨_, _, rfl, by rw [h.1]; rfl⟩
set_option maxRecDepth 20000 in
set_option maxHeartbeats 2000000 in
theorem t_M_fallAsleep : mj_T yX1_fallAsleep cX1_fallAsleep 5 none 2 C_M_fallAsleep := by
  refine mj_T_of (own := 1) (rk := 0) [(243, C_M_sumOf)] (by decide) rfl (by decide) ⟨rfl, rfl⟩ (List.forall_mem_cons.mpr ⟨mj_KV (own := 1) (nest := true) t_M_sumOf ⟨wc_X2_sumOf, wi_X2, by decide, wl_1_81⟩ wn_X2_sumOf ws_X2_sumOf (c0 := 2) (by decide) rfl (by decide +kernel) rc_M_sumOf (by decide), (fun _ h => absurd h List.not_mem_nil)⟩) ?_
  intro avs M hlen hpre V hV
  obtain ⟨a, b, i, rfl, hp⟩ := mc_rri hpre
  show V 0 [some (.inr a), some (.inr b), some (.inl i), none, none] [] M
  have b_0 := hV h_X1_fallAsleep_0; have b_2 := hV h_X1_fallAsleep_2; have b_32 := hV h_X1_fallAsleep_32; have b_33 := hV h_X1_fallAsleep_33; have b_57 := hV h_X1_fallAsleep_57; have b_60 := hV h_X1_fallAsleep_60; have b_74 := hV h_X1_fallAsleep_74
  clear hlen hpre hV
  obtain ⟨rfl, hb, hd, hi, hin⟩ := hp
  obtain ⟨p0, p1, p2, q1, q2, q3⟩ := rB_p hb
  obtain ⟨k1, k2, k3, l1, l2, l3⟩ := rB_k hb
  obtain ⟨o0, o1, o2, o3⟩ := rB_o hb
  have hbl : b ≤ 36 := by rcases hb with rfl | rfl | rfl <;> omega
  have hi1 := hi.1
  have hi2 := hi.2
  have ti := tn_of hi1
  have h4 := hd.2.1
  have tc : (tn (M b 4) : Int) = (M b 4).toInt := tn_of h4.1
  have ts : (tn (M b 3) : Int) = (M b 3).toInt := tn_of hd.1.1
  have h74 : ∀ (M1 : mj_M) (X3 X4 : Option mj_V), aS b i M M1 4 → V 74 [some (.inr 54), some (.inr b), some (.inl i), X3, X4] [] M1 := by
    intro M1 X3 X4 h
    have eM : ∀ k, k ≠ 55 → k ≠ 56 → M1 k = M k := h.2
    have eb : M1 b = M b := eM b (by omega) (by omega)
    have er : rv M1 b = rv M b := rv_e fun k hk => eM k (by omega) (by omega)
    have es : rv M b (7 + 4 * tn i + 3) = M (b + 4 + tn i) 3 := rv_s (by omega) (by omega) (by omega)
    have es2 : M1 (b + 4 + tn i) = M (b + 4 + tn i) := eM _ (by omega) (by omega)
    (refine b_74 _ _ _ ?_; simp only [k_X1_fallAsleep_0, k_X1_fallAsleep_2, k_X1_fallAsleep_32, k_X1_fallAsleep_33, k_X1_fallAsleep_57, k_X1_fallAsleep_60, k_X1_fallAsleep_74, xp_1, xp_2, xp_3, xp_4, xp_5, xp_6, xp_7, xp_10, xp_11, xp_12, xp_13, xp_14, xp_15, xp_16, xp_17, xp_18, xp_19, xp_20, xp_21, xp_22, xp_23, xp_30, xp_31, xp_32, xp_33, xp_34, xp_35, xp_36, xp_37, xp_38, xp_39, xp_40, xp_41, xp_42, xp_43, xp_50, xp_51, xp_52, xp_53, xp_60, xp_61, xp_62, xp_63, xp_64, xp_65, xp_70, xp_80, xp_81, xp_82, up_ne, up_s, ud_s, ud_o, xw_0, xw_1, xg_0, xg_1, xl_i, xl_r, xs_0, xs_1, xq_i, xq_r, xq_v, xc_0, xc_1, xt_0, xt_1, xr_0, xr_1, xr_2, xe_0, xe_1, ob_0, ob_18, ob_36, ob_54, ak_55, ln_55, cq_55, ak_56, ln_56, cq_56, ob_57, ak_58, ln_58, cq_58, ak_59, ln_59, cq_59, ob_60, ak_61, ln_61, cq_61, ak_62, ln_62, cq_62, ob_63, ak_64, ln_64, cq_64, ak_65, ln_65, cq_65, ak_66, ln_66, cq_66, ak_67, ln_67, cq_67, ak_68, ln_68, cq_68, ak_69, ln_69, cq_69, ak_70, ln_70, cq_70, ak_71, ln_71, cq_71, ak_72, ln_72, cq_72, ak_73, ln_73, cq_73, pt_54_0, pt_54_1, pt_57_0, pt_57_3, pt_60_0, pt_60_1, pt_60_2, pt_60_4, pt_60_5, pt_60_6, pt_60_8, pt_63_0, pt_63_1, pt_63_2, pt_63_3, pt_63_4, pt_63_6, pt_63_7, pt_63_10, pt_63_11, pt_63_17, true_and, and_true, List.length_cons, List.length_nil, Nat.reduceAdd, Nat.reduceLeDiff, forall_eq, ne_eq, Nat.reduceEqDiff, not_false_eq_true, or_false, false_or, or_true, true_or, reduceCtorEq, Nat.zero_le, Nat.reduceMul, Nat.add_zero, false_and, and_false, false_implies, true_implies, forall_const, implies_true, List.append_nil, List.nil_append, List.cons_append, mb_i, mb_ii, mb_iii, mb_r, mb_ri, mb_rii, mb_riii, mb_rr, mb_rri, mb_rrii, mb_rriii, mb_riiiii, mb_rrr, mb_rir, mb_iiii, mb_riiii, tn_0, tn_1, tn_2, tn_3, tn_4, tn_5, tn_6, tc_0, tc_1, tc_2, tc_3, tc_4, tc_5, tc_6, xf_0, xf_1, xf_2, Sum.inl.injEq, Sum.inr.injEq, C_M_fallAsleep, C_M_sumOf, p0, p1, p2, k1, k2, l1, l2, q1, q2, o0, nI_1])
    rw [er, eb, es2, es]
    refine ⟨⟨hb, hd.2.2.1, ⟨by decide, by decide⟩⟩, vi_x hi1 (by omega), o1 (tn i) (by omega), h.1, rfl, fun k a1 a2 a3 => ?_⟩
    rw [up_ne a1, up_ne a1, up_ne a1, up_ne a1, up_ne a1]
    exact eM k a2 a3
  have loop : ∀ (f j : Nat) (M1 : mj_M) (X4 : Option mj_V), j + f = 4 → aS b i M M1 j → V 2 [some (.inr 54), some (.inr b), some (.inl i), some (.inl (nI j)), X4] [] M1 := by
    intro f
    induction f with
    | zero =>
      intro j M1 X4 hj h
      have h1 : ¬ nI j < 4 := by
        rw [show j = 4 by omega]
        decide
      (refine b_2 _ _ _ ?_; simp only [k_X1_fallAsleep_0, k_X1_fallAsleep_2, k_X1_fallAsleep_32, k_X1_fallAsleep_33, k_X1_fallAsleep_57, k_X1_fallAsleep_60, k_X1_fallAsleep_74, xp_1, xp_2, xp_3, xp_4, xp_5, xp_6, xp_7, xp_10, xp_11, xp_12, xp_13, xp_14, xp_15, xp_16, xp_17, xp_18, xp_19, xp_20, xp_21, xp_22, xp_23, xp_30, xp_31, xp_32, xp_33, xp_34, xp_35, xp_36, xp_37, xp_38, xp_39, xp_40, xp_41, xp_42, xp_43, xp_50, xp_51, xp_52, xp_53, xp_60, xp_61, xp_62, xp_63, xp_64, xp_65, xp_70, xp_80, xp_81, xp_82, up_ne, up_s, ud_s, ud_o, xw_0, xw_1, xg_0, xg_1, xl_i, xl_r, xs_0, xs_1, xq_i, xq_r, xq_v, xc_0, xc_1, xt_0, xt_1, xr_0, xr_1, xr_2, xe_0, xe_1, ob_0, ob_18, ob_36, ob_54, ak_55, ln_55, cq_55, ak_56, ln_56, cq_56, ob_57, ak_58, ln_58, cq_58, ak_59, ln_59, cq_59, ob_60, ak_61, ln_61, cq_61, ak_62, ln_62, cq_62, ob_63, ak_64, ln_64, cq_64, ak_65, ln_65, cq_65, ak_66, ln_66, cq_66, ak_67, ln_67, cq_67, ak_68, ln_68, cq_68, ak_69, ln_69, cq_69, ak_70, ln_70, cq_70, ak_71, ln_71, cq_71, ak_72, ln_72, cq_72, ak_73, ln_73, cq_73, pt_54_0, pt_54_1, pt_57_0, pt_57_3, pt_60_0, pt_60_1, pt_60_2, pt_60_4, pt_60_5, pt_60_6, pt_60_8, pt_63_0, pt_63_1, pt_63_2, pt_63_3, pt_63_4, pt_63_6, pt_63_7, pt_63_10, pt_63_11, pt_63_17, true_and, and_true, List.length_cons, List.length_nil, Nat.reduceAdd, Nat.reduceLeDiff, forall_eq, ne_eq, Nat.reduceEqDiff, not_false_eq_true, or_false, false_or, or_true, true_or, reduceCtorEq, Nat.zero_le, Nat.reduceMul, Nat.add_zero, false_and, and_false, false_implies, true_implies, forall_const, implies_true, List.append_nil, List.nil_append, List.cons_append, mb_i, mb_ii, mb_iii, mb_r, mb_ri, mb_rii, mb_riii, mb_rr, mb_rri, mb_rrii, mb_rriii, mb_riiiii, mb_rrr, mb_rir, mb_iiii, mb_riiii, tn_0, tn_1, tn_2, tn_3, tn_4, tn_5, tn_6, tc_0, tc_1, tc_2, tc_3, tc_4, tc_5, tc_6, xf_0, xf_1, xf_2, Sum.inl.injEq, Sum.inr.injEq, C_M_fallAsleep, C_M_sumOf, p0, p1, p2, k1, k2, l1, l2, q1, q2, o0, nI_1])
      refine ⟨fun _ => h74 M1 _ _ (by rw [show j = 4 by omega] at h; exact h), fun z => absurd z h1⟩
    | succ f ih =>
      intro j M1 X4 hj h
      have h1 : nI j < 4 := by
        rw [ti_lt, ti_nI (by omega)]
        show (j : Int) < 4
        omega
      have ej : (nI j).toNatClampNeg = j := tn_nI (by omega)
      have hx : vp_in (nI j) 4 := vi_l (by omega) (by omega)
      have eb : M1 b = M b := h.2 b (by omega) (by omega)
      have e8 : M1 (b + 8 + j) = M (b + 8 + j) := h.2 _ (by omega) (by omega)
      have h60 : ∀ (v x : Int32), v = s_g0 (rv M b) i (-9) j → V 60 [some (.inr 54), some (.inr b), some (.inl i), some (.inl (nI j)), some (.inl x)] [.inl v, .inl (nI j), .inr 55] M1 := by
        intro v x hv
        (refine b_60 _ _ _ ?_; simp only [k_X1_fallAsleep_0, k_X1_fallAsleep_2, k_X1_fallAsleep_32, k_X1_fallAsleep_33, k_X1_fallAsleep_57, k_X1_fallAsleep_60, k_X1_fallAsleep_74, xp_1, xp_2, xp_3, xp_4, xp_5, xp_6, xp_7, xp_10, xp_11, xp_12, xp_13, xp_14, xp_15, xp_16, xp_17, xp_18, xp_19, xp_20, xp_21, xp_22, xp_23, xp_30, xp_31, xp_32, xp_33, xp_34, xp_35, xp_36, xp_37, xp_38, xp_39, xp_40, xp_41, xp_42, xp_43, xp_50, xp_51, xp_52, xp_53, xp_60, xp_61, xp_62, xp_63, xp_64, xp_65, xp_70, xp_80, xp_81, xp_82, up_ne, up_s, ud_s, ud_o, xw_0, xw_1, xg_0, xg_1, xl_i, xl_r, xs_0, xs_1, xq_i, xq_r, xq_v, xc_0, xc_1, xt_0, xt_1, xr_0, xr_1, xr_2, xe_0, xe_1, ob_0, ob_18, ob_36, ob_54, ak_55, ln_55, cq_55, ak_56, ln_56, cq_56, ob_57, ak_58, ln_58, cq_58, ak_59, ln_59, cq_59, ob_60, ak_61, ln_61, cq_61, ak_62, ln_62, cq_62, ob_63, ak_64, ln_64, cq_64, ak_65, ln_65, cq_65, ak_66, ln_66, cq_66, ak_67, ln_67, cq_67, ak_68, ln_68, cq_68, ak_69, ln_69, cq_69, ak_70, ln_70, cq_70, ak_71, ln_71, cq_71, ak_72, ln_72, cq_72, ak_73, ln_73, cq_73, pt_54_0, pt_54_1, pt_57_0, pt_57_3, pt_60_0, pt_60_1, pt_60_2, pt_60_4, pt_60_5, pt_60_6, pt_60_8, pt_63_0, pt_63_1, pt_63_2, pt_63_3, pt_63_4, pt_63_6, pt_63_7, pt_63_10, pt_63_11, pt_63_17, true_and, and_true, List.length_cons, List.length_nil, Nat.reduceAdd, Nat.reduceLeDiff, forall_eq, ne_eq, Nat.reduceEqDiff, not_false_eq_true, or_false, false_or, or_true, true_or, reduceCtorEq, Nat.zero_le, Nat.reduceMul, Nat.add_zero, false_and, and_false, false_implies, true_implies, forall_const, implies_true, List.append_nil, List.nil_append, List.cons_append, mb_i, mb_ii, mb_iii, mb_r, mb_ri, mb_rii, mb_riii, mb_rr, mb_rri, mb_rrii, mb_rriii, mb_riiiii, mb_rrr, mb_rir, mb_iiii, mb_riiii, tn_0, tn_1, tn_2, tn_3, tn_4, tn_5, tn_6, tc_0, tc_1, tc_2, tc_3, tc_4, tc_5, tc_6, xf_0, xf_1, xf_2, Sum.inl.injEq, Sum.inr.injEq, C_M_fallAsleep, C_M_sumOf, p0, p1, p2, k1, k2, l1, l2, q1, q2, o0, nI_1])
        rw [ej]
        refine ⟨hx, hx, ih (j + 1) _ _ (by omega) ⟨fun c hc => ?_, fun k a1 a2 => ?_⟩⟩
        · by_cases e : c = j
          · subst e
            rw [up_ne (by decide), up_s, ud_s, up_s, ud_s]
            exact ⟨hv, rfl⟩
          · rw [up_ne (by decide), up_s, ud_o e, up_s, ud_o e, up_ne (by decide)]
            exact h.1 c (by omega)
        · rw [up_ne a2, up_ne a1]
          exact h.2 k a1 a2
      have n9 : ¬ nI j = -9 := fun z => by
        have z2 := ti_eq.mp z
        rw [ti_nI (by omega), show (-9 : Int32).toInt = -9 from rfl] at z2
        omega
      have h33 : ∀ x, (x = 0 ∧ s_g0 (rv M b) i (-9) j = 300) ∨ (¬ x = 0 ∧ s_g0 (rv M b) i (-9) j = M (b + 8 + j) 2) → V 33 [some (.inr 54), some (.inr b), some (.inl i), some (.inl (nI j)), X4] [.inl x] M1 := by
        intro x hz
        (refine b_33 _ _ _ ?_; simp only [k_X1_fallAsleep_0, k_X1_fallAsleep_2, k_X1_fallAsleep_32, k_X1_fallAsleep_33, k_X1_fallAsleep_57, k_X1_fallAsleep_60, k_X1_fallAsleep_74, xp_1, xp_2, xp_3, xp_4, xp_5, xp_6, xp_7, xp_10, xp_11, xp_12, xp_13, xp_14, xp_15, xp_16, xp_17, xp_18, xp_19, xp_20, xp_21, xp_22, xp_23, xp_30, xp_31, xp_32, xp_33, xp_34, xp_35, xp_36, xp_37, xp_38, xp_39, xp_40, xp_41, xp_42, xp_43, xp_50, xp_51, xp_52, xp_53, xp_60, xp_61, xp_62, xp_63, xp_64, xp_65, xp_70, xp_80, xp_81, xp_82, up_ne, up_s, ud_s, ud_o, xw_0, xw_1, xg_0, xg_1, xl_i, xl_r, xs_0, xs_1, xq_i, xq_r, xq_v, xc_0, xc_1, xt_0, xt_1, xr_0, xr_1, xr_2, xe_0, xe_1, ob_0, ob_18, ob_36, ob_54, ak_55, ln_55, cq_55, ak_56, ln_56, cq_56, ob_57, ak_58, ln_58, cq_58, ak_59, ln_59, cq_59, ob_60, ak_61, ln_61, cq_61, ak_62, ln_62, cq_62, ob_63, ak_64, ln_64, cq_64, ak_65, ln_65, cq_65, ak_66, ln_66, cq_66, ak_67, ln_67, cq_67, ak_68, ln_68, cq_68, ak_69, ln_69, cq_69, ak_70, ln_70, cq_70, ak_71, ln_71, cq_71, ak_72, ln_72, cq_72, ak_73, ln_73, cq_73, pt_54_0, pt_54_1, pt_57_0, pt_57_3, pt_60_0, pt_60_1, pt_60_2, pt_60_4, pt_60_5, pt_60_6, pt_60_8, pt_63_0, pt_63_1, pt_63_2, pt_63_3, pt_63_4, pt_63_6, pt_63_7, pt_63_10, pt_63_11, pt_63_17, true_and, and_true, List.length_cons, List.length_nil, Nat.reduceAdd, Nat.reduceLeDiff, forall_eq, ne_eq, Nat.reduceEqDiff, not_false_eq_true, or_false, false_or, or_true, true_or, reduceCtorEq, Nat.zero_le, Nat.reduceMul, Nat.add_zero, false_and, and_false, false_implies, true_implies, forall_const, implies_true, List.append_nil, List.nil_append, List.cons_append, mb_i, mb_ii, mb_iii, mb_r, mb_ri, mb_rii, mb_riii, mb_rr, mb_rri, mb_rrii, mb_rriii, mb_riiiii, mb_rrr, mb_rir, mb_iiii, mb_riiii, tn_0, tn_1, tn_2, tn_3, tn_4, tn_5, tn_6, tc_0, tc_1, tc_2, tc_3, tc_4, tc_5, tc_6, xf_0, xf_1, xf_2, Sum.inl.injEq, Sum.inr.injEq, C_M_fallAsleep, C_M_sumOf, p0, p1, p2, k1, k2, l1, l2, q1, q2, o0, nI_1])
        rw [ej, e8]
        refine ⟨fun z => ?_, fun z => ⟨hx, o2 j (by omega), ?_⟩⟩
        · (refine b_57 _ _ _ ?_; simp only [k_X1_fallAsleep_0, k_X1_fallAsleep_2, k_X1_fallAsleep_32, k_X1_fallAsleep_33, k_X1_fallAsleep_57, k_X1_fallAsleep_60, k_X1_fallAsleep_74, xp_1, xp_2, xp_3, xp_4, xp_5, xp_6, xp_7, xp_10, xp_11, xp_12, xp_13, xp_14, xp_15, xp_16, xp_17, xp_18, xp_19, xp_20, xp_21, xp_22, xp_23, xp_30, xp_31, xp_32, xp_33, xp_34, xp_35, xp_36, xp_37, xp_38, xp_39, xp_40, xp_41, xp_42, xp_43, xp_50, xp_51, xp_52, xp_53, xp_60, xp_61, xp_62, xp_63, xp_64, xp_65, xp_70, xp_80, xp_81, xp_82, up_ne, up_s, ud_s, ud_o, xw_0, xw_1, xg_0, xg_1, xl_i, xl_r, xs_0, xs_1, xq_i, xq_r, xq_v, xc_0, xc_1, xt_0, xt_1, xr_0, xr_1, xr_2, xe_0, xe_1, ob_0, ob_18, ob_36, ob_54, ak_55, ln_55, cq_55, ak_56, ln_56, cq_56, ob_57, ak_58, ln_58, cq_58, ak_59, ln_59, cq_59, ob_60, ak_61, ln_61, cq_61, ak_62, ln_62, cq_62, ob_63, ak_64, ln_64, cq_64, ak_65, ln_65, cq_65, ak_66, ln_66, cq_66, ak_67, ln_67, cq_67, ak_68, ln_68, cq_68, ak_69, ln_69, cq_69, ak_70, ln_70, cq_70, ak_71, ln_71, cq_71, ak_72, ln_72, cq_72, ak_73, ln_73, cq_73, pt_54_0, pt_54_1, pt_57_0, pt_57_3, pt_60_0, pt_60_1, pt_60_2, pt_60_4, pt_60_5, pt_60_6, pt_60_8, pt_63_0, pt_63_1, pt_63_2, pt_63_3, pt_63_4, pt_63_6, pt_63_7, pt_63_10, pt_63_11, pt_63_17, true_and, and_true, List.length_cons, List.length_nil, Nat.reduceAdd, Nat.reduceLeDiff, forall_eq, ne_eq, Nat.reduceEqDiff, not_false_eq_true, or_false, false_or, or_true, true_or, reduceCtorEq, Nat.zero_le, Nat.reduceMul, Nat.add_zero, false_and, and_false, false_implies, true_implies, forall_const, implies_true, List.append_nil, List.nil_append, List.cons_append, mb_i, mb_ii, mb_iii, mb_r, mb_ri, mb_rii, mb_riii, mb_rr, mb_rri, mb_rrii, mb_rriii, mb_riiiii, mb_rrr, mb_rir, mb_iiii, mb_riiii, tn_0, tn_1, tn_2, tn_3, tn_4, tn_5, tn_6, tc_0, tc_1, tc_2, tc_3, tc_4, tc_5, tc_6, xf_0, xf_1, xf_2, Sum.inl.injEq, Sum.inr.injEq, C_M_fallAsleep, C_M_sumOf, p0, p1, p2, k1, k2, l1, l2, q1, q2, o0, nI_1])
          exact h60 _ _ (by rcases hz with w | w; exact w.2.symm; exact absurd z w.1)
        · exact h60 _ _ (by rcases hz with w | w; exact absurd w.1 z; exact w.2.symm)
      have h32 : s_g0 (rv M b) i (-9) j = 300 → V 32 [some (.inr 54), some (.inr b), some (.inl i), some (.inl (nI j)), X4] [] M1 := by
        intro hz
        (refine b_32 _ _ _ ?_; simp only [k_X1_fallAsleep_0, k_X1_fallAsleep_2, k_X1_fallAsleep_32, k_X1_fallAsleep_33, k_X1_fallAsleep_57, k_X1_fallAsleep_60, k_X1_fallAsleep_74, xp_1, xp_2, xp_3, xp_4, xp_5, xp_6, xp_7, xp_10, xp_11, xp_12, xp_13, xp_14, xp_15, xp_16, xp_17, xp_18, xp_19, xp_20, xp_21, xp_22, xp_23, xp_30, xp_31, xp_32, xp_33, xp_34, xp_35, xp_36, xp_37, xp_38, xp_39, xp_40, xp_41, xp_42, xp_43, xp_50, xp_51, xp_52, xp_53, xp_60, xp_61, xp_62, xp_63, xp_64, xp_65, xp_70, xp_80, xp_81, xp_82, up_ne, up_s, ud_s, ud_o, xw_0, xw_1, xg_0, xg_1, xl_i, xl_r, xs_0, xs_1, xq_i, xq_r, xq_v, xc_0, xc_1, xt_0, xt_1, xr_0, xr_1, xr_2, xe_0, xe_1, ob_0, ob_18, ob_36, ob_54, ak_55, ln_55, cq_55, ak_56, ln_56, cq_56, ob_57, ak_58, ln_58, cq_58, ak_59, ln_59, cq_59, ob_60, ak_61, ln_61, cq_61, ak_62, ln_62, cq_62, ob_63, ak_64, ln_64, cq_64, ak_65, ln_65, cq_65, ak_66, ln_66, cq_66, ak_67, ln_67, cq_67, ak_68, ln_68, cq_68, ak_69, ln_69, cq_69, ak_70, ln_70, cq_70, ak_71, ln_71, cq_71, ak_72, ln_72, cq_72, ak_73, ln_73, cq_73, pt_54_0, pt_54_1, pt_57_0, pt_57_3, pt_60_0, pt_60_1, pt_60_2, pt_60_4, pt_60_5, pt_60_6, pt_60_8, pt_63_0, pt_63_1, pt_63_2, pt_63_3, pt_63_4, pt_63_6, pt_63_7, pt_63_10, pt_63_11, pt_63_17, true_and, and_true, List.length_cons, List.length_nil, Nat.reduceAdd, Nat.reduceLeDiff, forall_eq, ne_eq, Nat.reduceEqDiff, not_false_eq_true, or_false, false_or, or_true, true_or, reduceCtorEq, Nat.zero_le, Nat.reduceMul, Nat.add_zero, false_and, and_false, false_implies, true_implies, forall_const, implies_true, List.append_nil, List.nil_append, List.cons_append, mb_i, mb_ii, mb_iii, mb_r, mb_ri, mb_rii, mb_riii, mb_rr, mb_rri, mb_rrii, mb_rriii, mb_riiiii, mb_rrr, mb_rir, mb_iiii, mb_riiii, tn_0, tn_1, tn_2, tn_3, tn_4, tn_5, tn_6, tc_0, tc_1, tc_2, tc_3, tc_4, tc_5, tc_6, xf_0, xf_1, xf_2, Sum.inl.injEq, Sum.inr.injEq, C_M_fallAsleep, C_M_sumOf, p0, p1, p2, k1, k2, l1, l2, q1, q2, o0, nI_1])
        exact h33 0 (Or.inl ⟨rfl, hz⟩)
      (refine b_2 _ _ _ ?_; simp only [k_X1_fallAsleep_0, k_X1_fallAsleep_2, k_X1_fallAsleep_32, k_X1_fallAsleep_33, k_X1_fallAsleep_57, k_X1_fallAsleep_60, k_X1_fallAsleep_74, xp_1, xp_2, xp_3, xp_4, xp_5, xp_6, xp_7, xp_10, xp_11, xp_12, xp_13, xp_14, xp_15, xp_16, xp_17, xp_18, xp_19, xp_20, xp_21, xp_22, xp_23, xp_30, xp_31, xp_32, xp_33, xp_34, xp_35, xp_36, xp_37, xp_38, xp_39, xp_40, xp_41, xp_42, xp_43, xp_50, xp_51, xp_52, xp_53, xp_60, xp_61, xp_62, xp_63, xp_64, xp_65, xp_70, xp_80, xp_81, xp_82, up_ne, up_s, ud_s, ud_o, xw_0, xw_1, xg_0, xg_1, xl_i, xl_r, xs_0, xs_1, xq_i, xq_r, xq_v, xc_0, xc_1, xt_0, xt_1, xr_0, xr_1, xr_2, xe_0, xe_1, ob_0, ob_18, ob_36, ob_54, ak_55, ln_55, cq_55, ak_56, ln_56, cq_56, ob_57, ak_58, ln_58, cq_58, ak_59, ln_59, cq_59, ob_60, ak_61, ln_61, cq_61, ak_62, ln_62, cq_62, ob_63, ak_64, ln_64, cq_64, ak_65, ln_65, cq_65, ak_66, ln_66, cq_66, ak_67, ln_67, cq_67, ak_68, ln_68, cq_68, ak_69, ln_69, cq_69, ak_70, ln_70, cq_70, ak_71, ln_71, cq_71, ak_72, ln_72, cq_72, ak_73, ln_73, cq_73, pt_54_0, pt_54_1, pt_57_0, pt_57_3, pt_60_0, pt_60_1, pt_60_2, pt_60_4, pt_60_5, pt_60_6, pt_60_8, pt_63_0, pt_63_1, pt_63_2, pt_63_3, pt_63_4, pt_63_6, pt_63_7, pt_63_10, pt_63_11, pt_63_17, true_and, and_true, List.length_cons, List.length_nil, Nat.reduceAdd, Nat.reduceLeDiff, forall_eq, ne_eq, Nat.reduceEqDiff, not_false_eq_true, or_false, false_or, or_true, true_or, reduceCtorEq, Nat.zero_le, Nat.reduceMul, Nat.add_zero, false_and, and_false, false_implies, true_implies, forall_const, implies_true, List.append_nil, List.nil_append, List.cons_append, mb_i, mb_ii, mb_iii, mb_r, mb_ri, mb_rii, mb_riii, mb_rr, mb_rri, mb_rrii, mb_rriii, mb_riiiii, mb_rrr, mb_rir, mb_iiii, mb_riiii, tn_0, tn_1, tn_2, tn_3, tn_4, tn_5, tn_6, tc_0, tc_1, tc_2, tc_3, tc_4, tc_5, tc_6, xf_0, xf_1, xf_2, Sum.inl.injEq, Sum.inr.injEq, C_M_fallAsleep, C_M_sumOf, p0, p1, p2, k1, k2, l1, l2, q1, q2, o0, nI_1])
      rw [ej, eb, e8]
      refine ⟨fun z => absurd h1 z, fun _ => ⟨fun z => h32 ?_, fun z => ?_⟩⟩
      · unfold s_g0
        rw [rv_1, if_neg z]
      · have z2 := z
        rw [ti_lt, ti_nI (by omega)] at z2
        have c1 : rv M b (23 + 5 * j + 1) = M (b + 8 + j) 1 := rv_c (by omega) (by omega) (by omega)
        have c2 : rv M b (23 + 5 * j + 2) = M (b + 8 + j) 2 := rv_c (by omega) (by omega) (by omega)
        refine ⟨hx, o2 j (by omega), fun w => h32 ?_, fun w => h33 1 (Or.inr ⟨by decide, ?_⟩)⟩
        · unfold s_g0
          rw [rv_1, if_pos z, c1, if_neg w]
        · unfold s_g0
          rw [rv_1, if_pos z, c1, if_pos w, if_neg n9, c2]
  (refine b_0 _ _ _ ?_; simp only [k_X1_fallAsleep_0, k_X1_fallAsleep_2, k_X1_fallAsleep_32, k_X1_fallAsleep_33, k_X1_fallAsleep_57, k_X1_fallAsleep_60, k_X1_fallAsleep_74, xp_1, xp_2, xp_3, xp_4, xp_5, xp_6, xp_7, xp_10, xp_11, xp_12, xp_13, xp_14, xp_15, xp_16, xp_17, xp_18, xp_19, xp_20, xp_21, xp_22, xp_23, xp_30, xp_31, xp_32, xp_33, xp_34, xp_35, xp_36, xp_37, xp_38, xp_39, xp_40, xp_41, xp_42, xp_43, xp_50, xp_51, xp_52, xp_53, xp_60, xp_61, xp_62, xp_63, xp_64, xp_65, xp_70, xp_80, xp_81, xp_82, up_ne, up_s, ud_s, ud_o, xw_0, xw_1, xg_0, xg_1, xl_i, xl_r, xs_0, xs_1, xq_i, xq_r, xq_v, xc_0, xc_1, xt_0, xt_1, xr_0, xr_1, xr_2, xe_0, xe_1, ob_0, ob_18, ob_36, ob_54, ak_55, ln_55, cq_55, ak_56, ln_56, cq_56, ob_57, ak_58, ln_58, cq_58, ak_59, ln_59, cq_59, ob_60, ak_61, ln_61, cq_61, ak_62, ln_62, cq_62, ob_63, ak_64, ln_64, cq_64, ak_65, ln_65, cq_65, ak_66, ln_66, cq_66, ak_67, ln_67, cq_67, ak_68, ln_68, cq_68, ak_69, ln_69, cq_69, ak_70, ln_70, cq_70, ak_71, ln_71, cq_71, ak_72, ln_72, cq_72, ak_73, ln_73, cq_73, pt_54_0, pt_54_1, pt_57_0, pt_57_3, pt_60_0, pt_60_1, pt_60_2, pt_60_4, pt_60_5, pt_60_6, pt_60_8, pt_63_0, pt_63_1, pt_63_2, pt_63_3, pt_63_4, pt_63_6, pt_63_7, pt_63_10, pt_63_11, pt_63_17, true_and, and_true, List.length_cons, List.length_nil, Nat.reduceAdd, Nat.reduceLeDiff, forall_eq, ne_eq, Nat.reduceEqDiff, not_false_eq_true, or_false, false_or, or_true, true_or, reduceCtorEq, Nat.zero_le, Nat.reduceMul, Nat.add_zero, false_and, and_false, false_implies, true_implies, forall_const, implies_true, List.append_nil, List.nil_append, List.cons_append, mb_i, mb_ii, mb_iii, mb_r, mb_ri, mb_rii, mb_riii, mb_rr, mb_rri, mb_rrii, mb_rriii, mb_riiiii, mb_rrr, mb_rir, mb_iiii, mb_riiii, tn_0, tn_1, tn_2, tn_3, tn_4, tn_5, tn_6, tc_0, tc_1, tc_2, tc_3, tc_4, tc_5, tc_6, xf_0, xf_1, xf_2, Sum.inl.injEq, Sum.inr.injEq, C_M_fallAsleep, C_M_sumOf, p0, p1, p2, k1, k2, l1, l2, q1, q2, o0, nI_1])
  exact loop 4 0 M _ (by omega) ⟨fun c h => absurd h (by omega), fun _ _ _ => rfl⟩

