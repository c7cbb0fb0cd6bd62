/-! the reference's reading -/
/-- a reading goes on: place, numbers told; all else stays -/
def wP (M M1 : mj_M) (p : Int32) (q : Nat → Int32) : Prop := M1 63 9 = p ∧ M1 70 = q ∧ (∀ k, k ≠ 63 → k ≠ 70 → M1 k = M k) ∧ ∀ j, j ≠ 9 → M1 63 j = M 63 j
def pP (M : mj_M) : Prop := dT (M 69) (M 63 8) ∧ 0 ≤ (M 63 9).toInt ∧ (M 63 9).toInt ≤ (M 63 8).toInt
theorem wP_r (M : mj_M) : wP M M (M 63 9) (M 70) := ⟨rfl, rfl, fun _ _ _ => rfl, fun _ _ => rfl⟩
theorem wP_t {M M1 M2 : mj_M} {p p2 : Int32} {q q2 : Nat → Int32} (h : wP M M1 p q) (h2 : wP M1 M2 p2 q2) : wP M M2 p2 q2 := ⟨h2.1, h2.2.1, fun k a b => (h2.2.2.1 k a b).trans (h.2.2.1 k a b), fun j a => (h2.2.2.2 j a).trans (h.2.2.2 j a)⟩
theorem wP_9 {M M1 : mj_M} {p : Int32} {q : Nat → Int32} (h : wP M M1 p q) (x : Int32) : wP M (mj_up M1 63 9 x) x q := ⟨by rw [up_s, ud_s], by rw [up_ne (by decide)]; exact h.2.1, fun k a b => by rw [up_ne a]; exact h.2.2.1 k a b, fun j a => by rw [up_s, ud_o a]; exact h.2.2.2 j a⟩
theorem wP_7 {M M1 : mj_M} {p : Int32} {q : Nat → Int32} (h : wP M M1 p q) (k : Nat) (x : Int32) : wP M (mj_up M1 70 k x) p (upd q k x) := ⟨by rw [up_ne (by decide)]; exact h.1, by rw [up_s, h.2.1], fun i a b => by rw [up_ne b]; exact h.2.2.1 i a b, fun j a => by rw [up_ne (by decide)]; exact h.2.2.2 j a⟩
theorem wP_T {M M1 : mj_M} {p : Int32} {q : Nat → Int32} (h : wP M M1 p q) : M1 69 = M 69 := h.2.2.1 _ (by decide) (by decide)
theorem wP_n {M M1 : mj_M} {p : Int32} {q : Nat → Int32} (h : wP M M1 p q) : M1 63 8 = M 63 8 := h.2.2.2 _ (by decide)
theorem pP_w {M M1 : mj_M} {p : Int32} {q : Nat → Int32} (hM : pP M) (h : wP M M1 p q) (h0 : 0 ≤ p.toInt) (hp : p.toInt ≤ (M 63 8).toInt) : pP M1 := by
  unfold pP
  rw [wP_T h, wP_n h, h.1]
  exact ⟨hM.1, h0, hp⟩
def C_M_sign : mj_C := (1, 1, fun avs M => ma_r avs fun a => (a = 63 ∧ bd (M 63 8) 0 96 ∧ 0 ≤ (M 63 9).toInt), fun avs M r M' => ma_r avs fun a => (r = .inl (s_sg (M 69) (M 63 8) (M 63 9)) ∧ M' = M))
theorem rc_M_sign : ∀ avs M, C_M_sign.2.2.1 avs M → ∃ a r, avs = .inr a :: r ∧ mj_ob a = 7 := by
  intro avs M h
  obtain ⟨a, rfl, h⟩ := mc_r h
  exact ⟨_, _, rfl, by rw [h.1]; rfl⟩
set_option maxRecDepth 20000 in
set_option maxHeartbeats 2000000 in
theorem t_M_sign : mj_T yX7_sign cX7_sign 1 (some .int) 0 C_M_sign := by
  refine mj_T_of (own := 7) (rk := 1) [] (by decide) rfl (by decide) ⟨rfl, rfl⟩ (fun _ h => absurd h List.not_mem_nil) ?_
  intro avs M hlen hpre V hV
  obtain ⟨a, rfl, hp⟩ := mc_r hpre
  show V 0 [some (.inr a)] [] M
  have b_0 := hV h_X7_sign_0; have b_23 := hV h_X7_sign_23; have b_24 := hV h_X7_sign_24
  clear hlen hpre hV
  obtain ⟨rfl, h1, h2⟩ := hp
  (refine b_0 _ _ _ ?_; simp only [k_X7_sign_0, k_X7_sign_23, k_X7_sign_24, xp_1, xp_2, xp_3, xp_4, xp_5, xp_6, xp_7, xp_10, xp_11, xp_12, xp_13, xp_14, xp_15, xp_16, xp_17, xp_18, xp_19, xp_20, xp_21, xp_22, xp_23, xp_30, xp_31, xp_32, xp_33, xp_34, xp_35, xp_36, xp_37, xp_38, xp_39, xp_40, xp_41, xp_42, xp_43, xp_50, xp_51, xp_52, xp_53, xp_60, xp_61, xp_62, xp_63, xp_64, xp_65, xp_70, xp_80, xp_81, xp_82, up_ne, up_s, ud_s, ud_o, xw_0, xw_1, xg_0, xg_1, xl_i, xl_r, xs_0, xs_1, xq_i, xq_r, xq_v, xc_0, xc_1, xt_0, xt_1, xr_0, xr_1, xr_2, xe_0, xe_1, ob_0, ob_18, ob_36, ob_54, ak_55, ln_55, cq_55, ak_56, ln_56, cq_56, ob_57, ak_58, ln_58, cq_58, ak_59, ln_59, cq_59, ob_60, ak_61, ln_61, cq_61, ak_62, ln_62, cq_62, ob_63, ak_64, ln_64, cq_64, ak_65, ln_65, cq_65, ak_66, ln_66, cq_66, ak_67, ln_67, cq_67, ak_68, ln_68, cq_68, ak_69, ln_69, cq_69, ak_70, ln_70, cq_70, ak_71, ln_71, cq_71, ak_72, ln_72, cq_72, ak_73, ln_73, cq_73, pt_54_0, pt_54_1, pt_57_0, pt_57_3, pt_60_0, pt_60_1, pt_60_2, pt_60_4, pt_60_5, pt_60_6, pt_60_8, pt_63_0, pt_63_1, pt_63_2, pt_63_3, pt_63_4, pt_63_6, pt_63_7, pt_63_10, pt_63_11, pt_63_17, true_and, and_true, List.length_cons, List.length_nil, Nat.reduceAdd, Nat.reduceLeDiff, forall_eq, ne_eq, Nat.reduceEqDiff, not_false_eq_true, or_false, false_or, or_true, true_or, reduceCtorEq, Nat.zero_le, Nat.reduceMul, Nat.add_zero, false_and, and_false, false_implies, true_implies, forall_const, implies_true, List.append_nil, List.nil_append, List.cons_append, mb_i, mb_ii, mb_iii, mb_r, mb_ri, mb_rii, mb_riii, mb_rr, mb_rri, mb_rrii, mb_rriii, mb_riiiii, mb_rrr, mb_rir, mb_iiii, mb_riiii, tn_0, tn_1, tn_2, tn_3, tn_4, tn_5, tn_6, tc_0, tc_1, tc_2, tc_3, tc_4, tc_5, tc_6, xf_0, xf_1, xf_2, Sum.inl.injEq, Sum.inr.injEq, C_M_sign])
  refine ⟨fun h => ?_, fun h => ⟨?_, ?_⟩⟩
  · (refine b_23 _ _ _ ?_; simp only [k_X7_sign_0, k_X7_sign_23, k_X7_sign_24, xp_1, xp_2, xp_3, xp_4, xp_5, xp_6, xp_7, xp_10, xp_11, xp_12, xp_13, xp_14, xp_15, xp_16, xp_17, xp_18, xp_19, xp_20, xp_21, xp_22, xp_23, xp_30, xp_31, xp_32, xp_33, xp_34, xp_35, xp_36, xp_37, xp_38, xp_39, xp_40, xp_41, xp_42, xp_43, xp_50, xp_51, xp_52, xp_53, xp_60, xp_61, xp_62, xp_63, xp_64, xp_65, xp_70, xp_80, xp_81, xp_82, up_ne, up_s, ud_s, ud_o, xw_0, xw_1, xg_0, xg_1, xl_i, xl_r, xs_0, xs_1, xq_i, xq_r, xq_v, xc_0, xc_1, xt_0, xt_1, xr_0, xr_1, xr_2, xe_0, xe_1, ob_0, ob_18, ob_36, ob_54, ak_55, ln_55, cq_55, ak_56, ln_56, cq_56, ob_57, ak_58, ln_58, cq_58, ak_59, ln_59, cq_59, ob_60, ak_61, ln_61, cq_61, ak_62, ln_62, cq_62, ob_63, ak_64, ln_64, cq_64, ak_65, ln_65, cq_65, ak_66, ln_66, cq_66, ak_67, ln_67, cq_67, ak_68, ln_68, cq_68, ak_69, ln_69, cq_69, ak_70, ln_70, cq_70, ak_71, ln_71, cq_71, ak_72, ln_72, cq_72, ak_73, ln_73, cq_73, pt_54_0, pt_54_1, pt_57_0, pt_57_3, pt_60_0, pt_60_1, pt_60_2, pt_60_4, pt_60_5, pt_60_6, pt_60_8, pt_63_0, pt_63_1, pt_63_2, pt_63_3, pt_63_4, pt_63_6, pt_63_7, pt_63_10, pt_63_11, pt_63_17, true_and, and_true, List.length_cons, List.length_nil, Nat.reduceAdd, Nat.reduceLeDiff, forall_eq, ne_eq, Nat.reduceEqDiff, not_false_eq_true, or_false, false_or, or_true, true_or, reduceCtorEq, Nat.zero_le, Nat.reduceMul, Nat.add_zero, false_and, and_false, false_implies, true_implies, forall_const, implies_true, List.append_nil, List.nil_append, List.cons_append, mb_i, mb_ii, mb_iii, mb_r, mb_ri, mb_rii, mb_riii, mb_rr, mb_rri, mb_rrii, mb_rriii, mb_riiiii, mb_rrr, mb_rir, mb_iiii, mb_riiii, tn_0, tn_1, tn_2, tn_3, tn_4, tn_5, tn_6, tc_0, tc_1, tc_2, tc_3, tc_4, tc_5, tc_6, xf_0, xf_1, xf_2, Sum.inl.injEq, Sum.inr.injEq, C_M_sign])
    (refine b_24 _ _ _ ?_; simp only [k_X7_sign_0, k_X7_sign_23, k_X7_sign_24, xp_1, xp_2, xp_3, xp_4, xp_5, xp_6, xp_7, xp_10, xp_11, xp_12, xp_13, xp_14, xp_15, xp_16, xp_17, xp_18, xp_19, xp_20, xp_21, xp_22, xp_23, xp_30, xp_31, xp_32, xp_33, xp_34, xp_35, xp_36, xp_37, xp_38, xp_39, xp_40, xp_41, xp_42, xp_43, xp_50, xp_51, xp_52, xp_53, xp_60, xp_61, xp_62, xp_63, xp_64, xp_65, xp_70, xp_80, xp_81, xp_82, up_ne, up_s, ud_s, ud_o, xw_0, xw_1, xg_0, xg_1, xl_i, xl_r, xs_0, xs_1, xq_i, xq_r, xq_v, xc_0, xc_1, xt_0, xt_1, xr_0, xr_1, xr_2, xe_0, xe_1, ob_0, ob_18, ob_36, ob_54, ak_55, ln_55, cq_55, ak_56, ln_56, cq_56, ob_57, ak_58, ln_58, cq_58, ak_59, ln_59, cq_59, ob_60, ak_61, ln_61, cq_61, ak_62, ln_62, cq_62, ob_63, ak_64, ln_64, cq_64, ak_65, ln_65, cq_65, ak_66, ln_66, cq_66, ak_67, ln_67, cq_67, ak_68, ln_68, cq_68, ak_69, ln_69, cq_69, ak_70, ln_70, cq_70, ak_71, ln_71, cq_71, ak_72, ln_72, cq_72, ak_73, ln_73, cq_73, pt_54_0, pt_54_1, pt_57_0, pt_57_3, pt_60_0, pt_60_1, pt_60_2, pt_60_4, pt_60_5, pt_60_6, pt_60_8, pt_63_0, pt_63_1, pt_63_2, pt_63_3, pt_63_4, pt_63_6, pt_63_7, pt_63_10, pt_63_11, pt_63_17, true_and, and_true, List.length_cons, List.length_nil, Nat.reduceAdd, Nat.reduceLeDiff, forall_eq, ne_eq, Nat.reduceEqDiff, not_false_eq_true, or_false, false_or, or_true, true_or, reduceCtorEq, Nat.zero_le, Nat.reduceMul, Nat.add_zero, false_and, and_false, false_implies, true_implies, forall_const, implies_true, List.append_nil, List.nil_append, List.cons_append, mb_i, mb_ii, mb_iii, mb_r, mb_ri, mb_rii, mb_riii, mb_rr, mb_rri, mb_rrii, mb_rriii, mb_riiiii, mb_rrr, mb_rir, mb_iiii, mb_riiii, tn_0, tn_1, tn_2, tn_3, tn_4, tn_5, tn_6, tc_0, tc_1, tc_2, tc_3, tc_4, tc_5, tc_6, xf_0, xf_1, xf_2, Sum.inl.injEq, Sum.inr.injEq, C_M_sign])
    unfold s_sg
    rw [if_neg h]
  · have h3 := h
    rw [ti_lt] at h3
    have := h1.2
    exact vi_x h2 (by omega)
  · (refine b_24 _ _ _ ?_; simp only [k_X7_sign_0, k_X7_sign_23, k_X7_sign_24, xp_1, xp_2, xp_3, xp_4, xp_5, xp_6, xp_7, xp_10, xp_11, xp_12, xp_13, xp_14, xp_15, xp_16, xp_17, xp_18, xp_19, xp_20, xp_21, xp_22, xp_23, xp_30, xp_31, xp_32, xp_33, xp_34, xp_35, xp_36, xp_37, xp_38, xp_39, xp_40, xp_41, xp_42, xp_43, xp_50, xp_51, xp_52, xp_53, xp_60, xp_61, xp_62, xp_63, xp_64, xp_65, xp_70, xp_80, xp_81, xp_82, up_ne, up_s, ud_s, ud_o, xw_0, xw_1, xg_0, xg_1, xl_i, xl_r, xs_0, xs_1, xq_i, xq_r, xq_v, xc_0, xc_1, xt_0, xt_1, xr_0, xr_1, xr_2, xe_0, xe_1, ob_0, ob_18, ob_36, ob_54, ak_55, ln_55, cq_55, ak_56, ln_56, cq_56, ob_57, ak_58, ln_58, cq_58, ak_59, ln_59, cq_59, ob_60, ak_61, ln_61, cq_61, ak_62, ln_62, cq_62, ob_63, ak_64, ln_64, cq_64, ak_65, ln_65, cq_65, ak_66, ln_66, cq_66, ak_67, ln_67, cq_67, ak_68, ln_68, cq_68, ak_69, ln_69, cq_69, ak_70, ln_70, cq_70, ak_71, ln_71, cq_71, ak_72, ln_72, cq_72, ak_73, ln_73, cq_73, pt_54_0, pt_54_1, pt_57_0, pt_57_3, pt_60_0, pt_60_1, pt_60_2, pt_60_4, pt_60_5, pt_60_6, pt_60_8, pt_63_0, pt_63_1, pt_63_2, pt_63_3, pt_63_4, pt_63_6, pt_63_7, pt_63_10, pt_63_11, pt_63_17, true_and, and_true, List.length_cons, List.length_nil, Nat.reduceAdd, Nat.reduceLeDiff, forall_eq, ne_eq, Nat.reduceEqDiff, not_false_eq_true, or_false, false_or, or_true, true_or, reduceCtorEq, Nat.zero_le, Nat.reduceMul, Nat.add_zero, false_and, and_false, false_implies, true_implies, forall_const, implies_true, List.append_nil, List.nil_append, List.cons_append, mb_i, mb_ii, mb_iii, mb_r, mb_ri, mb_rii, mb_riii, mb_rr, mb_rri, mb_rrii, mb_rriii, mb_riiiii, mb_rrr, mb_rir, mb_iiii, mb_riiii, tn_0, tn_1, tn_2, tn_3, tn_4, tn_5, tn_6, tc_0, tc_1, tc_2, tc_3, tc_4, tc_5, tc_6, xf_0, xf_1, xf_2, Sum.inl.injEq, Sum.inr.injEq, C_M_sign])
    unfold s_sg
    rw [if_pos h]

def C_M_takes : mj_C := (2, rk1, fun avs M => ma_ri avs fun a c => (a = 63 ∧ pP M), fun avs M r M' => ma_ri avs fun a c => (r = .inl (s_ps (M 69) (M 63 8) c (M 63 9) (M 70)).1 ∧ wP M M' (s_ps (M 69) (M 63 8) c (M 63 9) (M 70)).2.1 (s_ps (M 69) (M 63 8) c (M 63 9) (M 70)).2.2))
theorem rc_M_takes : ∀ avs M, C_M_takes.2.2.1 avs M → ∃ a r, avs = .inr a :: r ∧ mj_ob a = 7 := by
  intro avs M h
  obtain ⟨a, c, rfl, h⟩ := mc_ri h
  exact ⟨_, _, rfl, by rw [h.1]; rfl⟩
set_option maxRecDepth 20000 in
set_option maxHeartbeats 2000000 in
theorem t_M_takes : mj_T yX7_takes cX7_takes 2 (some .boolean) 1 C_M_takes := by
  refine mj_T_of (own := 7) (rk := 3) [(192, C_M_sign)] (by decide) rfl (by decide) ⟨rfl, rfl, rfl⟩ (List.forall_mem_cons.mpr ⟨mj_KV (own := 7) (nest := false) t_M_sign ⟨wc_X7_sign, wi_X7, by decide, wl_7_64⟩ wn_X7_sign ws_X7_sign (c0 := 7) (by decide) rfl (by decide +kernel) rc_M_sign (by decide), (fun _ h => absurd h List.not_mem_nil)⟩) ?_
  intro avs M hlen hpre V hV
  obtain ⟨a, c, rfl, hp⟩ := mc_ri hpre
  show V 0 [some (.inr a), some (.inl c)] [] M
  have b_0 := hV h_X7_takes_0; have b_10 := hV h_X7_takes_10
  clear hlen hpre hV
  obtain ⟨rfl, hpp⟩ := hp
  have h1 := hpp.1.1
  have h2 := hpp.2.1
  (refine b_0 _ _ _ ?_; simp only [k_X7_takes_0, k_X7_takes_10, xp_1, xp_2, xp_3, xp_4, xp_5, xp_6, xp_7, xp_10, xp_11, xp_12, xp_13, xp_14, xp_15, xp_16, xp_17, xp_18, xp_19, xp_20, xp_21, xp_22, xp_23, xp_30, xp_31, xp_32, xp_33, xp_34, xp_35, xp_36, xp_37, xp_38, xp_39, xp_40, xp_41, xp_42, xp_43, xp_50, xp_51, xp_52, xp_53, xp_60, xp_61, xp_62, xp_63, xp_64, xp_65, xp_70, xp_80, xp_81, xp_82, up_ne, up_s, ud_s, ud_o, xw_0, xw_1, xg_0, xg_1, xl_i, xl_r, xs_0, xs_1, xq_i, xq_r, xq_v, xc_0, xc_1, xt_0, xt_1, xr_0, xr_1, xr_2, xe_0, xe_1, ob_0, ob_18, ob_36, ob_54, ak_55, ln_55, cq_55, ak_56, ln_56, cq_56, ob_57, ak_58, ln_58, cq_58, ak_59, ln_59, cq_59, ob_60, ak_61, ln_61, cq_61, ak_62, ln_62, cq_62, ob_63, ak_64, ln_64, cq_64, ak_65, ln_65, cq_65, ak_66, ln_66, cq_66, ak_67, ln_67, cq_67, ak_68, ln_68, cq_68, ak_69, ln_69, cq_69, ak_70, ln_70, cq_70, ak_71, ln_71, cq_71, ak_72, ln_72, cq_72, ak_73, ln_73, cq_73, pt_54_0, pt_54_1, pt_57_0, pt_57_3, pt_60_0, pt_60_1, pt_60_2, pt_60_4, pt_60_5, pt_60_6, pt_60_8, pt_63_0, pt_63_1, pt_63_2, pt_63_3, pt_63_4, pt_63_6, pt_63_7, pt_63_10, pt_63_11, pt_63_17, true_and, and_true, List.length_cons, List.length_nil, Nat.reduceAdd, Nat.reduceLeDiff, forall_eq, ne_eq, Nat.reduceEqDiff, not_false_eq_true, or_false, false_or, or_true, true_or, reduceCtorEq, Nat.zero_le, Nat.reduceMul, Nat.add_zero, false_and, and_false, false_implies, true_implies, forall_const, implies_true, List.append_nil, List.nil_append, List.cons_append, mb_i, mb_ii, mb_iii, mb_r, mb_ri, mb_rii, mb_riii, mb_rr, mb_rri, mb_rrii, mb_rriii, mb_riiiii, mb_rrr, mb_rir, mb_iiii, mb_riiii, tn_0, tn_1, tn_2, tn_3, tn_4, tn_5, tn_6, tc_0, tc_1, tc_2, tc_3, tc_4, tc_5, tc_6, xf_0, xf_1, xf_2, Sum.inl.injEq, Sum.inr.injEq, C_M_sign, C_M_takes])
  unfold s_ps
  refine ⟨⟨h1, h2⟩, fun h => ?_, fun h => ?_⟩
  · (refine b_10 _ _ _ ?_; simp only [k_X7_takes_0, k_X7_takes_10, xp_1, xp_2, xp_3, xp_4, xp_5, xp_6, xp_7, xp_10, xp_11, xp_12, xp_13, xp_14, xp_15, xp_16, xp_17, xp_18, xp_19, xp_20, xp_21, xp_22, xp_23, xp_30, xp_31, xp_32, xp_33, xp_34, xp_35, xp_36, xp_37, xp_38, xp_39, xp_40, xp_41, xp_42, xp_43, xp_50, xp_51, xp_52, xp_53, xp_60, xp_61, xp_62, xp_63, xp_64, xp_65, xp_70, xp_80, xp_81, xp_82, up_ne, up_s, ud_s, ud_o, xw_0, xw_1, xg_0, xg_1, xl_i, xl_r, xs_0, xs_1, xq_i, xq_r, xq_v, xc_0, xc_1, xt_0, xt_1, xr_0, xr_1, xr_2, xe_0, xe_1, ob_0, ob_18, ob_36, ob_54, ak_55, ln_55, cq_55, ak_56, ln_56, cq_56, ob_57, ak_58, ln_58, cq_58, ak_59, ln_59, cq_59, ob_60, ak_61, ln_61, cq_61, ak_62, ln_62, cq_62, ob_63, ak_64, ln_64, cq_64, ak_65, ln_65, cq_65, ak_66, ln_66, cq_66, ak_67, ln_67, cq_67, ak_68, ln_68, cq_68, ak_69, ln_69, cq_69, ak_70, ln_70, cq_70, ak_71, ln_71, cq_71, ak_72, ln_72, cq_72, ak_73, ln_73, cq_73, pt_54_0, pt_54_1, pt_57_0, pt_57_3, pt_60_0, pt_60_1, pt_60_2, pt_60_4, pt_60_5, pt_60_6, pt_60_8, pt_63_0, pt_63_1, pt_63_2, pt_63_3, pt_63_4, pt_63_6, pt_63_7, pt_63_10, pt_63_11, pt_63_17, true_and, and_true, List.length_cons, List.length_nil, Nat.reduceAdd, Nat.reduceLeDiff, forall_eq, ne_eq, Nat.reduceEqDiff, not_false_eq_true, or_false, false_or, or_true, true_or, reduceCtorEq, Nat.zero_le, Nat.reduceMul, Nat.add_zero, false_and, and_false, false_implies, true_implies, forall_const, implies_true, List.append_nil, List.nil_append, List.cons_append, mb_i, mb_ii, mb_iii, mb_r, mb_ri, mb_rii, mb_riii, mb_rr, mb_rri, mb_rrii, mb_rriii, mb_riiiii, mb_rrr, mb_rir, mb_iiii, mb_riiii, tn_0, tn_1, tn_2, tn_3, tn_4, tn_5, tn_6, tc_0, tc_1, tc_2, tc_3, tc_4, tc_5, tc_6, xf_0, xf_1, xf_2, Sum.inl.injEq, Sum.inr.injEq, C_M_sign, C_M_takes])
    unfold s_ps
    rw [if_pos h]
    exact ⟨rfl, wP_9 (wP_r M) _⟩
  · rw [if_neg h]
    exact ⟨rfl, wP_r M⟩

theorem up_7 (M : mj_M) {a b j k : Nat} {x y : Int32} (h : a ≠ b) : mj_up (mj_up M a j x) b k y = mj_up (mj_up M b k y) a j x := by
  funext c i
  unfold mj_up
  by_cases h1 : c = b
  · subst h1
    have h2 : ¬ c = a := fun e => h e.symm
    simp [h2]
  · simp [h1]
def C_M_readsNumber : mj_C := (4, rk1, fun avs M => ma_riii avs fun a k least most => (a = 63 ∧ pP M ∧ bd k 0 4 ∧ bd most 1 3), fun avs M r M' => ma_riii avs fun a k least most => (r = .inl (s_pn (M 69) (M 63 8) least (tn most) (M 63 9) (tn k) (M 70)).1 ∧ wP M M' (s_pn (M 69) (M 63 8) least (tn most) (M 63 9) (tn k) (M 70)).2.1 (s_pn (M 69) (M 63 8) least (tn most) (M 63 9) (tn k) (M 70)).2.2))
theorem rc_M_readsNumber : ∀ avs M, C_M_readsNumber.2.2.1 avs M → ∃ a r, avs = .inr a :: r ∧ mj_ob a = 7 := by
  intro avs M h
  obtain ⟨a, k, least, most, rfl, h⟩ := mc_riii h
  exact ⟨_, _, rfl, by rw [h.1]; rfl⟩
set_option maxRecDepth 20000 in
set_option maxHeartbeats 2000000 in
theorem t_M_readsNumber : mj_T yX7_readsNumber cX7_readsNumber 5 (some .boolean) 1 C_M_readsNumber := by
  refine mj_T_of (own := 7) (rk := 3) [(149, C_M_isIn), (192, C_M_sign)] (by decide) rfl (by decide) ⟨rfl, rfl, rfl⟩ (List.forall_mem_cons.mpr ⟨mj_KS (own := 7) (nest := false) t_M_isIn ⟨wc_X7_isIn, wi_X7, by decide, wl_7_49⟩ wn_X7_isIn (by decide +kernel) (by decide), (List.forall_mem_cons.mpr ⟨mj_KV (own := 7) (nest := false) t_M_sign ⟨wc_X7_sign, wi_X7, by decide, wl_7_64⟩ wn_X7_sign ws_X7_sign (c0 := 7) (by decide) rfl (by decide +kernel) rc_M_sign (by decide), (fun _ h => absurd h List.not_mem_nil)⟩)⟩) ?_
  intro avs M hlen hpre V hV
  obtain ⟨a, k, least, most, rfl, hp⟩ := mc_riii hpre
  show V 0 [some (.inr a), some (.inl k), some (.inl least), some (.inl most), none] [] M
  have b_0 := hV h_X7_readsNumber_0; have b_10 := hV h_X7_readsNumber_10; have b_70 := hV h_X7_readsNumber_70; have b_80 := hV h_X7_readsNumber_80; have b_81 := hV h_X7_readsNumber_81
  clear hlen hpre hV
  obtain ⟨rfl, hpp, h5, h6⟩ := hp
  have h1 := hpp.1.1
  have h2 := hpp.2.1
  have h3 := hpp.2.2
  have hk : vp_in k 5 := vi_x h5.1 (by have := h5.2; omega)
  have hm := tn_of (x := most) (by have := h6.1; omega)
  have hm2 := h6.2
  have ek : k.toNatClampNeg = tn k := rfl
  have loop : ∀ (f c : Nat) (p v : Int32), c + f = tn most → 0 ≤ p.toInt → p.toInt ≤ (M 63 8).toInt → s_nv (M 69) (M 63 8) f p v c = s_nv (M 69) (M 63 8) (tn most) (M 63 9) 0 0 → V 10 [some (.inr 63), some (.inl k), some (.inl least), some (.inl most), some (.inl (nI c))] [] (mj_up (mj_up M 63 9 p) 70 (tn k) v) := by
    intro f
    have fin : ∀ (c : Nat) (p v : Int32), (p, v, c) = s_nv (M 69) (M 63 8) (tn most) (M 63 9) 0 0 → V 70 [some (.inr 63), some (.inl k), some (.inl least), some (.inl most), some (.inl (nI c))] [] (mj_up (mj_up M 63 9 p) 70 (tn k) v) := by
      intro c p v he
      (refine b_70 _ _ _ ?_; simp only [k_X7_readsNumber_0, k_X7_readsNumber_10, k_X7_readsNumber_70, k_X7_readsNumber_80, k_X7_readsNumber_81, xp_1, xp_2, xp_3, xp_4, xp_5, xp_6, xp_7, xp_10, xp_11, xp_12, xp_13, xp_14, xp_15, xp_16, xp_17, xp_18, xp_19, xp_20, xp_21, xp_22, xp_23, xp_30, xp_31, xp_32, xp_33, xp_34, xp_35, xp_36, xp_37, xp_38, xp_39, xp_40, xp_41, xp_42, xp_43, xp_50, xp_51, xp_52, xp_53, xp_60, xp_61, xp_62, xp_63, xp_64, xp_65, xp_70, xp_80, xp_81, xp_82, up_ne, up_s, ud_s, ud_o, xw_0, xw_1, xg_0, xg_1, xl_i, xl_r, xs_0, xs_1, xq_i, xq_r, xq_v, xc_0, xc_1, xt_0, xt_1, xr_0, xr_1, xr_2, xe_0, xe_1, ob_0, ob_18, ob_36, ob_54, ak_55, ln_55, cq_55, ak_56, ln_56, cq_56, ob_57, ak_58, ln_58, cq_58, ak_59, ln_59, cq_59, ob_60, ak_61, ln_61, cq_61, ak_62, ln_62, cq_62, ob_63, ak_64, ln_64, cq_64, ak_65, ln_65, cq_65, ak_66, ln_66, cq_66, ak_67, ln_67, cq_67, ak_68, ln_68, cq_68, ak_69, ln_69, cq_69, ak_70, ln_70, cq_70, ak_71, ln_71, cq_71, ak_72, ln_72, cq_72, ak_73, ln_73, cq_73, pt_54_0, pt_54_1, pt_57_0, pt_57_3, pt_60_0, pt_60_1, pt_60_2, pt_60_4, pt_60_5, pt_60_6, pt_60_8, pt_63_0, pt_63_1, pt_63_2, pt_63_3, pt_63_4, pt_63_6, pt_63_7, pt_63_10, pt_63_11, pt_63_17, true_and, and_true, List.length_cons, List.length_nil, Nat.reduceAdd, Nat.reduceLeDiff, forall_eq, ne_eq, Nat.reduceEqDiff, not_false_eq_true, or_false, false_or, or_true, true_or, reduceCtorEq, Nat.zero_le, Nat.reduceMul, Nat.add_zero, false_and, and_false, false_implies, true_implies, forall_const, implies_true, List.append_nil, List.nil_append, List.cons_append, mb_i, mb_ii, mb_iii, mb_r, mb_ri, mb_rii, mb_riii, mb_rr, mb_rri, mb_rrii, mb_rriii, mb_riiiii, mb_rrr, mb_rir, mb_iiii, mb_riiii, tn_0, tn_1, tn_2, tn_3, tn_4, tn_5, tn_6, tc_0, tc_1, tc_2, tc_3, tc_4, tc_5, tc_6, xf_0, xf_1, xf_2, Sum.inl.injEq, Sum.inr.injEq, C_M_isIn, C_M_readsNumber, C_M_sign, nI_1])
      refine ⟨fun hlt => ?_, fun hge => ?_⟩
      · (refine b_80 _ _ _ ?_; simp only [k_X7_readsNumber_0, k_X7_readsNumber_10, k_X7_readsNumber_70, k_X7_readsNumber_80, k_X7_readsNumber_81, xp_1, xp_2, xp_3, xp_4, xp_5, xp_6, xp_7, xp_10, xp_11, xp_12, xp_13, xp_14, xp_15, xp_16, xp_17, xp_18, xp_19, xp_20, xp_21, xp_22, xp_23, xp_30, xp_31, xp_32, xp_33, xp_34, xp_35, xp_36, xp_37, xp_38, xp_39, xp_40, xp_41, xp_42, xp_43, xp_50, xp_51, xp_52, xp_53, xp_60, xp_61, xp_62, xp_63, xp_64, xp_65, xp_70, xp_80, xp_81, xp_82, up_ne, up_s, ud_s, ud_o, xw_0, xw_1, xg_0, xg_1, xl_i, xl_r, xs_0, xs_1, xq_i, xq_r, xq_v, xc_0, xc_1, xt_0, xt_1, xr_0, xr_1, xr_2, xe_0, xe_1, ob_0, ob_18, ob_36, ob_54, ak_55, ln_55, cq_55, ak_56, ln_56, cq_56, ob_57, ak_58, ln_58, cq_58, ak_59, ln_59, cq_59, ob_60, ak_61, ln_61, cq_61, ak_62, ln_62, cq_62, ob_63, ak_64, ln_64, cq_64, ak_65, ln_65, cq_65, ak_66, ln_66, cq_66, ak_67, ln_67, cq_67, ak_68, ln_68, cq_68, ak_69, ln_69, cq_69, ak_70, ln_70, cq_70, ak_71, ln_71, cq_71, ak_72, ln_72, cq_72, ak_73, ln_73, cq_73, pt_54_0, pt_54_1, pt_57_0, pt_57_3, pt_60_0, pt_60_1, pt_60_2, pt_60_4, pt_60_5, pt_60_6, pt_60_8, pt_63_0, pt_63_1, pt_63_2, pt_63_3, pt_63_4, pt_63_6, pt_63_7, pt_63_10, pt_63_11, pt_63_17, true_and, and_true, List.length_cons, List.length_nil, Nat.reduceAdd, Nat.reduceLeDiff, forall_eq, ne_eq, Nat.reduceEqDiff, not_false_eq_true, or_false, false_or, or_true, true_or, reduceCtorEq, Nat.zero_le, Nat.reduceMul, Nat.add_zero, false_and, and_false, false_implies, true_implies, forall_const, implies_true, List.append_nil, List.nil_append, List.cons_append, mb_i, mb_ii, mb_iii, mb_r, mb_ri, mb_rii, mb_riii, mb_rr, mb_rri, mb_rrii, mb_rriii, mb_riiiii, mb_rrr, mb_rir, mb_iiii, mb_riiii, tn_0, tn_1, tn_2, tn_3, tn_4, tn_5, tn_6, tc_0, tc_1, tc_2, tc_3, tc_4, tc_5, tc_6, xf_0, xf_1, xf_2, Sum.inl.injEq, Sum.inr.injEq, C_M_isIn, C_M_readsNumber, C_M_sign, nI_1])
        (refine b_81 _ _ _ ?_; simp only [k_X7_readsNumber_0, k_X7_readsNumber_10, k_X7_readsNumber_70, k_X7_readsNumber_80, k_X7_readsNumber_81, xp_1, xp_2, xp_3, xp_4, xp_5, xp_6, xp_7, xp_10, xp_11, xp_12, xp_13, xp_14, xp_15, xp_16, xp_17, xp_18, xp_19, xp_20, xp_21, xp_22, xp_23, xp_30, xp_31, xp_32, xp_33, xp_34, xp_35, xp_36, xp_37, xp_38, xp_39, xp_40, xp_41, xp_42, xp_43, xp_50, xp_51, xp_52, xp_53, xp_60, xp_61, xp_62, xp_63, xp_64, xp_65, xp_70, xp_80, xp_81, xp_82, up_ne, up_s, ud_s, ud_o, xw_0, xw_1, xg_0, xg_1, xl_i, xl_r, xs_0, xs_1, xq_i, xq_r, xq_v, xc_0, xc_1, xt_0, xt_1, xr_0, xr_1, xr_2, xe_0, xe_1, ob_0, ob_18, ob_36, ob_54, ak_55, ln_55, cq_55, ak_56, ln_56, cq_56, ob_57, ak_58, ln_58, cq_58, ak_59, ln_59, cq_59, ob_60, ak_61, ln_61, cq_61, ak_62, ln_62, cq_62, ob_63, ak_64, ln_64, cq_64, ak_65, ln_65, cq_65, ak_66, ln_66, cq_66, ak_67, ln_67, cq_67, ak_68, ln_68, cq_68, ak_69, ln_69, cq_69, ak_70, ln_70, cq_70, ak_71, ln_71, cq_71, ak_72, ln_72, cq_72, ak_73, ln_73, cq_73, pt_54_0, pt_54_1, pt_57_0, pt_57_3, pt_60_0, pt_60_1, pt_60_2, pt_60_4, pt_60_5, pt_60_6, pt_60_8, pt_63_0, pt_63_1, pt_63_2, pt_63_3, pt_63_4, pt_63_6, pt_63_7, pt_63_10, pt_63_11, pt_63_17, true_and, and_true, List.length_cons, List.length_nil, Nat.reduceAdd, Nat.reduceLeDiff, forall_eq, ne_eq, Nat.reduceEqDiff, not_false_eq_true, or_false, false_or, or_true, true_or, reduceCtorEq, Nat.zero_le, Nat.reduceMul, Nat.add_zero, false_and, and_false, false_implies, true_implies, forall_const, implies_true, List.append_nil, List.nil_append, List.cons_append, mb_i, mb_ii, mb_iii, mb_r, mb_ri, mb_rii, mb_riii, mb_rr, mb_rri, mb_rrii, mb_rriii, mb_riiiii, mb_rrr, mb_rir, mb_iiii, mb_riiii, tn_0, tn_1, tn_2, tn_3, tn_4, tn_5, tn_6, tc_0, tc_1, tc_2, tc_3, tc_4, tc_5, tc_6, xf_0, xf_1, xf_2, Sum.inl.injEq, Sum.inr.injEq, C_M_isIn, C_M_readsNumber, C_M_sign, nI_1])
        unfold s_pn
        rw [← he]
        refine ⟨?_, wP_7 (wP_9 (wP_r M) _) _ _⟩
        rw [if_pos hlt]
      · (refine b_81 _ _ _ ?_; simp only [k_X7_readsNumber_0, k_X7_readsNumber_10, k_X7_readsNumber_70, k_X7_readsNumber_80, k_X7_readsNumber_81, xp_1, xp_2, xp_3, xp_4, xp_5, xp_6, xp_7, xp_10, xp_11, xp_12, xp_13, xp_14, xp_15, xp_16, xp_17, xp_18, xp_19, xp_20, xp_21, xp_22, xp_23, xp_30, xp_31, xp_32, xp_33, xp_34, xp_35, xp_36, xp_37, xp_38, xp_39, xp_40, xp_41, xp_42, xp_43, xp_50, xp_51, xp_52, xp_53, xp_60, xp_61, xp_62, xp_63, xp_64, xp_65, xp_70, xp_80, xp_81, xp_82, up_ne, up_s, ud_s, ud_o, xw_0, xw_1, xg_0, xg_1, xl_i, xl_r, xs_0, xs_1, xq_i, xq_r, xq_v, xc_0, xc_1, xt_0, xt_1, xr_0, xr_1, xr_2, xe_0, xe_1, ob_0, ob_18, ob_36, ob_54, ak_55, ln_55, cq_55, ak_56, ln_56, cq_56, ob_57, ak_58, ln_58, cq_58, ak_59, ln_59, cq_59, ob_60, ak_61, ln_61, cq_61, ak_62, ln_62, cq_62, ob_63, ak_64, ln_64, cq_64, ak_65, ln_65, cq_65, ak_66, ln_66, cq_66, ak_67, ln_67, cq_67, ak_68, ln_68, cq_68, ak_69, ln_69, cq_69, ak_70, ln_70, cq_70, ak_71, ln_71, cq_71, ak_72, ln_72, cq_72, ak_73, ln_73, cq_73, pt_54_0, pt_54_1, pt_57_0, pt_57_3, pt_60_0, pt_60_1, pt_60_2, pt_60_4, pt_60_5, pt_60_6, pt_60_8, pt_63_0, pt_63_1, pt_63_2, pt_63_3, pt_63_4, pt_63_6, pt_63_7, pt_63_10, pt_63_11, pt_63_17, true_and, and_true, List.length_cons, List.length_nil, Nat.reduceAdd, Nat.reduceLeDiff, forall_eq, ne_eq, Nat.reduceEqDiff, not_false_eq_true, or_false, false_or, or_true, true_or, reduceCtorEq, Nat.zero_le, Nat.reduceMul, Nat.add_zero, false_and, and_false, false_implies, true_implies, forall_const, implies_true, List.append_nil, List.nil_append, List.cons_append, mb_i, mb_ii, mb_iii, mb_r, mb_ri, mb_rii, mb_riii, mb_rr, mb_rri, mb_rrii, mb_rriii, mb_riiiii, mb_rrr, mb_rir, mb_iiii, mb_riiii, tn_0, tn_1, tn_2, tn_3, tn_4, tn_5, tn_6, tc_0, tc_1, tc_2, tc_3, tc_4, tc_5, tc_6, xf_0, xf_1, xf_2, Sum.inl.injEq, Sum.inr.injEq, C_M_isIn, C_M_readsNumber, C_M_sign, nI_1])
        unfold s_pn
        rw [← he]
        refine ⟨?_, wP_7 (wP_9 (wP_r M) _) _ _⟩
        rw [if_neg hge]
    induction f with
    | zero =>
      intro c p v hc hp1 hp2 he
      have h70 := fin c p v he
      (refine b_10 _ _ _ ?_; simp only [k_X7_readsNumber_0, k_X7_readsNumber_10, k_X7_readsNumber_70, k_X7_readsNumber_80, k_X7_readsNumber_81, xp_1, xp_2, xp_3, xp_4, xp_5, xp_6, xp_7, xp_10, xp_11, xp_12, xp_13, xp_14, xp_15, xp_16, xp_17, xp_18, xp_19, xp_20, xp_21, xp_22, xp_23, xp_30, xp_31, xp_32, xp_33, xp_34, xp_35, xp_36, xp_37, xp_38, xp_39, xp_40, xp_41, xp_42, xp_43, xp_50, xp_51, xp_52, xp_53, xp_60, xp_61, xp_62, xp_63, xp_64, xp_65, xp_70, xp_80, xp_81, xp_82, up_ne, up_s, ud_s, ud_o, xw_0, xw_1, xg_0, xg_1, xl_i, xl_r, xs_0, xs_1, xq_i, xq_r, xq_v, xc_0, xc_1, xt_0, xt_1, xr_0, xr_1, xr_2, xe_0, xe_1, ob_0, ob_18, ob_36, ob_54, ak_55, ln_55, cq_55, ak_56, ln_56, cq_56, ob_57, ak_58, ln_58, cq_58, ak_59, ln_59, cq_59, ob_60, ak_61, ln_61, cq_61, ak_62, ln_62, cq_62, ob_63, ak_64, ln_64, cq_64, ak_65, ln_65, cq_65, ak_66, ln_66, cq_66, ak_67, ln_67, cq_67, ak_68, ln_68, cq_68, ak_69, ln_69, cq_69, ak_70, ln_70, cq_70, ak_71, ln_71, cq_71, ak_72, ln_72, cq_72, ak_73, ln_73, cq_73, pt_54_0, pt_54_1, pt_57_0, pt_57_3, pt_60_0, pt_60_1, pt_60_2, pt_60_4, pt_60_5, pt_60_6, pt_60_8, pt_63_0, pt_63_1, pt_63_2, pt_63_3, pt_63_4, pt_63_6, pt_63_7, pt_63_10, pt_63_11, pt_63_17, true_and, and_true, List.length_cons, List.length_nil, Nat.reduceAdd, Nat.reduceLeDiff, forall_eq, ne_eq, Nat.reduceEqDiff, not_false_eq_true, or_false, false_or, or_true, true_or, reduceCtorEq, Nat.zero_le, Nat.reduceMul, Nat.add_zero, false_and, and_false, false_implies, true_implies, forall_const, implies_true, List.append_nil, List.nil_append, List.cons_append, mb_i, mb_ii, mb_iii, mb_r, mb_ri, mb_rii, mb_riii, mb_rr, mb_rri, mb_rrii, mb_rriii, mb_riiiii, mb_rrr, mb_rir, mb_iiii, mb_riiii, tn_0, tn_1, tn_2, tn_3, tn_4, tn_5, tn_6, tc_0, tc_1, tc_2, tc_3, tc_4, tc_5, tc_6, xf_0, xf_1, xf_2, Sum.inl.injEq, Sum.inr.injEq, C_M_isIn, C_M_readsNumber, C_M_sign, nI_1])
      exact ⟨fun _ => h70, fun hlt => absurd hlt (by rw [ti_lt, ti_nI (by omega)]; omega)⟩
    | succ f ih =>
      intro c p v hc hp1 hp2 he
      rw [s_nv] at he
      have e1 : (1 : Int32).toInt = 1 := rfl
      (refine b_10 _ _ _ ?_; simp only [k_X7_readsNumber_0, k_X7_readsNumber_10, k_X7_readsNumber_70, k_X7_readsNumber_80, k_X7_readsNumber_81, xp_1, xp_2, xp_3, xp_4, xp_5, xp_6, xp_7, xp_10, xp_11, xp_12, xp_13, xp_14, xp_15, xp_16, xp_17, xp_18, xp_19, xp_20, xp_21, xp_22, xp_23, xp_30, xp_31, xp_32, xp_33, xp_34, xp_35, xp_36, xp_37, xp_38, xp_39, xp_40, xp_41, xp_42, xp_43, xp_50, xp_51, xp_52, xp_53, xp_60, xp_61, xp_62, xp_63, xp_64, xp_65, xp_70, xp_80, xp_81, xp_82, up_ne, up_s, ud_s, ud_o, xw_0, xw_1, xg_0, xg_1, xl_i, xl_r, xs_0, xs_1, xq_i, xq_r, xq_v, xc_0, xc_1, xt_0, xt_1, xr_0, xr_1, xr_2, xe_0, xe_1, ob_0, ob_18, ob_36, ob_54, ak_55, ln_55, cq_55, ak_56, ln_56, cq_56, ob_57, ak_58, ln_58, cq_58, ak_59, ln_59, cq_59, ob_60, ak_61, ln_61, cq_61, ak_62, ln_62, cq_62, ob_63, ak_64, ln_64, cq_64, ak_65, ln_65, cq_65, ak_66, ln_66, cq_66, ak_67, ln_67, cq_67, ak_68, ln_68, cq_68, ak_69, ln_69, cq_69, ak_70, ln_70, cq_70, ak_71, ln_71, cq_71, ak_72, ln_72, cq_72, ak_73, ln_73, cq_73, pt_54_0, pt_54_1, pt_57_0, pt_57_3, pt_60_0, pt_60_1, pt_60_2, pt_60_4, pt_60_5, pt_60_6, pt_60_8, pt_63_0, pt_63_1, pt_63_2, pt_63_3, pt_63_4, pt_63_6, pt_63_7, pt_63_10, pt_63_11, pt_63_17, true_and, and_true, List.length_cons, List.length_nil, Nat.reduceAdd, Nat.reduceLeDiff, forall_eq, ne_eq, Nat.reduceEqDiff, not_false_eq_true, or_false, false_or, or_true, true_or, reduceCtorEq, Nat.zero_le, Nat.reduceMul, Nat.add_zero, false_and, and_false, false_implies, true_implies, forall_const, implies_true, List.append_nil, List.nil_append, List.cons_append, mb_i, mb_ii, mb_iii, mb_r, mb_ri, mb_rii, mb_riii, mb_rr, mb_rri, mb_rrii, mb_rriii, mb_riiiii, mb_rrr, mb_rir, mb_iiii, mb_riiii, tn_0, tn_1, tn_2, tn_3, tn_4, tn_5, tn_6, tc_0, tc_1, tc_2, tc_3, tc_4, tc_5, tc_6, xf_0, xf_1, xf_2, Sum.inl.injEq, Sum.inr.injEq, C_M_isIn, C_M_readsNumber, C_M_sign, nI_1])
      refine ⟨fun hge => absurd (by rw [ti_lt, ti_nI (by omega)]; omega) hge, fun _ => ⟨⟨h1, hp1⟩, fun hz => ?_, fun hnz => ⟨?_, ⟨h1, hp1⟩, ?_, ?_⟩⟩⟩
      · rw [if_pos hz] at he
        exact fin c p v he
      · exact hk
      · exact hk
      · rw [if_neg hnz] at he
        have hlt : p < M 63 8 := sg_lt (fun e => hnz (by rw [e]; decide))
        rw [ti_lt] at hlt
        have hn := h1.2
        have ep : (p + 1).toInt = p.toInt + 1 := by rw [ti_add (by omega) (by omega), e1]
        refine mv_eq (ih (c + 1) (p + 1) _ (by omega) (by omega) (by omega) he) rfl rfl ?_
        rw [ek, up_up, up_7 _ (by decide), up_up]
  (refine b_0 _ _ _ ?_; simp only [k_X7_readsNumber_0, k_X7_readsNumber_10, k_X7_readsNumber_70, k_X7_readsNumber_80, k_X7_readsNumber_81, xp_1, xp_2, xp_3, xp_4, xp_5, xp_6, xp_7, xp_10, xp_11, xp_12, xp_13, xp_14, xp_15, xp_16, xp_17, xp_18, xp_19, xp_20, xp_21, xp_22, xp_23, xp_30, xp_31, xp_32, xp_33, xp_34, xp_35, xp_36, xp_37, xp_38, xp_39, xp_40, xp_41, xp_42, xp_43, xp_50, xp_51, xp_52, xp_53, xp_60, xp_61, xp_62, xp_63, xp_64, xp_65, xp_70, xp_80, xp_81, xp_82, up_ne, up_s, ud_s, ud_o, xw_0, xw_1, xg_0, xg_1, xl_i, xl_r, xs_0, xs_1, xq_i, xq_r, xq_v, xc_0, xc_1, xt_0, xt_1, xr_0, xr_1, xr_2, xe_0, xe_1, ob_0, ob_18, ob_36, ob_54, ak_55, ln_55, cq_55, ak_56, ln_56, cq_56, ob_57, ak_58, ln_58, cq_58, ak_59, ln_59, cq_59, ob_60, ak_61, ln_61, cq_61, ak_62, ln_62, cq_62, ob_63, ak_64, ln_64, cq_64, ak_65, ln_65, cq_65, ak_66, ln_66, cq_66, ak_67, ln_67, cq_67, ak_68, ln_68, cq_68, ak_69, ln_69, cq_69, ak_70, ln_70, cq_70, ak_71, ln_71, cq_71, ak_72, ln_72, cq_72, ak_73, ln_73, cq_73, pt_54_0, pt_54_1, pt_57_0, pt_57_3, pt_60_0, pt_60_1, pt_60_2, pt_60_4, pt_60_5, pt_60_6, pt_60_8, pt_63_0, pt_63_1, pt_63_2, pt_63_3, pt_63_4, pt_63_6, pt_63_7, pt_63_10, pt_63_11, pt_63_17, true_and, and_true, List.length_cons, List.length_nil, Nat.reduceAdd, Nat.reduceLeDiff, forall_eq, ne_eq, Nat.reduceEqDiff, not_false_eq_true, or_false, false_or, or_true, true_or, reduceCtorEq, Nat.zero_le, Nat.reduceMul, Nat.add_zero, false_and, and_false, false_implies, true_implies, forall_const, implies_true, List.append_nil, List.nil_append, List.cons_append, mb_i, mb_ii, mb_iii, mb_r, mb_ri, mb_rii, mb_riii, mb_rr, mb_rri, mb_rrii, mb_rriii, mb_riiiii, mb_rrr, mb_rir, mb_iiii, mb_riiii, tn_0, tn_1, tn_2, tn_3, tn_4, tn_5, tn_6, tc_0, tc_1, tc_2, tc_3, tc_4, tc_5, tc_6, xf_0, xf_1, xf_2, Sum.inl.injEq, Sum.inr.injEq, C_M_isIn, C_M_readsNumber, C_M_sign, nI_1])
  refine ⟨hk, ?_⟩
  refine mv_eq (loop (tn most) 0 (M 63 9) 0 (by omega) h2 h3 rfl) rfl rfl ?_
  funext b i
  unfold mj_up
  by_cases hb : b = 63 ∧ i = 9
  · obtain ⟨rfl, rfl⟩ := hb
    simp
  · simp [hb, ek]

def C_M_sleeperOf : mj_C := (1, 1, fun avs M => ma_i avs fun c => (True), fun avs M r M' => ma_i avs fun c => (r = .inl (s_ks c) ∧ M' = M))
set_option maxRecDepth 20000 in
set_option maxHeartbeats 2000000 in
theorem t_M_sleeperOf : mj_T yX7_sleeperOf cX7_sleeperOf 1 (some .int) 0 C_M_sleeperOf := by
  refine mj_T_of (own := 7) (rk := 1) [] (by decide) rfl (by decide) ⟨rfl, rfl⟩ (fun _ h => absurd h List.not_mem_nil) ?_
  intro avs M hlen hpre V hV
  obtain ⟨c, rfl, hp⟩ := mc_i hpre
  show V 0 [some (.inl c)] [] M
  have b_0 := hV h_X7_sleeperOf_0; have b_10 := hV h_X7_sleeperOf_10; have b_20 := hV h_X7_sleeperOf_20; have b_30 := hV h_X7_sleeperOf_30; have b_40 := hV h_X7_sleeperOf_40; have b_50 := hV h_X7_sleeperOf_50; have b_60 := hV h_X7_sleeperOf_60; have b_62 := hV h_X7_sleeperOf_62
  clear hlen hpre hV
  repeat' (first | (with_reducible refine And.intro ?_ ?_) | (with_reducible intro _) | ((first | refine b_0 _ _ _ ?_ | refine b_10 _ _ _ ?_ | refine b_20 _ _ _ ?_ | refine b_30 _ _ _ ?_ | refine b_40 _ _ _ ?_ | refine b_50 _ _ _ ?_ | refine b_60 _ _ _ ?_ | refine b_62 _ _ _ ?_); simp only [k_X7_sleeperOf_0, k_X7_sleeperOf_10, k_X7_sleeperOf_20, k_X7_sleeperOf_30, k_X7_sleeperOf_40, k_X7_sleeperOf_50, k_X7_sleeperOf_60, k_X7_sleeperOf_62, xp_1, xp_2, xp_3, xp_4, xp_5, xp_6, xp_7, xp_10, xp_11, xp_12, xp_13, xp_14, xp_15, xp_16, xp_17, xp_18, xp_19, xp_20, xp_21, xp_22, xp_23, xp_30, xp_31, xp_32, xp_33, xp_34, xp_35, xp_36, xp_37, xp_38, xp_39, xp_40, xp_41, xp_42, xp_43, xp_50, xp_51, xp_52, xp_53, xp_60, xp_61, xp_62, xp_63, xp_64, xp_65, xp_70, xp_80, xp_81, xp_82, up_ne, up_s, ud_s, ud_o, xw_0, xw_1, xg_0, xg_1, xl_i, xl_r, xs_0, xs_1, xq_i, xq_r, xq_v, xc_0, xc_1, xt_0, xt_1, xr_0, xr_1, xr_2, xe_0, xe_1, ob_0, ob_18, ob_36, ob_54, ak_55, ln_55, cq_55, ak_56, ln_56, cq_56, ob_57, ak_58, ln_58, cq_58, ak_59, ln_59, cq_59, ob_60, ak_61, ln_61, cq_61, ak_62, ln_62, cq_62, ob_63, ak_64, ln_64, cq_64, ak_65, ln_65, cq_65, ak_66, ln_66, cq_66, ak_67, ln_67, cq_67, ak_68, ln_68, cq_68, ak_69, ln_69, cq_69, ak_70, ln_70, cq_70, ak_71, ln_71, cq_71, ak_72, ln_72, cq_72, ak_73, ln_73, cq_73, pt_54_0, pt_54_1, pt_57_0, pt_57_3, pt_60_0, pt_60_1, pt_60_2, pt_60_4, pt_60_5, pt_60_6, pt_60_8, pt_63_0, pt_63_1, pt_63_2, pt_63_3, pt_63_4, pt_63_6, pt_63_7, pt_63_10, pt_63_11, pt_63_17, true_and, and_true, List.length_cons, List.length_nil, Nat.reduceAdd, Nat.reduceLeDiff, forall_eq, ne_eq, Nat.reduceEqDiff, not_false_eq_true, or_false, false_or, or_true, true_or, reduceCtorEq, Nat.zero_le, Nat.reduceMul, Nat.add_zero, false_and, and_false, false_implies, true_implies, forall_const, implies_true, List.append_nil, List.nil_append, List.cons_append, mb_i, mb_ii, mb_iii, mb_r, mb_ri, mb_rii, mb_riii, mb_rr, mb_rri, mb_rrii, mb_rriii, mb_riiiii, mb_rrr, mb_rir, mb_iiii, mb_riiii, tn_0, tn_1, tn_2, tn_3, tn_4, tn_5, tn_6, tc_0, tc_1, tc_2, tc_3, tc_4, tc_5, tc_6, xf_0, xf_1, xf_2, Sum.inl.injEq, Sum.inr.injEq, C_M_sleeperOf]))
  all_goals clear b_0 b_10 b_20 b_30 b_40 b_50 b_60 b_62
  all_goals simp [s_ks, *]

def C_M_clockOf : mj_C := (1, 1, fun avs M => ma_i avs fun c => (True), fun avs M r M' => ma_i avs fun c => (r = .inl (s_kc c) ∧ M' = M))
set_option maxRecDepth 20000 in
set_option maxHeartbeats 2000000 in
theorem t_M_clockOf : mj_T yX7_clockOf cX7_clockOf 1 (some .int) 0 C_M_clockOf := by
  refine mj_T_of (own := 7) (rk := 1) [] (by decide) rfl (by decide) ⟨rfl, rfl⟩ (fun _ h => absurd h List.not_mem_nil) ?_
  intro avs M hlen hpre V hV
  obtain ⟨c, rfl, hp⟩ := mc_i hpre
  show V 0 [some (.inl c)] [] M
  have b_0 := hV h_X7_clockOf_0; have b_10 := hV h_X7_clockOf_10; have b_20 := hV h_X7_clockOf_20; have b_30 := hV h_X7_clockOf_30; have b_40 := hV h_X7_clockOf_40; have b_50 := hV h_X7_clockOf_50; have b_60 := hV h_X7_clockOf_60; have b_62 := hV h_X7_clockOf_62
  clear hlen hpre hV
  repeat' (first | (with_reducible refine And.intro ?_ ?_) | (with_reducible intro _) | ((first | refine b_0 _ _ _ ?_ | refine b_10 _ _ _ ?_ | refine b_20 _ _ _ ?_ | refine b_30 _ _ _ ?_ | refine b_40 _ _ _ ?_ | refine b_50 _ _ _ ?_ | refine b_60 _ _ _ ?_ | refine b_62 _ _ _ ?_); simp only [k_X7_clockOf_0, k_X7_clockOf_10, k_X7_clockOf_20, k_X7_clockOf_30, k_X7_clockOf_40, k_X7_clockOf_50, k_X7_clockOf_60, k_X7_clockOf_62, xp_1, xp_2, xp_3, xp_4, xp_5, xp_6, xp_7, xp_10, xp_11, xp_12, xp_13, xp_14, xp_15, xp_16, xp_17, xp_18, xp_19, xp_20, xp_21, xp_22, xp_23, xp_30, xp_31, xp_32, xp_33, xp_34, xp_35, xp_36, xp_37, xp_38, xp_39, xp_40, xp_41, xp_42, xp_43, xp_50, xp_51, xp_52, xp_53, xp_60, xp_61, xp_62, xp_63, xp_64, xp_65, xp_70, xp_80, xp_81, xp_82, up_ne, up_s, ud_s, ud_o, xw_0, xw_1, xg_0, xg_1, xl_i, xl_r, xs_0, xs_1, xq_i, xq_r, xq_v, xc_0, xc_1, xt_0, xt_1, xr_0, xr_1, xr_2, xe_0, xe_1, ob_0, ob_18, ob_36, ob_54, ak_55, ln_55, cq_55, ak_56, ln_56, cq_56, ob_57, ak_58, ln_58, cq_58, ak_59, ln_59, cq_59, ob_60, ak_61, ln_61, cq_61, ak_62, ln_62, cq_62, ob_63, ak_64, ln_64, cq_64, ak_65, ln_65, cq_65, ak_66, ln_66, cq_66, ak_67, ln_67, cq_67, ak_68, ln_68, cq_68, ak_69, ln_69, cq_69, ak_70, ln_70, cq_70, ak_71, ln_71, cq_71, ak_72, ln_72, cq_72, ak_73, ln_73, cq_73, pt_54_0, pt_54_1, pt_57_0, pt_57_3, pt_60_0, pt_60_1, pt_60_2, pt_60_4, pt_60_5, pt_60_6, pt_60_8, pt_63_0, pt_63_1, pt_63_2, pt_63_3, pt_63_4, pt_63_6, pt_63_7, pt_63_10, pt_63_11, pt_63_17, true_and, and_true, List.length_cons, List.length_nil, Nat.reduceAdd, Nat.reduceLeDiff, forall_eq, ne_eq, Nat.reduceEqDiff, not_false_eq_true, or_false, false_or, or_true, true_or, reduceCtorEq, Nat.zero_le, Nat.reduceMul, Nat.add_zero, false_and, and_false, false_implies, true_implies, forall_const, implies_true, List.append_nil, List.nil_append, List.cons_append, mb_i, mb_ii, mb_iii, mb_r, mb_ri, mb_rii, mb_riii, mb_rr, mb_rri, mb_rrii, mb_rriii, mb_riiiii, mb_rrr, mb_rir, mb_iiii, mb_riiii, tn_0, tn_1, tn_2, tn_3, tn_4, tn_5, tn_6, tc_0, tc_1, tc_2, tc_3, tc_4, tc_5, tc_6, xf_0, xf_1, xf_2, Sum.inl.injEq, Sum.inr.injEq, C_M_clockOf]))
  all_goals clear b_0 b_10 b_20 b_30 b_40 b_50 b_60 b_62
  all_goals simp [s_kc, *]

def C_M_readsKind : mj_C := (2, rk1, fun avs M => ma_ri avs fun a kind => (a = 63 ∧ pP M), fun avs M r M' => ma_ri avs fun a kind => (r = .inl (s_pk kind (M 63 9) 0 (M 70)).1 ∧ wP M M' (s_pk kind (M 63 9) 0 (M 70)).2.1 (s_pk kind (M 63 9) 0 (M 70)).2.2))
theorem rc_M_readsKind : ∀ avs M, C_M_readsKind.2.2.1 avs M → ∃ a r, avs = .inr a :: r ∧ mj_ob a = 7 := by
  intro avs M h
  obtain ⟨a, kind, rfl, h⟩ := mc_ri h
  exact ⟨_, _, rfl, by rw [h.1]; rfl⟩
set_option maxRecDepth 20000 in
set_option maxHeartbeats 2000000 in
theorem t_M_readsKind : mj_T yX7_readsKind cX7_readsKind 2 (some .boolean) 0 C_M_readsKind := by
  refine mj_T_of (own := 7) (rk := 3) [] (by decide) rfl (by decide) ⟨rfl, rfl, rfl⟩ (fun _ h => absurd h List.not_mem_nil) ?_
  intro avs M hlen hpre V hV
  obtain ⟨a, kind, rfl, hp⟩ := mc_ri hpre
  show V 0 [some (.inr a), some (.inl kind)] [] M
  have b_0 := hV h_X7_readsKind_0; have b_13 := hV h_X7_readsKind_13
  clear hlen hpre hV
  obtain ⟨rfl, hpp⟩ := hp
  (refine b_0 _ _ _ ?_; simp only [k_X7_readsKind_0, k_X7_readsKind_13, xp_1, xp_2, xp_3, xp_4, xp_5, xp_6, xp_7, xp_10, xp_11, xp_12, xp_13, xp_14, xp_15, xp_16, xp_17, xp_18, xp_19, xp_20, xp_21, xp_22, xp_23, xp_30, xp_31, xp_32, xp_33, xp_34, xp_35, xp_36, xp_37, xp_38, xp_39, xp_40, xp_41, xp_42, xp_43, xp_50, xp_51, xp_52, xp_53, xp_60, xp_61, xp_62, xp_63, xp_64, xp_65, xp_70, xp_80, xp_81, xp_82, up_ne, up_s, ud_s, ud_o, xw_0, xw_1, xg_0, xg_1, xl_i, xl_r, xs_0, xs_1, xq_i, xq_r, xq_v, xc_0, xc_1, xt_0, xt_1, xr_0, xr_1, xr_2, xe_0, xe_1, ob_0, ob_18, ob_36, ob_54, ak_55, ln_55, cq_55, ak_56, ln_56, cq_56, ob_57, ak_58, ln_58, cq_58, ak_59, ln_59, cq_59, ob_60, ak_61, ln_61, cq_61, ak_62, ln_62, cq_62, ob_63, ak_64, ln_64, cq_64, ak_65, ln_65, cq_65, ak_66, ln_66, cq_66, ak_67, ln_67, cq_67, ak_68, ln_68, cq_68, ak_69, ln_69, cq_69, ak_70, ln_70, cq_70, ak_71, ln_71, cq_71, ak_72, ln_72, cq_72, ak_73, ln_73, cq_73, pt_54_0, pt_54_1, pt_57_0, pt_57_3, pt_60_0, pt_60_1, pt_60_2, pt_60_4, pt_60_5, pt_60_6, pt_60_8, pt_63_0, pt_63_1, pt_63_2, pt_63_3, pt_63_4, pt_63_6, pt_63_7, pt_63_10, pt_63_11, pt_63_17, true_and, and_true, List.length_cons, List.length_nil, Nat.reduceAdd, Nat.reduceLeDiff, forall_eq, ne_eq, Nat.reduceEqDiff, not_false_eq_true, or_false, false_or, or_true, true_or, reduceCtorEq, Nat.zero_le, Nat.reduceMul, Nat.add_zero, false_and, and_false, false_implies, true_implies, forall_const, implies_true, List.append_nil, List.nil_append, List.cons_append, mb_i, mb_ii, mb_iii, mb_r, mb_ri, mb_rii, mb_riii, mb_rr, mb_rri, mb_rrii, mb_rriii, mb_riiiii, mb_rrr, mb_rir, mb_iiii, mb_riiii, tn_0, tn_1, tn_2, tn_3, tn_4, tn_5, tn_6, tc_0, tc_1, tc_2, tc_3, tc_4, tc_5, tc_6, xf_0, xf_1, xf_2, Sum.inl.injEq, Sum.inr.injEq, C_M_readsKind])
  unfold s_pk
  refine ⟨vi_0, fun h => ?_, fun h => ?_⟩
  · (refine b_13 _ _ _ ?_; simp only [k_X7_readsKind_0, k_X7_readsKind_13, xp_1, xp_2, xp_3, xp_4, xp_5, xp_6, xp_7, xp_10, xp_11, xp_12, xp_13, xp_14, xp_15, xp_16, xp_17, xp_18, xp_19, xp_20, xp_21, xp_22, xp_23, xp_30, xp_31, xp_32, xp_33, xp_34, xp_35, xp_36, xp_37, xp_38, xp_39, xp_40, xp_41, xp_42, xp_43, xp_50, xp_51, xp_52, xp_53, xp_60, xp_61, xp_62, xp_63, xp_64, xp_65, xp_70, xp_80, xp_81, xp_82, up_ne, up_s, ud_s, ud_o, xw_0, xw_1, xg_0, xg_1, xl_i, xl_r, xs_0, xs_1, xq_i, xq_r, xq_v, xc_0, xc_1, xt_0, xt_1, xr_0, xr_1, xr_2, xe_0, xe_1, ob_0, ob_18, ob_36, ob_54, ak_55, ln_55, cq_55, ak_56, ln_56, cq_56, ob_57, ak_58, ln_58, cq_58, ak_59, ln_59, cq_59, ob_60, ak_61, ln_61, cq_61, ak_62, ln_62, cq_62, ob_63, ak_64, ln_64, cq_64, ak_65, ln_65, cq_65, ak_66, ln_66, cq_66, ak_67, ln_67, cq_67, ak_68, ln_68, cq_68, ak_69, ln_69, cq_69, ak_70, ln_70, cq_70, ak_71, ln_71, cq_71, ak_72, ln_72, cq_72, ak_73, ln_73, cq_73, pt_54_0, pt_54_1, pt_57_0, pt_57_3, pt_60_0, pt_60_1, pt_60_2, pt_60_4, pt_60_5, pt_60_6, pt_60_8, pt_63_0, pt_63_1, pt_63_2, pt_63_3, pt_63_4, pt_63_6, pt_63_7, pt_63_10, pt_63_11, pt_63_17, true_and, and_true, List.length_cons, List.length_nil, Nat.reduceAdd, Nat.reduceLeDiff, forall_eq, ne_eq, Nat.reduceEqDiff, not_false_eq_true, or_false, false_or, or_true, true_or, reduceCtorEq, Nat.zero_le, Nat.reduceMul, Nat.add_zero, false_and, and_false, false_implies, true_implies, forall_const, implies_true, List.append_nil, List.nil_append, List.cons_append, mb_i, mb_ii, mb_iii, mb_r, mb_ri, mb_rii, mb_riii, mb_rr, mb_rri, mb_rrii, mb_rriii, mb_riiiii, mb_rrr, mb_rir, mb_iiii, mb_riiii, tn_0, tn_1, tn_2, tn_3, tn_4, tn_5, tn_6, tc_0, tc_1, tc_2, tc_3, tc_4, tc_5, tc_6, xf_0, xf_1, xf_2, Sum.inl.injEq, Sum.inr.injEq, C_M_readsKind])
    unfold s_pk
    rw [if_neg h]
    exact ⟨rfl, wP_9 (wP_7 (wP_r M) _ _) _⟩
  · rw [if_pos h]
    exact ⟨rfl, wP_7 (wP_r M) _ _⟩

theorem oP_lo {M M1 : mj_M} {n p : Int32} {x : Int32 × Int32 × (Nat → Int32)} {q : Nat → Int32} (_ : wP M M1 x.2.1 q) (h : oP n p x) : p.toInt ≤ x.2.1.toInt := h.1
theorem oP_hi {M M1 : mj_M} {n p : Int32} {x : Int32 × Int32 × (Nat → Int32)} {q : Nat → Int32} (_ : wP M M1 x.2.1 q) (h : oP n p x) : x.2.1.toInt ≤ n.toInt := h.2
def C_M_readsStatement : mj_C := (1, rk1, fun avs M => ma_r avs fun a => (a = 63 ∧ pP M), fun avs M r M' => ma_r avs fun a => (r = .inl (s_st (M 69) (M 63 8) (M 63 9) (M 70)).1 ∧ wP M M' (s_st (M 69) (M 63 8) (M 63 9) (M 70)).2.1 (s_st (M 69) (M 63 8) (M 63 9) (M 70)).2.2))
theorem rc_M_readsStatement : ∀ avs M, C_M_readsStatement.2.2.1 avs M → ∃ a r, avs = .inr a :: r ∧ mj_ob a = 7 := by
  intro avs M h
  obtain ⟨a, rfl, h⟩ := mc_r h
  exact ⟨_, _, rfl, by rw [h.1]; rfl⟩
set_option maxRecDepth 20000 in
set_option maxHeartbeats 2000000 in
theorem t_M_readsStatement : mj_T yX7_readsStatement cX7_readsStatement 3 (some .boolean) 2 C_M_readsStatement := by
  refine mj_T_of (own := 7) (rk := 3) [(192, C_M_sign), (206, C_M_sleeperOf), (213, C_M_readsKind), (225, C_M_readsNumber), (237, C_M_takes), (248, C_M_clockOf)] (by decide) rfl (by decide) ⟨rfl, rfl, rfl⟩ (List.forall_mem_cons.mpr ⟨mj_KV (own := 7) (nest := false) t_M_sign ⟨wc_X7_sign, wi_X7, by decide, wl_7_64⟩ wn_X7_sign ws_X7_sign (c0 := 7) (by decide) rfl (by decide +kernel) rc_M_sign (by decide), (List.forall_mem_cons.mpr ⟨mj_KS (own := 7) (nest := false) t_M_sleeperOf ⟨wc_X7_sleeperOf, wi_X7, by decide, wl_7_68⟩ wn_X7_sleeperOf (by decide +kernel) (by decide), (List.forall_mem_cons.mpr ⟨mj_KV (own := 7) (nest := false) t_M_readsKind ⟨wc_X7_readsKind, wi_X7, by decide, wl_7_71⟩ wn_X7_readsKind ws_X7_readsKind (c0 := 7) (by decide) rfl (by decide +kernel) rc_M_readsKind (by decide), (List.forall_mem_cons.mpr ⟨mj_KV (own := 7) (nest := false) t_M_readsNumber ⟨wc_X7_readsNumber, wi_X7, by decide, wl_7_75⟩ wn_X7_readsNumber ws_X7_readsNumber (c0 := 7) (by decide) rfl (by decide +kernel) rc_M_readsNumber (by decide), (List.forall_mem_cons.mpr ⟨mj_KV (own := 7) (nest := false) t_M_takes ⟨wc_X7_takes, wi_X7, by decide, wl_7_79⟩ wn_X7_takes ws_X7_takes (c0 := 7) (by decide) rfl (by decide +kernel) rc_M_takes (by decide), (List.forall_mem_cons.mpr ⟨mj_KS (own := 7) (nest := false) t_M_clockOf ⟨wc_X7_clockOf, wi_X7, by decide, wl_7_82⟩ wn_X7_clockOf (by decide +kernel) (by decide), (fun _ h => absurd h List.not_mem_nil)⟩)⟩)⟩)⟩)⟩)⟩) ?_
  intro avs M hlen hpre V hV
  obtain ⟨a, rfl, hp⟩ := mc_r hpre
  show V 0 [some (.inr a), none, none] [] M
  have b_0 := hV h_X7_readsStatement_0; have b_68 := hV h_X7_readsStatement_68; have b_134 := hV h_X7_readsStatement_134; have b_135 := hV h_X7_readsStatement_135; have b_139 := hV h_X7_readsStatement_139; have b_224 := hV h_X7_readsStatement_224; have b_225 := hV h_X7_readsStatement_225; have b_229 := hV h_X7_readsStatement_229; have b_262 := hV h_X7_readsStatement_262; have b_263 := hV h_X7_readsStatement_263; have b_267 := hV h_X7_readsStatement_267; have b_278 := hV h_X7_readsStatement_278; have b_289 := hV h_X7_readsStatement_289; have b_301 := hV h_X7_readsStatement_301; have b_318 := hV h_X7_readsStatement_318; have b_319 := hV h_X7_readsStatement_319
  clear hlen hpre hV
  obtain ⟨rfl, hpp⟩ := hp
  obtain ⟨c, hc⟩ : ∃ c, c = s_sg (M 69) (M 63 8) (M 63 9) := ⟨_, rfl⟩
  have h68 : ∀ (M1 : mj_M) (p : Int32), wP M M1 p (M 70) → 0 ≤ p.toInt → p.toInt ≤ (M 63 8).toInt → (∀ (x : Int32) (M2 : mj_M), (x = 0 ↔ (s_xs (M 69) (M 63 8) p (M 70)).1 = 0) → wP M M2 (s_xs (M 69) (M 63 8) p (M 70)).2.1 (s_xs (M 69) (M 63 8) p (M 70)).2.2 → V 135 [some (.inr 63), some (.inl c), some (.inl 0)] [.inl x] M2) → V 68 [some (.inr 63), some (.inl c), some (.inl 0)] [] M1 := by
    intro M1 p w1 g1 g2 hend
    obtain ⟨R, hR⟩ : ∃ R, R = s_xs (M 69) (M 63 8) p (M 70) := ⟨_, rfl⟩
    rw [← hR] at hend
    have hfail : ∀ (M2 : mj_M), R.1 = 0 → wP M M2 R.2.1 R.2.2 → V 134 [some (.inr 63), some (.inl c), some (.inl 0)] [] M2 := by
      intro M2 h0 hw
      (refine b_134 _ _ _ ?_; simp only [k_X7_readsStatement_0, k_X7_readsStatement_68, k_X7_readsStatement_134, k_X7_readsStatement_135, k_X7_readsStatement_139, k_X7_readsStatement_224, k_X7_readsStatement_225, k_X7_readsStatement_229, k_X7_readsStatement_262, k_X7_readsStatement_263, k_X7_readsStatement_267, k_X7_readsStatement_278, k_X7_readsStatement_289, k_X7_readsStatement_301, k_X7_readsStatement_318, k_X7_readsStatement_319, xp_1, xp_2, xp_3, xp_4, xp_5, xp_6, xp_7, xp_10, xp_11, xp_12, xp_13, xp_14, xp_15, xp_16, xp_17, xp_18, xp_19, xp_20, xp_21, xp_22, xp_23, xp_30, xp_31, xp_32, xp_33, xp_34, xp_35, xp_36, xp_37, xp_38, xp_39, xp_40, xp_41, xp_42, xp_43, xp_50, xp_51, xp_52, xp_53, xp_60, xp_61, xp_62, xp_63, xp_64, xp_65, xp_70, xp_80, xp_81, xp_82, up_ne, up_s, ud_s, ud_o, xw_0, xw_1, xg_0, xg_1, xl_i, xl_r, xs_0, xs_1, xq_i, xq_r, xq_v, xc_0, xc_1, xt_0, xt_1, xr_0, xr_1, xr_2, xe_0, xe_1, ob_0, ob_18, ob_36, ob_54, ak_55, ln_55, cq_55, ak_56, ln_56, cq_56, ob_57, ak_58, ln_58, cq_58, ak_59, ln_59, cq_59, ob_60, ak_61, ln_61, cq_61, ak_62, ln_62, cq_62, ob_63, ak_64, ln_64, cq_64, ak_65, ln_65, cq_65, ak_66, ln_66, cq_66, ak_67, ln_67, cq_67, ak_68, ln_68, cq_68, ak_69, ln_69, cq_69, ak_70, ln_70, cq_70, ak_71, ln_71, cq_71, ak_72, ln_72, cq_72, ak_73, ln_73, cq_73, pt_54_0, pt_54_1, pt_57_0, pt_57_3, pt_60_0, pt_60_1, pt_60_2, pt_60_4, pt_60_5, pt_60_6, pt_60_8, pt_63_0, pt_63_1, pt_63_2, pt_63_3, pt_63_4, pt_63_6, pt_63_7, pt_63_10, pt_63_11, pt_63_17, true_and, and_true, List.length_cons, List.length_nil, Nat.reduceAdd, Nat.reduceLeDiff, forall_eq, ne_eq, Nat.reduceEqDiff, not_false_eq_true, or_false, false_or, or_true, true_or, reduceCtorEq, Nat.zero_le, Nat.reduceMul, Nat.add_zero, false_and, and_false, false_implies, true_implies, forall_const, implies_true, List.append_nil, List.nil_append, List.cons_append, mb_i, mb_ii, mb_iii, mb_r, mb_ri, mb_rii, mb_riii, mb_rr, mb_rri, mb_rrii, mb_rriii, mb_riiiii, mb_rrr, mb_rir, mb_iiii, mb_riiii, tn_0, tn_1, tn_2, tn_3, tn_4, tn_5, tn_6, tc_0, tc_1, tc_2, tc_3, tc_4, tc_5, tc_6, xf_0, xf_1, xf_2, Sum.inl.injEq, Sum.inr.injEq, C_M_clockOf, C_M_readsKind, C_M_readsNumber, C_M_readsStatement, C_M_sign, C_M_sleeperOf, C_M_takes])
      exact hend 0 M2 ⟨fun _ => h0, fun _ => rfl⟩ hw
    unfold s_xs at hR
    have pp1 := pP_w hpp w1 g1 g2
    (refine b_68 _ _ _ ?_; simp only [k_X7_readsStatement_0, k_X7_readsStatement_68, k_X7_readsStatement_134, k_X7_readsStatement_135, k_X7_readsStatement_139, k_X7_readsStatement_224, k_X7_readsStatement_225, k_X7_readsStatement_229, k_X7_readsStatement_262, k_X7_readsStatement_263, k_X7_readsStatement_267, k_X7_readsStatement_278, k_X7_readsStatement_289, k_X7_readsStatement_301, k_X7_readsStatement_318, k_X7_readsStatement_319, xp_1, xp_2, xp_3, xp_4, xp_5, xp_6, xp_7, xp_10, xp_11, xp_12, xp_13, xp_14, xp_15, xp_16, xp_17, xp_18, xp_19, xp_20, xp_21, xp_22, xp_23, xp_30, xp_31, xp_32, xp_33, xp_34, xp_35, xp_36, xp_37, xp_38, xp_39, xp_40, xp_41, xp_42, xp_43, xp_50, xp_51, xp_52, xp_53, xp_60, xp_61, xp_62, xp_63, xp_64, xp_65, xp_70, xp_80, xp_81, xp_82, up_ne, up_s, ud_s, ud_o, xw_0, xw_1, xg_0, xg_1, xl_i, xl_r, xs_0, xs_1, xq_i, xq_r, xq_v, xc_0, xc_1, xt_0, xt_1, xr_0, xr_1, xr_2, xe_0, xe_1, ob_0, ob_18, ob_36, ob_54, ak_55, ln_55, cq_55, ak_56, ln_56, cq_56, ob_57, ak_58, ln_58, cq_58, ak_59, ln_59, cq_59, ob_60, ak_61, ln_61, cq_61, ak_62, ln_62, cq_62, ob_63, ak_64, ln_64, cq_64, ak_65, ln_65, cq_65, ak_66, ln_66, cq_66, ak_67, ln_67, cq_67, ak_68, ln_68, cq_68, ak_69, ln_69, cq_69, ak_70, ln_70, cq_70, ak_71, ln_71, cq_71, ak_72, ln_72, cq_72, ak_73, ln_73, cq_73, pt_54_0, pt_54_1, pt_57_0, pt_57_3, pt_60_0, pt_60_1, pt_60_2, pt_60_4, pt_60_5, pt_60_6, pt_60_8, pt_63_0, pt_63_1, pt_63_2, pt_63_3, pt_63_4, pt_63_6, pt_63_7, pt_63_10, pt_63_11, pt_63_17, true_and, and_true, List.length_cons, List.length_nil, Nat.reduceAdd, Nat.reduceLeDiff, forall_eq, ne_eq, Nat.reduceEqDiff, not_false_eq_true, or_false, false_or, or_true, true_or, reduceCtorEq, Nat.zero_le, Nat.reduceMul, Nat.add_zero, false_and, and_false, false_implies, true_implies, forall_const, implies_true, List.append_nil, List.nil_append, List.cons_append, mb_i, mb_ii, mb_iii, mb_r, mb_ri, mb_rii, mb_riii, mb_rr, mb_rri, mb_rrii, mb_rriii, mb_riiiii, mb_rrr, mb_rir, mb_iiii, mb_riiii, tn_0, tn_1, tn_2, tn_3, tn_4, tn_5, tn_6, tc_0, tc_1, tc_2, tc_3, tc_4, tc_5, tc_6, xf_0, xf_1, xf_2, Sum.inl.injEq, Sum.inr.injEq, C_M_clockOf, C_M_readsKind, C_M_readsNumber, C_M_readsStatement, C_M_sign, C_M_sleeperOf, C_M_takes])
    refine ⟨⟨pp1.1.1, pp1.2.1⟩, pp1, fun x2 M2 h2 => ?_⟩
    obtain ⟨hx, hw⟩ := h2
    rw [wP_T w1, wP_n w1, w1.1, w1.2.1] at hx hw
    have w2 := wP_t w1 hw
    rw [hx]
    refine ⟨fun z => ?_, fun z => ?_⟩
    · rw [s_th, if_pos z] at hR
      exact hfail _ (by rw [hR]; exact z) (by rw [hR]; exact w2)
    rw [s_th, if_neg z] at hR
    have g3 := Int.le_trans g1 (oP_lo w2 (oP_k hpp.1 g1 g2 ks_sg))
    have g4 := oP_hi w2 (oP_k hpp.1 g1 g2 ks_sg)
    have pp2 := pP_w hpp w2 g3 g4
    refine ⟨⟨pp2, ⟨by decide, by decide⟩, ⟨by decide, by decide⟩⟩, fun x3 M3 h3 => ?_⟩
    obtain ⟨hx, hw⟩ := h3
    rw [wP_T w2, wP_n w2, w2.1, w2.2.1] at hx hw
    have w3 := wP_t w2 hw
    rw [hx]
    refine ⟨fun z => ?_, fun z => ?_⟩
    · rw [s_th, if_pos z] at hR
      exact hfail _ (by rw [hR]; exact z) (by rw [hR]; exact w3)
    rw [s_th, if_neg z] at hR
    have g5 := Int.le_trans g3 (oP_lo w3 (oP_n hpp.1 g3 g4))
    have g6 := oP_hi w3 (oP_n hpp.1 g3 g4)
    have pp3 := pP_w hpp w3 g5 g6
    refine ⟨pp3, fun x4 M4 h4 => ?_⟩
    obtain ⟨hx, hw⟩ := h4
    rw [wP_T w3, wP_n w3, w3.1, w3.2.1] at hx hw
    have w4 := wP_t w3 hw
    rw [hx]
    refine ⟨fun z => ?_, fun z => ?_⟩
    · rw [s_th, if_pos z] at hR
      exact hfail _ (by rw [hR]; exact z) (by rw [hR]; exact w4)
    rw [s_th, if_neg z] at hR
    have g7 := Int.le_trans g5 (oP_lo w4 (oP_s hpp.1 g5 g6 (by decide)))
    have g8 := oP_hi w4 (oP_s hpp.1 g5 g6 (by decide))
    have pp4 := pP_w hpp w4 g7 g8
    refine ⟨⟨pp4, ⟨by decide, by decide⟩, ⟨by decide, by decide⟩⟩, fun x5 M5 h5 => ?_⟩
    obtain ⟨hx, hw⟩ := h5
    rw [wP_T w4, wP_n w4, w4.1, w4.2.1] at hx hw
    have w5 := wP_t w4 hw
    rw [hx]
    refine ⟨fun z => ?_, fun z => ?_⟩
    · rw [s_th, if_pos z] at hR
      exact hfail _ (by rw [hR]; exact z) (by rw [hR]; exact w5)
    rw [s_th, if_neg z] at hR
    have g9 := Int.le_trans g7 (oP_lo w5 (oP_n hpp.1 g7 g8))
    have g10 := oP_hi w5 (oP_n hpp.1 g7 g8)
    have pp5 := pP_w hpp w5 g9 g10
    refine ⟨pp5, fun x6 M6 h6 => ?_⟩
    obtain ⟨hx, hw⟩ := h6
    rw [wP_T w5, wP_n w5, w5.1, w5.2.1] at hx hw
    have w6 := wP_t w5 hw
    rw [hx]
    refine ⟨fun z => ?_, fun z => ?_⟩
    · rw [s_th, if_pos z] at hR
      exact hfail _ (by rw [hR]; exact z) (by rw [hR]; exact w6)
    rw [s_th, if_neg z] at hR
    have g11 := Int.le_trans g9 (oP_lo w6 (oP_s hpp.1 g9 g10 (by decide)))
    have g12 := oP_hi w6 (oP_s hpp.1 g9 g10 (by decide))
    have pp6 := pP_w hpp w6 g11 g12
    refine ⟨⟨pp6, ⟨by decide, by decide⟩, ⟨by decide, by decide⟩⟩, fun x7 M7 h7 => ?_⟩
    obtain ⟨hx, hw⟩ := h7
    rw [wP_T w6, wP_n w6, w6.1, w6.2.1] at hx hw
    have w7 := wP_t w6 hw
    rw [hx]
    refine ⟨fun z => hfail _ (by rw [hR]; exact z) (by rw [hR]; exact w7), fun z => hend 1 _ ⟨fun h => absurd h (by decide), fun h => absurd (by rw [hR] at h; exact h) z⟩ (by rw [hR]; exact w7)⟩
  have h139 : ∀ (M1 : mj_M) (p : Int32), wP M M1 p (M 70) → 0 ≤ p.toInt → p.toInt ≤ (M 63 8).toInt → (∀ (x : Int32) (M2 : mj_M), (x = 0 ↔ (s_xc (M 69) (M 63 8) p (M 70)).1 = 0) → wP M M2 (s_xc (M 69) (M 63 8) p (M 70)).2.1 (s_xc (M 69) (M 63 8) p (M 70)).2.2 → V 225 [some (.inr 63), some (.inl c), some (.inl 0)] [.inl x] M2) → V 139 [some (.inr 63), some (.inl c), some (.inl 0)] [] M1 := by
    intro M1 p w1 g1 g2 hend
    obtain ⟨R, hR⟩ : ∃ R, R = s_xc (M 69) (M 63 8) p (M 70) := ⟨_, rfl⟩
    rw [← hR] at hend
    have hfail : ∀ (M2 : mj_M), R.1 = 0 → wP M M2 R.2.1 R.2.2 → V 224 [some (.inr 63), some (.inl c), some (.inl 0)] [] M2 := by
      intro M2 h0 hw
      (refine b_224 _ _ _ ?_; simp only [k_X7_readsStatement_0, k_X7_readsStatement_68, k_X7_readsStatement_134, k_X7_readsStatement_135, k_X7_readsStatement_139, k_X7_readsStatement_224, k_X7_readsStatement_225, k_X7_readsStatement_229, k_X7_readsStatement_262, k_X7_readsStatement_263, k_X7_readsStatement_267, k_X7_readsStatement_278, k_X7_readsStatement_289, k_X7_readsStatement_301, k_X7_readsStatement_318, k_X7_readsStatement_319, xp_1, xp_2, xp_3, xp_4, xp_5, xp_6, xp_7, xp_10, xp_11, xp_12, xp_13, xp_14, xp_15, xp_16, xp_17, xp_18, xp_19, xp_20, xp_21, xp_22, xp_23, xp_30, xp_31, xp_32, xp_33, xp_34, xp_35, xp_36, xp_37, xp_38, xp_39, xp_40, xp_41, xp_42, xp_43, xp_50, xp_51, xp_52, xp_53, xp_60, xp_61, xp_62, xp_63, xp_64, xp_65, xp_70, xp_80, xp_81, xp_82, up_ne, up_s, ud_s, ud_o, xw_0, xw_1, xg_0, xg_1, xl_i, xl_r, xs_0, xs_1, xq_i, xq_r, xq_v, xc_0, xc_1, xt_0, xt_1, xr_0, xr_1, xr_2, xe_0, xe_1, ob_0, ob_18, ob_36, ob_54, ak_55, ln_55, cq_55, ak_56, ln_56, cq_56, ob_57, ak_58, ln_58, cq_58, ak_59, ln_59, cq_59, ob_60, ak_61, ln_61, cq_61, ak_62, ln_62, cq_62, ob_63, ak_64, ln_64, cq_64, ak_65, ln_65, cq_65, ak_66, ln_66, cq_66, ak_67, ln_67, cq_67, ak_68, ln_68, cq_68, ak_69, ln_69, cq_69, ak_70, ln_70, cq_70, ak_71, ln_71, cq_71, ak_72, ln_72, cq_72, ak_73, ln_73, cq_73, pt_54_0, pt_54_1, pt_57_0, pt_57_3, pt_60_0, pt_60_1, pt_60_2, pt_60_4, pt_60_5, pt_60_6, pt_60_8, pt_63_0, pt_63_1, pt_63_2, pt_63_3, pt_63_4, pt_63_6, pt_63_7, pt_63_10, pt_63_11, pt_63_17, true_and, and_true, List.length_cons, List.length_nil, Nat.reduceAdd, Nat.reduceLeDiff, forall_eq, ne_eq, Nat.reduceEqDiff, not_false_eq_true, or_false, false_or, or_true, true_or, reduceCtorEq, Nat.zero_le, Nat.reduceMul, Nat.add_zero, false_and, and_false, false_implies, true_implies, forall_const, implies_true, List.append_nil, List.nil_append, List.cons_append, mb_i, mb_ii, mb_iii, mb_r, mb_ri, mb_rii, mb_riii, mb_rr, mb_rri, mb_rrii, mb_rriii, mb_riiiii, mb_rrr, mb_rir, mb_iiii, mb_riiii, tn_0, tn_1, tn_2, tn_3, tn_4, tn_5, tn_6, tc_0, tc_1, tc_2, tc_3, tc_4, tc_5, tc_6, xf_0, xf_1, xf_2, Sum.inl.injEq, Sum.inr.injEq, C_M_clockOf, C_M_readsKind, C_M_readsNumber, C_M_readsStatement, C_M_sign, C_M_sleeperOf, C_M_takes])
      exact hend 0 M2 ⟨fun _ => h0, fun _ => rfl⟩ hw
    unfold s_xc at hR
    have pp1 := pP_w hpp w1 g1 g2
    (refine b_139 _ _ _ ?_; simp only [k_X7_readsStatement_0, k_X7_readsStatement_68, k_X7_readsStatement_134, k_X7_readsStatement_135, k_X7_readsStatement_139, k_X7_readsStatement_224, k_X7_readsStatement_225, k_X7_readsStatement_229, k_X7_readsStatement_262, k_X7_readsStatement_263, k_X7_readsStatement_267, k_X7_readsStatement_278, k_X7_readsStatement_289, k_X7_readsStatement_301, k_X7_readsStatement_318, k_X7_readsStatement_319, xp_1, xp_2, xp_3, xp_4, xp_5, xp_6, xp_7, xp_10, xp_11, xp_12, xp_13, xp_14, xp_15, xp_16, xp_17, xp_18, xp_19, xp_20, xp_21, xp_22, xp_23, xp_30, xp_31, xp_32, xp_33, xp_34, xp_35, xp_36, xp_37, xp_38, xp_39, xp_40, xp_41, xp_42, xp_43, xp_50, xp_51, xp_52, xp_53, xp_60, xp_61, xp_62, xp_63, xp_64, xp_65, xp_70, xp_80, xp_81, xp_82, up_ne, up_s, ud_s, ud_o, xw_0, xw_1, xg_0, xg_1, xl_i, xl_r, xs_0, xs_1, xq_i, xq_r, xq_v, xc_0, xc_1, xt_0, xt_1, xr_0, xr_1, xr_2, xe_0, xe_1, ob_0, ob_18, ob_36, ob_54, ak_55, ln_55, cq_55, ak_56, ln_56, cq_56, ob_57, ak_58, ln_58, cq_58, ak_59, ln_59, cq_59, ob_60, ak_61, ln_61, cq_61, ak_62, ln_62, cq_62, ob_63, ak_64, ln_64, cq_64, ak_65, ln_65, cq_65, ak_66, ln_66, cq_66, ak_67, ln_67, cq_67, ak_68, ln_68, cq_68, ak_69, ln_69, cq_69, ak_70, ln_70, cq_70, ak_71, ln_71, cq_71, ak_72, ln_72, cq_72, ak_73, ln_73, cq_73, pt_54_0, pt_54_1, pt_57_0, pt_57_3, pt_60_0, pt_60_1, pt_60_2, pt_60_4, pt_60_5, pt_60_6, pt_60_8, pt_63_0, pt_63_1, pt_63_2, pt_63_3, pt_63_4, pt_63_6, pt_63_7, pt_63_10, pt_63_11, pt_63_17, true_and, and_true, List.length_cons, List.length_nil, Nat.reduceAdd, Nat.reduceLeDiff, forall_eq, ne_eq, Nat.reduceEqDiff, not_false_eq_true, or_false, false_or, or_true, true_or, reduceCtorEq, Nat.zero_le, Nat.reduceMul, Nat.add_zero, false_and, and_false, false_implies, true_implies, forall_const, implies_true, List.append_nil, List.nil_append, List.cons_append, mb_i, mb_ii, mb_iii, mb_r, mb_ri, mb_rii, mb_riii, mb_rr, mb_rri, mb_rrii, mb_rriii, mb_riiiii, mb_rrr, mb_rir, mb_iiii, mb_riiii, tn_0, tn_1, tn_2, tn_3, tn_4, tn_5, tn_6, tc_0, tc_1, tc_2, tc_3, tc_4, tc_5, tc_6, xf_0, xf_1, xf_2, Sum.inl.injEq, Sum.inr.injEq, C_M_clockOf, C_M_readsKind, C_M_readsNumber, C_M_readsStatement, C_M_sign, C_M_sleeperOf, C_M_takes])
    refine ⟨⟨pp1.1.1, pp1.2.1⟩, pp1, fun x2 M2 h2 => ?_⟩
    obtain ⟨hx, hw⟩ := h2
    rw [wP_T w1, wP_n w1, w1.1, w1.2.1] at hx hw
    have w2 := wP_t w1 hw
    rw [hx]
    refine ⟨fun z => ?_, fun z => ?_⟩
    · rw [s_th, if_pos z] at hR
      exact hfail _ (by rw [hR]; exact z) (by rw [hR]; exact w2)
    rw [s_th, if_neg z] at hR
    have g3 := Int.le_trans g1 (oP_lo w2 (oP_k hpp.1 g1 g2 kc_sg))
    have g4 := oP_hi w2 (oP_k hpp.1 g1 g2 kc_sg)
    have pp2 := pP_w hpp w2 g3 g4
    refine ⟨⟨pp2, ⟨by decide, by decide⟩, ⟨by decide, by decide⟩⟩, fun x3 M3 h3 => ?_⟩
    obtain ⟨hx, hw⟩ := h3
    rw [wP_T w2, wP_n w2, w2.1, w2.2.1] at hx hw
    have w3 := wP_t w2 hw
    rw [hx]
    refine ⟨fun z => ?_, fun z => ?_⟩
    · rw [s_th, if_pos z] at hR
      exact hfail _ (by rw [hR]; exact z) (by rw [hR]; exact w3)
    rw [s_th, if_neg z] at hR
    have g5 := Int.le_trans g3 (oP_lo w3 (oP_n hpp.1 g3 g4))
    have g6 := oP_hi w3 (oP_n hpp.1 g3 g4)
    have pp3 := pP_w hpp w3 g5 g6
    refine ⟨pp3, fun x4 M4 h4 => ?_⟩
    obtain ⟨hx, hw⟩ := h4
    rw [wP_T w3, wP_n w3, w3.1, w3.2.1] at hx hw
    have w4 := wP_t w3 hw
    rw [hx]
    refine ⟨fun z => ?_, fun z => ?_⟩
    · rw [s_th, if_pos z] at hR
      exact hfail _ (by rw [hR]; exact z) (by rw [hR]; exact w4)
    rw [s_th, if_neg z] at hR
    have g7 := Int.le_trans g5 (oP_lo w4 (oP_s hpp.1 g5 g6 (by decide)))
    have g8 := oP_hi w4 (oP_s hpp.1 g5 g6 (by decide))
    have pp4 := pP_w hpp w4 g7 g8
    refine ⟨⟨pp4, ⟨by decide, by decide⟩, ⟨by decide, by decide⟩⟩, fun x5 M5 h5 => ?_⟩
    obtain ⟨hx, hw⟩ := h5
    rw [wP_T w4, wP_n w4, w4.1, w4.2.1] at hx hw
    have w5 := wP_t w4 hw
    rw [hx]
    refine ⟨fun z => ?_, fun z => ?_⟩
    · rw [s_th, if_pos z] at hR
      exact hfail _ (by rw [hR]; exact z) (by rw [hR]; exact w5)
    rw [s_th, if_neg z] at hR
    have g9 := Int.le_trans g7 (oP_lo w5 (oP_n hpp.1 g7 g8))
    have g10 := oP_hi w5 (oP_n hpp.1 g7 g8)
    have pp5 := pP_w hpp w5 g9 g10
    refine ⟨pp5, fun x6 M6 h6 => ?_⟩
    obtain ⟨hx, hw⟩ := h6
    rw [wP_T w5, wP_n w5, w5.1, w5.2.1] at hx hw
    have w6 := wP_t w5 hw
    rw [hx]
    refine ⟨fun z => ?_, fun z => ?_⟩
    · rw [s_th, if_pos z] at hR
      exact hfail _ (by rw [hR]; exact z) (by rw [hR]; exact w6)
    rw [s_th, if_neg z] at hR
    have g11 := Int.le_trans g9 (oP_lo w6 (oP_s hpp.1 g9 g10 (by decide)))
    have g12 := oP_hi w6 (oP_s hpp.1 g9 g10 (by decide))
    have pp6 := pP_w hpp w6 g11 g12
    refine ⟨⟨pp6, ⟨by decide, by decide⟩, ⟨by decide, by decide⟩⟩, fun x7 M7 h7 => ?_⟩
    obtain ⟨hx, hw⟩ := h7
    rw [wP_T w6, wP_n w6, w6.1, w6.2.1] at hx hw
    have w7 := wP_t w6 hw
    rw [hx]
    refine ⟨fun z => ?_, fun z => ?_⟩
    · rw [s_th, if_pos z] at hR
      exact hfail _ (by rw [hR]; exact z) (by rw [hR]; exact w7)
    rw [s_th, if_neg z] at hR
    have g13 := Int.le_trans g11 (oP_lo w7 (oP_n hpp.1 g11 g12))
    have g14 := oP_hi w7 (oP_n hpp.1 g11 g12)
    have pp7 := pP_w hpp w7 g13 g14
    refine ⟨pp7, fun x8 M8 h8 => ?_⟩
    obtain ⟨hx, hw⟩ := h8
    rw [wP_T w7, wP_n w7, w7.1, w7.2.1] at hx hw
    have w8 := wP_t w7 hw
    rw [hx]
    refine ⟨fun z => ?_, fun z => ?_⟩
    · rw [s_th, if_pos z] at hR
      exact hfail _ (by rw [hR]; exact z) (by rw [hR]; exact w8)
    rw [s_th, if_neg z] at hR
    have g15 := Int.le_trans g13 (oP_lo w8 (oP_s hpp.1 g13 g14 (by decide)))
    have g16 := oP_hi w8 (oP_s hpp.1 g13 g14 (by decide))
    have pp8 := pP_w hpp w8 g15 g16
    refine ⟨⟨pp8, ⟨by decide, by decide⟩, ⟨by decide, by decide⟩⟩, fun x9 M9 h9 => ?_⟩
    obtain ⟨hx, hw⟩ := h9
    rw [wP_T w8, wP_n w8, w8.1, w8.2.1] at hx hw
    have w9 := wP_t w8 hw
    rw [hx]
    refine ⟨fun z => hfail _ (by rw [hR]; exact z) (by rw [hR]; exact w9), fun z => hend 1 _ ⟨fun h => absurd h (by decide), fun h => absurd (by rw [hR] at h; exact h) z⟩ (by rw [hR]; exact w9)⟩
  have h229 : ∀ (M1 : mj_M) (p : Int32), wP M M1 p (M 70) → 0 ≤ p.toInt → p.toInt ≤ (M 63 8).toInt → (∀ (x : Int32) (M2 : mj_M), (x = 0 ↔ (s_xt (M 69) (M 63 8) p (M 70)).1 = 0) → wP M M2 (s_xt (M 69) (M 63 8) p (M 70)).2.1 (s_xt (M 69) (M 63 8) p (M 70)).2.2 → V 263 [some (.inr 63), some (.inl c), some (.inl 0)] [.inl x] M2) → V 229 [some (.inr 63), some (.inl c), some (.inl 0)] [] M1 := by
    intro M1 p w1 g1 g2 hend
    obtain ⟨R, hR⟩ : ∃ R, R = s_xt (M 69) (M 63 8) p (M 70) := ⟨_, rfl⟩
    rw [← hR] at hend
    have hfail : ∀ (M2 : mj_M), R.1 = 0 → wP M M2 R.2.1 R.2.2 → V 262 [some (.inr 63), some (.inl c), some (.inl 0)] [] M2 := by
      intro M2 h0 hw
      (refine b_262 _ _ _ ?_; simp only [k_X7_readsStatement_0, k_X7_readsStatement_68, k_X7_readsStatement_134, k_X7_readsStatement_135, k_X7_readsStatement_139, k_X7_readsStatement_224, k_X7_readsStatement_225, k_X7_readsStatement_229, k_X7_readsStatement_262, k_X7_readsStatement_263, k_X7_readsStatement_267, k_X7_readsStatement_278, k_X7_readsStatement_289, k_X7_readsStatement_301, k_X7_readsStatement_318, k_X7_readsStatement_319, xp_1, xp_2, xp_3, xp_4, xp_5, xp_6, xp_7, xp_10, xp_11, xp_12, xp_13, xp_14, xp_15, xp_16, xp_17, xp_18, xp_19, xp_20, xp_21, xp_22, xp_23, xp_30, xp_31, xp_32, xp_33, xp_34, xp_35, xp_36, xp_37, xp_38, xp_39, xp_40, xp_41, xp_42, xp_43, xp_50, xp_51, xp_52, xp_53, xp_60, xp_61, xp_62, xp_63, xp_64, xp_65, xp_70, xp_80, xp_81, xp_82, up_ne, up_s, ud_s, ud_o, xw_0, xw_1, xg_0, xg_1, xl_i, xl_r, xs_0, xs_1, xq_i, xq_r, xq_v, xc_0, xc_1, xt_0, xt_1, xr_0, xr_1, xr_2, xe_0, xe_1, ob_0, ob_18, ob_36, ob_54, ak_55, ln_55, cq_55, ak_56, ln_56, cq_56, ob_57, ak_58, ln_58, cq_58, ak_59, ln_59, cq_59, ob_60, ak_61, ln_61, cq_61, ak_62, ln_62, cq_62, ob_63, ak_64, ln_64, cq_64, ak_65, ln_65, cq_65, ak_66, ln_66, cq_66, ak_67, ln_67, cq_67, ak_68, ln_68, cq_68, ak_69, ln_69, cq_69, ak_70, ln_70, cq_70, ak_71, ln_71, cq_71, ak_72, ln_72, cq_72, ak_73, ln_73, cq_73, pt_54_0, pt_54_1, pt_57_0, pt_57_3, pt_60_0, pt_60_1, pt_60_2, pt_60_4, pt_60_5, pt_60_6, pt_60_8, pt_63_0, pt_63_1, pt_63_2, pt_63_3, pt_63_4, pt_63_6, pt_63_7, pt_63_10, pt_63_11, pt_63_17, true_and, and_true, List.length_cons, List.length_nil, Nat.reduceAdd, Nat.reduceLeDiff, forall_eq, ne_eq, Nat.reduceEqDiff, not_false_eq_true, or_false, false_or, or_true, true_or, reduceCtorEq, Nat.zero_le, Nat.reduceMul, Nat.add_zero, false_and, and_false, false_implies, true_implies, forall_const, implies_true, List.append_nil, List.nil_append, List.cons_append, mb_i, mb_ii, mb_iii, mb_r, mb_ri, mb_rii, mb_riii, mb_rr, mb_rri, mb_rrii, mb_rriii, mb_riiiii, mb_rrr, mb_rir, mb_iiii, mb_riiii, tn_0, tn_1, tn_2, tn_3, tn_4, tn_5, tn_6, tc_0, tc_1, tc_2, tc_3, tc_4, tc_5, tc_6, xf_0, xf_1, xf_2, Sum.inl.injEq, Sum.inr.injEq, C_M_clockOf, C_M_readsKind, C_M_readsNumber, C_M_readsStatement, C_M_sign, C_M_sleeperOf, C_M_takes])
      exact hend 0 M2 ⟨fun _ => h0, fun _ => rfl⟩ hw
    unfold s_xt at hR
    have pp1 := pP_w hpp w1 g1 g2
    (refine b_229 _ _ _ ?_; simp only [k_X7_readsStatement_0, k_X7_readsStatement_68, k_X7_readsStatement_134, k_X7_readsStatement_135, k_X7_readsStatement_139, k_X7_readsStatement_224, k_X7_readsStatement_225, k_X7_readsStatement_229, k_X7_readsStatement_262, k_X7_readsStatement_263, k_X7_readsStatement_267, k_X7_readsStatement_278, k_X7_readsStatement_289, k_X7_readsStatement_301, k_X7_readsStatement_318, k_X7_readsStatement_319, xp_1, xp_2, xp_3, xp_4, xp_5, xp_6, xp_7, xp_10, xp_11, xp_12, xp_13, xp_14, xp_15, xp_16, xp_17, xp_18, xp_19, xp_20, xp_21, xp_22, xp_23, xp_30, xp_31, xp_32, xp_33, xp_34, xp_35, xp_36, xp_37, xp_38, xp_39, xp_40, xp_41, xp_42, xp_43, xp_50, xp_51, xp_52, xp_53, xp_60, xp_61, xp_62, xp_63, xp_64, xp_65, xp_70, xp_80, xp_81, xp_82, up_ne, up_s, ud_s, ud_o, xw_0, xw_1, xg_0, xg_1, xl_i, xl_r, xs_0, xs_1, xq_i, xq_r, xq_v, xc_0, xc_1, xt_0, xt_1, xr_0, xr_1, xr_2, xe_0, xe_1, ob_0, ob_18, ob_36, ob_54, ak_55, ln_55, cq_55, ak_56, ln_56, cq_56, ob_57, ak_58, ln_58, cq_58, ak_59, ln_59, cq_59, ob_60, ak_61, ln_61, cq_61, ak_62, ln_62, cq_62, ob_63, ak_64, ln_64, cq_64, ak_65, ln_65, cq_65, ak_66, ln_66, cq_66, ak_67, ln_67, cq_67, ak_68, ln_68, cq_68, ak_69, ln_69, cq_69, ak_70, ln_70, cq_70, ak_71, ln_71, cq_71, ak_72, ln_72, cq_72, ak_73, ln_73, cq_73, pt_54_0, pt_54_1, pt_57_0, pt_57_3, pt_60_0, pt_60_1, pt_60_2, pt_60_4, pt_60_5, pt_60_6, pt_60_8, pt_63_0, pt_63_1, pt_63_2, pt_63_3, pt_63_4, pt_63_6, pt_63_7, pt_63_10, pt_63_11, pt_63_17, true_and, and_true, List.length_cons, List.length_nil, Nat.reduceAdd, Nat.reduceLeDiff, forall_eq, ne_eq, Nat.reduceEqDiff, not_false_eq_true, or_false, false_or, or_true, true_or, reduceCtorEq, Nat.zero_le, Nat.reduceMul, Nat.add_zero, false_and, and_false, false_implies, true_implies, forall_const, implies_true, List.append_nil, List.nil_append, List.cons_append, mb_i, mb_ii, mb_iii, mb_r, mb_ri, mb_rii, mb_riii, mb_rr, mb_rri, mb_rrii, mb_rriii, mb_riiiii, mb_rrr, mb_rir, mb_iiii, mb_riiii, tn_0, tn_1, tn_2, tn_3, tn_4, tn_5, tn_6, tc_0, tc_1, tc_2, tc_3, tc_4, tc_5, tc_6, xf_0, xf_1, xf_2, Sum.inl.injEq, Sum.inr.injEq, C_M_clockOf, C_M_readsKind, C_M_readsNumber, C_M_readsStatement, C_M_sign, C_M_sleeperOf, C_M_takes])
    refine ⟨⟨pp1, ⟨by decide, by decide⟩, ⟨by decide, by decide⟩⟩, fun x2 M2 h2 => ?_⟩
    obtain ⟨hx, hw⟩ := h2
    rw [wP_T w1, wP_n w1, w1.1, w1.2.1] at hx hw
    have w2 := wP_t w1 hw
    rw [hx]
    refine ⟨fun z => ?_, fun z => ?_⟩
    · rw [s_th, if_pos z] at hR
      exact hfail _ (by rw [hR]; exact z) (by rw [hR]; exact w2)
    rw [s_th, if_neg z] at hR
    have g3 := Int.le_trans g1 (oP_lo w2 (oP_n hpp.1 g1 g2))
    have g4 := oP_hi w2 (oP_n hpp.1 g1 g2)
    have pp2 := pP_w hpp w2 g3 g4
    refine ⟨pp2, fun x3 M3 h3 => ?_⟩
    obtain ⟨hx, hw⟩ := h3
    rw [wP_T w2, wP_n w2, w2.1, w2.2.1] at hx hw
    have w3 := wP_t w2 hw
    rw [hx]
    refine ⟨fun z => ?_, fun z => ?_⟩
    · rw [s_th, if_pos z] at hR
      exact hfail _ (by rw [hR]; exact z) (by rw [hR]; exact w3)
    rw [s_th, if_neg z] at hR
    have g5 := Int.le_trans g3 (oP_lo w3 (oP_s hpp.1 g3 g4 (by decide)))
    have g6 := oP_hi w3 (oP_s hpp.1 g3 g4 (by decide))
    have pp3 := pP_w hpp w3 g5 g6
    refine ⟨⟨pp3, ⟨by decide, by decide⟩, ⟨by decide, by decide⟩⟩, fun x4 M4 h4 => ?_⟩
    obtain ⟨hx, hw⟩ := h4
    rw [wP_T w3, wP_n w3, w3.1, w3.2.1] at hx hw
    have w4 := wP_t w3 hw
    rw [hx]
    refine ⟨fun z => hfail _ (by rw [hR]; exact z) (by rw [hR]; exact w4), fun z => hend 1 _ ⟨fun h => absurd h (by decide), fun h => absurd (by rw [hR] at h; exact h) z⟩ (by rw [hR]; exact w4)⟩
  have e1 : (1 : Int32).toInt = 1 := rfl
  have hn := hpp.1.1.2
  have hpr := hpp.2.1
  -- its end
  have h301 : ∀ (x : Int32) (M2 : mj_M) (Z : Int32 × Int32 × (Nat → Int32)), (x = 0 ↔ Z.1 = 0) → wP M M2 Z.2.1 Z.2.2 → 0 ≤ Z.2.1.toInt → Z.2.1.toInt ≤ (M 63 8).toInt → (s_st (M 69) (M 63 8) (M 63 9) (M 70)) = s_th Z (fun p q => s_ps (M 69) (M 63 8) 59 p q) → V 301 [some (.inr 63), some (.inl c), some (.inl x)] [] M2 := by
    intro x M2 Z hx hw g1 g2 hst
    have h318 : ∀ (M3 : mj_M) (R : Int32 × Int32 × (Nat → Int32)), s_st (M 69) (M 63 8) (M 63 9) (M 70) = R → R.1 = 0 → wP M M3 R.2.1 R.2.2 → V 318 [some (.inr 63), some (.inl c), some (.inl x)] [] M3 := by
      intro M3 R h1 h2 h3
      (refine b_318 _ _ _ ?_; simp only [k_X7_readsStatement_0, k_X7_readsStatement_68, k_X7_readsStatement_134, k_X7_readsStatement_135, k_X7_readsStatement_139, k_X7_readsStatement_224, k_X7_readsStatement_225, k_X7_readsStatement_229, k_X7_readsStatement_262, k_X7_readsStatement_263, k_X7_readsStatement_267, k_X7_readsStatement_278, k_X7_readsStatement_289, k_X7_readsStatement_301, k_X7_readsStatement_318, k_X7_readsStatement_319, xp_1, xp_2, xp_3, xp_4, xp_5, xp_6, xp_7, xp_10, xp_11, xp_12, xp_13, xp_14, xp_15, xp_16, xp_17, xp_18, xp_19, xp_20, xp_21, xp_22, xp_23, xp_30, xp_31, xp_32, xp_33, xp_34, xp_35, xp_36, xp_37, xp_38, xp_39, xp_40, xp_41, xp_42, xp_43, xp_50, xp_51, xp_52, xp_53, xp_60, xp_61, xp_62, xp_63, xp_64, xp_65, xp_70, xp_80, xp_81, xp_82, up_ne, up_s, ud_s, ud_o, xw_0, xw_1, xg_0, xg_1, xl_i, xl_r, xs_0, xs_1, xq_i, xq_r, xq_v, xc_0, xc_1, xt_0, xt_1, xr_0, xr_1, xr_2, xe_0, xe_1, ob_0, ob_18, ob_36, ob_54, ak_55, ln_55, cq_55, ak_56, ln_56, cq_56, ob_57, ak_58, ln_58, cq_58, ak_59, ln_59, cq_59, ob_60, ak_61, ln_61, cq_61, ak_62, ln_62, cq_62, ob_63, ak_64, ln_64, cq_64, ak_65, ln_65, cq_65, ak_66, ln_66, cq_66, ak_67, ln_67, cq_67, ak_68, ln_68, cq_68, ak_69, ln_69, cq_69, ak_70, ln_70, cq_70, ak_71, ln_71, cq_71, ak_72, ln_72, cq_72, ak_73, ln_73, cq_73, pt_54_0, pt_54_1, pt_57_0, pt_57_3, pt_60_0, pt_60_1, pt_60_2, pt_60_4, pt_60_5, pt_60_6, pt_60_8, pt_63_0, pt_63_1, pt_63_2, pt_63_3, pt_63_4, pt_63_6, pt_63_7, pt_63_10, pt_63_11, pt_63_17, true_and, and_true, List.length_cons, List.length_nil, Nat.reduceAdd, Nat.reduceLeDiff, forall_eq, ne_eq, Nat.reduceEqDiff, not_false_eq_true, or_false, false_or, or_true, true_or, reduceCtorEq, Nat.zero_le, Nat.reduceMul, Nat.add_zero, false_and, and_false, false_implies, true_implies, forall_const, implies_true, List.append_nil, List.nil_append, List.cons_append, mb_i, mb_ii, mb_iii, mb_r, mb_ri, mb_rii, mb_riii, mb_rr, mb_rri, mb_rrii, mb_rriii, mb_riiiii, mb_rrr, mb_rir, mb_iiii, mb_riiii, tn_0, tn_1, tn_2, tn_3, tn_4, tn_5, tn_6, tc_0, tc_1, tc_2, tc_3, tc_4, tc_5, tc_6, xf_0, xf_1, xf_2, Sum.inl.injEq, Sum.inr.injEq, C_M_clockOf, C_M_readsKind, C_M_readsNumber, C_M_readsStatement, C_M_sign, C_M_sleeperOf, C_M_takes])
      (refine b_319 _ _ _ ?_; simp only [k_X7_readsStatement_0, k_X7_readsStatement_68, k_X7_readsStatement_134, k_X7_readsStatement_135, k_X7_readsStatement_139, k_X7_readsStatement_224, k_X7_readsStatement_225, k_X7_readsStatement_229, k_X7_readsStatement_262, k_X7_readsStatement_263, k_X7_readsStatement_267, k_X7_readsStatement_278, k_X7_readsStatement_289, k_X7_readsStatement_301, k_X7_readsStatement_318, k_X7_readsStatement_319, xp_1, xp_2, xp_3, xp_4, xp_5, xp_6, xp_7, xp_10, xp_11, xp_12, xp_13, xp_14, xp_15, xp_16, xp_17, xp_18, xp_19, xp_20, xp_21, xp_22, xp_23, xp_30, xp_31, xp_32, xp_33, xp_34, xp_35, xp_36, xp_37, xp_38, xp_39, xp_40, xp_41, xp_42, xp_43, xp_50, xp_51, xp_52, xp_53, xp_60, xp_61, xp_62, xp_63, xp_64, xp_65, xp_70, xp_80, xp_81, xp_82, up_ne, up_s, ud_s, ud_o, xw_0, xw_1, xg_0, xg_1, xl_i, xl_r, xs_0, xs_1, xq_i, xq_r, xq_v, xc_0, xc_1, xt_0, xt_1, xr_0, xr_1, xr_2, xe_0, xe_1, ob_0, ob_18, ob_36, ob_54, ak_55, ln_55, cq_55, ak_56, ln_56, cq_56, ob_57, ak_58, ln_58, cq_58, ak_59, ln_59, cq_59, ob_60, ak_61, ln_61, cq_61, ak_62, ln_62, cq_62, ob_63, ak_64, ln_64, cq_64, ak_65, ln_65, cq_65, ak_66, ln_66, cq_66, ak_67, ln_67, cq_67, ak_68, ln_68, cq_68, ak_69, ln_69, cq_69, ak_70, ln_70, cq_70, ak_71, ln_71, cq_71, ak_72, ln_72, cq_72, ak_73, ln_73, cq_73, pt_54_0, pt_54_1, pt_57_0, pt_57_3, pt_60_0, pt_60_1, pt_60_2, pt_60_4, pt_60_5, pt_60_6, pt_60_8, pt_63_0, pt_63_1, pt_63_2, pt_63_3, pt_63_4, pt_63_6, pt_63_7, pt_63_10, pt_63_11, pt_63_17, true_and, and_true, List.length_cons, List.length_nil, Nat.reduceAdd, Nat.reduceLeDiff, forall_eq, ne_eq, Nat.reduceEqDiff, not_false_eq_true, or_false, false_or, or_true, true_or, reduceCtorEq, Nat.zero_le, Nat.reduceMul, Nat.add_zero, false_and, and_false, false_implies, true_implies, forall_const, implies_true, List.append_nil, List.nil_append, List.cons_append, mb_i, mb_ii, mb_iii, mb_r, mb_ri, mb_rii, mb_riii, mb_rr, mb_rri, mb_rrii, mb_rriii, mb_riiiii, mb_rrr, mb_rir, mb_iiii, mb_riiii, tn_0, tn_1, tn_2, tn_3, tn_4, tn_5, tn_6, tc_0, tc_1, tc_2, tc_3, tc_4, tc_5, tc_6, xf_0, xf_1, xf_2, Sum.inl.injEq, Sum.inr.injEq, C_M_clockOf, C_M_readsKind, C_M_readsNumber, C_M_readsStatement, C_M_sign, C_M_sleeperOf, C_M_takes])
      rw [h1]
      exact ⟨h2.symm, h3⟩
    (refine b_301 _ _ _ ?_; simp only [k_X7_readsStatement_0, k_X7_readsStatement_68, k_X7_readsStatement_134, k_X7_readsStatement_135, k_X7_readsStatement_139, k_X7_readsStatement_224, k_X7_readsStatement_225, k_X7_readsStatement_229, k_X7_readsStatement_262, k_X7_readsStatement_263, k_X7_readsStatement_267, k_X7_readsStatement_278, k_X7_readsStatement_289, k_X7_readsStatement_301, k_X7_readsStatement_318, k_X7_readsStatement_319, xp_1, xp_2, xp_3, xp_4, xp_5, xp_6, xp_7, xp_10, xp_11, xp_12, xp_13, xp_14, xp_15, xp_16, xp_17, xp_18, xp_19, xp_20, xp_21, xp_22, xp_23, xp_30, xp_31, xp_32, xp_33, xp_34, xp_35, xp_36, xp_37, xp_38, xp_39, xp_40, xp_41, xp_42, xp_43, xp_50, xp_51, xp_52, xp_53, xp_60, xp_61, xp_62, xp_63, xp_64, xp_65, xp_70, xp_80, xp_81, xp_82, up_ne, up_s, ud_s, ud_o, xw_0, xw_1, xg_0, xg_1, xl_i, xl_r, xs_0, xs_1, xq_i, xq_r, xq_v, xc_0, xc_1, xt_0, xt_1, xr_0, xr_1, xr_2, xe_0, xe_1, ob_0, ob_18, ob_36, ob_54, ak_55, ln_55, cq_55, ak_56, ln_56, cq_56, ob_57, ak_58, ln_58, cq_58, ak_59, ln_59, cq_59, ob_60, ak_61, ln_61, cq_61, ak_62, ln_62, cq_62, ob_63, ak_64, ln_64, cq_64, ak_65, ln_65, cq_65, ak_66, ln_66, cq_66, ak_67, ln_67, cq_67, ak_68, ln_68, cq_68, ak_69, ln_69, cq_69, ak_70, ln_70, cq_70, ak_71, ln_71, cq_71, ak_72, ln_72, cq_72, ak_73, ln_73, cq_73, pt_54_0, pt_54_1, pt_57_0, pt_57_3, pt_60_0, pt_60_1, pt_60_2, pt_60_4, pt_60_5, pt_60_6, pt_60_8, pt_63_0, pt_63_1, pt_63_2, pt_63_3, pt_63_4, pt_63_6, pt_63_7, pt_63_10, pt_63_11, pt_63_17, true_and, and_true, List.length_cons, List.length_nil, Nat.reduceAdd, Nat.reduceLeDiff, forall_eq, ne_eq, Nat.reduceEqDiff, not_false_eq_true, or_false, false_or, or_true, true_or, reduceCtorEq, Nat.zero_le, Nat.reduceMul, Nat.add_zero, false_and, and_false, false_implies, true_implies, forall_const, implies_true, List.append_nil, List.nil_append, List.cons_append, mb_i, mb_ii, mb_iii, mb_r, mb_ri, mb_rii, mb_riii, mb_rr, mb_rri, mb_rrii, mb_rriii, mb_riiiii, mb_rrr, mb_rir, mb_iiii, mb_riiii, tn_0, tn_1, tn_2, tn_3, tn_4, tn_5, tn_6, tc_0, tc_1, tc_2, tc_3, tc_4, tc_5, tc_6, xf_0, xf_1, xf_2, Sum.inl.injEq, Sum.inr.injEq, C_M_clockOf, C_M_readsKind, C_M_readsNumber, C_M_readsStatement, C_M_sign, C_M_sleeperOf, C_M_takes])
    refine ⟨fun h => ?_, fun h => ⟨pP_w hpp hw g1 g2, fun y M3 hy => ?_⟩⟩
    · rw [s_th, if_pos (hx.mp h)] at hst
      exact h318 M2 _ hst (hx.mp h) hw
    · rw [s_th, if_neg (fun z => h (hx.mpr z))] at hst
      obtain ⟨hy, hw2⟩ := hy
      rw [wP_T hw, wP_n hw, hw.1, hw.2.1] at hy hw2
      have hw3 := wP_t hw hw2
      refine ⟨fun h0 => h318 M3 _ hst (by rw [← hy]; exact h0) hw3, fun h0 => ?_⟩
      (refine b_319 _ _ _ ?_; simp only [k_X7_readsStatement_0, k_X7_readsStatement_68, k_X7_readsStatement_134, k_X7_readsStatement_135, k_X7_readsStatement_139, k_X7_readsStatement_224, k_X7_readsStatement_225, k_X7_readsStatement_229, k_X7_readsStatement_262, k_X7_readsStatement_263, k_X7_readsStatement_267, k_X7_readsStatement_278, k_X7_readsStatement_289, k_X7_readsStatement_301, k_X7_readsStatement_318, k_X7_readsStatement_319, xp_1, xp_2, xp_3, xp_4, xp_5, xp_6, xp_7, xp_10, xp_11, xp_12, xp_13, xp_14, xp_15, xp_16, xp_17, xp_18, xp_19, xp_20, xp_21, xp_22, xp_23, xp_30, xp_31, xp_32, xp_33, xp_34, xp_35, xp_36, xp_37, xp_38, xp_39, xp_40, xp_41, xp_42, xp_43, xp_50, xp_51, xp_52, xp_53, xp_60, xp_61, xp_62, xp_63, xp_64, xp_65, xp_70, xp_80, xp_81, xp_82, up_ne, up_s, ud_s, ud_o, xw_0, xw_1, xg_0, xg_1, xl_i, xl_r, xs_0, xs_1, xq_i, xq_r, xq_v, xc_0, xc_1, xt_0, xt_1, xr_0, xr_1, xr_2, xe_0, xe_1, ob_0, ob_18, ob_36, ob_54, ak_55, ln_55, cq_55, ak_56, ln_56, cq_56, ob_57, ak_58, ln_58, cq_58, ak_59, ln_59, cq_59, ob_60, ak_61, ln_61, cq_61, ak_62, ln_62, cq_62, ob_63, ak_64, ln_64, cq_64, ak_65, ln_65, cq_65, ak_66, ln_66, cq_66, ak_67, ln_67, cq_67, ak_68, ln_68, cq_68, ak_69, ln_69, cq_69, ak_70, ln_70, cq_70, ak_71, ln_71, cq_71, ak_72, ln_72, cq_72, ak_73, ln_73, cq_73, pt_54_0, pt_54_1, pt_57_0, pt_57_3, pt_60_0, pt_60_1, pt_60_2, pt_60_4, pt_60_5, pt_60_6, pt_60_8, pt_63_0, pt_63_1, pt_63_2, pt_63_3, pt_63_4, pt_63_6, pt_63_7, pt_63_10, pt_63_11, pt_63_17, true_and, and_true, List.length_cons, List.length_nil, Nat.reduceAdd, Nat.reduceLeDiff, forall_eq, ne_eq, Nat.reduceEqDiff, not_false_eq_true, or_false, false_or, or_true, true_or, reduceCtorEq, Nat.zero_le, Nat.reduceMul, Nat.add_zero, false_and, and_false, false_implies, true_implies, forall_const, implies_true, List.append_nil, List.nil_append, List.cons_append, mb_i, mb_ii, mb_iii, mb_r, mb_ri, mb_rii, mb_riii, mb_rr, mb_rri, mb_rrii, mb_rriii, mb_riiiii, mb_rrr, mb_rir, mb_iiii, mb_riiii, tn_0, tn_1, tn_2, tn_3, tn_4, tn_5, tn_6, tc_0, tc_1, tc_2, tc_3, tc_4, tc_5, tc_6, xf_0, xf_1, xf_2, Sum.inl.injEq, Sum.inr.injEq, C_M_clockOf, C_M_readsKind, C_M_readsNumber, C_M_readsStatement, C_M_sign, C_M_sleeperOf, C_M_takes])
      rw [hst]
      refine ⟨?_, hw3⟩
      have : (s_ps (M 69) (M 63 8) 59 Z.2.1 Z.2.2).1 = 0 ∨ (s_ps (M 69) (M 63 8) 59 Z.2.1 Z.2.2).1 = 1 := by
        unfold s_ps
        split
        · exact Or.inr rfl
        · exact Or.inl rfl
      rcases this with z | z
      · exact absurd (hy.trans z) h0
      · exact z.symm
  have hb : s_x1 c → M 63 9 < M 63 8 := fun h => sg_lt (fun e => by
    rw [← hc] at e
    rw [e] at h
    rcases h with h | h | h | h | h <;> exact absurd h (by decide))
  have wA := wP_9 (wP_r M) (M 63 9 + 1)
  have gA : s_x1 c → 0 ≤ (M 63 9 + 1).toInt ∧ (M 63 9 + 1).toInt ≤ (M 63 8).toInt := fun h => by
    have := hb h
    rw [ti_lt] at this
    rw [ti_add (by omega) (by omega), e1]
    omega
  have oA : ∀ q : Nat → Int32, s_x1 c → 0 ≤ (s_xa (M 69) (M 63 8) c (M 63 9 + 1) q).2.1.toInt ∧ (s_xa (M 69) (M 63 8) c (M 63 9 + 1) q).2.1.toInt ≤ (M 63 8).toInt := fun q h => by
    have g := gA h
    have := oP_xa (c := c) (q := q) hpp.1 g.1 g.2
    exact ⟨Int.le_trans g.1 this.1, this.2⟩
  have hst : s_x1 c → s_st (M 69) (M 63 8) (M 63 9) (M 70) = s_th (s_xa (M 69) (M 63 8) c (M 63 9 + 1) (M 70)) (fun p q => s_ps (M 69) (M 63 8) 59 p q) := fun h => by
    unfold s_st
    rw [← hc]
    exact if_pos h
  have hend : ∀ (x : Int32) (M2 : mj_M), s_x1 c → (x = 0 ↔ (s_xa (M 69) (M 63 8) c (M 63 9 + 1) (M 70)).1 = 0) → wP M M2 (s_xa (M 69) (M 63 8) c (M 63 9 + 1) (M 70)).2.1 (s_xa (M 69) (M 63 8) c (M 63 9 + 1) (M 70)).2.2 → V 301 [some (.inr 63), some (.inl c), some (.inl x)] [] M2 := fun x M2 h hx hw => h301 x M2 _ hx hw (oA _ h).1 (oA _ h).2 (hst h)
  (refine b_0 _ _ _ ?_; simp only [k_X7_readsStatement_0, k_X7_readsStatement_68, k_X7_readsStatement_134, k_X7_readsStatement_135, k_X7_readsStatement_139, k_X7_readsStatement_224, k_X7_readsStatement_225, k_X7_readsStatement_229, k_X7_readsStatement_262, k_X7_readsStatement_263, k_X7_readsStatement_267, k_X7_readsStatement_278, k_X7_readsStatement_289, k_X7_readsStatement_301, k_X7_readsStatement_318, k_X7_readsStatement_319, xp_1, xp_2, xp_3, xp_4, xp_5, xp_6, xp_7, xp_10, xp_11, xp_12, xp_13, xp_14, xp_15, xp_16, xp_17, xp_18, xp_19, xp_20, xp_21, xp_22, xp_23, xp_30, xp_31, xp_32, xp_33, xp_34, xp_35, xp_36, xp_37, xp_38, xp_39, xp_40, xp_41, xp_42, xp_43, xp_50, xp_51, xp_52, xp_53, xp_60, xp_61, xp_62, xp_63, xp_64, xp_65, xp_70, xp_80, xp_81, xp_82, up_ne, up_s, ud_s, ud_o, xw_0, xw_1, xg_0, xg_1, xl_i, xl_r, xs_0, xs_1, xq_i, xq_r, xq_v, xc_0, xc_1, xt_0, xt_1, xr_0, xr_1, xr_2, xe_0, xe_1, ob_0, ob_18, ob_36, ob_54, ak_55, ln_55, cq_55, ak_56, ln_56, cq_56, ob_57, ak_58, ln_58, cq_58, ak_59, ln_59, cq_59, ob_60, ak_61, ln_61, cq_61, ak_62, ln_62, cq_62, ob_63, ak_64, ln_64, cq_64, ak_65, ln_65, cq_65, ak_66, ln_66, cq_66, ak_67, ln_67, cq_67, ak_68, ln_68, cq_68, ak_69, ln_69, cq_69, ak_70, ln_70, cq_70, ak_71, ln_71, cq_71, ak_72, ln_72, cq_72, ak_73, ln_73, cq_73, pt_54_0, pt_54_1, pt_57_0, pt_57_3, pt_60_0, pt_60_1, pt_60_2, pt_60_4, pt_60_5, pt_60_6, pt_60_8, pt_63_0, pt_63_1, pt_63_2, pt_63_3, pt_63_4, pt_63_6, pt_63_7, pt_63_10, pt_63_11, pt_63_17, true_and, and_true, List.length_cons, List.length_nil, Nat.reduceAdd, Nat.reduceLeDiff, forall_eq, ne_eq, Nat.reduceEqDiff, not_false_eq_true, or_false, false_or, or_true, true_or, reduceCtorEq, Nat.zero_le, Nat.reduceMul, Nat.add_zero, false_and, and_false, false_implies, true_implies, forall_const, implies_true, List.append_nil, List.nil_append, List.cons_append, mb_i, mb_ii, mb_iii, mb_r, mb_ri, mb_rii, mb_riii, mb_rr, mb_rri, mb_rrii, mb_rriii, mb_riiiii, mb_rrr, mb_rir, mb_iiii, mb_riiii, tn_0, tn_1, tn_2, tn_3, tn_4, tn_5, tn_6, tc_0, tc_1, tc_2, tc_3, tc_4, tc_5, tc_6, xf_0, xf_1, xf_2, Sum.inl.injEq, Sum.inr.injEq, C_M_clockOf, C_M_readsKind, C_M_readsNumber, C_M_readsStatement, C_M_sign, C_M_sleeperOf, C_M_takes])
  rw [← hc]
  refine ⟨⟨hpp.1.1, hpp.2.1⟩, fun h98 => ?_, fun n98 => ⟨fun h99 => ?_, fun n99 => ⟨fun h102 => ?_, fun n102 => ⟨fun h115 => ?_, fun n115 => ⟨fun h116 => ?_, fun n116 => ?_⟩⟩⟩⟩⟩
  · have hx : s_x1 c := Or.inr (Or.inr (Or.inr (Or.inl h98)))
    have exa : ∀ q, s_xa (M 69) (M 63 8) c (M 63 9 + 1) q = s_pn (M 69) (M 63 8) 1 3 (M 63 9 + 1) 0 q := fun q => by
      rw [h98]
      rfl
    (refine b_267 _ _ _ ?_; simp only [k_X7_readsStatement_0, k_X7_readsStatement_68, k_X7_readsStatement_134, k_X7_readsStatement_135, k_X7_readsStatement_139, k_X7_readsStatement_224, k_X7_readsStatement_225, k_X7_readsStatement_229, k_X7_readsStatement_262, k_X7_readsStatement_263, k_X7_readsStatement_267, k_X7_readsStatement_278, k_X7_readsStatement_289, k_X7_readsStatement_301, k_X7_readsStatement_318, k_X7_readsStatement_319, xp_1, xp_2, xp_3, xp_4, xp_5, xp_6, xp_7, xp_10, xp_11, xp_12, xp_13, xp_14, xp_15, xp_16, xp_17, xp_18, xp_19, xp_20, xp_21, xp_22, xp_23, xp_30, xp_31, xp_32, xp_33, xp_34, xp_35, xp_36, xp_37, xp_38, xp_39, xp_40, xp_41, xp_42, xp_43, xp_50, xp_51, xp_52, xp_53, xp_60, xp_61, xp_62, xp_63, xp_64, xp_65, xp_70, xp_80, xp_81, xp_82, up_ne, up_s, ud_s, ud_o, xw_0, xw_1, xg_0, xg_1, xl_i, xl_r, xs_0, xs_1, xq_i, xq_r, xq_v, xc_0, xc_1, xt_0, xt_1, xr_0, xr_1, xr_2, xe_0, xe_1, ob_0, ob_18, ob_36, ob_54, ak_55, ln_55, cq_55, ak_56, ln_56, cq_56, ob_57, ak_58, ln_58, cq_58, ak_59, ln_59, cq_59, ob_60, ak_61, ln_61, cq_61, ak_62, ln_62, cq_62, ob_63, ak_64, ln_64, cq_64, ak_65, ln_65, cq_65, ak_66, ln_66, cq_66, ak_67, ln_67, cq_67, ak_68, ln_68, cq_68, ak_69, ln_69, cq_69, ak_70, ln_70, cq_70, ak_71, ln_71, cq_71, ak_72, ln_72, cq_72, ak_73, ln_73, cq_73, pt_54_0, pt_54_1, pt_57_0, pt_57_3, pt_60_0, pt_60_1, pt_60_2, pt_60_4, pt_60_5, pt_60_6, pt_60_8, pt_63_0, pt_63_1, pt_63_2, pt_63_3, pt_63_4, pt_63_6, pt_63_7, pt_63_10, pt_63_11, pt_63_17, true_and, and_true, List.length_cons, List.length_nil, Nat.reduceAdd, Nat.reduceLeDiff, forall_eq, ne_eq, Nat.reduceEqDiff, not_false_eq_true, or_false, false_or, or_true, true_or, reduceCtorEq, Nat.zero_le, Nat.reduceMul, Nat.add_zero, false_and, and_false, false_implies, true_implies, forall_const, implies_true, List.append_nil, List.nil_append, List.cons_append, mb_i, mb_ii, mb_iii, mb_r, mb_ri, mb_rii, mb_riii, mb_rr, mb_rri, mb_rrii, mb_rriii, mb_riiiii, mb_rrr, mb_rir, mb_iiii, mb_riiii, tn_0, tn_1, tn_2, tn_3, tn_4, tn_5, tn_6, tc_0, tc_1, tc_2, tc_3, tc_4, tc_5, tc_6, xf_0, xf_1, xf_2, Sum.inl.injEq, Sum.inr.injEq, C_M_clockOf, C_M_readsKind, C_M_readsNumber, C_M_readsStatement, C_M_sign, C_M_sleeperOf, C_M_takes])
    refine ⟨⟨pP_w hpp wA (gA hx).1 (gA hx).2, ⟨by decide, by decide⟩, ⟨by decide, by decide⟩⟩, fun y M2 hy => ?_⟩
    obtain ⟨hy, hw⟩ := hy
    have hw2 := wP_t wA hw
    refine hend y M2 hx ?_ ?_
    · rw [exa, hy]
    · rw [exa]
      exact hw2
  · have hx : s_x1 c := Or.inr (Or.inl h99)
    have exa : ∀ q, s_xa (M 69) (M 63 8) c (M 63 9 + 1) q = s_xc (M 69) (M 63 8) (M 63 9 + 1) q := fun q => by
      rw [h99]
      rfl
    refine h139 _ _ wA (gA hx).1 (gA hx).2 (fun x M2 h1 h2 => ?_)
    rw [← exa] at h1 h2
    (refine b_225 _ _ _ ?_; simp only [k_X7_readsStatement_0, k_X7_readsStatement_68, k_X7_readsStatement_134, k_X7_readsStatement_135, k_X7_readsStatement_139, k_X7_readsStatement_224, k_X7_readsStatement_225, k_X7_readsStatement_229, k_X7_readsStatement_262, k_X7_readsStatement_263, k_X7_readsStatement_267, k_X7_readsStatement_278, k_X7_readsStatement_289, k_X7_readsStatement_301, k_X7_readsStatement_318, k_X7_readsStatement_319, xp_1, xp_2, xp_3, xp_4, xp_5, xp_6, xp_7, xp_10, xp_11, xp_12, xp_13, xp_14, xp_15, xp_16, xp_17, xp_18, xp_19, xp_20, xp_21, xp_22, xp_23, xp_30, xp_31, xp_32, xp_33, xp_34, xp_35, xp_36, xp_37, xp_38, xp_39, xp_40, xp_41, xp_42, xp_43, xp_50, xp_51, xp_52, xp_53, xp_60, xp_61, xp_62, xp_63, xp_64, xp_65, xp_70, xp_80, xp_81, xp_82, up_ne, up_s, ud_s, ud_o, xw_0, xw_1, xg_0, xg_1, xl_i, xl_r, xs_0, xs_1, xq_i, xq_r, xq_v, xc_0, xc_1, xt_0, xt_1, xr_0, xr_1, xr_2, xe_0, xe_1, ob_0, ob_18, ob_36, ob_54, ak_55, ln_55, cq_55, ak_56, ln_56, cq_56, ob_57, ak_58, ln_58, cq_58, ak_59, ln_59, cq_59, ob_60, ak_61, ln_61, cq_61, ak_62, ln_62, cq_62, ob_63, ak_64, ln_64, cq_64, ak_65, ln_65, cq_65, ak_66, ln_66, cq_66, ak_67, ln_67, cq_67, ak_68, ln_68, cq_68, ak_69, ln_69, cq_69, ak_70, ln_70, cq_70, ak_71, ln_71, cq_71, ak_72, ln_72, cq_72, ak_73, ln_73, cq_73, pt_54_0, pt_54_1, pt_57_0, pt_57_3, pt_60_0, pt_60_1, pt_60_2, pt_60_4, pt_60_5, pt_60_6, pt_60_8, pt_63_0, pt_63_1, pt_63_2, pt_63_3, pt_63_4, pt_63_6, pt_63_7, pt_63_10, pt_63_11, pt_63_17, true_and, and_true, List.length_cons, List.length_nil, Nat.reduceAdd, Nat.reduceLeDiff, forall_eq, ne_eq, Nat.reduceEqDiff, not_false_eq_true, or_false, false_or, or_true, true_or, reduceCtorEq, Nat.zero_le, Nat.reduceMul, Nat.add_zero, false_and, and_false, false_implies, true_implies, forall_const, implies_true, List.append_nil, List.nil_append, List.cons_append, mb_i, mb_ii, mb_iii, mb_r, mb_ri, mb_rii, mb_riii, mb_rr, mb_rri, mb_rrii, mb_rriii, mb_riiiii, mb_rrr, mb_rir, mb_iiii, mb_riiii, tn_0, tn_1, tn_2, tn_3, tn_4, tn_5, tn_6, tc_0, tc_1, tc_2, tc_3, tc_4, tc_5, tc_6, xf_0, xf_1, xf_2, Sum.inl.injEq, Sum.inr.injEq, C_M_clockOf, C_M_readsKind, C_M_readsNumber, C_M_readsStatement, C_M_sign, C_M_sleeperOf, C_M_takes])
    exact hend x M2 hx h1 h2
  · have hx : s_x1 c := Or.inr (Or.inr (Or.inr (Or.inr h102)))
    have exa : ∀ q, s_xa (M 69) (M 63 8) c (M 63 9 + 1) q = s_pn (M 69) (M 63 8) 1 2 (M 63 9 + 1) 0 q := fun q => by
      rw [h102]
      rfl
    (refine b_278 _ _ _ ?_; simp only [k_X7_readsStatement_0, k_X7_readsStatement_68, k_X7_readsStatement_134, k_X7_readsStatement_135, k_X7_readsStatement_139, k_X7_readsStatement_224, k_X7_readsStatement_225, k_X7_readsStatement_229, k_X7_readsStatement_262, k_X7_readsStatement_263, k_X7_readsStatement_267, k_X7_readsStatement_278, k_X7_readsStatement_289, k_X7_readsStatement_301, k_X7_readsStatement_318, k_X7_readsStatement_319, xp_1, xp_2, xp_3, xp_4, xp_5, xp_6, xp_7, xp_10, xp_11, xp_12, xp_13, xp_14, xp_15, xp_16, xp_17, xp_18, xp_19, xp_20, xp_21, xp_22, xp_23, xp_30, xp_31, xp_32, xp_33, xp_34, xp_35, xp_36, xp_37, xp_38, xp_39, xp_40, xp_41, xp_42, xp_43, xp_50, xp_51, xp_52, xp_53, xp_60, xp_61, xp_62, xp_63, xp_64, xp_65, xp_70, xp_80, xp_81, xp_82, up_ne, up_s, ud_s, ud_o, xw_0, xw_1, xg_0, xg_1, xl_i, xl_r, xs_0, xs_1, xq_i, xq_r, xq_v, xc_0, xc_1, xt_0, xt_1, xr_0, xr_1, xr_2, xe_0, xe_1, ob_0, ob_18, ob_36, ob_54, ak_55, ln_55, cq_55, ak_56, ln_56, cq_56, ob_57, ak_58, ln_58, cq_58, ak_59, ln_59, cq_59, ob_60, ak_61, ln_61, cq_61, ak_62, ln_62, cq_62, ob_63, ak_64, ln_64, cq_64, ak_65, ln_65, cq_65, ak_66, ln_66, cq_66, ak_67, ln_67, cq_67, ak_68, ln_68, cq_68, ak_69, ln_69, cq_69, ak_70, ln_70, cq_70, ak_71, ln_71, cq_71, ak_72, ln_72, cq_72, ak_73, ln_73, cq_73, pt_54_0, pt_54_1, pt_57_0, pt_57_3, pt_60_0, pt_60_1, pt_60_2, pt_60_4, pt_60_5, pt_60_6, pt_60_8, pt_63_0, pt_63_1, pt_63_2, pt_63_3, pt_63_4, pt_63_6, pt_63_7, pt_63_10, pt_63_11, pt_63_17, true_and, and_true, List.length_cons, List.length_nil, Nat.reduceAdd, Nat.reduceLeDiff, forall_eq, ne_eq, Nat.reduceEqDiff, not_false_eq_true, or_false, false_or, or_true, true_or, reduceCtorEq, Nat.zero_le, Nat.reduceMul, Nat.add_zero, false_and, and_false, false_implies, true_implies, forall_const, implies_true, List.append_nil, List.nil_append, List.cons_append, mb_i, mb_ii, mb_iii, mb_r, mb_ri, mb_rii, mb_riii, mb_rr, mb_rri, mb_rrii, mb_rriii, mb_riiiii, mb_rrr, mb_rir, mb_iiii, mb_riiii, tn_0, tn_1, tn_2, tn_3, tn_4, tn_5, tn_6, tc_0, tc_1, tc_2, tc_3, tc_4, tc_5, tc_6, xf_0, xf_1, xf_2, Sum.inl.injEq, Sum.inr.injEq, C_M_clockOf, C_M_readsKind, C_M_readsNumber, C_M_readsStatement, C_M_sign, C_M_sleeperOf, C_M_takes])
    refine ⟨⟨pP_w hpp wA (gA hx).1 (gA hx).2, ⟨by decide, by decide⟩, ⟨by decide, by decide⟩⟩, fun y M2 hy => ?_⟩
    obtain ⟨hy, hw⟩ := hy
    have hw2 := wP_t wA hw
    refine hend y M2 hx ?_ ?_
    · rw [exa, hy]
    · rw [exa]
      exact hw2
  · have hx : s_x1 c := Or.inl h115
    have exa : ∀ q, s_xa (M 69) (M 63 8) c (M 63 9 + 1) q = s_xs (M 69) (M 63 8) (M 63 9 + 1) q := fun q => by
      rw [h115]
      rfl
    refine h68 _ _ wA (gA hx).1 (gA hx).2 (fun x M2 h1 h2 => ?_)
    rw [← exa] at h1 h2
    (refine b_135 _ _ _ ?_; simp only [k_X7_readsStatement_0, k_X7_readsStatement_68, k_X7_readsStatement_134, k_X7_readsStatement_135, k_X7_readsStatement_139, k_X7_readsStatement_224, k_X7_readsStatement_225, k_X7_readsStatement_229, k_X7_readsStatement_262, k_X7_readsStatement_263, k_X7_readsStatement_267, k_X7_readsStatement_278, k_X7_readsStatement_289, k_X7_readsStatement_301, k_X7_readsStatement_318, k_X7_readsStatement_319, xp_1, xp_2, xp_3, xp_4, xp_5, xp_6, xp_7, xp_10, xp_11, xp_12, xp_13, xp_14, xp_15, xp_16, xp_17, xp_18, xp_19, xp_20, xp_21, xp_22, xp_23, xp_30, xp_31, xp_32, xp_33, xp_34, xp_35, xp_36, xp_37, xp_38, xp_39, xp_40, xp_41, xp_42, xp_43, xp_50, xp_51, xp_52, xp_53, xp_60, xp_61, xp_62, xp_63, xp_64, xp_65, xp_70, xp_80, xp_81, xp_82, up_ne, up_s, ud_s, ud_o, xw_0, xw_1, xg_0, xg_1, xl_i, xl_r, xs_0, xs_1, xq_i, xq_r, xq_v, xc_0, xc_1, xt_0, xt_1, xr_0, xr_1, xr_2, xe_0, xe_1, ob_0, ob_18, ob_36, ob_54, ak_55, ln_55, cq_55, ak_56, ln_56, cq_56, ob_57, ak_58, ln_58, cq_58, ak_59, ln_59, cq_59, ob_60, ak_61, ln_61, cq_61, ak_62, ln_62, cq_62, ob_63, ak_64, ln_64, cq_64, ak_65, ln_65, cq_65, ak_66, ln_66, cq_66, ak_67, ln_67, cq_67, ak_68, ln_68, cq_68, ak_69, ln_69, cq_69, ak_70, ln_70, cq_70, ak_71, ln_71, cq_71, ak_72, ln_72, cq_72, ak_73, ln_73, cq_73, pt_54_0, pt_54_1, pt_57_0, pt_57_3, pt_60_0, pt_60_1, pt_60_2, pt_60_4, pt_60_5, pt_60_6, pt_60_8, pt_63_0, pt_63_1, pt_63_2, pt_63_3, pt_63_4, pt_63_6, pt_63_7, pt_63_10, pt_63_11, pt_63_17, true_and, and_true, List.length_cons, List.length_nil, Nat.reduceAdd, Nat.reduceLeDiff, forall_eq, ne_eq, Nat.reduceEqDiff, not_false_eq_true, or_false, false_or, or_true, true_or, reduceCtorEq, Nat.zero_le, Nat.reduceMul, Nat.add_zero, false_and, and_false, false_implies, true_implies, forall_const, implies_true, List.append_nil, List.nil_append, List.cons_append, mb_i, mb_ii, mb_iii, mb_r, mb_ri, mb_rii, mb_riii, mb_rr, mb_rri, mb_rrii, mb_rriii, mb_riiiii, mb_rrr, mb_rir, mb_iiii, mb_riiii, tn_0, tn_1, tn_2, tn_3, tn_4, tn_5, tn_6, tc_0, tc_1, tc_2, tc_3, tc_4, tc_5, tc_6, xf_0, xf_1, xf_2, Sum.inl.injEq, Sum.inr.injEq, C_M_clockOf, C_M_readsKind, C_M_readsNumber, C_M_readsStatement, C_M_sign, C_M_sleeperOf, C_M_takes])
    exact hend x M2 hx h1 h2
  · have hx : s_x1 c := Or.inr (Or.inr (Or.inl h116))
    have exa : ∀ q, s_xa (M 69) (M 63 8) c (M 63 9 + 1) q = s_xt (M 69) (M 63 8) (M 63 9 + 1) q := fun q => by
      rw [h116]
      rfl
    refine h229 _ _ wA (gA hx).1 (gA hx).2 (fun x M2 h1 h2 => ?_)
    rw [← exa] at h1 h2
    (refine b_263 _ _ _ ?_; simp only [k_X7_readsStatement_0, k_X7_readsStatement_68, k_X7_readsStatement_134, k_X7_readsStatement_135, k_X7_readsStatement_139, k_X7_readsStatement_224, k_X7_readsStatement_225, k_X7_readsStatement_229, k_X7_readsStatement_262, k_X7_readsStatement_263, k_X7_readsStatement_267, k_X7_readsStatement_278, k_X7_readsStatement_289, k_X7_readsStatement_301, k_X7_readsStatement_318, k_X7_readsStatement_319, xp_1, xp_2, xp_3, xp_4, xp_5, xp_6, xp_7, xp_10, xp_11, xp_12, xp_13, xp_14, xp_15, xp_16, xp_17, xp_18, xp_19, xp_20, xp_21, xp_22, xp_23, xp_30, xp_31, xp_32, xp_33, xp_34, xp_35, xp_36, xp_37, xp_38, xp_39, xp_40, xp_41, xp_42, xp_43, xp_50, xp_51, xp_52, xp_53, xp_60, xp_61, xp_62, xp_63, xp_64, xp_65, xp_70, xp_80, xp_81, xp_82, up_ne, up_s, ud_s, ud_o, xw_0, xw_1, xg_0, xg_1, xl_i, xl_r, xs_0, xs_1, xq_i, xq_r, xq_v, xc_0, xc_1, xt_0, xt_1, xr_0, xr_1, xr_2, xe_0, xe_1, ob_0, ob_18, ob_36, ob_54, ak_55, ln_55, cq_55, ak_56, ln_56, cq_56, ob_57, ak_58, ln_58, cq_58, ak_59, ln_59, cq_59, ob_60, ak_61, ln_61, cq_61, ak_62, ln_62, cq_62, ob_63, ak_64, ln_64, cq_64, ak_65, ln_65, cq_65, ak_66, ln_66, cq_66, ak_67, ln_67, cq_67, ak_68, ln_68, cq_68, ak_69, ln_69, cq_69, ak_70, ln_70, cq_70, ak_71, ln_71, cq_71, ak_72, ln_72, cq_72, ak_73, ln_73, cq_73, pt_54_0, pt_54_1, pt_57_0, pt_57_3, pt_60_0, pt_60_1, pt_60_2, pt_60_4, pt_60_5, pt_60_6, pt_60_8, pt_63_0, pt_63_1, pt_63_2, pt_63_3, pt_63_4, pt_63_6, pt_63_7, pt_63_10, pt_63_11, pt_63_17, true_and, and_true, List.length_cons, List.length_nil, Nat.reduceAdd, Nat.reduceLeDiff, forall_eq, ne_eq, Nat.reduceEqDiff, not_false_eq_true, or_false, false_or, or_true, true_or, reduceCtorEq, Nat.zero_le, Nat.reduceMul, Nat.add_zero, false_and, and_false, false_implies, true_implies, forall_const, implies_true, List.append_nil, List.nil_append, List.cons_append, mb_i, mb_ii, mb_iii, mb_r, mb_ri, mb_rii, mb_riii, mb_rr, mb_rri, mb_rrii, mb_rriii, mb_riiiii, mb_rrr, mb_rir, mb_iiii, mb_riiii, tn_0, tn_1, tn_2, tn_3, tn_4, tn_5, tn_6, tc_0, tc_1, tc_2, tc_3, tc_4, tc_5, tc_6, xf_0, xf_1, xf_2, Sum.inl.injEq, Sum.inr.injEq, C_M_clockOf, C_M_readsKind, C_M_readsNumber, C_M_readsStatement, C_M_sign, C_M_sleeperOf, C_M_takes])
    exact hend x M2 hx h1 h2
  · have hx : ¬ (c = 115 ∨ c = 99 ∨ c = 116 ∨ c = 98 ∨ c = 102) := fun h => by
      rcases h with h | h | h | h | h
      · exact n115 h
      · exact n99 h
      · exact n116 h
      · exact n98 h
      · exact n102 h
    (refine b_289 _ _ _ ?_; simp only [k_X7_readsStatement_0, k_X7_readsStatement_68, k_X7_readsStatement_134, k_X7_readsStatement_135, k_X7_readsStatement_139, k_X7_readsStatement_224, k_X7_readsStatement_225, k_X7_readsStatement_229, k_X7_readsStatement_262, k_X7_readsStatement_263, k_X7_readsStatement_267, k_X7_readsStatement_278, k_X7_readsStatement_289, k_X7_readsStatement_301, k_X7_readsStatement_318, k_X7_readsStatement_319, xp_1, xp_2, xp_3, xp_4, xp_5, xp_6, xp_7, xp_10, xp_11, xp_12, xp_13, xp_14, xp_15, xp_16, xp_17, xp_18, xp_19, xp_20, xp_21, xp_22, xp_23, xp_30, xp_31, xp_32, xp_33, xp_34, xp_35, xp_36, xp_37, xp_38, xp_39, xp_40, xp_41, xp_42, xp_43, xp_50, xp_51, xp_52, xp_53, xp_60, xp_61, xp_62, xp_63, xp_64, xp_65, xp_70, xp_80, xp_81, xp_82, up_ne, up_s, ud_s, ud_o, xw_0, xw_1, xg_0, xg_1, xl_i, xl_r, xs_0, xs_1, xq_i, xq_r, xq_v, xc_0, xc_1, xt_0, xt_1, xr_0, xr_1, xr_2, xe_0, xe_1, ob_0, ob_18, ob_36, ob_54, ak_55, ln_55, cq_55, ak_56, ln_56, cq_56, ob_57, ak_58, ln_58, cq_58, ak_59, ln_59, cq_59, ob_60, ak_61, ln_61, cq_61, ak_62, ln_62, cq_62, ob_63, ak_64, ln_64, cq_64, ak_65, ln_65, cq_65, ak_66, ln_66, cq_66, ak_67, ln_67, cq_67, ak_68, ln_68, cq_68, ak_69, ln_69, cq_69, ak_70, ln_70, cq_70, ak_71, ln_71, cq_71, ak_72, ln_72, cq_72, ak_73, ln_73, cq_73, pt_54_0, pt_54_1, pt_57_0, pt_57_3, pt_60_0, pt_60_1, pt_60_2, pt_60_4, pt_60_5, pt_60_6, pt_60_8, pt_63_0, pt_63_1, pt_63_2, pt_63_3, pt_63_4, pt_63_6, pt_63_7, pt_63_10, pt_63_11, pt_63_17, true_and, and_true, List.length_cons, List.length_nil, Nat.reduceAdd, Nat.reduceLeDiff, forall_eq, ne_eq, Nat.reduceEqDiff, not_false_eq_true, or_false, false_or, or_true, true_or, reduceCtorEq, Nat.zero_le, Nat.reduceMul, Nat.add_zero, false_and, and_false, false_implies, true_implies, forall_const, implies_true, List.append_nil, List.nil_append, List.cons_append, mb_i, mb_ii, mb_iii, mb_r, mb_ri, mb_rii, mb_riii, mb_rr, mb_rri, mb_rrii, mb_rriii, mb_riiiii, mb_rrr, mb_rir, mb_iiii, mb_riiii, tn_0, tn_1, tn_2, tn_3, tn_4, tn_5, tn_6, tc_0, tc_1, tc_2, tc_3, tc_4, tc_5, tc_6, xf_0, xf_1, xf_2, Sum.inl.injEq, Sum.inr.injEq, C_M_clockOf, C_M_readsKind, C_M_readsNumber, C_M_readsStatement, C_M_sign, C_M_sleeperOf, C_M_takes])
    unfold s_st
    rw [← hc, if_neg hx]
    have e : M 63 9 + 1 - 1 = M 63 9 := Int32.add_sub_cancel _ _
    refine ⟨rfl, ?_⟩
    rw [up_up, e]
    have := wP_9 (wP_r M) (M 63 9)
    exact this

