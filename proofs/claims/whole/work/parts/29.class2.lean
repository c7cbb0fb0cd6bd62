/-! a room's depths, sums, what is done, days -/
def rB (b : Nat) : Prop := b = 0 ∨ b = 18 ∨ b = 36
theorem rB_p {b : Nat} (h : rB b) : mj_pt b 0 = b + 1 ∧ mj_pt b 1 = b + 2 ∧ mj_pt b 2 = b + 3 ∧ (∀ j, mj_pt (b + 1) j = b + 4 + j) ∧ (∀ j, mj_pt (b + 2) j = b + 8 + j) ∧ ∀ j, mj_pt (b + 3) j = b + 12 + j := by
  rcases h with rfl | rfl | rfl <;> exact ⟨rfl, rfl, rfl, fun _ => rfl, fun _ => rfl, fun _ => rfl⟩
theorem rB_k {b : Nat} (h : rB b) : mj_ak (b + 1) = 2 ∧ mj_ak (b + 2) = 2 ∧ mj_ak (b + 3) = 2 ∧ mj_ln mj_s0 (b + 1) = 4 ∧ mj_ln mj_s0 (b + 2) = 4 ∧ mj_ln mj_s0 (b + 3) = 6 := by
  rcases h with rfl | rfl | rfl <;> exact ⟨rfl, rfl, rfl, rfl, rfl, rfl⟩
theorem rB_o {b : Nat} (h : rB b) : mj_ob b = 2 ∧ (∀ i, i < 4 → mj_ob (b + 4 + i) = 3) ∧ (∀ i, i < 4 → mj_ob (b + 8 + i) = 0) ∧ ∀ i, i < 6 → mj_ob (b + 12 + i) = 4 := by
  refine ⟨by rcases h with rfl | rfl | rfl <;> rfl, fun i hi => ?_, fun i hi => ?_, fun i hi => ?_⟩
  · rcases (show i = 0 ∨ i = 1 ∨ i = 2 ∨ i = 3 by omega) with rfl | rfl | rfl | rfl <;> rcases h with rfl | rfl | rfl <;> rfl
  · rcases (show i = 0 ∨ i = 1 ∨ i = 2 ∨ i = 3 by omega) with rfl | rfl | rfl | rfl <;> rcases h with rfl | rfl | rfl <;> rfl
  · rcases (show i = 0 ∨ i = 1 ∨ i = 2 ∨ i = 3 ∨ i = 4 ∨ i = 5 by omega) with rfl | rfl | rfl | rfl | rfl | rfl <;> rcases h with rfl | rfl | rfl <;> rfl
def C_M_depthAt : mj_C := (4, 1, fun avs M => ma_riii avs fun a m t d => (mj_ob a = 3 ∧ 0 ≤ m.toInt ∧ bd (M a 1) 1 99), fun avs M r M' => ma_riii avs fun a m t d => (r = .inl (s_dep (M a 0) (M a 1) (M a 2) m t d) ∧ M' = M))
theorem rc_M_depthAt : ∀ avs M, C_M_depthAt.2.2.1 avs M → ∃ a r, avs = .inr a :: r ∧ mj_ob a = 3 := by
  intro avs M h
  obtain ⟨a, m, t, d, rfl, h⟩ := mc_riii h
  exact ⟨_, _, rfl, h.1⟩
set_option maxRecDepth 20000 in
set_option maxHeartbeats 2000000 in
theorem t_M_depthAt : mj_T yX3_depthAt cX3_depthAt 6 (some .int) 1 C_M_depthAt := by
  refine mj_T_of (own := 3) (rk := 1) [(107, C_J_min)] (by decide) rfl (by decide) ⟨rfl, rfl⟩ (List.forall_mem_cons.mpr ⟨J_min_3_35, (fun _ h => absurd h List.not_mem_nil)⟩) ?_
  intro avs M hlen hpre V hV
  obtain ⟨a, m, t, d, rfl, hp⟩ := mc_riii hpre
  show V 0 [some (.inr a), some (.inl m), some (.inl t), some (.inl d), none, none] [] M
  have b_0 := hV h_X3_depthAt_0; have b_47 := hV h_X3_depthAt_47; have b_84 := hV h_X3_depthAt_84; have b_89 := hV h_X3_depthAt_89; have b_94 := hV h_X3_depthAt_94; have b_108 := hV h_X3_depthAt_108; have b_119 := hV h_X3_depthAt_119; have b_123 := hV h_X3_depthAt_123; have b_124 := hV h_X3_depthAt_124; have b_134 := hV h_X3_depthAt_134; have b_138 := hV h_X3_depthAt_138; have b_139 := hV h_X3_depthAt_139
  clear hlen hpre hV
  obtain ⟨ha, hm, hr⟩ := hp
  have hr1 := hr.1
  have hp : 0 < M a 1 := by rw [ti_lt]; show 0 < _; omega
  have hz : ¬ M a 1 = 0 := fun h => by
    rw [h] at hr1
    exact absurd hr1 (by decide)
  have hpl : t + (if M a 1 - (m - m / M a 1 * M a 1) < m - m / M a 1 * M a 1 then M a 1 - (m - m / M a 1 * M a 1) else m - m / M a 1 * M a 1) * M a 2 * 2 / M a 1 = s_pl (M a 1) (M a 2) m t := by
    unfold s_pl s_nr s_rm
    rw [Int32.add_comm]
    congr 4
    by_cases h1 : M a 1 - (m - m / M a 1 * M a 1) < m - m / M a 1 * M a 1
    · have h2 := h1
      rw [ti_lt] at h2
      rw [if_pos h1, if_neg (by rw [ti_lt]; omega)]
    · rw [if_neg h1]
      by_cases h2 : m - m / M a 1 * M a 1 < M a 1 - (m - m / M a 1 * M a 1)
      · rw [if_pos h2]
      · rw [if_neg h2]
        rw [ti_lt] at h1 h2
        rw [ti_eq]
        omega
  have h5 : (4 < d) = ¬ (d < 5) := propext (by
    rw [ti_lt, ti_lt]
    show 4 < d.toInt ↔ ¬ d.toInt < 5
    omega)
  repeat' (first | (with_reducible refine And.intro ?_ ?_) | (with_reducible intro _) | ((first | refine b_0 _ _ _ ?_ | refine b_47 _ _ _ ?_ | refine b_84 _ _ _ ?_ | refine b_89 _ _ _ ?_ | refine b_94 _ _ _ ?_ | refine b_108 _ _ _ ?_ | refine b_119 _ _ _ ?_ | refine b_123 _ _ _ ?_ | refine b_124 _ _ _ ?_ | refine b_134 _ _ _ ?_ | refine b_138 _ _ _ ?_ | refine b_139 _ _ _ ?_); simp only [k_X3_depthAt_0, k_X3_depthAt_47, k_X3_depthAt_84, k_X3_depthAt_89, k_X3_depthAt_94, k_X3_depthAt_108, k_X3_depthAt_119, k_X3_depthAt_123, k_X3_depthAt_124, k_X3_depthAt_134, k_X3_depthAt_138, k_X3_depthAt_139, xp_1, xp_2, xp_3, xp_4, xp_5, xp_6, xp_7, xp_10, xp_11, xp_12, xp_13, xp_14, xp_15, xp_16, xp_17, xp_18, xp_19, xp_20, xp_21, xp_22, xp_23, xp_30, xp_31, xp_32, xp_33, xp_34, xp_35, xp_36, xp_37, xp_38, xp_39, xp_40, xp_41, xp_42, xp_43, xp_50, xp_51, xp_52, xp_53, xp_60, xp_61, xp_62, xp_63, xp_64, xp_65, xp_70, xp_80, xp_81, xp_82, up_ne, up_s, ud_s, ud_o, xw_0, xw_1, xg_0, xg_1, xl_i, xl_r, xs_0, xs_1, xq_i, xq_r, xq_v, xc_0, xc_1, xt_0, xt_1, xr_0, xr_1, xr_2, xe_0, xe_1, ob_0, ob_18, ob_36, ob_54, ak_55, ln_55, cq_55, ak_56, ln_56, cq_56, ob_57, ak_58, ln_58, cq_58, ak_59, ln_59, cq_59, ob_60, ak_61, ln_61, cq_61, ak_62, ln_62, cq_62, ob_63, ak_64, ln_64, cq_64, ak_65, ln_65, cq_65, ak_66, ln_66, cq_66, ak_67, ln_67, cq_67, ak_68, ln_68, cq_68, ak_69, ln_69, cq_69, ak_70, ln_70, cq_70, ak_71, ln_71, cq_71, ak_72, ln_72, cq_72, ak_73, ln_73, cq_73, pt_54_0, pt_54_1, pt_57_0, pt_57_3, pt_60_0, pt_60_1, pt_60_2, pt_60_4, pt_60_5, pt_60_6, pt_60_8, pt_63_0, pt_63_1, pt_63_2, pt_63_3, pt_63_4, pt_63_6, pt_63_7, pt_63_10, pt_63_11, pt_63_17, true_and, and_true, List.length_cons, List.length_nil, Nat.reduceAdd, Nat.reduceLeDiff, forall_eq, ne_eq, Nat.reduceEqDiff, not_false_eq_true, or_false, false_or, or_true, true_or, reduceCtorEq, Nat.zero_le, Nat.reduceMul, Nat.add_zero, false_and, and_false, false_implies, true_implies, forall_const, implies_true, List.append_nil, List.nil_append, List.cons_append, mb_i, mb_ii, mb_iii, mb_r, mb_ri, mb_rii, mb_riii, mb_rr, mb_rri, mb_rrii, mb_rriii, mb_riiiii, mb_rrr, mb_rir, mb_iiii, mb_riiii, tn_0, tn_1, tn_2, tn_3, tn_4, tn_5, tn_6, tc_0, tc_1, tc_2, tc_3, tc_4, tc_5, tc_6, xf_0, xf_1, xf_2, Sum.inl.injEq, Sum.inr.injEq, C_J_min, C_M_depthAt]))
  all_goals clear b_0 b_47 b_84 b_89 b_94 b_108 b_119 b_123 b_124 b_134 b_138 b_139
  all_goals first | exact ha | exact hz | decide | exact absurd hp (by assumption) | skip
  all_goals (try simp only [hpl])
  all_goals (clear hpl; first | (simp [s_dep, *]; done) | (simp [s_dep, s_rm, *]; done) | skip)
  all_goals exact (0 : Nat)

def C_M_depthOf2 : mj_C := (3, 1, fun avs M => ma_rii avs fun b i m => (rB b ∧ dR (rv M b) ∧ bd i 0 3 ∧ i.toInt < (M b 3).toInt ∧ 0 ≤ m.toInt), fun avs M r M' => ma_rii avs fun b i m => (r = .inl (s_D (rv M b) i m) ∧ M' = M))
theorem rc_M_depthOf2 : ∀ avs M, C_M_depthOf2.2.2.1 avs M → ∃ a r, avs = .inr a :: r ∧ mj_ob a = 2 := by
  intro avs M h
  obtain ⟨b, i, m, rfl, h⟩ := mc_rii h
  exact ⟨_, _, rfl, (rB_o h.1).1⟩
set_option maxRecDepth 20000 in
set_option maxHeartbeats 2000000 in
theorem t_M_depthOf2 : mj_T yX2_depthOf cX2_depthOf 3 (some .int) 2 C_M_depthOf2 := by
  refine mj_T_of (own := 2) (rk := 1) [(315, C_M_depthAt)] (by decide) rfl (by decide) ⟨rfl, rfl⟩ (List.forall_mem_cons.mpr ⟨mj_KV (own := 2) (nest := true) t_M_depthAt ⟨wc_X3_depthAt, wi_X3, by decide, wl_2_105⟩ wn_X3_depthAt ws_X3_depthAt (c0 := 3) (by decide) rfl (by decide +kernel) rc_M_depthAt (by decide), (fun _ h => absurd h List.not_mem_nil)⟩) ?_
  intro avs M hlen hpre V hV
  obtain ⟨b, i, m, rfl, hp⟩ := mc_rii hpre
  show V 0 [some (.inr b), some (.inl i), some (.inl m)] [] M
  have b_0 := hV h_X2_depthOf_0; have b_9 := hV h_X2_depthOf_9; have b_11 := hV h_X2_depthOf_11
  clear hlen hpre hV
  obtain ⟨hb, hd, hi, hin, hm⟩ := hp
  obtain ⟨p0, p1, p2, q1, q2, q3⟩ := rB_p hb
  obtain ⟨k1, k2, k3, l1, l2, l3⟩ := rB_k hb
  obtain ⟨o0, o1, o2, o3⟩ := rB_o hb
  have hi1 := hi.1
  have hi2 := hi.2
  have ti := tn_of hi1
  have tc := tn_of (show 0 ≤ (M b 3).toInt by omega)
  have er : ∀ w, w < 4 → rv M b (7 + 4 * tn i + w) = M (b + 4 + tn i) w := fun w hw => rv_s (by omega) hw (by omega)
  have d1 := hd.2.2.2.2.2.2.2.1 (tn i) (by rw [rv_0]; omega)
  have er0 := er 0 (by omega)
  rw [er 1 (by omega)] at d1
  have n0 : ¬ i < 0 := fun h => by
    rw [ti_lt] at h
    exact absurd h (show ¬ i.toInt < 0 by omega)
  have n4 : i < 4 := by
    rw [ti_lt]
    show i.toInt < 4
    omega
  have d2 : bd (M (b + 4 + tn i) 1) 1 99 := ⟨by have := d1.2.1.1; omega, d1.2.1.2⟩
  have hx : vp_in i 4 := vi_x hi1 (by omega)
  have ho := o1 (tn i) (by omega)
  have hres : s_dep (M (b + 4 + tn i) 0) (M (b + 4 + tn i) 1) (M (b + 4 + tn i) 2) m (M b 8) (M b 9) = s_D (rv M b) i m := by
    unfold s_D
    rw [show 7 + 4 * tn i = 7 + 4 * tn i + 0 from rfl, er 0 (by omega), er 1 (by omega), er 2 (by omega)]
    rfl
  repeat' (first | (with_reducible refine And.intro ?_ ?_) | (with_reducible intro _) | ((first | refine b_0 _ _ _ ?_ | refine b_9 _ _ _ ?_ | refine b_11 _ _ _ ?_); simp only [k_X2_depthOf_0, k_X2_depthOf_9, k_X2_depthOf_11, xp_1, xp_2, xp_3, xp_4, xp_5, xp_6, xp_7, xp_10, xp_11, xp_12, xp_13, xp_14, xp_15, xp_16, xp_17, xp_18, xp_19, xp_20, xp_21, xp_22, xp_23, xp_30, xp_31, xp_32, xp_33, xp_34, xp_35, xp_36, xp_37, xp_38, xp_39, xp_40, xp_41, xp_42, xp_43, xp_50, xp_51, xp_52, xp_53, xp_60, xp_61, xp_62, xp_63, xp_64, xp_65, xp_70, xp_80, xp_81, xp_82, up_ne, up_s, ud_s, ud_o, xw_0, xw_1, xg_0, xg_1, xl_i, xl_r, xs_0, xs_1, xq_i, xq_r, xq_v, xc_0, xc_1, xt_0, xt_1, xr_0, xr_1, xr_2, xe_0, xe_1, ob_0, ob_18, ob_36, ob_54, ak_55, ln_55, cq_55, ak_56, ln_56, cq_56, ob_57, ak_58, ln_58, cq_58, ak_59, ln_59, cq_59, ob_60, ak_61, ln_61, cq_61, ak_62, ln_62, cq_62, ob_63, ak_64, ln_64, cq_64, ak_65, ln_65, cq_65, ak_66, ln_66, cq_66, ak_67, ln_67, cq_67, ak_68, ln_68, cq_68, ak_69, ln_69, cq_69, ak_70, ln_70, cq_70, ak_71, ln_71, cq_71, ak_72, ln_72, cq_72, ak_73, ln_73, cq_73, pt_54_0, pt_54_1, pt_57_0, pt_57_3, pt_60_0, pt_60_1, pt_60_2, pt_60_4, pt_60_5, pt_60_6, pt_60_8, pt_63_0, pt_63_1, pt_63_2, pt_63_3, pt_63_4, pt_63_6, pt_63_7, pt_63_10, pt_63_11, pt_63_17, true_and, and_true, List.length_cons, List.length_nil, Nat.reduceAdd, Nat.reduceLeDiff, forall_eq, ne_eq, Nat.reduceEqDiff, not_false_eq_true, or_false, false_or, or_true, true_or, reduceCtorEq, Nat.zero_le, Nat.reduceMul, Nat.add_zero, false_and, and_false, false_implies, true_implies, forall_const, implies_true, List.append_nil, List.nil_append, List.cons_append, mb_i, mb_ii, mb_iii, mb_r, mb_ri, mb_rii, mb_riii, mb_rr, mb_rri, mb_rrii, mb_rriii, mb_riiiii, mb_rrr, mb_rir, mb_iiii, mb_riiii, tn_0, tn_1, tn_2, tn_3, tn_4, tn_5, tn_6, tc_0, tc_1, tc_2, tc_3, tc_4, tc_5, tc_6, xf_0, xf_1, xf_2, Sum.inl.injEq, Sum.inr.injEq, C_M_depthAt, C_M_depthOf2, p0, p1, p2, k1, l1, q1, o0]))
  all_goals clear b_0 b_9 b_11
  all_goals first | exact absurd (by assumption) n0 | exact absurd n4 (by assumption) | exact hx | exact ho | exact hm | exact d2 | exact hres

theorem an_1 (x : Int32) : x &&& 1 = 0 ∨ x &&& 1 = 1 := by
  have h : (x &&& 1).toBitVec = BitVec.setWidth 32 (BitVec.ofBool (x.toBitVec.getLsbD 0)) := by
    rw [← BitVec.and_one_eq_setWidth_ofBool_getLsbD]
    rfl
  cases hb : x.toBitVec.getLsbD 0 with
  | false =>
    left
    rw [hb] at h
    exact Int32.toBitVec_inj.mp h
  | true =>
    right
    rw [hb] at h
    exact Int32.toBitVec_inj.mp h
def C_M_sumOf : mj_C := (3, 1, fun avs M => ma_rii avs fun b bits w => (rB b ∧ bd (M b 5) 0 6 ∧ bd w 0 1), fun avs M r M' => ma_rii avs fun b bits w => (r = .inl (s_sb (rv M b) (tn w) bits (tn (M b 5))) ∧ M' = M))
theorem rc_M_sumOf : ∀ avs M, C_M_sumOf.2.2.1 avs M → ∃ a r, avs = .inr a :: r ∧ mj_ob a = 2 := by
  intro avs M h
  obtain ⟨b, bits, w, rfl, h⟩ := mc_rii h
  exact ⟨_, _, rfl, (rB_o h.1).1⟩
set_option maxRecDepth 20000 in
set_option maxHeartbeats 2000000 in
theorem t_M_sumOf : mj_T yX2_sumOf cX2_sumOf 5 (some .int) 1 C_M_sumOf := by
  refine mj_T_of (own := 2) (rk := 1) [(327, C_M_partOf4)] (by decide) rfl (by decide) ⟨rfl, rfl⟩ (List.forall_mem_cons.mpr ⟨mj_KV (own := 2) (nest := true) t_M_partOf4 ⟨wc_X4_partOf, wi_X4, by decide, wl_2_109⟩ wn_X4_partOf ws_X4_partOf (c0 := 4) (by decide) rfl (by decide +kernel) rc_M_partOf4 (by decide), (fun _ h => absurd h List.not_mem_nil)⟩) ?_
  intro avs M hlen hpre V hV
  obtain ⟨b, bits, w, rfl, hp⟩ := mc_rii hpre
  show V 0 [some (.inr b), some (.inl bits), some (.inl w), none, none] [] M
  have b_0 := hV h_X2_sumOf_0; have b_5 := hV h_X2_sumOf_5; have b_45 := hV h_X2_sumOf_45; have b_51 := hV h_X2_sumOf_51
  clear hlen hpre hV
  obtain ⟨hb, hn, hw⟩ := hp
  obtain ⟨p0, p1, p2, q1, q2, q3⟩ := rB_p hb
  obtain ⟨k1, k2, k3, l1, l2, l3⟩ := rB_k hb
  obtain ⟨o0, o1, o2, o3⟩ := rB_o hb
  have hn1 := hn.1
  have hn2 := hn.2
  have tn5 := tn_of hn1
  have hw2 := tn_of hw.1
  have hw3 := hw.2
  have loop : ∀ (f j : Nat), j + f = tn (M b 5) → V 5 [some (.inr b), some (.inl bits), some (.inl w), some (.inl (s_sb (rv M b) (tn w) bits j)), some (.inl (nI j))] [] M := by
    intro f
    induction f with
    | zero =>
      intro j hj
      have h1 : ¬ nI j < M b 5 := by rw [ti_lt, ti_nI (by omega)]; omega
      have h51 : V 51 [some (.inr b), some (.inl bits), some (.inl w), some (.inl (s_sb (rv M b) (tn w) bits j)), some (.inl (nI j))] [] M := by
        (refine b_51 _ _ _ ?_; simp only [k_X2_sumOf_0, k_X2_sumOf_5, k_X2_sumOf_45, k_X2_sumOf_51, xp_1, xp_2, xp_3, xp_4, xp_5, xp_6, xp_7, xp_10, xp_11, xp_12, xp_13, xp_14, xp_15, xp_16, xp_17, xp_18, xp_19, xp_20, xp_21, xp_22, xp_23, xp_30, xp_31, xp_32, xp_33, xp_34, xp_35, xp_36, xp_37, xp_38, xp_39, xp_40, xp_41, xp_42, xp_43, xp_50, xp_51, xp_52, xp_53, xp_60, xp_61, xp_62, xp_63, xp_64, xp_65, xp_70, xp_80, xp_81, xp_82, up_ne, up_s, ud_s, ud_o, xw_0, xw_1, xg_0, xg_1, xl_i, xl_r, xs_0, xs_1, xq_i, xq_r, xq_v, xc_0, xc_1, xt_0, xt_1, xr_0, xr_1, xr_2, xe_0, xe_1, ob_0, ob_18, ob_36, ob_54, ak_55, ln_55, cq_55, ak_56, ln_56, cq_56, ob_57, ak_58, ln_58, cq_58, ak_59, ln_59, cq_59, ob_60, ak_61, ln_61, cq_61, ak_62, ln_62, cq_62, ob_63, ak_64, ln_64, cq_64, ak_65, ln_65, cq_65, ak_66, ln_66, cq_66, ak_67, ln_67, cq_67, ak_68, ln_68, cq_68, ak_69, ln_69, cq_69, ak_70, ln_70, cq_70, ak_71, ln_71, cq_71, ak_72, ln_72, cq_72, ak_73, ln_73, cq_73, pt_54_0, pt_54_1, pt_57_0, pt_57_3, pt_60_0, pt_60_1, pt_60_2, pt_60_4, pt_60_5, pt_60_6, pt_60_8, pt_63_0, pt_63_1, pt_63_2, pt_63_3, pt_63_4, pt_63_6, pt_63_7, pt_63_10, pt_63_11, pt_63_17, true_and, and_true, List.length_cons, List.length_nil, Nat.reduceAdd, Nat.reduceLeDiff, forall_eq, ne_eq, Nat.reduceEqDiff, not_false_eq_true, or_false, false_or, or_true, true_or, reduceCtorEq, Nat.zero_le, Nat.reduceMul, Nat.add_zero, false_and, and_false, false_implies, true_implies, forall_const, implies_true, List.append_nil, List.nil_append, List.cons_append, mb_i, mb_ii, mb_iii, mb_r, mb_ri, mb_rii, mb_riii, mb_rr, mb_rri, mb_rrii, mb_rriii, mb_riiiii, mb_rrr, mb_rir, mb_iiii, mb_riiii, tn_0, tn_1, tn_2, tn_3, tn_4, tn_5, tn_6, tc_0, tc_1, tc_2, tc_3, tc_4, tc_5, tc_6, xf_0, xf_1, xf_2, Sum.inl.injEq, Sum.inr.injEq, C_M_partOf4, C_M_sumOf, p0, p1, p2, k3, l3, q3, o0, nI_1])
        rw [← hj]
        rfl
      (refine b_5 _ _ _ ?_; simp only [k_X2_sumOf_0, k_X2_sumOf_5, k_X2_sumOf_45, k_X2_sumOf_51, xp_1, xp_2, xp_3, xp_4, xp_5, xp_6, xp_7, xp_10, xp_11, xp_12, xp_13, xp_14, xp_15, xp_16, xp_17, xp_18, xp_19, xp_20, xp_21, xp_22, xp_23, xp_30, xp_31, xp_32, xp_33, xp_34, xp_35, xp_36, xp_37, xp_38, xp_39, xp_40, xp_41, xp_42, xp_43, xp_50, xp_51, xp_52, xp_53, xp_60, xp_61, xp_62, xp_63, xp_64, xp_65, xp_70, xp_80, xp_81, xp_82, up_ne, up_s, ud_s, ud_o, xw_0, xw_1, xg_0, xg_1, xl_i, xl_r, xs_0, xs_1, xq_i, xq_r, xq_v, xc_0, xc_1, xt_0, xt_1, xr_0, xr_1, xr_2, xe_0, xe_1, ob_0, ob_18, ob_36, ob_54, ak_55, ln_55, cq_55, ak_56, ln_56, cq_56, ob_57, ak_58, ln_58, cq_58, ak_59, ln_59, cq_59, ob_60, ak_61, ln_61, cq_61, ak_62, ln_62, cq_62, ob_63, ak_64, ln_64, cq_64, ak_65, ln_65, cq_65, ak_66, ln_66, cq_66, ak_67, ln_67, cq_67, ak_68, ln_68, cq_68, ak_69, ln_69, cq_69, ak_70, ln_70, cq_70, ak_71, ln_71, cq_71, ak_72, ln_72, cq_72, ak_73, ln_73, cq_73, pt_54_0, pt_54_1, pt_57_0, pt_57_3, pt_60_0, pt_60_1, pt_60_2, pt_60_4, pt_60_5, pt_60_6, pt_60_8, pt_63_0, pt_63_1, pt_63_2, pt_63_3, pt_63_4, pt_63_6, pt_63_7, pt_63_10, pt_63_11, pt_63_17, true_and, and_true, List.length_cons, List.length_nil, Nat.reduceAdd, Nat.reduceLeDiff, forall_eq, ne_eq, Nat.reduceEqDiff, not_false_eq_true, or_false, false_or, or_true, true_or, reduceCtorEq, Nat.zero_le, Nat.reduceMul, Nat.add_zero, false_and, and_false, false_implies, true_implies, forall_const, implies_true, List.append_nil, List.nil_append, List.cons_append, mb_i, mb_ii, mb_iii, mb_r, mb_ri, mb_rii, mb_riii, mb_rr, mb_rri, mb_rrii, mb_rriii, mb_riiiii, mb_rrr, mb_rir, mb_iiii, mb_riiii, tn_0, tn_1, tn_2, tn_3, tn_4, tn_5, tn_6, tc_0, tc_1, tc_2, tc_3, tc_4, tc_5, tc_6, xf_0, xf_1, xf_2, Sum.inl.injEq, Sum.inr.injEq, C_M_partOf4, C_M_sumOf, p0, p1, p2, k3, l3, q3, o0, nI_1])
      exact ⟨fun _ => h51, fun h => absurd h h1⟩
    | succ f ih =>
      intro j hj
      have h1 : nI j < M b 5 := by rw [ti_lt, ti_nI (by omega)]; omega
      have hx : vp_in (nI j) 6 := vi_l (by omega) (by omega)
      have h6 : nI j < 6 := by
        rw [ti_lt, ti_nI (by omega)]
        show (j : Int) < 6
        omega
      have ej : (nI j).toNatClampNeg = j := tn_nI (by omega)
      have er := rv_t (M := M) (b := b) (i := j) (w := tn w) (by omega) (by omega) (by omega)
      have h45 : V 45 [some (.inr b), some (.inl bits), some (.inl w), some (.inl (s_sb (rv M b) (tn w) bits (j + 1))), some (.inl (nI j))] [] M := by
        (refine b_45 _ _ _ ?_; simp only [k_X2_sumOf_0, k_X2_sumOf_5, k_X2_sumOf_45, k_X2_sumOf_51, xp_1, xp_2, xp_3, xp_4, xp_5, xp_6, xp_7, xp_10, xp_11, xp_12, xp_13, xp_14, xp_15, xp_16, xp_17, xp_18, xp_19, xp_20, xp_21, xp_22, xp_23, xp_30, xp_31, xp_32, xp_33, xp_34, xp_35, xp_36, xp_37, xp_38, xp_39, xp_40, xp_41, xp_42, xp_43, xp_50, xp_51, xp_52, xp_53, xp_60, xp_61, xp_62, xp_63, xp_64, xp_65, xp_70, xp_80, xp_81, xp_82, up_ne, up_s, ud_s, ud_o, xw_0, xw_1, xg_0, xg_1, xl_i, xl_r, xs_0, xs_1, xq_i, xq_r, xq_v, xc_0, xc_1, xt_0, xt_1, xr_0, xr_1, xr_2, xe_0, xe_1, ob_0, ob_18, ob_36, ob_54, ak_55, ln_55, cq_55, ak_56, ln_56, cq_56, ob_57, ak_58, ln_58, cq_58, ak_59, ln_59, cq_59, ob_60, ak_61, ln_61, cq_61, ak_62, ln_62, cq_62, ob_63, ak_64, ln_64, cq_64, ak_65, ln_65, cq_65, ak_66, ln_66, cq_66, ak_67, ln_67, cq_67, ak_68, ln_68, cq_68, ak_69, ln_69, cq_69, ak_70, ln_70, cq_70, ak_71, ln_71, cq_71, ak_72, ln_72, cq_72, ak_73, ln_73, cq_73, pt_54_0, pt_54_1, pt_57_0, pt_57_3, pt_60_0, pt_60_1, pt_60_2, pt_60_4, pt_60_5, pt_60_6, pt_60_8, pt_63_0, pt_63_1, pt_63_2, pt_63_3, pt_63_4, pt_63_6, pt_63_7, pt_63_10, pt_63_11, pt_63_17, true_and, and_true, List.length_cons, List.length_nil, Nat.reduceAdd, Nat.reduceLeDiff, forall_eq, ne_eq, Nat.reduceEqDiff, not_false_eq_true, or_false, false_or, or_true, true_or, reduceCtorEq, Nat.zero_le, Nat.reduceMul, Nat.add_zero, false_and, and_false, false_implies, true_implies, forall_const, implies_true, List.append_nil, List.nil_append, List.cons_append, mb_i, mb_ii, mb_iii, mb_r, mb_ri, mb_rii, mb_riii, mb_rr, mb_rri, mb_rrii, mb_rriii, mb_riiiii, mb_rrr, mb_rir, mb_iiii, mb_riiii, tn_0, tn_1, tn_2, tn_3, tn_4, tn_5, tn_6, tc_0, tc_1, tc_2, tc_3, tc_4, tc_5, tc_6, xf_0, xf_1, xf_2, Sum.inl.injEq, Sum.inr.injEq, C_M_partOf4, C_M_sumOf, p0, p1, p2, k3, l3, q3, o0, nI_1])
        exact ih (j + 1) (by omega)
      rw [s_sb, er] at h45
      (refine b_5 _ _ _ ?_; simp only [k_X2_sumOf_0, k_X2_sumOf_5, k_X2_sumOf_45, k_X2_sumOf_51, xp_1, xp_2, xp_3, xp_4, xp_5, xp_6, xp_7, xp_10, xp_11, xp_12, xp_13, xp_14, xp_15, xp_16, xp_17, xp_18, xp_19, xp_20, xp_21, xp_22, xp_23, xp_30, xp_31, xp_32, xp_33, xp_34, xp_35, xp_36, xp_37, xp_38, xp_39, xp_40, xp_41, xp_42, xp_43, xp_50, xp_51, xp_52, xp_53, xp_60, xp_61, xp_62, xp_63, xp_64, xp_65, xp_70, xp_80, xp_81, xp_82, up_ne, up_s, ud_s, ud_o, xw_0, xw_1, xg_0, xg_1, xl_i, xl_r, xs_0, xs_1, xq_i, xq_r, xq_v, xc_0, xc_1, xt_0, xt_1, xr_0, xr_1, xr_2, xe_0, xe_1, ob_0, ob_18, ob_36, ob_54, ak_55, ln_55, cq_55, ak_56, ln_56, cq_56, ob_57, ak_58, ln_58, cq_58, ak_59, ln_59, cq_59, ob_60, ak_61, ln_61, cq_61, ak_62, ln_62, cq_62, ob_63, ak_64, ln_64, cq_64, ak_65, ln_65, cq_65, ak_66, ln_66, cq_66, ak_67, ln_67, cq_67, ak_68, ln_68, cq_68, ak_69, ln_69, cq_69, ak_70, ln_70, cq_70, ak_71, ln_71, cq_71, ak_72, ln_72, cq_72, ak_73, ln_73, cq_73, pt_54_0, pt_54_1, pt_57_0, pt_57_3, pt_60_0, pt_60_1, pt_60_2, pt_60_4, pt_60_5, pt_60_6, pt_60_8, pt_63_0, pt_63_1, pt_63_2, pt_63_3, pt_63_4, pt_63_6, pt_63_7, pt_63_10, pt_63_11, pt_63_17, true_and, and_true, List.length_cons, List.length_nil, Nat.reduceAdd, Nat.reduceLeDiff, forall_eq, ne_eq, Nat.reduceEqDiff, not_false_eq_true, or_false, false_or, or_true, true_or, reduceCtorEq, Nat.zero_le, Nat.reduceMul, Nat.add_zero, false_and, and_false, false_implies, true_implies, forall_const, implies_true, List.append_nil, List.nil_append, List.cons_append, mb_i, mb_ii, mb_iii, mb_r, mb_ri, mb_rii, mb_riii, mb_rr, mb_rri, mb_rrii, mb_rriii, mb_riiiii, mb_rrr, mb_rir, mb_iiii, mb_riiii, tn_0, tn_1, tn_2, tn_3, tn_4, tn_5, tn_6, tc_0, tc_1, tc_2, tc_3, tc_4, tc_5, tc_6, xf_0, xf_1, xf_2, Sum.inl.injEq, Sum.inr.injEq, C_M_partOf4, C_M_sumOf, p0, p1, p2, k3, l3, q3, o0, nI_1])
      rw [ej]
      refine ⟨fun h => absurd h1 h, fun _ => ⟨fun h => absurd h6 h, fun _ => ⟨fun h => ?_, fun h => ⟨hx, ⟨o3 j (by omega), hw⟩, ?_⟩⟩⟩⟩
      · have z := (an_1 (bits >>> (nI j &&& 31))).resolve_right h
        rw [if_pos z, Int32.add_zero] at h45
        exact h45
      · rw [if_neg (by rw [h]; decide)] at h45
        exact h45
  (refine b_0 _ _ _ ?_; simp only [k_X2_sumOf_0, k_X2_sumOf_5, k_X2_sumOf_45, k_X2_sumOf_51, xp_1, xp_2, xp_3, xp_4, xp_5, xp_6, xp_7, xp_10, xp_11, xp_12, xp_13, xp_14, xp_15, xp_16, xp_17, xp_18, xp_19, xp_20, xp_21, xp_22, xp_23, xp_30, xp_31, xp_32, xp_33, xp_34, xp_35, xp_36, xp_37, xp_38, xp_39, xp_40, xp_41, xp_42, xp_43, xp_50, xp_51, xp_52, xp_53, xp_60, xp_61, xp_62, xp_63, xp_64, xp_65, xp_70, xp_80, xp_81, xp_82, up_ne, up_s, ud_s, ud_o, xw_0, xw_1, xg_0, xg_1, xl_i, xl_r, xs_0, xs_1, xq_i, xq_r, xq_v, xc_0, xc_1, xt_0, xt_1, xr_0, xr_1, xr_2, xe_0, xe_1, ob_0, ob_18, ob_36, ob_54, ak_55, ln_55, cq_55, ak_56, ln_56, cq_56, ob_57, ak_58, ln_58, cq_58, ak_59, ln_59, cq_59, ob_60, ak_61, ln_61, cq_61, ak_62, ln_62, cq_62, ob_63, ak_64, ln_64, cq_64, ak_65, ln_65, cq_65, ak_66, ln_66, cq_66, ak_67, ln_67, cq_67, ak_68, ln_68, cq_68, ak_69, ln_69, cq_69, ak_70, ln_70, cq_70, ak_71, ln_71, cq_71, ak_72, ln_72, cq_72, ak_73, ln_73, cq_73, pt_54_0, pt_54_1, pt_57_0, pt_57_3, pt_60_0, pt_60_1, pt_60_2, pt_60_4, pt_60_5, pt_60_6, pt_60_8, pt_63_0, pt_63_1, pt_63_2, pt_63_3, pt_63_4, pt_63_6, pt_63_7, pt_63_10, pt_63_11, pt_63_17, true_and, and_true, List.length_cons, List.length_nil, Nat.reduceAdd, Nat.reduceLeDiff, forall_eq, ne_eq, Nat.reduceEqDiff, not_false_eq_true, or_false, false_or, or_true, true_or, reduceCtorEq, Nat.zero_le, Nat.reduceMul, Nat.add_zero, false_and, and_false, false_implies, true_implies, forall_const, implies_true, List.append_nil, List.nil_append, List.cons_append, mb_i, mb_ii, mb_iii, mb_r, mb_ri, mb_rii, mb_riii, mb_rr, mb_rri, mb_rrii, mb_rriii, mb_riiiii, mb_rrr, mb_rir, mb_iiii, mb_riiii, tn_0, tn_1, tn_2, tn_3, tn_4, tn_5, tn_6, tc_0, tc_1, tc_2, tc_3, tc_4, tc_5, tc_6, xf_0, xf_1, xf_2, Sum.inl.injEq, Sum.inr.injEq, C_M_partOf4, C_M_sumOf, p0, p1, p2, k3, l3, q3, o0, nI_1])
  exact loop (tn (M b 5)) 0 (by omega)

theorem sb_bd {r : Nat → Int32} (hr : dR r) {bits : Int32} {k : Nat} (hk : k < 2) : ∀ n, n ≤ tn (r 2) → bd (s_sb r k bits n) 0 (99 * n) := by
  intro n
  have hn := hr.2.2.1
  have hn1 := tn_of hn.1
  have hn2 := hn.2
  induction n with
  | zero => intro _; exact ⟨show 0 ≤ (0 : Int32).toInt by decide, show (0 : Int32).toInt ≤ 0 by decide⟩
  | succ n ih =>
    intro h
    obtain ⟨h1, h2⟩ := ih (by omega)
    have ht := hr.2.2.2.2.2.2.2.2.2.1 n (by omega)
    have hb : bd (r (43 + 2 * n + k)) 0 99 := by
      rcases (show k = 0 ∨ k = 1 by omega) with rfl | rfl
      · exact ⟨by have := ht.1.1; rw [Nat.add_zero]; omega, by have := ht.1.2; rw [Nat.add_zero]; omega⟩
      · exact ht.2
    obtain ⟨h3, h4⟩ := hb
    unfold bd
    rw [s_sb]
    split
    · rw [Int32.add_zero]
      omega
    · rw [ti_add (by omega) (by omega)]
      omega
def C_M_doneBits : mj_C := (2, 1, fun avs M => ma_ri avs fun b m => (rB b ∧ dR (rv M b) ∧ bd m 0 300), fun avs M r M' => ma_ri avs fun b m => (r = .inl (s_do (rv M b) m).2 ∧ M' = M))
theorem rc_M_doneBits : ∀ avs M, C_M_doneBits.2.2.1 avs M → ∃ a r, avs = .inr a :: r ∧ mj_ob a = 2 := by
  intro avs M h
  obtain ⟨b, m, rfl, h⟩ := mc_ri h
  exact ⟨_, _, rfl, (rB_o h.1).1⟩
set_option maxRecDepth 20000 in
set_option maxHeartbeats 2000000 in
theorem t_M_doneBits : mj_T yX2_doneBits cX2_doneBits 7 (some .int) 2 C_M_doneBits := by
  refine mj_T_of (own := 2) (rk := 1) [(339, C_M_sumOf)] (by decide) rfl (by decide) ⟨rfl, rfl⟩ (List.forall_mem_cons.mpr ⟨mj_KV (own := 2) (nest := false) t_M_sumOf ⟨wc_X2_sumOf, wi_X2, by decide, wl_2_113⟩ wn_X2_sumOf ws_X2_sumOf (c0 := 2) (by decide) rfl (by decide +kernel) rc_M_sumOf (by decide), (fun _ h => absurd h List.not_mem_nil)⟩) ?_
  intro avs M hlen hpre V hV
  obtain ⟨b, m, rfl, hp⟩ := mc_ri hpre
  show V 0 [some (.inr b), some (.inl m), none, none, none, none, none] [] M
  have b_0 := hV h_X2_doneBits_0; have b_15 := hV h_X2_doneBits_15; have b_60 := hV h_X2_doneBits_60; have b_66 := hV h_X2_doneBits_66
  clear hlen hpre hV
  obtain ⟨hb, hd, hm⟩ := hp
  have hn : bd (M b 5) 0 6 := hd.2.2.1
  obtain ⟨o0, o1, o2, o3⟩ := rB_o hb
  have hn2 := tn_of hn.1
  have hn3 := hn.2
  have hsh := sh_1 hn
  have hpw := pw_6 (n := tn (M b 5)) (by omega)
  have hbus : bd (M b 6) 0 299 := hd.2.2.2.1
  have hb1 := hbus.1
  have hb2 := hbus.2
  have hm1 := hm.1
  have hm2 := hm.2
  have etm : (M b 6 - m).toInt = (M b 6).toInt - m.toInt := ti_sub (by omega) (by omega)
  have z0 : (0 : Int32).toInt = 0 := rfl
  have key : ∀ bits, (M b 6 - m < s_sb (rv M b) 0 bits (tn (M b 5))) ↔ (M b 6 - m - s_sb (rv M b) 0 bits (tn (M b 5)) < 0) := fun bits => by
    have := sb_bd hd (bits := bits) (k := 0) (by omega) (tn (M b 5)) (Nat.le_refl _)
    obtain ⟨g1, g2⟩ := this
    rw [ti_lt, ti_lt, ti_sub (a := M b 6 - m) (by rw [etm]; omega) (by rw [etm]; omega), etm, z0]
    omega
  have b0 : bd (0 : Int32) 0 1 := ⟨by decide, by decide⟩
  have b1 : bd (1 : Int32) 0 1 := ⟨by decide, by decide⟩
  have outer : ∀ (f k : Nat), k + f + 1 = 2 ^ tn (M b 5) → ∀ (L6 : Option mj_V), V 15 [some (.inr b), some (.inl m), some (.inl (M b 6 - m)), some (.inl (s_dl (rv M b) (M b 6 - m) k).2), some (.inl (s_dl (rv M b) (M b 6 - m) k).1), some (.inl (nI (k + 1))), L6] [] M := by
    intro f
    induction f with
    | zero =>
      intro k hk L6
      (refine b_15 _ _ _ ?_; simp only [k_X2_doneBits_0, k_X2_doneBits_15, k_X2_doneBits_60, k_X2_doneBits_66, xp_1, xp_2, xp_3, xp_4, xp_5, xp_6, xp_7, xp_10, xp_11, xp_12, xp_13, xp_14, xp_15, xp_16, xp_17, xp_18, xp_19, xp_20, xp_21, xp_22, xp_23, xp_30, xp_31, xp_32, xp_33, xp_34, xp_35, xp_36, xp_37, xp_38, xp_39, xp_40, xp_41, xp_42, xp_43, xp_50, xp_51, xp_52, xp_53, xp_60, xp_61, xp_62, xp_63, xp_64, xp_65, xp_70, xp_80, xp_81, xp_82, up_ne, up_s, ud_s, ud_o, xw_0, xw_1, xg_0, xg_1, xl_i, xl_r, xs_0, xs_1, xq_i, xq_r, xq_v, xc_0, xc_1, xt_0, xt_1, xr_0, xr_1, xr_2, xe_0, xe_1, ob_0, ob_18, ob_36, ob_54, ak_55, ln_55, cq_55, ak_56, ln_56, cq_56, ob_57, ak_58, ln_58, cq_58, ak_59, ln_59, cq_59, ob_60, ak_61, ln_61, cq_61, ak_62, ln_62, cq_62, ob_63, ak_64, ln_64, cq_64, ak_65, ln_65, cq_65, ak_66, ln_66, cq_66, ak_67, ln_67, cq_67, ak_68, ln_68, cq_68, ak_69, ln_69, cq_69, ak_70, ln_70, cq_70, ak_71, ln_71, cq_71, ak_72, ln_72, cq_72, ak_73, ln_73, cq_73, pt_54_0, pt_54_1, pt_57_0, pt_57_3, pt_60_0, pt_60_1, pt_60_2, pt_60_4, pt_60_5, pt_60_6, pt_60_8, pt_63_0, pt_63_1, pt_63_2, pt_63_3, pt_63_4, pt_63_6, pt_63_7, pt_63_10, pt_63_11, pt_63_17, true_and, and_true, List.length_cons, List.length_nil, Nat.reduceAdd, Nat.reduceLeDiff, forall_eq, ne_eq, Nat.reduceEqDiff, not_false_eq_true, or_false, false_or, or_true, true_or, reduceCtorEq, Nat.zero_le, Nat.reduceMul, Nat.add_zero, false_and, and_false, false_implies, true_implies, forall_const, implies_true, List.append_nil, List.nil_append, List.cons_append, mb_i, mb_ii, mb_iii, mb_r, mb_ri, mb_rii, mb_riii, mb_rr, mb_rri, mb_rrii, mb_rriii, mb_riiiii, mb_rrr, mb_rir, mb_iiii, mb_riiii, tn_0, tn_1, tn_2, tn_3, tn_4, tn_5, tn_6, tc_0, tc_1, tc_2, tc_3, tc_4, tc_5, tc_6, xf_0, xf_1, xf_2, Sum.inl.injEq, Sum.inr.injEq, C_M_doneBits, C_M_sumOf, o0, nI_1])
      rw [hsh]
      refine ⟨fun _ => ?_, fun h => ?_⟩
      · (refine b_66 _ _ _ ?_; simp only [k_X2_doneBits_0, k_X2_doneBits_15, k_X2_doneBits_60, k_X2_doneBits_66, xp_1, xp_2, xp_3, xp_4, xp_5, xp_6, xp_7, xp_10, xp_11, xp_12, xp_13, xp_14, xp_15, xp_16, xp_17, xp_18, xp_19, xp_20, xp_21, xp_22, xp_23, xp_30, xp_31, xp_32, xp_33, xp_34, xp_35, xp_36, xp_37, xp_38, xp_39, xp_40, xp_41, xp_42, xp_43, xp_50, xp_51, xp_52, xp_53, xp_60, xp_61, xp_62, xp_63, xp_64, xp_65, xp_70, xp_80, xp_81, xp_82, up_ne, up_s, ud_s, ud_o, xw_0, xw_1, xg_0, xg_1, xl_i, xl_r, xs_0, xs_1, xq_i, xq_r, xq_v, xc_0, xc_1, xt_0, xt_1, xr_0, xr_1, xr_2, xe_0, xe_1, ob_0, ob_18, ob_36, ob_54, ak_55, ln_55, cq_55, ak_56, ln_56, cq_56, ob_57, ak_58, ln_58, cq_58, ak_59, ln_59, cq_59, ob_60, ak_61, ln_61, cq_61, ak_62, ln_62, cq_62, ob_63, ak_64, ln_64, cq_64, ak_65, ln_65, cq_65, ak_66, ln_66, cq_66, ak_67, ln_67, cq_67, ak_68, ln_68, cq_68, ak_69, ln_69, cq_69, ak_70, ln_70, cq_70, ak_71, ln_71, cq_71, ak_72, ln_72, cq_72, ak_73, ln_73, cq_73, pt_54_0, pt_54_1, pt_57_0, pt_57_3, pt_60_0, pt_60_1, pt_60_2, pt_60_4, pt_60_5, pt_60_6, pt_60_8, pt_63_0, pt_63_1, pt_63_2, pt_63_3, pt_63_4, pt_63_6, pt_63_7, pt_63_10, pt_63_11, pt_63_17, true_and, and_true, List.length_cons, List.length_nil, Nat.reduceAdd, Nat.reduceLeDiff, forall_eq, ne_eq, Nat.reduceEqDiff, not_false_eq_true, or_false, false_or, or_true, true_or, reduceCtorEq, Nat.zero_le, Nat.reduceMul, Nat.add_zero, false_and, and_false, false_implies, true_implies, forall_const, implies_true, List.append_nil, List.nil_append, List.cons_append, mb_i, mb_ii, mb_iii, mb_r, mb_ri, mb_rii, mb_riii, mb_rr, mb_rri, mb_rrii, mb_rriii, mb_riiiii, mb_rrr, mb_rir, mb_iiii, mb_riiii, tn_0, tn_1, tn_2, tn_3, tn_4, tn_5, tn_6, tc_0, tc_1, tc_2, tc_3, tc_4, tc_5, tc_6, xf_0, xf_1, xf_2, Sum.inl.injEq, Sum.inr.injEq, C_M_doneBits, C_M_sumOf, o0, nI_1])
        unfold s_do
        rw [rv_2, rv_3, show 2 ^ tn (M b 5) - 1 = k by omega]
      · rw [ti_lt, ti_nI (by omega), ti_nI (by omega)] at h
        omega
    | succ f ih =>
      intro k hk L6
      have h60 : ∀ (L6 : Option mj_V), V 60 [some (.inr b), some (.inl m), some (.inl (M b 6 - m)), some (.inl (s_dl (rv M b) (M b 6 - m) (k + 1)).2), some (.inl (s_dl (rv M b) (M b 6 - m) (k + 1)).1), some (.inl (nI (k + 1))), L6] [] M := by
        intro L6
        (refine b_60 _ _ _ ?_; simp only [k_X2_doneBits_0, k_X2_doneBits_15, k_X2_doneBits_60, k_X2_doneBits_66, xp_1, xp_2, xp_3, xp_4, xp_5, xp_6, xp_7, xp_10, xp_11, xp_12, xp_13, xp_14, xp_15, xp_16, xp_17, xp_18, xp_19, xp_20, xp_21, xp_22, xp_23, xp_30, xp_31, xp_32, xp_33, xp_34, xp_35, xp_36, xp_37, xp_38, xp_39, xp_40, xp_41, xp_42, xp_43, xp_50, xp_51, xp_52, xp_53, xp_60, xp_61, xp_62, xp_63, xp_64, xp_65, xp_70, xp_80, xp_81, xp_82, up_ne, up_s, ud_s, ud_o, xw_0, xw_1, xg_0, xg_1, xl_i, xl_r, xs_0, xs_1, xq_i, xq_r, xq_v, xc_0, xc_1, xt_0, xt_1, xr_0, xr_1, xr_2, xe_0, xe_1, ob_0, ob_18, ob_36, ob_54, ak_55, ln_55, cq_55, ak_56, ln_56, cq_56, ob_57, ak_58, ln_58, cq_58, ak_59, ln_59, cq_59, ob_60, ak_61, ln_61, cq_61, ak_62, ln_62, cq_62, ob_63, ak_64, ln_64, cq_64, ak_65, ln_65, cq_65, ak_66, ln_66, cq_66, ak_67, ln_67, cq_67, ak_68, ln_68, cq_68, ak_69, ln_69, cq_69, ak_70, ln_70, cq_70, ak_71, ln_71, cq_71, ak_72, ln_72, cq_72, ak_73, ln_73, cq_73, pt_54_0, pt_54_1, pt_57_0, pt_57_3, pt_60_0, pt_60_1, pt_60_2, pt_60_4, pt_60_5, pt_60_6, pt_60_8, pt_63_0, pt_63_1, pt_63_2, pt_63_3, pt_63_4, pt_63_6, pt_63_7, pt_63_10, pt_63_11, pt_63_17, true_and, and_true, List.length_cons, List.length_nil, Nat.reduceAdd, Nat.reduceLeDiff, forall_eq, ne_eq, Nat.reduceEqDiff, not_false_eq_true, or_false, false_or, or_true, true_or, reduceCtorEq, Nat.zero_le, Nat.reduceMul, Nat.add_zero, false_and, and_false, false_implies, true_implies, forall_const, implies_true, List.append_nil, List.nil_append, List.cons_append, mb_i, mb_ii, mb_iii, mb_r, mb_ri, mb_rii, mb_riii, mb_rr, mb_rri, mb_rrii, mb_rriii, mb_riiiii, mb_rrr, mb_rir, mb_iiii, mb_riiii, tn_0, tn_1, tn_2, tn_3, tn_4, tn_5, tn_6, tc_0, tc_1, tc_2, tc_3, tc_4, tc_5, tc_6, xf_0, xf_1, xf_2, Sum.inl.injEq, Sum.inr.injEq, C_M_doneBits, C_M_sumOf, o0, nI_1])
        exact ih (k + 1) (by omega) L6
      rw [s_dl, rv_2] at h60
      (refine b_15 _ _ _ ?_; simp only [k_X2_doneBits_0, k_X2_doneBits_15, k_X2_doneBits_60, k_X2_doneBits_66, xp_1, xp_2, xp_3, xp_4, xp_5, xp_6, xp_7, xp_10, xp_11, xp_12, xp_13, xp_14, xp_15, xp_16, xp_17, xp_18, xp_19, xp_20, xp_21, xp_22, xp_23, xp_30, xp_31, xp_32, xp_33, xp_34, xp_35, xp_36, xp_37, xp_38, xp_39, xp_40, xp_41, xp_42, xp_43, xp_50, xp_51, xp_52, xp_53, xp_60, xp_61, xp_62, xp_63, xp_64, xp_65, xp_70, xp_80, xp_81, xp_82, up_ne, up_s, ud_s, ud_o, xw_0, xw_1, xg_0, xg_1, xl_i, xl_r, xs_0, xs_1, xq_i, xq_r, xq_v, xc_0, xc_1, xt_0, xt_1, xr_0, xr_1, xr_2, xe_0, xe_1, ob_0, ob_18, ob_36, ob_54, ak_55, ln_55, cq_55, ak_56, ln_56, cq_56, ob_57, ak_58, ln_58, cq_58, ak_59, ln_59, cq_59, ob_60, ak_61, ln_61, cq_61, ak_62, ln_62, cq_62, ob_63, ak_64, ln_64, cq_64, ak_65, ln_65, cq_65, ak_66, ln_66, cq_66, ak_67, ln_67, cq_67, ak_68, ln_68, cq_68, ak_69, ln_69, cq_69, ak_70, ln_70, cq_70, ak_71, ln_71, cq_71, ak_72, ln_72, cq_72, ak_73, ln_73, cq_73, pt_54_0, pt_54_1, pt_57_0, pt_57_3, pt_60_0, pt_60_1, pt_60_2, pt_60_4, pt_60_5, pt_60_6, pt_60_8, pt_63_0, pt_63_1, pt_63_2, pt_63_3, pt_63_4, pt_63_6, pt_63_7, pt_63_10, pt_63_11, pt_63_17, true_and, and_true, List.length_cons, List.length_nil, Nat.reduceAdd, Nat.reduceLeDiff, forall_eq, ne_eq, Nat.reduceEqDiff, not_false_eq_true, or_false, false_or, or_true, true_or, reduceCtorEq, Nat.zero_le, Nat.reduceMul, Nat.add_zero, false_and, and_false, false_implies, true_implies, forall_const, implies_true, List.append_nil, List.nil_append, List.cons_append, mb_i, mb_ii, mb_iii, mb_r, mb_ri, mb_rii, mb_riii, mb_rr, mb_rri, mb_rrii, mb_rriii, mb_riiiii, mb_rrr, mb_rir, mb_iiii, mb_riiii, tn_0, tn_1, tn_2, tn_3, tn_4, tn_5, tn_6, tc_0, tc_1, tc_2, tc_3, tc_4, tc_5, tc_6, xf_0, xf_1, xf_2, Sum.inl.injEq, Sum.inr.injEq, C_M_doneBits, C_M_sumOf, o0, nI_1])
      rw [hsh]
      refine ⟨fun h => ?_, fun _ => ⟨⟨hb, hn, b0⟩, fun h => ?_, fun h => ⟨⟨hb, hn, b1⟩, fun h2 => ?_, fun h2 => ?_⟩⟩⟩
      · rw [ti_lt, ti_nI (by omega), ti_nI (by omega)] at h
        omega
      · rw [if_pos ((key _).mp h)] at h60
        exact h60 _
      · rw [if_neg (fun z => h ((key _).mpr z)), if_neg h2] at h60
        exact h60 _
      · rw [if_neg (fun z => h ((key _).mpr z)), if_pos h2] at h60
        exact h60 _
  (refine b_0 _ _ _ ?_; simp only [k_X2_doneBits_0, k_X2_doneBits_15, k_X2_doneBits_60, k_X2_doneBits_66, xp_1, xp_2, xp_3, xp_4, xp_5, xp_6, xp_7, xp_10, xp_11, xp_12, xp_13, xp_14, xp_15, xp_16, xp_17, xp_18, xp_19, xp_20, xp_21, xp_22, xp_23, xp_30, xp_31, xp_32, xp_33, xp_34, xp_35, xp_36, xp_37, xp_38, xp_39, xp_40, xp_41, xp_42, xp_43, xp_50, xp_51, xp_52, xp_53, xp_60, xp_61, xp_62, xp_63, xp_64, xp_65, xp_70, xp_80, xp_81, xp_82, up_ne, up_s, ud_s, ud_o, xw_0, xw_1, xg_0, xg_1, xl_i, xl_r, xs_0, xs_1, xq_i, xq_r, xq_v, xc_0, xc_1, xt_0, xt_1, xr_0, xr_1, xr_2, xe_0, xe_1, ob_0, ob_18, ob_36, ob_54, ak_55, ln_55, cq_55, ak_56, ln_56, cq_56, ob_57, ak_58, ln_58, cq_58, ak_59, ln_59, cq_59, ob_60, ak_61, ln_61, cq_61, ak_62, ln_62, cq_62, ob_63, ak_64, ln_64, cq_64, ak_65, ln_65, cq_65, ak_66, ln_66, cq_66, ak_67, ln_67, cq_67, ak_68, ln_68, cq_68, ak_69, ln_69, cq_69, ak_70, ln_70, cq_70, ak_71, ln_71, cq_71, ak_72, ln_72, cq_72, ak_73, ln_73, cq_73, pt_54_0, pt_54_1, pt_57_0, pt_57_3, pt_60_0, pt_60_1, pt_60_2, pt_60_4, pt_60_5, pt_60_6, pt_60_8, pt_63_0, pt_63_1, pt_63_2, pt_63_3, pt_63_4, pt_63_6, pt_63_7, pt_63_10, pt_63_11, pt_63_17, true_and, and_true, List.length_cons, List.length_nil, Nat.reduceAdd, Nat.reduceLeDiff, forall_eq, ne_eq, Nat.reduceEqDiff, not_false_eq_true, or_false, false_or, or_true, true_or, reduceCtorEq, Nat.zero_le, Nat.reduceMul, Nat.add_zero, false_and, and_false, false_implies, true_implies, forall_const, implies_true, List.append_nil, List.nil_append, List.cons_append, mb_i, mb_ii, mb_iii, mb_r, mb_ri, mb_rii, mb_riii, mb_rr, mb_rri, mb_rrii, mb_rriii, mb_riiiii, mb_rrr, mb_rir, mb_iiii, mb_riiii, tn_0, tn_1, tn_2, tn_3, tn_4, tn_5, tn_6, tc_0, tc_1, tc_2, tc_3, tc_4, tc_5, tc_6, xf_0, xf_1, xf_2, Sum.inl.injEq, Sum.inr.injEq, C_M_doneBits, C_M_sumOf, o0, nI_1])
  exact outer (2 ^ tn (M b 5) - 1) 0 (by omega) none

theorem dl_w {r : Nat → Int32} {tm : Int32} : ∀ k, (s_dl r tm k).1 = s_sb r 1 (s_dl r tm k).2 (tn (r 2)) := by
  intro k
  have h0 : ∀ n, s_sb r 1 0 n = 0 := by
    intro n
    induction n with
    | zero => rfl
    | succ n ih =>
      have e : ((0 : Int32) >>> (nI n &&& 31)) &&& 1 = 0 := by simp
      rw [s_sb, ih, if_pos e]
      rfl
  induction k with
  | zero => exact (h0 _).symm
  | succ k ih =>
    rw [s_dl]
    split
    · exact ih
    · split
      · rfl
      · exact ih
def C_M_worthDone : mj_C := (2, 1, fun avs M => ma_ri avs fun b m => (rB b ∧ dR (rv M b) ∧ bd m 0 300), fun avs M r M' => ma_ri avs fun b m => (r = .inl (s_do (rv M b) m).1 ∧ M' = M))
theorem rc_M_worthDone : ∀ avs M, C_M_worthDone.2.2.1 avs M → ∃ a r, avs = .inr a :: r ∧ mj_ob a = 2 := by
  intro avs M h
  obtain ⟨b, m, rfl, h⟩ := mc_ri h
  exact ⟨_, _, rfl, (rB_o h.1).1⟩
set_option maxRecDepth 20000 in
set_option maxHeartbeats 2000000 in
theorem t_M_worthDone : mj_T yX2_worthDone cX2_worthDone 2 (some .int) 3 C_M_worthDone := by
  refine mj_T_of (own := 2) (rk := 1) [(339, C_M_sumOf), (351, C_M_doneBits)] (by decide) rfl (by decide) ⟨rfl, rfl⟩ (List.forall_mem_cons.mpr ⟨mj_KV (own := 2) (nest := false) t_M_sumOf ⟨wc_X2_sumOf, wi_X2, by decide, wl_2_113⟩ wn_X2_sumOf ws_X2_sumOf (c0 := 2) (by decide) rfl (by decide +kernel) rc_M_sumOf (by decide), (List.forall_mem_cons.mpr ⟨mj_KV (own := 2) (nest := false) t_M_doneBits ⟨wc_X2_doneBits, wi_X2, by decide, wl_2_117⟩ wn_X2_doneBits ws_X2_doneBits (c0 := 2) (by decide) rfl (by decide +kernel) rc_M_doneBits (by decide), (fun _ h => absurd h List.not_mem_nil)⟩)⟩) ?_
  intro avs M hlen hpre V hV
  obtain ⟨b, m, rfl, hp⟩ := mc_ri hpre
  show V 0 [some (.inr b), some (.inl m)] [] M
  have b_0 := hV h_X2_worthDone_0
  clear hlen hpre hV
  obtain ⟨hb, hd, hm⟩ := hp
  have hn : bd (M b 5) 0 6 := hd.2.2.1
  obtain ⟨o0, o1, o2, o3⟩ := rB_o hb
  have b1 : bd (1 : Int32) 0 1 := ⟨by decide, by decide⟩
  (refine b_0 _ _ _ ?_; simp only [k_X2_worthDone_0, xp_1, xp_2, xp_3, xp_4, xp_5, xp_6, xp_7, xp_10, xp_11, xp_12, xp_13, xp_14, xp_15, xp_16, xp_17, xp_18, xp_19, xp_20, xp_21, xp_22, xp_23, xp_30, xp_31, xp_32, xp_33, xp_34, xp_35, xp_36, xp_37, xp_38, xp_39, xp_40, xp_41, xp_42, xp_43, xp_50, xp_51, xp_52, xp_53, xp_60, xp_61, xp_62, xp_63, xp_64, xp_65, xp_70, xp_80, xp_81, xp_82, up_ne, up_s, ud_s, ud_o, xw_0, xw_1, xg_0, xg_1, xl_i, xl_r, xs_0, xs_1, xq_i, xq_r, xq_v, xc_0, xc_1, xt_0, xt_1, xr_0, xr_1, xr_2, xe_0, xe_1, ob_0, ob_18, ob_36, ob_54, ak_55, ln_55, cq_55, ak_56, ln_56, cq_56, ob_57, ak_58, ln_58, cq_58, ak_59, ln_59, cq_59, ob_60, ak_61, ln_61, cq_61, ak_62, ln_62, cq_62, ob_63, ak_64, ln_64, cq_64, ak_65, ln_65, cq_65, ak_66, ln_66, cq_66, ak_67, ln_67, cq_67, ak_68, ln_68, cq_68, ak_69, ln_69, cq_69, ak_70, ln_70, cq_70, ak_71, ln_71, cq_71, ak_72, ln_72, cq_72, ak_73, ln_73, cq_73, pt_54_0, pt_54_1, pt_57_0, pt_57_3, pt_60_0, pt_60_1, pt_60_2, pt_60_4, pt_60_5, pt_60_6, pt_60_8, pt_63_0, pt_63_1, pt_63_2, pt_63_3, pt_63_4, pt_63_6, pt_63_7, pt_63_10, pt_63_11, pt_63_17, true_and, and_true, List.length_cons, List.length_nil, Nat.reduceAdd, Nat.reduceLeDiff, forall_eq, ne_eq, Nat.reduceEqDiff, not_false_eq_true, or_false, false_or, or_true, true_or, reduceCtorEq, Nat.zero_le, Nat.reduceMul, Nat.add_zero, false_and, and_false, false_implies, true_implies, forall_const, implies_true, List.append_nil, List.nil_append, List.cons_append, mb_i, mb_ii, mb_iii, mb_r, mb_ri, mb_rii, mb_riii, mb_rr, mb_rri, mb_rrii, mb_rriii, mb_riiiii, mb_rrr, mb_rir, mb_iiii, mb_riiii, tn_0, tn_1, tn_2, tn_3, tn_4, tn_5, tn_6, tc_0, tc_1, tc_2, tc_3, tc_4, tc_5, tc_6, xf_0, xf_1, xf_2, Sum.inl.injEq, Sum.inr.injEq, C_M_doneBits, C_M_sumOf, C_M_worthDone, o0, nI_1])
  exact ⟨⟨hb, hd, hm⟩, ⟨hb, hn, b1⟩, (dl_w _).symm⟩

def C_M_passDay : mj_C := (2, 0, fun avs M => ma_ri avs fun b pr => (rB b ∧ bd (M b 8) 0 9 ∧ bd (M b 9) 0 6 ∧ bd pr 0 1201), fun avs M r M' => ma_ri avs fun b pr => (M' = mj_up (mj_up M b 8 (s_ti (M b 8) pr)) b 9 (s_dy (M b 9))))
theorem rc_M_passDay : ∀ avs M, C_M_passDay.2.2.1 avs M → ∃ a r, avs = .inr a :: r ∧ mj_ob a = 2 := by
  intro avs M h
  obtain ⟨b, pr, rfl, h⟩ := mc_ri h
  exact ⟨_, _, rfl, (rB_o h.1).1⟩
set_option maxRecDepth 20000 in
set_option maxHeartbeats 2000000 in
theorem t_M_passDay : mj_T yX2_passDay cX2_passDay 2 none 1 C_M_passDay := by
  refine mj_T_of (own := 2) (rk := 0) [(362, C_J_min), (377, C_J_max)] (by decide) rfl (by decide) ⟨rfl, rfl⟩ (List.forall_mem_cons.mpr ⟨J_min_2_120, (List.forall_mem_cons.mpr ⟨J_max_2_125, (fun _ h => absurd h List.not_mem_nil)⟩)⟩) ?_
  intro avs M hlen hpre V hV
  obtain ⟨b, pr, rfl, hp⟩ := mc_ri hpre
  show V 0 [some (.inr b), some (.inl pr)] [] M
  have b_0 := hV h_X2_passDay_0; have b_23 := hV h_X2_passDay_23; have b_41 := hV h_X2_passDay_41; have b_55 := hV h_X2_passDay_55; have b_61 := hV h_X2_passDay_61
  clear hlen hpre hV
  obtain ⟨hb, ht, hd, hp⟩ := hp
  obtain ⟨o0, o1, o2, o3⟩ := rB_o hb
  have ht1 := ht.1
  have ht2 := ht.2
  have z0 : (0 : Int32).toInt = 0 := rfl
  have z1 : (1 : Int32).toInt = 1 := rfl
  have z2 : (2 : Int32).toInt = 2 := rfl
  have zm : (-1 : Int32).toInt = -1 := rfl
  have z9 : (9 : Int32).toInt = 9 := rfl
  have a1 : (M b 8 + 1).toInt = (M b 8).toInt + 1 := by rw [ti_add (by omega) (by omega), z1]
  have e1 : ¬ pr < 2 → s_ti (M b 8) pr = if 9 < M b 8 + 1 then 9 else M b 8 + 1 := fun h => by
    unfold s_ti
    rw [ti_lt, z2] at h
    rw [if_pos (show 1 < pr by rw [ti_lt, z1]; omega), if_neg (by rw [ti_lt, a1, z0]; omega)]
  have e2 : pr = 0 → s_ti (M b 8) pr = if M b 8 - 1 < 0 then 0 else M b 8 - 1 := fun h => by
    unfold s_ti
    rw [h, if_neg (show ¬ (1 : Int32) < 0 by decide), if_pos rfl, ← Int32.sub_eq_add_neg]
    split
    · rfl
    · rw [if_neg (by rw [ti_lt, ti_sub (by omega) (by omega), z1, z9]; omega)]
  have e3 : pr < 2 → ¬ pr = 0 → s_ti (M b 8) pr = M b 8 := fun h h2 => by
    unfold s_ti
    rw [ti_lt, z2] at h
    rw [if_neg (show ¬ 1 < pr by rw [ti_lt, z1]; omega), if_neg h2, Int32.add_zero, if_neg (by rw [ti_lt, z0]; omega), if_neg (by rw [ti_lt, z9]; omega)]
  have d1 : M b 9 < 6 → s_dy (M b 9) = M b 9 + 1 := fun h => if_pos h
  have d2 : ¬ M b 9 < 6 → s_dy (M b 9) = 0 := fun h => if_neg h
  have sm : mj_up M b 8 (M b 8) = M := by
    funext k j
    unfold mj_up
    by_cases h : k = b
    · by_cases h2 : j = 8
      · simp [h, h2]
      · simp [h, h2]
    · simp [h]
  repeat' (first | (with_reducible refine And.intro ?_ ?_) | (with_reducible intro _) | ((first | refine b_0 _ _ _ ?_ | refine b_23 _ _ _ ?_ | refine b_41 _ _ _ ?_ | refine b_55 _ _ _ ?_ | refine b_61 _ _ _ ?_); simp only [k_X2_passDay_0, k_X2_passDay_23, k_X2_passDay_41, k_X2_passDay_55, k_X2_passDay_61, xp_1, xp_2, xp_3, xp_4, xp_5, xp_6, xp_7, xp_10, xp_11, xp_12, xp_13, xp_14, xp_15, xp_16, xp_17, xp_18, xp_19, xp_20, xp_21, xp_22, xp_23, xp_30, xp_31, xp_32, xp_33, xp_34, xp_35, xp_36, xp_37, xp_38, xp_39, xp_40, xp_41, xp_42, xp_43, xp_50, xp_51, xp_52, xp_53, xp_60, xp_61, xp_62, xp_63, xp_64, xp_65, xp_70, xp_80, xp_81, xp_82, up_ne, up_s, ud_s, ud_o, xw_0, xw_1, xg_0, xg_1, xl_i, xl_r, xs_0, xs_1, xq_i, xq_r, xq_v, xc_0, xc_1, xt_0, xt_1, xr_0, xr_1, xr_2, xe_0, xe_1, ob_0, ob_18, ob_36, ob_54, ak_55, ln_55, cq_55, ak_56, ln_56, cq_56, ob_57, ak_58, ln_58, cq_58, ak_59, ln_59, cq_59, ob_60, ak_61, ln_61, cq_61, ak_62, ln_62, cq_62, ob_63, ak_64, ln_64, cq_64, ak_65, ln_65, cq_65, ak_66, ln_66, cq_66, ak_67, ln_67, cq_67, ak_68, ln_68, cq_68, ak_69, ln_69, cq_69, ak_70, ln_70, cq_70, ak_71, ln_71, cq_71, ak_72, ln_72, cq_72, ak_73, ln_73, cq_73, pt_54_0, pt_54_1, pt_57_0, pt_57_3, pt_60_0, pt_60_1, pt_60_2, pt_60_4, pt_60_5, pt_60_6, pt_60_8, pt_63_0, pt_63_1, pt_63_2, pt_63_3, pt_63_4, pt_63_6, pt_63_7, pt_63_10, pt_63_11, pt_63_17, true_and, and_true, List.length_cons, List.length_nil, Nat.reduceAdd, Nat.reduceLeDiff, forall_eq, ne_eq, Nat.reduceEqDiff, not_false_eq_true, or_false, false_or, or_true, true_or, reduceCtorEq, Nat.zero_le, Nat.reduceMul, Nat.add_zero, false_and, and_false, false_implies, true_implies, forall_const, implies_true, List.append_nil, List.nil_append, List.cons_append, mb_i, mb_ii, mb_iii, mb_r, mb_ri, mb_rii, mb_riii, mb_rr, mb_rri, mb_rrii, mb_rriii, mb_riiiii, mb_rrr, mb_rir, mb_iiii, mb_riiii, tn_0, tn_1, tn_2, tn_3, tn_4, tn_5, tn_6, tc_0, tc_1, tc_2, tc_3, tc_4, tc_5, tc_6, xf_0, xf_1, xf_2, Sum.inl.injEq, Sum.inr.injEq, C_J_max, C_J_min, C_M_passDay, o0]))
  all_goals clear b_0 b_23 b_41 b_55 b_61
  all_goals first | (rw [e1 (by assumption), d1 (by assumption)]; done) | (rw [e1 (by assumption), d2 (by assumption)]; done) | (rw [e2 (by assumption), d1 (by assumption)]; done) | (rw [e2 (by assumption), d2 (by assumption)]; done) | (rw [e3 (by assumption) (by assumption), sm, d1 (by assumption)]; done) | (rw [e3 (by assumption) (by assumption), sm, d2 (by assumption)]; done) | skip
  all_goals exact (0 : Nat)

