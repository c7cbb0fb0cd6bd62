/-! a room is laid over another -/
def iC (b b2 : Nat) (M M1 : mj_M) (s c t : Nat) : Prop := (∀ k, ¬ (b + 4 ≤ k ∧ k < b + 18) → M1 k = M k) ∧ (∀ i w, i < s → w < 4 → M1 (b + 4 + i) w = M (b2 + 4 + i) w) ∧ (∀ i w, i < c → w < 5 → M1 (b + 8 + i) w = M (b2 + 8 + i) w) ∧ ∀ i w, i < t → w < 2 → M1 (b + 12 + i) w = M (b2 + 12 + i) w
theorem rB_n {b b2 : Nat} (h : rB b) (h2 : rB b2) (hn : b ≠ b2) : b + 18 ≤ b2 ∨ b2 + 18 ≤ b := by
  rcases h with rfl | rfl | rfl <;> rcases h2 with rfl | rfl | rfl <;> omega
theorem iC_s {b b2 s c t : Nat} {M M1 : mj_M} (hn : b + 18 ≤ b2 ∨ b2 + 18 ≤ b) (hs : s < 4) (h : iC b b2 M M1 s c t) : iC b b2 M (cpo M1 (b + 4 + s) (b2 + 4 + s) 4) (s + 1) c t := by
  obtain ⟨h0, h1, h2, h3⟩ := h
  refine ⟨fun k hk => (cpo_o (by omega)).trans (h0 k hk), fun i w hi hw => ?_, fun i w hi hw => (congrFun (cpo_o (by omega)) w).trans (h2 i w hi hw), fun i w hi hw => (congrFun (cpo_o (by omega)) w).trans (h3 i w hi hw)⟩
  by_cases e : i = s
  · subst e
    rw [cpo_s hw]
    exact congrFun (h0 _ (by omega)) w
  · rw [cpo_o (by omega)]
    exact h1 i w (by omega) hw
theorem iC_c {b b2 c t : Nat} {M M1 : mj_M} (hn : b + 18 ≤ b2 ∨ b2 + 18 ≤ b) (hs : c < 4) (h : iC b b2 M M1 4 c t) : iC b b2 M (cpo M1 (b + 8 + c) (b2 + 8 + c) 5) 4 (c + 1) t := by
  obtain ⟨h0, h1, h2, h3⟩ := h
  refine ⟨fun k hk => (cpo_o (by omega)).trans (h0 k hk), fun i w hi hw => (congrFun (cpo_o (by omega)) w).trans (h1 i w hi hw), fun i w hi hw => ?_, fun i w hi hw => (congrFun (cpo_o (by omega)) w).trans (h3 i w hi hw)⟩
  by_cases e : i = c
  · subst e
    rw [cpo_s hw]
    exact congrFun (h0 _ (by omega)) w
  · rw [cpo_o (by omega)]
    exact h2 i w (by omega) hw
theorem iC_t {b b2 t : Nat} {M M1 : mj_M} (hn : b + 18 ≤ b2 ∨ b2 + 18 ≤ b) (hs : t < 6) (h : iC b b2 M M1 4 4 t) : iC b b2 M (cpo M1 (b + 12 + t) (b2 + 12 + t) 2) 4 4 (t + 1) := by
  obtain ⟨h0, h1, h2, h3⟩ := h
  refine ⟨fun k hk => (cpo_o (by omega)).trans (h0 k hk), fun i w hi hw => (congrFun (cpo_o (by omega)) w).trans (h1 i w hi hw), fun i w hi hw => (congrFun (cpo_o (by omega)) w).trans (h2 i w hi hw), fun i w hi hw => ?_⟩
  by_cases e : i = t
  · subst e
    rw [cpo_s hw]
    exact congrFun (h0 _ (by omega)) w
  · rw [cpo_o (by omega)]
    exact h3 i w (by omega) hw
/-- all but a room's cells stay -/
def frB (b : Nat) (M M' : mj_M) : Prop := ∀ k, ¬ (b ≤ k ∧ k < b + 18) → M' k = M k
def cpg (M : mj_M) (a b lo n : Nat) : mj_M := fun k j => if k = a then (if lo ≤ j ∧ j < lo + n then M b j else M a j) else M k j
theorem cpg_0 {M : mj_M} {a b lo : Nat} : cpg M a b lo 0 = M := by
  funext k j
  unfold cpg
  by_cases h : k = a
  · rw [if_pos h, if_neg (by omega), h]
  · rw [if_neg h]
theorem cpg_n {M : mj_M} {a b lo n : Nat} (h : a ≠ b) : mj_up (cpg M a b lo n) a (lo + n) (cpg M a b lo n b (lo + n)) = cpg M a b lo (n + 1) := by
  have e : cpg M a b lo n b (lo + n) = M b (lo + n) := if_neg (Ne.symm h)
  rw [e]
  funext k j
  by_cases h1 : k = a
  · subst h1
    rw [up_s]
    by_cases h2 : j = lo + n
    · subst h2
      rw [ud_s]
      unfold cpg
      rw [if_pos rfl, if_pos (by omega)]
    · rw [ud_o h2]
      unfold cpg
      rw [if_pos rfl, if_pos rfl]
      by_cases h3 : lo ≤ j ∧ j < lo + n
      · rw [if_pos h3, if_pos (by omega)]
      · rw [if_neg h3, if_neg (by omega)]
  · rw [up_ne h1]
    unfold cpg
    rw [if_neg h1, if_neg h1]
def C_M_copyFrom2 : mj_C := (2, rk0, fun avs M => ma_rr avs fun b c => (rB b ∧ rB c ∧ b ≠ c), fun avs M r M' => ma_rr avs fun b c => (rv M' b = rv M c ∧ frB b M M'))
theorem rc_M_copyFrom2 : ∀ avs M, C_M_copyFrom2.2.2.1 avs M → ∃ a r, avs = .inr a :: r ∧ mj_ob a = 2 := by
  intro avs M h
  obtain ⟨b, c, rfl, h⟩ := mc_rr h
  exact ⟨_, _, rfl, (rB_o h.1).1⟩
set_option maxRecDepth 20000 in
set_option maxHeartbeats 2000000 in
theorem t_M_copyFrom2 : mj_T yX2_copyFrom cX2_copyFrom 3 none 1 C_M_copyFrom2 := by
  refine mj_T_of (own := 2) (rk := 0) [(162, C_M_copyFrom3), (174, C_M_copyFrom0), (183, C_M_copyFrom4)] (by decide) rfl (by decide) ⟨rfl, rfl⟩ (List.forall_mem_cons.mpr ⟨mj_KV (own := 2) (nest := true) t_M_copyFrom3 ⟨wc_X3_copyFrom, wi_X3, by decide, wl_2_54⟩ wn_X3_copyFrom ws_X3_copyFrom (c0 := 3) (by decide) rfl (by decide +kernel) rc_M_copyFrom3 (by decide), (List.forall_mem_cons.mpr ⟨mj_KV (own := 2) (nest := true) t_M_copyFrom0 ⟨wc_X0_copyFrom, wi_X0, by decide, wl_2_58⟩ wn_X0_copyFrom ws_X0_copyFrom (c0 := 0) (by decide) rfl (by decide +kernel) rc_M_copyFrom0 (by decide), (List.forall_mem_cons.mpr ⟨mj_KV (own := 2) (nest := true) t_M_copyFrom4 ⟨wc_X4_copyFrom, wi_X4, by decide, wl_2_61⟩ wn_X4_copyFrom ws_X4_copyFrom (c0 := 4) (by decide) rfl (by decide +kernel) rc_M_copyFrom4 (by decide), (fun _ h => absurd h List.not_mem_nil)⟩)⟩)⟩) ?_
  intro avs M hlen hpre V hV
  obtain ⟨b, c, rfl, hp⟩ := mc_rr hpre
  show V 0 [some (.inr b), some (.inr c), none] [] M
  have b_0 := hV h_X2_copyFrom_0; have b_2 := hV h_X2_copyFrom_2; have b_28 := hV h_X2_copyFrom_28; have b_30 := hV h_X2_copyFrom_30; have b_56 := hV h_X2_copyFrom_56; have b_58 := hV h_X2_copyFrom_58; have b_85 := hV h_X2_copyFrom_85
  clear hlen hpre hV
  obtain ⟨hb, hc, hne⟩ := hp
  obtain ⟨p0, p1, p2, q1, q2, q3⟩ := rB_p hb
  obtain ⟨k1, k2, k3, l1, l2, l3⟩ := rB_k hb
  obtain ⟨o0, o1, o2, o3⟩ := rB_o hb
  obtain ⟨P0, P1, P2, Q1, Q2, Q3⟩ := rB_p hc
  obtain ⟨K1, K2, K3, L1, L2, L3⟩ := rB_k hc
  obtain ⟨O0, O1, O2, O3⟩ := rB_o hc
  have hd := rB_n hb hc hne
  have l85 : ∀ (M1 : mj_M) (X2 : Option mj_V), iC b c M M1 4 4 6 → V 85 [some (.inr b), some (.inr c), X2] [] M1 := by
    intro M1 X2 h
    have e := h.1 b (by omega)
    have ec := h.1 c (by omega)
    have c1 : mj_up (cpg M1 b c 3 0) b 3 (cpg M1 b c 3 0 c 3) = cpg M1 b c 3 1 := cpg_n hne
    have c2 : mj_up (cpg M1 b c 3 1) b 4 (cpg M1 b c 3 1 c 4) = cpg M1 b c 3 2 := cpg_n hne
    have c3 : mj_up (cpg M1 b c 3 2) b 5 (cpg M1 b c 3 2 c 5) = cpg M1 b c 3 3 := cpg_n hne
    have c4 : mj_up (cpg M1 b c 3 3) b 6 (cpg M1 b c 3 3 c 6) = cpg M1 b c 3 4 := cpg_n hne
    have c5 : mj_up (cpg M1 b c 3 4) b 7 (cpg M1 b c 3 4 c 7) = cpg M1 b c 3 5 := cpg_n hne
    have c6 : mj_up (cpg M1 b c 3 5) b 8 (cpg M1 b c 3 5 c 8) = cpg M1 b c 3 6 := cpg_n hne
    have c7 : mj_up (cpg M1 b c 3 6) b 9 (cpg M1 b c 3 6 c 9) = cpg M1 b c 3 7 := cpg_n hne
    have hX : ∀ M2, M2 = cpg M1 b c 3 7 → rv M2 b = rv M c ∧ frB b M M2 := by
      intro M2 h2
      subst h2
      have eo : ∀ k, k ≠ b → cpg M1 b c 3 7 k = M1 k := fun k hk => by
        funext j
        exact if_neg hk
      refine ⟨rv_cg (fun j h3 h10 => ?_) (fun i w hi hw _ => ?_) (fun i w hi hw _ => ?_) (fun i w hi hw _ => ?_), fun k hk => ?_⟩
      · unfold cpg
        rw [if_pos rfl, if_pos (by omega), ec]
      · rw [eo _ (by omega)]
        exact h.2.1 i w hi hw
      · rw [eo _ (by omega)]
        exact h.2.2.1 i w hi hw
      · rw [eo _ (by omega)]
        exact h.2.2.2 i w hi hw
      · rw [eo _ (by omega)]
        exact h.1 k (by omega)
    (refine b_85 _ _ _ ?_; simp only [k_X2_copyFrom_0, k_X2_copyFrom_2, k_X2_copyFrom_28, k_X2_copyFrom_30, k_X2_copyFrom_56, k_X2_copyFrom_58, k_X2_copyFrom_85, xp_1, xp_2, xp_3, xp_4, xp_5, xp_6, xp_7, xp_10, xp_11, xp_12, xp_13, xp_14, xp_15, xp_16, xp_17, xp_18, xp_19, xp_20, xp_21, xp_22, xp_23, xp_30, xp_31, xp_32, xp_33, xp_34, xp_35, xp_36, xp_37, xp_38, xp_39, xp_40, xp_41, xp_42, xp_43, xp_50, xp_51, xp_52, xp_53, xp_60, xp_61, xp_62, xp_63, xp_64, xp_65, xp_70, xp_80, xp_81, xp_82, up_ne, up_s, ud_s, ud_o, xw_0, xw_1, xg_0, xg_1, xl_i, xl_r, xs_0, xs_1, xq_i, xq_r, xq_v, xc_0, xc_1, xt_0, xt_1, xr_0, xr_1, xr_2, xe_0, xe_1, ob_0, ob_18, ob_36, ob_54, ak_55, ln_55, cq_55, ak_56, ln_56, cq_56, ob_57, ak_58, ln_58, cq_58, ak_59, ln_59, cq_59, ob_60, ak_61, ln_61, cq_61, ak_62, ln_62, cq_62, ob_63, ak_64, ln_64, cq_64, ak_65, ln_65, cq_65, ak_66, ln_66, cq_66, ak_67, ln_67, cq_67, ak_68, ln_68, cq_68, ak_69, ln_69, cq_69, ak_70, ln_70, cq_70, ak_71, ln_71, cq_71, ak_72, ln_72, cq_72, ak_73, ln_73, cq_73, pt_54_0, pt_54_1, pt_57_0, pt_57_3, pt_60_0, pt_60_1, pt_60_2, pt_60_4, pt_60_5, pt_60_6, pt_60_8, pt_63_0, pt_63_1, pt_63_2, pt_63_3, pt_63_4, pt_63_6, pt_63_7, pt_63_10, pt_63_11, pt_63_17, true_and, and_true, List.length_cons, List.length_nil, Nat.reduceAdd, Nat.reduceLeDiff, forall_eq, ne_eq, Nat.reduceEqDiff, not_false_eq_true, or_false, false_or, or_true, true_or, reduceCtorEq, Nat.zero_le, Nat.reduceMul, Nat.add_zero, false_and, and_false, false_implies, true_implies, forall_const, implies_true, List.append_nil, List.nil_append, List.cons_append, mb_i, mb_ii, mb_iii, mb_r, mb_ri, mb_rii, mb_riii, mb_rr, mb_rri, mb_rrii, mb_rriii, mb_riiiii, mb_rrr, mb_rir, mb_iiii, mb_riiii, tn_0, tn_1, tn_2, tn_3, tn_4, tn_5, tn_6, tc_0, tc_1, tc_2, tc_3, tc_4, tc_5, tc_6, xf_0, xf_1, xf_2, Sum.inl.injEq, Sum.inr.injEq, C_M_copyFrom0, C_M_copyFrom2, C_M_copyFrom3, C_M_copyFrom4, p0, p1, p2, k1, k2, k3, l1, l2, l3, q1, q2, q3, o0, P0, P1, P2, K1, K2, K3, L1, L2, L3, Q1, Q2, Q3, O0, nI_1])
    refine hX _ ?_
    rw [← c7, ← c6, ← c5, ← c4, ← c3, ← c2, ← c1, cpg_0]
  have l58 : ∀ (f j : Nat) (M1 : mj_M), j + f = 6 → iC b c M M1 4 4 j → V 58 [some (.inr b), some (.inr c), some (.inl (nI j))] [] M1 := by
    intro f
    induction f with
    | zero =>
      intro j M1 hj h
      have h1 : ¬ nI j < 6 := by
        rw [show j = 6 by omega]
        decide
      (refine b_58 _ _ _ ?_; simp only [k_X2_copyFrom_0, k_X2_copyFrom_2, k_X2_copyFrom_28, k_X2_copyFrom_30, k_X2_copyFrom_56, k_X2_copyFrom_58, k_X2_copyFrom_85, xp_1, xp_2, xp_3, xp_4, xp_5, xp_6, xp_7, xp_10, xp_11, xp_12, xp_13, xp_14, xp_15, xp_16, xp_17, xp_18, xp_19, xp_20, xp_21, xp_22, xp_23, xp_30, xp_31, xp_32, xp_33, xp_34, xp_35, xp_36, xp_37, xp_38, xp_39, xp_40, xp_41, xp_42, xp_43, xp_50, xp_51, xp_52, xp_53, xp_60, xp_61, xp_62, xp_63, xp_64, xp_65, xp_70, xp_80, xp_81, xp_82, up_ne, up_s, ud_s, ud_o, xw_0, xw_1, xg_0, xg_1, xl_i, xl_r, xs_0, xs_1, xq_i, xq_r, xq_v, xc_0, xc_1, xt_0, xt_1, xr_0, xr_1, xr_2, xe_0, xe_1, ob_0, ob_18, ob_36, ob_54, ak_55, ln_55, cq_55, ak_56, ln_56, cq_56, ob_57, ak_58, ln_58, cq_58, ak_59, ln_59, cq_59, ob_60, ak_61, ln_61, cq_61, ak_62, ln_62, cq_62, ob_63, ak_64, ln_64, cq_64, ak_65, ln_65, cq_65, ak_66, ln_66, cq_66, ak_67, ln_67, cq_67, ak_68, ln_68, cq_68, ak_69, ln_69, cq_69, ak_70, ln_70, cq_70, ak_71, ln_71, cq_71, ak_72, ln_72, cq_72, ak_73, ln_73, cq_73, pt_54_0, pt_54_1, pt_57_0, pt_57_3, pt_60_0, pt_60_1, pt_60_2, pt_60_4, pt_60_5, pt_60_6, pt_60_8, pt_63_0, pt_63_1, pt_63_2, pt_63_3, pt_63_4, pt_63_6, pt_63_7, pt_63_10, pt_63_11, pt_63_17, true_and, and_true, List.length_cons, List.length_nil, Nat.reduceAdd, Nat.reduceLeDiff, forall_eq, ne_eq, Nat.reduceEqDiff, not_false_eq_true, or_false, false_or, or_true, true_or, reduceCtorEq, Nat.zero_le, Nat.reduceMul, Nat.add_zero, false_and, and_false, false_implies, true_implies, forall_const, implies_true, List.append_nil, List.nil_append, List.cons_append, mb_i, mb_ii, mb_iii, mb_r, mb_ri, mb_rii, mb_riii, mb_rr, mb_rri, mb_rrii, mb_rriii, mb_riiiii, mb_rrr, mb_rir, mb_iiii, mb_riiii, tn_0, tn_1, tn_2, tn_3, tn_4, tn_5, tn_6, tc_0, tc_1, tc_2, tc_3, tc_4, tc_5, tc_6, xf_0, xf_1, xf_2, Sum.inl.injEq, Sum.inr.injEq, C_M_copyFrom0, C_M_copyFrom2, C_M_copyFrom3, C_M_copyFrom4, p0, p1, p2, k1, k2, k3, l1, l2, l3, q1, q2, q3, o0, P0, P1, P2, K1, K2, K3, L1, L2, L3, Q1, Q2, Q3, O0, nI_1])
      refine ⟨fun _ => l85 M1 _ (by rw [show j = 6 by omega] at h; exact h), fun z => absurd z h1⟩
    | succ f ih =>
      intro j M1 hj h
      have h1 : nI j < 6 := by
        rw [ti_lt, ti_nI (by omega)]
        show (j : Int) < 6
        omega
      have ej : (nI j).toNatClampNeg = j := tn_nI (by omega)
      have hx : vp_in (nI j) 6 := vi_l (by omega) (by omega)
      (refine b_58 _ _ _ ?_; simp only [k_X2_copyFrom_0, k_X2_copyFrom_2, k_X2_copyFrom_28, k_X2_copyFrom_30, k_X2_copyFrom_56, k_X2_copyFrom_58, k_X2_copyFrom_85, xp_1, xp_2, xp_3, xp_4, xp_5, xp_6, xp_7, xp_10, xp_11, xp_12, xp_13, xp_14, xp_15, xp_16, xp_17, xp_18, xp_19, xp_20, xp_21, xp_22, xp_23, xp_30, xp_31, xp_32, xp_33, xp_34, xp_35, xp_36, xp_37, xp_38, xp_39, xp_40, xp_41, xp_42, xp_43, xp_50, xp_51, xp_52, xp_53, xp_60, xp_61, xp_62, xp_63, xp_64, xp_65, xp_70, xp_80, xp_81, xp_82, up_ne, up_s, ud_s, ud_o, xw_0, xw_1, xg_0, xg_1, xl_i, xl_r, xs_0, xs_1, xq_i, xq_r, xq_v, xc_0, xc_1, xt_0, xt_1, xr_0, xr_1, xr_2, xe_0, xe_1, ob_0, ob_18, ob_36, ob_54, ak_55, ln_55, cq_55, ak_56, ln_56, cq_56, ob_57, ak_58, ln_58, cq_58, ak_59, ln_59, cq_59, ob_60, ak_61, ln_61, cq_61, ak_62, ln_62, cq_62, ob_63, ak_64, ln_64, cq_64, ak_65, ln_65, cq_65, ak_66, ln_66, cq_66, ak_67, ln_67, cq_67, ak_68, ln_68, cq_68, ak_69, ln_69, cq_69, ak_70, ln_70, cq_70, ak_71, ln_71, cq_71, ak_72, ln_72, cq_72, ak_73, ln_73, cq_73, pt_54_0, pt_54_1, pt_57_0, pt_57_3, pt_60_0, pt_60_1, pt_60_2, pt_60_4, pt_60_5, pt_60_6, pt_60_8, pt_63_0, pt_63_1, pt_63_2, pt_63_3, pt_63_4, pt_63_6, pt_63_7, pt_63_10, pt_63_11, pt_63_17, true_and, and_true, List.length_cons, List.length_nil, Nat.reduceAdd, Nat.reduceLeDiff, forall_eq, ne_eq, Nat.reduceEqDiff, not_false_eq_true, or_false, false_or, or_true, true_or, reduceCtorEq, Nat.zero_le, Nat.reduceMul, Nat.add_zero, false_and, and_false, false_implies, true_implies, forall_const, implies_true, List.append_nil, List.nil_append, List.cons_append, mb_i, mb_ii, mb_iii, mb_r, mb_ri, mb_rii, mb_riii, mb_rr, mb_rri, mb_rrii, mb_rriii, mb_riiiii, mb_rrr, mb_rir, mb_iiii, mb_riiii, tn_0, tn_1, tn_2, tn_3, tn_4, tn_5, tn_6, tc_0, tc_1, tc_2, tc_3, tc_4, tc_5, tc_6, xf_0, xf_1, xf_2, Sum.inl.injEq, Sum.inr.injEq, C_M_copyFrom0, C_M_copyFrom2, C_M_copyFrom3, C_M_copyFrom4, p0, p1, p2, k1, k2, k3, l1, l2, l3, q1, q2, q3, o0, P0, P1, P2, K1, K2, K3, L1, L2, L3, Q1, Q2, Q3, O0, nI_1])
      rw [ej]
      exact ⟨fun z => absurd h1 z, fun _ => ⟨hx, hx, ⟨o3 j (by omega), O3 j (by omega), by omega⟩, ih (j + 1) _ (by omega) (iC_t hd (by omega) h)⟩⟩
  have l30 : ∀ (f j : Nat) (M1 : mj_M), j + f = 4 → iC b c M M1 4 j 0 → V 30 [some (.inr b), some (.inr c), some (.inl (nI j))] [] M1 := by
    intro f
    induction f with
    | zero =>
      intro j M1 hj h
      have h1 : ¬ nI j < 4 := by
        rw [show j = 4 by omega]
        decide
      (refine b_30 _ _ _ ?_; simp only [k_X2_copyFrom_0, k_X2_copyFrom_2, k_X2_copyFrom_28, k_X2_copyFrom_30, k_X2_copyFrom_56, k_X2_copyFrom_58, k_X2_copyFrom_85, xp_1, xp_2, xp_3, xp_4, xp_5, xp_6, xp_7, xp_10, xp_11, xp_12, xp_13, xp_14, xp_15, xp_16, xp_17, xp_18, xp_19, xp_20, xp_21, xp_22, xp_23, xp_30, xp_31, xp_32, xp_33, xp_34, xp_35, xp_36, xp_37, xp_38, xp_39, xp_40, xp_41, xp_42, xp_43, xp_50, xp_51, xp_52, xp_53, xp_60, xp_61, xp_62, xp_63, xp_64, xp_65, xp_70, xp_80, xp_81, xp_82, up_ne, up_s, ud_s, ud_o, xw_0, xw_1, xg_0, xg_1, xl_i, xl_r, xs_0, xs_1, xq_i, xq_r, xq_v, xc_0, xc_1, xt_0, xt_1, xr_0, xr_1, xr_2, xe_0, xe_1, ob_0, ob_18, ob_36, ob_54, ak_55, ln_55, cq_55, ak_56, ln_56, cq_56, ob_57, ak_58, ln_58, cq_58, ak_59, ln_59, cq_59, ob_60, ak_61, ln_61, cq_61, ak_62, ln_62, cq_62, ob_63, ak_64, ln_64, cq_64, ak_65, ln_65, cq_65, ak_66, ln_66, cq_66, ak_67, ln_67, cq_67, ak_68, ln_68, cq_68, ak_69, ln_69, cq_69, ak_70, ln_70, cq_70, ak_71, ln_71, cq_71, ak_72, ln_72, cq_72, ak_73, ln_73, cq_73, pt_54_0, pt_54_1, pt_57_0, pt_57_3, pt_60_0, pt_60_1, pt_60_2, pt_60_4, pt_60_5, pt_60_6, pt_60_8, pt_63_0, pt_63_1, pt_63_2, pt_63_3, pt_63_4, pt_63_6, pt_63_7, pt_63_10, pt_63_11, pt_63_17, true_and, and_true, List.length_cons, List.length_nil, Nat.reduceAdd, Nat.reduceLeDiff, forall_eq, ne_eq, Nat.reduceEqDiff, not_false_eq_true, or_false, false_or, or_true, true_or, reduceCtorEq, Nat.zero_le, Nat.reduceMul, Nat.add_zero, false_and, and_false, false_implies, true_implies, forall_const, implies_true, List.append_nil, List.nil_append, List.cons_append, mb_i, mb_ii, mb_iii, mb_r, mb_ri, mb_rii, mb_riii, mb_rr, mb_rri, mb_rrii, mb_rriii, mb_riiiii, mb_rrr, mb_rir, mb_iiii, mb_riiii, tn_0, tn_1, tn_2, tn_3, tn_4, tn_5, tn_6, tc_0, tc_1, tc_2, tc_3, tc_4, tc_5, tc_6, xf_0, xf_1, xf_2, Sum.inl.injEq, Sum.inr.injEq, C_M_copyFrom0, C_M_copyFrom2, C_M_copyFrom3, C_M_copyFrom4, p0, p1, p2, k1, k2, k3, l1, l2, l3, q1, q2, q3, o0, P0, P1, P2, K1, K2, K3, L1, L2, L3, Q1, Q2, Q3, O0, nI_1])
      refine ⟨fun _ => ?_, fun z => absurd z h1⟩
      (refine b_56 _ _ _ ?_; simp only [k_X2_copyFrom_0, k_X2_copyFrom_2, k_X2_copyFrom_28, k_X2_copyFrom_30, k_X2_copyFrom_56, k_X2_copyFrom_58, k_X2_copyFrom_85, xp_1, xp_2, xp_3, xp_4, xp_5, xp_6, xp_7, xp_10, xp_11, xp_12, xp_13, xp_14, xp_15, xp_16, xp_17, xp_18, xp_19, xp_20, xp_21, xp_22, xp_23, xp_30, xp_31, xp_32, xp_33, xp_34, xp_35, xp_36, xp_37, xp_38, xp_39, xp_40, xp_41, xp_42, xp_43, xp_50, xp_51, xp_52, xp_53, xp_60, xp_61, xp_62, xp_63, xp_64, xp_65, xp_70, xp_80, xp_81, xp_82, up_ne, up_s, ud_s, ud_o, xw_0, xw_1, xg_0, xg_1, xl_i, xl_r, xs_0, xs_1, xq_i, xq_r, xq_v, xc_0, xc_1, xt_0, xt_1, xr_0, xr_1, xr_2, xe_0, xe_1, ob_0, ob_18, ob_36, ob_54, ak_55, ln_55, cq_55, ak_56, ln_56, cq_56, ob_57, ak_58, ln_58, cq_58, ak_59, ln_59, cq_59, ob_60, ak_61, ln_61, cq_61, ak_62, ln_62, cq_62, ob_63, ak_64, ln_64, cq_64, ak_65, ln_65, cq_65, ak_66, ln_66, cq_66, ak_67, ln_67, cq_67, ak_68, ln_68, cq_68, ak_69, ln_69, cq_69, ak_70, ln_70, cq_70, ak_71, ln_71, cq_71, ak_72, ln_72, cq_72, ak_73, ln_73, cq_73, pt_54_0, pt_54_1, pt_57_0, pt_57_3, pt_60_0, pt_60_1, pt_60_2, pt_60_4, pt_60_5, pt_60_6, pt_60_8, pt_63_0, pt_63_1, pt_63_2, pt_63_3, pt_63_4, pt_63_6, pt_63_7, pt_63_10, pt_63_11, pt_63_17, true_and, and_true, List.length_cons, List.length_nil, Nat.reduceAdd, Nat.reduceLeDiff, forall_eq, ne_eq, Nat.reduceEqDiff, not_false_eq_true, or_false, false_or, or_true, true_or, reduceCtorEq, Nat.zero_le, Nat.reduceMul, Nat.add_zero, false_and, and_false, false_implies, true_implies, forall_const, implies_true, List.append_nil, List.nil_append, List.cons_append, mb_i, mb_ii, mb_iii, mb_r, mb_ri, mb_rii, mb_riii, mb_rr, mb_rri, mb_rrii, mb_rriii, mb_riiiii, mb_rrr, mb_rir, mb_iiii, mb_riiii, tn_0, tn_1, tn_2, tn_3, tn_4, tn_5, tn_6, tc_0, tc_1, tc_2, tc_3, tc_4, tc_5, tc_6, xf_0, xf_1, xf_2, Sum.inl.injEq, Sum.inr.injEq, C_M_copyFrom0, C_M_copyFrom2, C_M_copyFrom3, C_M_copyFrom4, p0, p1, p2, k1, k2, k3, l1, l2, l3, q1, q2, q3, o0, P0, P1, P2, K1, K2, K3, L1, L2, L3, Q1, Q2, Q3, O0, nI_1])
      exact l58 6 0 M1 (by omega) (by rw [show j = 4 by omega] at h; exact h)
    | succ f ih =>
      intro j M1 hj h
      have h1 : nI j < 4 := by
        rw [ti_lt, ti_nI (by omega)]
        show (j : Int) < 4
        omega
      have ej : (nI j).toNatClampNeg = j := tn_nI (by omega)
      have hx : vp_in (nI j) 4 := vi_l (by omega) (by omega)
      (refine b_30 _ _ _ ?_; simp only [k_X2_copyFrom_0, k_X2_copyFrom_2, k_X2_copyFrom_28, k_X2_copyFrom_30, k_X2_copyFrom_56, k_X2_copyFrom_58, k_X2_copyFrom_85, xp_1, xp_2, xp_3, xp_4, xp_5, xp_6, xp_7, xp_10, xp_11, xp_12, xp_13, xp_14, xp_15, xp_16, xp_17, xp_18, xp_19, xp_20, xp_21, xp_22, xp_23, xp_30, xp_31, xp_32, xp_33, xp_34, xp_35, xp_36, xp_37, xp_38, xp_39, xp_40, xp_41, xp_42, xp_43, xp_50, xp_51, xp_52, xp_53, xp_60, xp_61, xp_62, xp_63, xp_64, xp_65, xp_70, xp_80, xp_81, xp_82, up_ne, up_s, ud_s, ud_o, xw_0, xw_1, xg_0, xg_1, xl_i, xl_r, xs_0, xs_1, xq_i, xq_r, xq_v, xc_0, xc_1, xt_0, xt_1, xr_0, xr_1, xr_2, xe_0, xe_1, ob_0, ob_18, ob_36, ob_54, ak_55, ln_55, cq_55, ak_56, ln_56, cq_56, ob_57, ak_58, ln_58, cq_58, ak_59, ln_59, cq_59, ob_60, ak_61, ln_61, cq_61, ak_62, ln_62, cq_62, ob_63, ak_64, ln_64, cq_64, ak_65, ln_65, cq_65, ak_66, ln_66, cq_66, ak_67, ln_67, cq_67, ak_68, ln_68, cq_68, ak_69, ln_69, cq_69, ak_70, ln_70, cq_70, ak_71, ln_71, cq_71, ak_72, ln_72, cq_72, ak_73, ln_73, cq_73, pt_54_0, pt_54_1, pt_57_0, pt_57_3, pt_60_0, pt_60_1, pt_60_2, pt_60_4, pt_60_5, pt_60_6, pt_60_8, pt_63_0, pt_63_1, pt_63_2, pt_63_3, pt_63_4, pt_63_6, pt_63_7, pt_63_10, pt_63_11, pt_63_17, true_and, and_true, List.length_cons, List.length_nil, Nat.reduceAdd, Nat.reduceLeDiff, forall_eq, ne_eq, Nat.reduceEqDiff, not_false_eq_true, or_false, false_or, or_true, true_or, reduceCtorEq, Nat.zero_le, Nat.reduceMul, Nat.add_zero, false_and, and_false, false_implies, true_implies, forall_const, implies_true, List.append_nil, List.nil_append, List.cons_append, mb_i, mb_ii, mb_iii, mb_r, mb_ri, mb_rii, mb_riii, mb_rr, mb_rri, mb_rrii, mb_rriii, mb_riiiii, mb_rrr, mb_rir, mb_iiii, mb_riiii, tn_0, tn_1, tn_2, tn_3, tn_4, tn_5, tn_6, tc_0, tc_1, tc_2, tc_3, tc_4, tc_5, tc_6, xf_0, xf_1, xf_2, Sum.inl.injEq, Sum.inr.injEq, C_M_copyFrom0, C_M_copyFrom2, C_M_copyFrom3, C_M_copyFrom4, p0, p1, p2, k1, k2, k3, l1, l2, l3, q1, q2, q3, o0, P0, P1, P2, K1, K2, K3, L1, L2, L3, Q1, Q2, Q3, O0, nI_1])
      rw [ej]
      exact ⟨fun z => absurd h1 z, fun _ => ⟨hx, hx, ⟨o2 j (by omega), O2 j (by omega), by omega⟩, ih (j + 1) _ (by omega) (iC_c hd (by omega) h)⟩⟩
  have l02 : ∀ (f j : Nat) (M1 : mj_M), j + f = 4 → iC b c M M1 j 0 0 → V 2 [some (.inr b), some (.inr c), some (.inl (nI j))] [] M1 := by
    intro f
    induction f with
    | zero =>
      intro j M1 hj h
      have h1 : ¬ nI j < 4 := by
        rw [show j = 4 by omega]
        decide
      (refine b_2 _ _ _ ?_; simp only [k_X2_copyFrom_0, k_X2_copyFrom_2, k_X2_copyFrom_28, k_X2_copyFrom_30, k_X2_copyFrom_56, k_X2_copyFrom_58, k_X2_copyFrom_85, xp_1, xp_2, xp_3, xp_4, xp_5, xp_6, xp_7, xp_10, xp_11, xp_12, xp_13, xp_14, xp_15, xp_16, xp_17, xp_18, xp_19, xp_20, xp_21, xp_22, xp_23, xp_30, xp_31, xp_32, xp_33, xp_34, xp_35, xp_36, xp_37, xp_38, xp_39, xp_40, xp_41, xp_42, xp_43, xp_50, xp_51, xp_52, xp_53, xp_60, xp_61, xp_62, xp_63, xp_64, xp_65, xp_70, xp_80, xp_81, xp_82, up_ne, up_s, ud_s, ud_o, xw_0, xw_1, xg_0, xg_1, xl_i, xl_r, xs_0, xs_1, xq_i, xq_r, xq_v, xc_0, xc_1, xt_0, xt_1, xr_0, xr_1, xr_2, xe_0, xe_1, ob_0, ob_18, ob_36, ob_54, ak_55, ln_55, cq_55, ak_56, ln_56, cq_56, ob_57, ak_58, ln_58, cq_58, ak_59, ln_59, cq_59, ob_60, ak_61, ln_61, cq_61, ak_62, ln_62, cq_62, ob_63, ak_64, ln_64, cq_64, ak_65, ln_65, cq_65, ak_66, ln_66, cq_66, ak_67, ln_67, cq_67, ak_68, ln_68, cq_68, ak_69, ln_69, cq_69, ak_70, ln_70, cq_70, ak_71, ln_71, cq_71, ak_72, ln_72, cq_72, ak_73, ln_73, cq_73, pt_54_0, pt_54_1, pt_57_0, pt_57_3, pt_60_0, pt_60_1, pt_60_2, pt_60_4, pt_60_5, pt_60_6, pt_60_8, pt_63_0, pt_63_1, pt_63_2, pt_63_3, pt_63_4, pt_63_6, pt_63_7, pt_63_10, pt_63_11, pt_63_17, true_and, and_true, List.length_cons, List.length_nil, Nat.reduceAdd, Nat.reduceLeDiff, forall_eq, ne_eq, Nat.reduceEqDiff, not_false_eq_true, or_false, false_or, or_true, true_or, reduceCtorEq, Nat.zero_le, Nat.reduceMul, Nat.add_zero, false_and, and_false, false_implies, true_implies, forall_const, implies_true, List.append_nil, List.nil_append, List.cons_append, mb_i, mb_ii, mb_iii, mb_r, mb_ri, mb_rii, mb_riii, mb_rr, mb_rri, mb_rrii, mb_rriii, mb_riiiii, mb_rrr, mb_rir, mb_iiii, mb_riiii, tn_0, tn_1, tn_2, tn_3, tn_4, tn_5, tn_6, tc_0, tc_1, tc_2, tc_3, tc_4, tc_5, tc_6, xf_0, xf_1, xf_2, Sum.inl.injEq, Sum.inr.injEq, C_M_copyFrom0, C_M_copyFrom2, C_M_copyFrom3, C_M_copyFrom4, p0, p1, p2, k1, k2, k3, l1, l2, l3, q1, q2, q3, o0, P0, P1, P2, K1, K2, K3, L1, L2, L3, Q1, Q2, Q3, O0, nI_1])
      refine ⟨fun _ => ?_, fun z => absurd z h1⟩
      (refine b_28 _ _ _ ?_; simp only [k_X2_copyFrom_0, k_X2_copyFrom_2, k_X2_copyFrom_28, k_X2_copyFrom_30, k_X2_copyFrom_56, k_X2_copyFrom_58, k_X2_copyFrom_85, xp_1, xp_2, xp_3, xp_4, xp_5, xp_6, xp_7, xp_10, xp_11, xp_12, xp_13, xp_14, xp_15, xp_16, xp_17, xp_18, xp_19, xp_20, xp_21, xp_22, xp_23, xp_30, xp_31, xp_32, xp_33, xp_34, xp_35, xp_36, xp_37, xp_38, xp_39, xp_40, xp_41, xp_42, xp_43, xp_50, xp_51, xp_52, xp_53, xp_60, xp_61, xp_62, xp_63, xp_64, xp_65, xp_70, xp_80, xp_81, xp_82, up_ne, up_s, ud_s, ud_o, xw_0, xw_1, xg_0, xg_1, xl_i, xl_r, xs_0, xs_1, xq_i, xq_r, xq_v, xc_0, xc_1, xt_0, xt_1, xr_0, xr_1, xr_2, xe_0, xe_1, ob_0, ob_18, ob_36, ob_54, ak_55, ln_55, cq_55, ak_56, ln_56, cq_56, ob_57, ak_58, ln_58, cq_58, ak_59, ln_59, cq_59, ob_60, ak_61, ln_61, cq_61, ak_62, ln_62, cq_62, ob_63, ak_64, ln_64, cq_64, ak_65, ln_65, cq_65, ak_66, ln_66, cq_66, ak_67, ln_67, cq_67, ak_68, ln_68, cq_68, ak_69, ln_69, cq_69, ak_70, ln_70, cq_70, ak_71, ln_71, cq_71, ak_72, ln_72, cq_72, ak_73, ln_73, cq_73, pt_54_0, pt_54_1, pt_57_0, pt_57_3, pt_60_0, pt_60_1, pt_60_2, pt_60_4, pt_60_5, pt_60_6, pt_60_8, pt_63_0, pt_63_1, pt_63_2, pt_63_3, pt_63_4, pt_63_6, pt_63_7, pt_63_10, pt_63_11, pt_63_17, true_and, and_true, List.length_cons, List.length_nil, Nat.reduceAdd, Nat.reduceLeDiff, forall_eq, ne_eq, Nat.reduceEqDiff, not_false_eq_true, or_false, false_or, or_true, true_or, reduceCtorEq, Nat.zero_le, Nat.reduceMul, Nat.add_zero, false_and, and_false, false_implies, true_implies, forall_const, implies_true, List.append_nil, List.nil_append, List.cons_append, mb_i, mb_ii, mb_iii, mb_r, mb_ri, mb_rii, mb_riii, mb_rr, mb_rri, mb_rrii, mb_rriii, mb_riiiii, mb_rrr, mb_rir, mb_iiii, mb_riiii, tn_0, tn_1, tn_2, tn_3, tn_4, tn_5, tn_6, tc_0, tc_1, tc_2, tc_3, tc_4, tc_5, tc_6, xf_0, xf_1, xf_2, Sum.inl.injEq, Sum.inr.injEq, C_M_copyFrom0, C_M_copyFrom2, C_M_copyFrom3, C_M_copyFrom4, p0, p1, p2, k1, k2, k3, l1, l2, l3, q1, q2, q3, o0, P0, P1, P2, K1, K2, K3, L1, L2, L3, Q1, Q2, Q3, O0, nI_1])
      exact l30 4 0 M1 (by omega) (by rw [show j = 4 by omega] at h; exact h)
    | succ f ih =>
      intro j M1 hj h
      have h1 : nI j < 4 := by
        rw [ti_lt, ti_nI (by omega)]
        show (j : Int) < 4
        omega
      have ej : (nI j).toNatClampNeg = j := tn_nI (by omega)
      have hx : vp_in (nI j) 4 := vi_l (by omega) (by omega)
      (refine b_2 _ _ _ ?_; simp only [k_X2_copyFrom_0, k_X2_copyFrom_2, k_X2_copyFrom_28, k_X2_copyFrom_30, k_X2_copyFrom_56, k_X2_copyFrom_58, k_X2_copyFrom_85, xp_1, xp_2, xp_3, xp_4, xp_5, xp_6, xp_7, xp_10, xp_11, xp_12, xp_13, xp_14, xp_15, xp_16, xp_17, xp_18, xp_19, xp_20, xp_21, xp_22, xp_23, xp_30, xp_31, xp_32, xp_33, xp_34, xp_35, xp_36, xp_37, xp_38, xp_39, xp_40, xp_41, xp_42, xp_43, xp_50, xp_51, xp_52, xp_53, xp_60, xp_61, xp_62, xp_63, xp_64, xp_65, xp_70, xp_80, xp_81, xp_82, up_ne, up_s, ud_s, ud_o, xw_0, xw_1, xg_0, xg_1, xl_i, xl_r, xs_0, xs_1, xq_i, xq_r, xq_v, xc_0, xc_1, xt_0, xt_1, xr_0, xr_1, xr_2, xe_0, xe_1, ob_0, ob_18, ob_36, ob_54, ak_55, ln_55, cq_55, ak_56, ln_56, cq_56, ob_57, ak_58, ln_58, cq_58, ak_59, ln_59, cq_59, ob_60, ak_61, ln_61, cq_61, ak_62, ln_62, cq_62, ob_63, ak_64, ln_64, cq_64, ak_65, ln_65, cq_65, ak_66, ln_66, cq_66, ak_67, ln_67, cq_67, ak_68, ln_68, cq_68, ak_69, ln_69, cq_69, ak_70, ln_70, cq_70, ak_71, ln_71, cq_71, ak_72, ln_72, cq_72, ak_73, ln_73, cq_73, pt_54_0, pt_54_1, pt_57_0, pt_57_3, pt_60_0, pt_60_1, pt_60_2, pt_60_4, pt_60_5, pt_60_6, pt_60_8, pt_63_0, pt_63_1, pt_63_2, pt_63_3, pt_63_4, pt_63_6, pt_63_7, pt_63_10, pt_63_11, pt_63_17, true_and, and_true, List.length_cons, List.length_nil, Nat.reduceAdd, Nat.reduceLeDiff, forall_eq, ne_eq, Nat.reduceEqDiff, not_false_eq_true, or_false, false_or, or_true, true_or, reduceCtorEq, Nat.zero_le, Nat.reduceMul, Nat.add_zero, false_and, and_false, false_implies, true_implies, forall_const, implies_true, List.append_nil, List.nil_append, List.cons_append, mb_i, mb_ii, mb_iii, mb_r, mb_ri, mb_rii, mb_riii, mb_rr, mb_rri, mb_rrii, mb_rriii, mb_riiiii, mb_rrr, mb_rir, mb_iiii, mb_riiii, tn_0, tn_1, tn_2, tn_3, tn_4, tn_5, tn_6, tc_0, tc_1, tc_2, tc_3, tc_4, tc_5, tc_6, xf_0, xf_1, xf_2, Sum.inl.injEq, Sum.inr.injEq, C_M_copyFrom0, C_M_copyFrom2, C_M_copyFrom3, C_M_copyFrom4, p0, p1, p2, k1, k2, k3, l1, l2, l3, q1, q2, q3, o0, P0, P1, P2, K1, K2, K3, L1, L2, L3, Q1, Q2, Q3, O0, nI_1])
      rw [ej]
      exact ⟨fun z => absurd h1 z, fun _ => ⟨hx, hx, ⟨o1 j (by omega), O1 j (by omega), by omega⟩, ih (j + 1) _ (by omega) (iC_s hd (by omega) h)⟩⟩
  (refine b_0 _ _ _ ?_; simp only [k_X2_copyFrom_0, k_X2_copyFrom_2, k_X2_copyFrom_28, k_X2_copyFrom_30, k_X2_copyFrom_56, k_X2_copyFrom_58, k_X2_copyFrom_85, xp_1, xp_2, xp_3, xp_4, xp_5, xp_6, xp_7, xp_10, xp_11, xp_12, xp_13, xp_14, xp_15, xp_16, xp_17, xp_18, xp_19, xp_20, xp_21, xp_22, xp_23, xp_30, xp_31, xp_32, xp_33, xp_34, xp_35, xp_36, xp_37, xp_38, xp_39, xp_40, xp_41, xp_42, xp_43, xp_50, xp_51, xp_52, xp_53, xp_60, xp_61, xp_62, xp_63, xp_64, xp_65, xp_70, xp_80, xp_81, xp_82, up_ne, up_s, ud_s, ud_o, xw_0, xw_1, xg_0, xg_1, xl_i, xl_r, xs_0, xs_1, xq_i, xq_r, xq_v, xc_0, xc_1, xt_0, xt_1, xr_0, xr_1, xr_2, xe_0, xe_1, ob_0, ob_18, ob_36, ob_54, ak_55, ln_55, cq_55, ak_56, ln_56, cq_56, ob_57, ak_58, ln_58, cq_58, ak_59, ln_59, cq_59, ob_60, ak_61, ln_61, cq_61, ak_62, ln_62, cq_62, ob_63, ak_64, ln_64, cq_64, ak_65, ln_65, cq_65, ak_66, ln_66, cq_66, ak_67, ln_67, cq_67, ak_68, ln_68, cq_68, ak_69, ln_69, cq_69, ak_70, ln_70, cq_70, ak_71, ln_71, cq_71, ak_72, ln_72, cq_72, ak_73, ln_73, cq_73, pt_54_0, pt_54_1, pt_57_0, pt_57_3, pt_60_0, pt_60_1, pt_60_2, pt_60_4, pt_60_5, pt_60_6, pt_60_8, pt_63_0, pt_63_1, pt_63_2, pt_63_3, pt_63_4, pt_63_6, pt_63_7, pt_63_10, pt_63_11, pt_63_17, true_and, and_true, List.length_cons, List.length_nil, Nat.reduceAdd, Nat.reduceLeDiff, forall_eq, ne_eq, Nat.reduceEqDiff, not_false_eq_true, or_false, false_or, or_true, true_or, reduceCtorEq, Nat.zero_le, Nat.reduceMul, Nat.add_zero, false_and, and_false, false_implies, true_implies, forall_const, implies_true, List.append_nil, List.nil_append, List.cons_append, mb_i, mb_ii, mb_iii, mb_r, mb_ri, mb_rii, mb_riii, mb_rr, mb_rri, mb_rrii, mb_rriii, mb_riiiii, mb_rrr, mb_rir, mb_iiii, mb_riiii, tn_0, tn_1, tn_2, tn_3, tn_4, tn_5, tn_6, tc_0, tc_1, tc_2, tc_3, tc_4, tc_5, tc_6, xf_0, xf_1, xf_2, Sum.inl.injEq, Sum.inr.injEq, C_M_copyFrom0, C_M_copyFrom2, C_M_copyFrom3, C_M_copyFrom4, p0, p1, p2, k1, k2, k3, l1, l2, l3, q1, q2, q3, o0, P0, P1, P2, K1, K2, K3, L1, L2, L3, Q1, Q2, Q3, O0, nI_1])
  exact l02 4 0 M (by omega) ⟨fun _ _ => rfl, fun i w hi => absurd hi (by omega), fun i w hi => absurd hi (by omega), fun i w hi => absurd hi (by omega)⟩

