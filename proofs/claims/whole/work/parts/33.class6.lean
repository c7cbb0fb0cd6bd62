def C_M_live : mj_C := (4, rk0, fun avs M => ma_rrii avs fun a b i ls => (a = 54 ∧ rB b ∧ dR (rv M b) ∧ bd i 0 3 ∧ i.toInt < (M b 3).toInt ∧ (ls = -1 ∨ (bd ls 0 3 ∧ ls.toInt < (M b 3).toInt))), fun avs M r M' => ma_rrii avs fun a b i ls => (M' 54 3 = (s_M (rv M b) i (-9) ls 0).1 ∧ M' 54 4 = (s_M (rv M b) i (-9) ls 0).2.1 ∧ M' 54 5 = (s_M (rv M b) i (-9) ls 0).2.2.1 ∧ M' 54 6 = (s_M (rv M b) i (-9) ls 0).2.2.2 ∧ ∀ k, k ≠ 54 → k ≠ 55 → k ≠ 56 → M' k = M k))
theorem rc_M_live : ∀ avs M, C_M_live.2.2.1 avs M → ∃ a r, avs = .inr a :: r ∧ mj_ob a = 1 := by
  intro avs M h
  obtain ⟨a, b, i, ls, rfl, h⟩ := mc_rrii h
  exact ⟨_, _, rfl, by rw [h.1]; rfl⟩
set_option maxRecDepth 20000 in
set_option maxHeartbeats 2000000 in
theorem t_M_live : mj_T yX1_live cX1_live 9 none 3 C_M_live := by
  refine mj_T_of (own := 1) (rk := 0) [(117, C_M_fallAsleep), (129, C_M_firstToRing), (153, C_M_depthOf2), (165, C_M_wakes0), (183, C_M_ring), (195, C_M_gap)] (by decide) rfl (by decide) ⟨rfl, rfl⟩ (List.forall_mem_cons.mpr ⟨mj_KV (own := 1) (nest := false) t_M_fallAsleep ⟨wc_X1_fallAsleep, wi_X1, by decide, wl_1_39⟩ wn_X1_fallAsleep ws_X1_fallAsleep (c0 := 1) (by decide) rfl (by decide +kernel) rc_M_fallAsleep (by decide), (List.forall_mem_cons.mpr ⟨mj_KV (own := 1) (nest := false) t_M_firstToRing ⟨wc_X1_firstToRing, wi_X1, by decide, wl_1_43⟩ wn_X1_firstToRing ws_X1_firstToRing (c0 := 1) (by decide) rfl (by decide +kernel) rc_M_firstToRing (by decide), (List.forall_mem_cons.mpr ⟨mj_KV (own := 1) (nest := true) t_M_depthOf2 ⟨wc_X2_depthOf, wi_X2, by decide, wl_1_51⟩ wn_X2_depthOf ws_X2_depthOf (c0 := 2) (by decide) rfl (by decide +kernel) rc_M_depthOf2 (by decide), (List.forall_mem_cons.mpr ⟨mj_KV (own := 1) (nest := true) t_M_wakes0 ⟨wc_X0_wakes, wi_X0, by decide, wl_1_55⟩ wn_X0_wakes ws_X0_wakes (c0 := 0) (by decide) rfl (by decide +kernel) rc_M_wakes0 (by decide), (List.forall_mem_cons.mpr ⟨mj_KV (own := 1) (nest := false) t_M_ring ⟨wc_X1_ring, wi_X1, by decide, wl_1_61⟩ wn_X1_ring ws_X1_ring (c0 := 1) (by decide) rfl (by decide +kernel) rc_M_ring (by decide), (List.forall_mem_cons.mpr ⟨mj_KV (own := 1) (nest := true) t_M_gap ⟨wc_X0_gap, wi_X0, by decide, wl_1_65⟩ wn_X0_gap ws_X0_gap (c0 := 0) (by decide) rfl (by decide +kernel) rc_M_gap (by decide), (fun _ h => absurd h List.not_mem_nil)⟩)⟩)⟩)⟩)⟩)⟩) ?_
  intro avs M hlen hpre V hV
  obtain ⟨a, b, i, ls, rfl, hp⟩ := mc_rrii hpre
  show V 0 [some (.inr a), some (.inr b), some (.inl i), some (.inl ls), none, none, none, none, none] [] M
  have b_0 := hV h_X1_live_0; have b_12 := hV h_X1_live_12; have b_13 := hV h_X1_live_13; have b_22 := hV h_X1_live_22; have b_57 := hV h_X1_live_57; have b_58 := hV h_X1_live_58; have b_108 := hV h_X1_live_108; have b_148 := hV h_X1_live_148; have b_171 := hV h_X1_live_171
  clear hlen hpre hV
  obtain ⟨rfl, hb, hd, hi, hin, hls⟩ := hp
  obtain ⟨p0, p1, p2, q1, q2, q3⟩ := rB_p hb
  obtain ⟨k1, k2, k3, l1, l2, l3⟩ := rB_k hb
  obtain ⟨o0, o1, o2, o3⟩ := rB_o hb
  have hbl : b ≤ 36 := by rcases hb with rfl | rfl | rfl <;> omega
  have hi1 := hi.1
  have hi2 := hi.2
  have ti := tn_of hi1
  have tc : (tn (M b 4) : Int) = (M b 4).toInt := tn_of hd.2.1.1
  have ts : (tn (M b 3) : Int) = (M b 3).toInt := tn_of hd.1.1
  have body : ∀ (n cnt : Nat) (M1 : mj_M) (L5 L6 L7 L8 : Option mj_V), cnt + n = 1200 → (∀ k, k ≠ 54 → k ≠ 55 → k ≠ 56 → M1 k = M k) → M1 54 2 = rv M b 3 - s_sb (rv M b) 0 63 (tn (M b 5)) + rv M b (7 + 4 * tn i + 3) - rv M b 4 → ((M1 54 3 = 300 ∧ s_J (rv M b) (n + 1) (M1 55) (M1 56) ∧ s_mo (rv M b) i ls (n + 1) (M1 55) (M1 56) (M1 54 4) (M1 54 5) (M1 54 6) = s_M (rv M b) i (-9) ls 0) ∨ (¬ M1 54 3 = 300 ∧ (M1 54 3, M1 54 4, M1 54 5, M1 54 6) = s_M (rv M b) i (-9) ls 0)) → V 22 [some (.inr 54), some (.inr b), some (.inl i), some (.inl ls), some (.inl (nI cnt)), L5, L6, L7, L8] [] M1 := by
    have hend : ∀ (n : Nat) (M1 : mj_M), (∀ k, k ≠ 54 → k ≠ 55 → k ≠ 56 → M1 k = M k) → ((M1 54 3 = 300 ∧ ¬ M1 55 (s_f3 (M1 55)) < 300 ∧ s_mo (rv M b) i ls (n + 1) (M1 55) (M1 56) (M1 54 4) (M1 54 5) (M1 54 6) = s_M (rv M b) i (-9) ls 0) ∨ (¬ M1 54 3 = 300 ∧ (M1 54 3, M1 54 4, M1 54 5, M1 54 6) = s_M (rv M b) i (-9) ls 0)) → M1 54 3 = (s_M (rv M b) i (-9) ls 0).1 ∧ M1 54 4 = (s_M (rv M b) i (-9) ls 0).2.1 ∧ M1 54 5 = (s_M (rv M b) i (-9) ls 0).2.2.1 ∧ M1 54 6 = (s_M (rv M b) i (-9) ls 0).2.2.2 ∧ ∀ k, ¬ k = 54 → ¬ k = 55 → ¬ k = 56 → M1 k = M k := by
      intro n M1 hF h
      rcases h with ⟨h1, h2, h3⟩ | ⟨h1, h3⟩
      · rw [s_mo, if_neg h2] at h3
        rw [← h3]
        exact ⟨h1, rfl, rfl, rfl, hF⟩
      · rw [← h3]
        exact ⟨rfl, rfl, rfl, rfl, hF⟩
    intro n
    induction n with
    | zero =>
      intro cnt M1 L5 L6 L7 L8 hn hF he hS
      have h1 : ¬ nI cnt < 1200 := by
        rw [show cnt = 1200 by omega]
        decide
      have h171 : V 171 [some (.inr 54), some (.inr b), some (.inl i), some (.inl ls), some (.inl (nI cnt)), L5, L6, L7, L8] [] M1 := by
        (refine b_171 _ _ _ ?_; simp only [k_X1_live_0, k_X1_live_12, k_X1_live_13, k_X1_live_22, k_X1_live_57, k_X1_live_58, k_X1_live_108, k_X1_live_148, k_X1_live_171, xp_1, xp_2, xp_3, xp_4, xp_5, xp_6, xp_7, xp_10, xp_11, xp_12, xp_13, xp_14, xp_15, xp_16, xp_17, xp_18, xp_19, xp_20, xp_21, xp_22, xp_23, xp_30, xp_31, xp_32, xp_33, xp_34, xp_35, xp_36, xp_37, xp_38, xp_39, xp_40, xp_41, xp_42, xp_43, xp_50, xp_51, xp_52, xp_53, xp_60, xp_61, xp_62, xp_63, xp_64, xp_65, xp_70, xp_80, xp_81, xp_82, up_ne, up_s, ud_s, ud_o, xw_0, xw_1, xg_0, xg_1, xl_i, xl_r, xs_0, xs_1, xq_i, xq_r, xq_v, xc_0, xc_1, xt_0, xt_1, xr_0, xr_1, xr_2, xe_0, xe_1, ob_0, ob_18, ob_36, ob_54, ak_55, ln_55, cq_55, ak_56, ln_56, cq_56, ob_57, ak_58, ln_58, cq_58, ak_59, ln_59, cq_59, ob_60, ak_61, ln_61, cq_61, ak_62, ln_62, cq_62, ob_63, ak_64, ln_64, cq_64, ak_65, ln_65, cq_65, ak_66, ln_66, cq_66, ak_67, ln_67, cq_67, ak_68, ln_68, cq_68, ak_69, ln_69, cq_69, ak_70, ln_70, cq_70, ak_71, ln_71, cq_71, ak_72, ln_72, cq_72, ak_73, ln_73, cq_73, pt_54_0, pt_54_1, pt_57_0, pt_57_3, pt_60_0, pt_60_1, pt_60_2, pt_60_4, pt_60_5, pt_60_6, pt_60_8, pt_63_0, pt_63_1, pt_63_2, pt_63_3, pt_63_4, pt_63_6, pt_63_7, pt_63_10, pt_63_11, pt_63_17, true_and, and_true, List.length_cons, List.length_nil, Nat.reduceAdd, Nat.reduceLeDiff, forall_eq, ne_eq, Nat.reduceEqDiff, not_false_eq_true, or_false, false_or, or_true, true_or, reduceCtorEq, Nat.zero_le, Nat.reduceMul, Nat.add_zero, false_and, and_false, false_implies, true_implies, forall_const, implies_true, List.append_nil, List.nil_append, List.cons_append, mb_i, mb_ii, mb_iii, mb_r, mb_ri, mb_rii, mb_riii, mb_rr, mb_rri, mb_rrii, mb_rriii, mb_riiiii, mb_rrr, mb_rir, mb_iiii, mb_riiii, tn_0, tn_1, tn_2, tn_3, tn_4, tn_5, tn_6, tc_0, tc_1, tc_2, tc_3, tc_4, tc_5, tc_6, xf_0, xf_1, xf_2, Sum.inl.injEq, Sum.inr.injEq, C_M_depthOf2, C_M_fallAsleep, C_M_firstToRing, C_M_gap, C_M_live, C_M_ring, C_M_wakes0, p0, p1, p2, k1, k2, l1, l2, q1, q2, o0, nI_1])
        refine hend 0 M1 hF ?_
        rcases hS with ⟨w1, w2, w3⟩ | w
        · refine Or.inl ⟨w1, fun z => ?_, w3⟩
          have hmu := w2.1
          have hf := s_f3_lt (M1 55)
          rw [ti_lt, show (300 : Int32).toInt = 300 from rfl] at z
          unfold s_mu at hmu
          rcases (show s_f3 (M1 55) = 0 ∨ s_f3 (M1 55) = 1 ∨ s_f3 (M1 55) = 2 ∨ s_f3 (M1 55) = 3 by omega) with e | e | e | e <;> (rw [e] at z; omega)
        · exact Or.inr w
      (refine b_22 _ _ _ ?_; simp only [k_X1_live_0, k_X1_live_12, k_X1_live_13, k_X1_live_22, k_X1_live_57, k_X1_live_58, k_X1_live_108, k_X1_live_148, k_X1_live_171, xp_1, xp_2, xp_3, xp_4, xp_5, xp_6, xp_7, xp_10, xp_11, xp_12, xp_13, xp_14, xp_15, xp_16, xp_17, xp_18, xp_19, xp_20, xp_21, xp_22, xp_23, xp_30, xp_31, xp_32, xp_33, xp_34, xp_35, xp_36, xp_37, xp_38, xp_39, xp_40, xp_41, xp_42, xp_43, xp_50, xp_51, xp_52, xp_53, xp_60, xp_61, xp_62, xp_63, xp_64, xp_65, xp_70, xp_80, xp_81, xp_82, up_ne, up_s, ud_s, ud_o, xw_0, xw_1, xg_0, xg_1, xl_i, xl_r, xs_0, xs_1, xq_i, xq_r, xq_v, xc_0, xc_1, xt_0, xt_1, xr_0, xr_1, xr_2, xe_0, xe_1, ob_0, ob_18, ob_36, ob_54, ak_55, ln_55, cq_55, ak_56, ln_56, cq_56, ob_57, ak_58, ln_58, cq_58, ak_59, ln_59, cq_59, ob_60, ak_61, ln_61, cq_61, ak_62, ln_62, cq_62, ob_63, ak_64, ln_64, cq_64, ak_65, ln_65, cq_65, ak_66, ln_66, cq_66, ak_67, ln_67, cq_67, ak_68, ln_68, cq_68, ak_69, ln_69, cq_69, ak_70, ln_70, cq_70, ak_71, ln_71, cq_71, ak_72, ln_72, cq_72, ak_73, ln_73, cq_73, pt_54_0, pt_54_1, pt_57_0, pt_57_3, pt_60_0, pt_60_1, pt_60_2, pt_60_4, pt_60_5, pt_60_6, pt_60_8, pt_63_0, pt_63_1, pt_63_2, pt_63_3, pt_63_4, pt_63_6, pt_63_7, pt_63_10, pt_63_11, pt_63_17, true_and, and_true, List.length_cons, List.length_nil, Nat.reduceAdd, Nat.reduceLeDiff, forall_eq, ne_eq, Nat.reduceEqDiff, not_false_eq_true, or_false, false_or, or_true, true_or, reduceCtorEq, Nat.zero_le, Nat.reduceMul, Nat.add_zero, false_and, and_false, false_implies, true_implies, forall_const, implies_true, List.append_nil, List.nil_append, List.cons_append, mb_i, mb_ii, mb_iii, mb_r, mb_ri, mb_rii, mb_riii, mb_rr, mb_rri, mb_rrii, mb_rriii, mb_riiiii, mb_rrr, mb_rir, mb_iiii, mb_riiii, tn_0, tn_1, tn_2, tn_3, tn_4, tn_5, tn_6, tc_0, tc_1, tc_2, tc_3, tc_4, tc_5, tc_6, xf_0, xf_1, xf_2, Sum.inl.injEq, Sum.inr.injEq, C_M_depthOf2, C_M_fallAsleep, C_M_firstToRing, C_M_gap, C_M_live, C_M_ring, C_M_wakes0, p0, p1, p2, k1, k2, l1, l2, q1, q2, o0, nI_1])
      exact ⟨fun _ => h171, fun z => absurd z h1⟩
    | succ n ih =>
      intro cnt M1 L5 L6 L7 L8 hn hF he hS
      have h1 : nI cnt < 1200 := by
        rw [ti_lt, ti_nI (by omega)]
        show (cnt : Int) < 1200
        omega
      have hf3 := s_f3_lt (M1 55)
      have ef : (nI (s_f3 (M1 55))).toNatClampNeg = s_f3 (M1 55) := tn_nI (by omega)
      have hx : vp_in (nI (s_f3 (M1 55))) 4 := vi_l (by omega) (by omega)
      have hbr : ∀ M2 : mj_M, (∀ k, k ≠ 54 → k ≠ 55 → k ≠ 56 → M2 k = M k) → rv M2 b = rv M b ∧ M2 b = M b := fun M2 h2 => ⟨rv_e fun k hk => h2 k (by omega) (by omega) (by omega), h2 b (by omega) (by omega) (by omega)⟩
      by_cases h300 : M1 54 3 = 300
      · obtain ⟨-, hJ, hmo⟩ := hS.resolve_right (fun w => w.1 h300)
        by_cases hm : M1 55 (s_f3 (M1 55)) < 300
        · have hfq : fq (M1 55) (s_f3 (M1 55)) = (nI (s_f3 (M1 55)), M1 55 (s_f3 (M1 55))) := if_pos hm
          obtain ⟨j1, j2, j3⟩ := hJ.2.2 _ hf3
          have hm3 : (M1 55 (s_f3 (M1 55))).toInt < 300 := by
            have := hm
            rw [ti_lt] at this
            exact this
          have hcn := j3 hm3
          rw [rv_1] at hcn
          have hm0 : 0 ≤ (M1 55 (s_f3 (M1 55))).toInt := j1.1
          have hm300 : bd (M1 55 (s_f3 (M1 55))) 0 300 := ⟨hm0, by omega⟩
          have ec : ∀ w, w < 5 → rv M b (23 + 5 * s_f3 (M1 55) + w) = M (b + 8 + s_f3 (M1 55)) w := fun w hw => rv_c hf3 hw hcn
          have e8 : ∀ M2 : mj_M, (∀ k, k ≠ 54 → k ≠ 55 → k ≠ 56 → M2 k = M k) → M2 (b + 8 + s_f3 (M1 55)) = M (b + 8 + s_f3 (M1 55)) := fun M2 h2 => h2 _ (by omega) (by omega) (by omega)
          have hcl := hd.2.2.2.2.2.2.2.2.1 (s_f3 (M1 55)) hcn
          rw [ec 3 (by omega)] at hcl
          have o8 := o2 _ hf3
          have etn : tn (nI (s_f3 (M1 55))) = s_f3 (M1 55) := ef
          rw [s_mo, if_pos hm] at hmo
          unfold s_W at hmo
          rw [etn, show 23 + 5 * s_f3 (M1 55) = 23 + 5 * s_f3 (M1 55) + 0 from rfl] at hmo
          rw [ec 0 (by omega), ec 3 (by omega), ec 4 (by omega)] at hmo
          have h148 : ∀ M2 : mj_M, (∀ k, k ≠ 54 → k ≠ 55 → k ≠ 56 → M2 k = M k) → M2 54 2 = M1 54 2 → M2 55 = M1 55 → ((M2 54 3 = 300 ∧ (∀ c, c < 4 → M2 56 c = M1 56 c ∨ M2 56 c = M1 56 c + 1) ∧ s_mo (rv M b) i ls (n + 1) (upd (M1 55) (s_f3 (M1 55)) ((M1 55 (s_f3 (M1 55))) + s_lt (M (b + 8 + (s_f3 (M1 55))) 0) (M (b + 8 + (s_f3 (M1 55))) 3) (M1 56 (s_f3 (M1 55))))) (M2 56) (M2 54 4) (M2 54 5) (M2 54 6) = s_M (rv M b) i (-9) ls 0) ∨ (¬ M2 54 3 = 300 ∧ (M2 54 3, M2 54 4, M2 54 5, M2 54 6) = s_M (rv M b) i (-9) ls 0)) → V 148 [some (.inr 54), some (.inr b), some (.inl i), some (.inl ls), some (.inl (nI cnt)), some (.inl (nI (s_f3 (M1 55)))), some (.inl (M1 55 (s_f3 (M1 55)))), some (.inr (b + 8 + s_f3 (M1 55))), some (.inl (M1 56 (s_f3 (M1 55))))] [] M2 := by
            intro M2 g1 g2 g3 g4
            (refine b_148 _ _ _ ?_; simp only [k_X1_live_0, k_X1_live_12, k_X1_live_13, k_X1_live_22, k_X1_live_57, k_X1_live_58, k_X1_live_108, k_X1_live_148, k_X1_live_171, xp_1, xp_2, xp_3, xp_4, xp_5, xp_6, xp_7, xp_10, xp_11, xp_12, xp_13, xp_14, xp_15, xp_16, xp_17, xp_18, xp_19, xp_20, xp_21, xp_22, xp_23, xp_30, xp_31, xp_32, xp_33, xp_34, xp_35, xp_36, xp_37, xp_38, xp_39, xp_40, xp_41, xp_42, xp_43, xp_50, xp_51, xp_52, xp_53, xp_60, xp_61, xp_62, xp_63, xp_64, xp_65, xp_70, xp_80, xp_81, xp_82, up_ne, up_s, ud_s, ud_o, xw_0, xw_1, xg_0, xg_1, xl_i, xl_r, xs_0, xs_1, xq_i, xq_r, xq_v, xc_0, xc_1, xt_0, xt_1, xr_0, xr_1, xr_2, xe_0, xe_1, ob_0, ob_18, ob_36, ob_54, ak_55, ln_55, cq_55, ak_56, ln_56, cq_56, ob_57, ak_58, ln_58, cq_58, ak_59, ln_59, cq_59, ob_60, ak_61, ln_61, cq_61, ak_62, ln_62, cq_62, ob_63, ak_64, ln_64, cq_64, ak_65, ln_65, cq_65, ak_66, ln_66, cq_66, ak_67, ln_67, cq_67, ak_68, ln_68, cq_68, ak_69, ln_69, cq_69, ak_70, ln_70, cq_70, ak_71, ln_71, cq_71, ak_72, ln_72, cq_72, ak_73, ln_73, cq_73, pt_54_0, pt_54_1, pt_57_0, pt_57_3, pt_60_0, pt_60_1, pt_60_2, pt_60_4, pt_60_5, pt_60_6, pt_60_8, pt_63_0, pt_63_1, pt_63_2, pt_63_3, pt_63_4, pt_63_6, pt_63_7, pt_63_10, pt_63_11, pt_63_17, true_and, and_true, List.length_cons, List.length_nil, Nat.reduceAdd, Nat.reduceLeDiff, forall_eq, ne_eq, Nat.reduceEqDiff, not_false_eq_true, or_false, false_or, or_true, true_or, reduceCtorEq, Nat.zero_le, Nat.reduceMul, Nat.add_zero, false_and, and_false, false_implies, true_implies, forall_const, implies_true, List.append_nil, List.nil_append, List.cons_append, mb_i, mb_ii, mb_iii, mb_r, mb_ri, mb_rii, mb_riii, mb_rr, mb_rri, mb_rrii, mb_rriii, mb_riiiii, mb_rrr, mb_rir, mb_iiii, mb_riiii, tn_0, tn_1, tn_2, tn_3, tn_4, tn_5, tn_6, tc_0, tc_1, tc_2, tc_3, tc_4, tc_5, tc_6, xf_0, xf_1, xf_2, Sum.inl.injEq, Sum.inr.injEq, C_M_depthOf2, C_M_fallAsleep, C_M_firstToRing, C_M_gap, C_M_live, C_M_ring, C_M_wakes0, p0, p1, p2, k1, k2, l1, l2, q1, q2, o0, nI_1])
            rw [ef, e8 M2 g1]
            refine ⟨⟨o8, hcl.2.2.2.2.1, ⟨j2.1, by have := j2.2; omega⟩⟩, hx, ih (cnt + 1) _ _ _ _ _ (by omega) (fun k a1 a2 a3 => by rw [up_ne a2]; exact g1 k a1 a2 a3) (by rw [up_ne (by decide), g2]; exact he) ?_⟩
            rw [up_ne (show (54 : Nat) ≠ 55 by decide), up_ne (show (56 : Nat) ≠ 55 by decide), up_s, g3]
            rcases g4 with ⟨w1, w2, w3⟩ | w
            · have hst := s_J_step hd hJ hm (p' := M2 56) w2
              have hst1 := hst.1
              rw [show 23 + 5 * (s_f3 (M1 55)) = 23 + 5 * (s_f3 (M1 55)) + 0 from rfl, ec 0 (by omega), ec 3 (by omega)] at hst1
              exact Or.inl ⟨w1, hst1, w3⟩
            · exact Or.inr w
          have key : (0 < M1 54 2 - (M1 55 (s_f3 (M1 55))) + s_D (rv M b) i (M1 55 (s_f3 (M1 55)))) ↔ (rv M b 4 < s_sp (rv M b) (M1 55 (s_f3 (M1 55))) + s_D (rv M b) i (M1 55 (s_f3 (M1 55))) + rv M b (7 + 4 * tn i + 3)) := by
            have hn5 : tn (M b 5) ≤ 6 := by
              have t5 := tn_of hd.2.2.1.1
              have := hd.2.2.1.2
              rw [rv_2] at t5 this
              omega
            have hD := D_bd hd (i := i) (m := (M1 55 (s_f3 (M1 55)))) (by rw [rv_0]; omega) hm300
            have htl := tl_bd hd (n := tn (M b 5)) (Nat.le_refl _) hn5
            have hsl := (hd.2.2.2.2.2.2.2.1 (tn i) (by rw [rv_0]; omega)).2.2.2
            have hbus := hd.2.2.2.1
            have hfirm := hd.2.2.2.2.1
            rw [he, sb_63 _ hn5]
            unfold s_sp
            rw [rv_2]
            generalize s_D (rv M b) i (M1 55 (s_f3 (M1 55))) = D at *
            generalize s_tl (rv M b) (tn (M b 5)) = T at *
            generalize rv M b (7 + 4 * tn i + 3) = L at *
            generalize rv M b 3 = B at *
            generalize rv M b 4 = R at *
            generalize (M1 55 (s_f3 (M1 55))) = m at *
            obtain ⟨x1, x2⟩ := hD
            obtain ⟨x3, x4⟩ := htl
            obtain ⟨x5, x6⟩ := hsl
            obtain ⟨x7, x8⟩ := hbus
            obtain ⟨x9, x10⟩ := hfirm
            obtain ⟨x11, x12⟩ := hm300
            have e1 : (B - T).toInt = B.toInt - T.toInt := ti_sub (by omega) (by omega)
            have e2 : (B - T + L).toInt = B.toInt - T.toInt + L.toInt := by rw [ti_add (by omega) (by omega), e1]
            have e3 : (B - T + L - R).toInt = B.toInt - T.toInt + L.toInt - R.toInt := by rw [ti_sub (by omega) (by omega), e2]
            have e4 : (B - T + L - R - m).toInt = B.toInt - T.toInt + L.toInt - R.toInt - m.toInt := by rw [ti_sub (by omega) (by omega), e3]
            have e5 : (B - T + L - R - m + D).toInt = B.toInt - T.toInt + L.toInt - R.toInt - m.toInt + D.toInt := by rw [ti_add (by omega) (by omega), e4]
            have f1 : (B - m).toInt = B.toInt - m.toInt := ti_sub (by omega) (by omega)
            have f2 : (B - m - T).toInt = B.toInt - m.toInt - T.toInt := by rw [ti_sub (by omega) (by omega), f1]
            have f3 : (B - m - T + D).toInt = B.toInt - m.toInt - T.toInt + D.toInt := by rw [ti_add (by omega) (by omega), f2]
            have f4 : (B - m - T + D + L).toInt = B.toInt - m.toInt - T.toInt + D.toInt + L.toInt := by rw [ti_add (by omega) (by omega), f3]
            rw [ti_lt, ti_lt, e5, f4]
            show (0 : Int) < _ ↔ _
            omega
          have h108 : ∀ M2 : mj_M, (∀ k, k ≠ 54 → k ≠ 55 → k ≠ 56 → M2 k = M k) → M2 54 2 = M1 54 2 → M2 55 = M1 55 → M2 56 = M1 56 → M2 54 3 = 300 → M2 54 4 = M1 54 4 → M2 54 5 = M1 54 5 → M2 54 6 = M1 54 6 + (if ls < 0 then 0 else s_wk (M (b + 8 + (s_f3 (M1 55))) 0) (M (b + 8 + (s_f3 (M1 55))) 4) (M1 55 (s_f3 (M1 55))) (s_D (rv M b) ls (M1 55 (s_f3 (M1 55))))) → V 108 [some (.inr 54), some (.inr b), some (.inl i), some (.inl ls), some (.inl (nI cnt)), some (.inl (nI (s_f3 (M1 55)))), some (.inl (M1 55 (s_f3 (M1 55)))), some (.inr (b + 8 + s_f3 (M1 55))), L8] [] M2 := by
            intro M2 g1 g2 g55 g56 g3 g4 g5 g6
            rw [← g6, ← g4, ← g5] at hmo
            (refine b_108 _ _ _ ?_; simp only [k_X1_live_0, k_X1_live_12, k_X1_live_13, k_X1_live_22, k_X1_live_57, k_X1_live_58, k_X1_live_108, k_X1_live_148, k_X1_live_171, xp_1, xp_2, xp_3, xp_4, xp_5, xp_6, xp_7, xp_10, xp_11, xp_12, xp_13, xp_14, xp_15, xp_16, xp_17, xp_18, xp_19, xp_20, xp_21, xp_22, xp_23, xp_30, xp_31, xp_32, xp_33, xp_34, xp_35, xp_36, xp_37, xp_38, xp_39, xp_40, xp_41, xp_42, xp_43, xp_50, xp_51, xp_52, xp_53, xp_60, xp_61, xp_62, xp_63, xp_64, xp_65, xp_70, xp_80, xp_81, xp_82, up_ne, up_s, ud_s, ud_o, xw_0, xw_1, xg_0, xg_1, xl_i, xl_r, xs_0, xs_1, xq_i, xq_r, xq_v, xc_0, xc_1, xt_0, xt_1, xr_0, xr_1, xr_2, xe_0, xe_1, ob_0, ob_18, ob_36, ob_54, ak_55, ln_55, cq_55, ak_56, ln_56, cq_56, ob_57, ak_58, ln_58, cq_58, ak_59, ln_59, cq_59, ob_60, ak_61, ln_61, cq_61, ak_62, ln_62, cq_62, ob_63, ak_64, ln_64, cq_64, ak_65, ln_65, cq_65, ak_66, ln_66, cq_66, ak_67, ln_67, cq_67, ak_68, ln_68, cq_68, ak_69, ln_69, cq_69, ak_70, ln_70, cq_70, ak_71, ln_71, cq_71, ak_72, ln_72, cq_72, ak_73, ln_73, cq_73, pt_54_0, pt_54_1, pt_57_0, pt_57_3, pt_60_0, pt_60_1, pt_60_2, pt_60_4, pt_60_5, pt_60_6, pt_60_8, pt_63_0, pt_63_1, pt_63_2, pt_63_3, pt_63_4, pt_63_6, pt_63_7, pt_63_10, pt_63_11, pt_63_17, true_and, and_true, List.length_cons, List.length_nil, Nat.reduceAdd, Nat.reduceLeDiff, forall_eq, ne_eq, Nat.reduceEqDiff, not_false_eq_true, or_false, false_or, or_true, true_or, reduceCtorEq, Nat.zero_le, Nat.reduceMul, Nat.add_zero, false_and, and_false, false_implies, true_implies, forall_const, implies_true, List.append_nil, List.nil_append, List.cons_append, mb_i, mb_ii, mb_iii, mb_r, mb_ri, mb_rii, mb_riii, mb_rr, mb_rri, mb_rrii, mb_rriii, mb_riiiii, mb_rrr, mb_rir, mb_iiii, mb_riiii, tn_0, tn_1, tn_2, tn_3, tn_4, tn_5, tn_6, tc_0, tc_1, tc_2, tc_3, tc_4, tc_5, tc_6, xf_0, xf_1, xf_2, Sum.inl.injEq, Sum.inr.injEq, C_M_depthOf2, C_M_fallAsleep, C_M_firstToRing, C_M_gap, C_M_live, C_M_ring, C_M_wakes0, p0, p1, p2, k1, k2, l1, l2, q1, q2, o0, nI_1])
            rw [ef, e8 M2 g1, (hbr M2 g1).1, (hbr M2 g1).2, g2]
            simp only [g56]
            refine ⟨hx, ⟨hb, hd, hi, hin, hm0⟩, ⟨o8, by omega⟩, ?_⟩
            have u0 : ∀ (M3 : mj_M) (j : Nat) (x : Int32), (∀ k, k ≠ 54 → k ≠ 55 → k ≠ 56 → M3 k = M k) → ∀ k, k ≠ 54 → k ≠ 55 → k ≠ 56 → mj_up M3 54 j x k = M k := fun M3 j x h3 k a1 a2 a3 => by rw [up_ne a1]; exact h3 k a1 a2 a3
            by_cases hw : s_wk (M (b + 8 + (s_f3 (M1 55))) 0) (M (b + 8 + (s_f3 (M1 55))) 4) (M1 55 (s_f3 (M1 55))) (s_D (rv M b) i (M1 55 (s_f3 (M1 55)))) = 0
            · rw [if_pos hw, if_pos hw]
              rw [if_pos hw] at hmo
              refine ⟨fun _ => h148 _ (u0 _ _ _ g1) ?_ ?_ (Or.inl ⟨?_, ?_, ?_⟩), fun h => absurd rfl h⟩
              · rw [up_s, ud_o (by decide)]; exact g2
              · rw [up_ne (by decide)]; exact g55
              · rw [up_s, ud_o (by decide)]; exact g3
              · intro c _
                rw [up_ne (by decide), g56]
                exact Or.inl rfl
              · rw [up_ne (by decide), g56, up_s, ud_o (by decide), ud_s, ud_o (by decide)]
                exact hmo
            · rw [if_neg hw, if_neg hw]
              rw [if_neg hw] at hmo
              have g56F : M2 56 (s_f3 (M1 55)) = M1 56 (s_f3 (M1 55)) := by rw [g56]
              have stop : ((M1 55 (s_f3 (M1 55))), M2 54 4, M2 54 5, M2 54 6) = s_M (rv M b) i (-9) ls 0 → V 148 [some (.inr 54), some (.inr b), some (.inl i), some (.inl ls), some (.inl (nI cnt)), some (.inl (nI (s_f3 (M1 55)))), some (.inl (M1 55 (s_f3 (M1 55)))), some (.inr (b + 8 + s_f3 (M1 55))), some (.inl (M1 56 (s_f3 (M1 55))))] [] (mj_up M2 54 3 (M1 55 (s_f3 (M1 55)))) := by
                intro hq
                refine h148 _ (u0 _ _ _ g1) ?_ ?_ (Or.inr ⟨?_, ?_⟩)
                · rw [up_s, ud_o (by decide)]; exact g2
                · rw [up_ne (by decide)]; exact g55
                · rw [up_s, ud_s]
                  intro z
                  rw [z] at hm
                  exact absurd hm (by decide)
                · rw [up_s, ud_s, ud_o (by decide), ud_o (by decide), ud_o (by decide)]
                  exact hq
              by_cases hp : s_mp (M (b + 8 + (s_f3 (M1 55))) 0) (M1 56 (s_f3 (M1 55))) = 0
              · rw [if_pos hp, if_pos hp]
                rw [if_pos hp] at hmo
                exact ⟨fun _ => stop hmo, fun h => absurd rfl h⟩
              · rw [if_neg hp, if_neg hp]
                rw [if_neg hp] at hmo
                by_cases hk : 0 < M1 54 2 - (M1 55 (s_f3 (M1 55))) + s_D (rv M b) i (M1 55 (s_f3 (M1 55)))
                · rw [if_pos hk, if_pos hk]
                  rw [if_pos (key.mp hk)] at hmo
                  refine ⟨fun h => absurd h (by decide), fun _ => ⟨hx, ?_⟩⟩
                  rw [up_ne (show (56 : Nat) ≠ 54 by decide), g56F]
                  refine ⟨hx, h148 _ ?_ ?_ ?_ (Or.inl ⟨?_, ?_, ?_⟩)⟩
                  · intro k a1 a2 a3
                    rw [up_ne a3, up_ne a1]
                    exact g1 k a1 a2 a3
                  · rw [up_ne (by decide), up_s, ud_o (by decide)]; exact g2
                  · rw [up_ne (by decide), up_ne (by decide)]; exact g55
                  · rw [up_ne (by decide), up_s, ud_o (by decide)]; exact g3
                  · intro c _
                    rw [up_s, up_ne (show (56 : Nat) ≠ 54 by decide), g56]
                    by_cases e : c = (s_f3 (M1 55))
                    · rw [e, ud_s]; exact Or.inr rfl
                    · rw [ud_o e]; exact Or.inl rfl
                  · rw [up_s, up_ne (show (56 : Nat) ≠ 54 by decide), g56, up_ne (show (54 : Nat) ≠ 56 by decide), up_s, ud_s, ud_o (by decide), ud_o (by decide)]
                    exact hmo
                · rw [if_neg hk, if_neg hk]
                  rw [if_neg (fun z => hk (key.mpr z))] at hmo
                  exact ⟨fun _ => stop hmo, fun h => absurd rfl h⟩
          have wk01 : ∀ k l x d, s_wk k l x d = 0 ∨ s_wk k l x d = 1 := fun k l x d => by
            show (if _ then (0 : Int32) else 1) = 0 ∨ (if _ then (0 : Int32) else 1) = 1
            by_cases h : l + (if k = 2 then 8 else if k = 3 then x / 10 else 0) < d
            · exact Or.inl (if_pos h)
            · exact Or.inr (if_neg h)
          have h58 : V 58 [some (.inr 54), some (.inr b), some (.inl i), some (.inl ls), some (.inl (nI cnt)), some (.inl (nI (s_f3 (M1 55)))), L6, L7, L8] [] M1 := by
            (refine b_58 _ _ _ ?_; simp only [k_X1_live_0, k_X1_live_12, k_X1_live_13, k_X1_live_22, k_X1_live_57, k_X1_live_58, k_X1_live_108, k_X1_live_148, k_X1_live_171, xp_1, xp_2, xp_3, xp_4, xp_5, xp_6, xp_7, xp_10, xp_11, xp_12, xp_13, xp_14, xp_15, xp_16, xp_17, xp_18, xp_19, xp_20, xp_21, xp_22, xp_23, xp_30, xp_31, xp_32, xp_33, xp_34, xp_35, xp_36, xp_37, xp_38, xp_39, xp_40, xp_41, xp_42, xp_43, xp_50, xp_51, xp_52, xp_53, xp_60, xp_61, xp_62, xp_63, xp_64, xp_65, xp_70, xp_80, xp_81, xp_82, up_ne, up_s, ud_s, ud_o, xw_0, xw_1, xg_0, xg_1, xl_i, xl_r, xs_0, xs_1, xq_i, xq_r, xq_v, xc_0, xc_1, xt_0, xt_1, xr_0, xr_1, xr_2, xe_0, xe_1, ob_0, ob_18, ob_36, ob_54, ak_55, ln_55, cq_55, ak_56, ln_56, cq_56, ob_57, ak_58, ln_58, cq_58, ak_59, ln_59, cq_59, ob_60, ak_61, ln_61, cq_61, ak_62, ln_62, cq_62, ob_63, ak_64, ln_64, cq_64, ak_65, ln_65, cq_65, ak_66, ln_66, cq_66, ak_67, ln_67, cq_67, ak_68, ln_68, cq_68, ak_69, ln_69, cq_69, ak_70, ln_70, cq_70, ak_71, ln_71, cq_71, ak_72, ln_72, cq_72, ak_73, ln_73, cq_73, pt_54_0, pt_54_1, pt_57_0, pt_57_3, pt_60_0, pt_60_1, pt_60_2, pt_60_4, pt_60_5, pt_60_6, pt_60_8, pt_63_0, pt_63_1, pt_63_2, pt_63_3, pt_63_4, pt_63_6, pt_63_7, pt_63_10, pt_63_11, pt_63_17, true_and, and_true, List.length_cons, List.length_nil, Nat.reduceAdd, Nat.reduceLeDiff, forall_eq, ne_eq, Nat.reduceEqDiff, not_false_eq_true, or_false, false_or, or_true, true_or, reduceCtorEq, Nat.zero_le, Nat.reduceMul, Nat.add_zero, false_and, and_false, false_implies, true_implies, forall_const, implies_true, List.append_nil, List.nil_append, List.cons_append, mb_i, mb_ii, mb_iii, mb_r, mb_ri, mb_rii, mb_riii, mb_rr, mb_rri, mb_rrii, mb_rriii, mb_riiiii, mb_rrr, mb_rir, mb_iiii, mb_riiii, tn_0, tn_1, tn_2, tn_3, tn_4, tn_5, tn_6, tc_0, tc_1, tc_2, tc_3, tc_4, tc_5, tc_6, xf_0, xf_1, xf_2, Sum.inl.injEq, Sum.inr.injEq, C_M_depthOf2, C_M_fallAsleep, C_M_firstToRing, C_M_gap, C_M_live, C_M_ring, C_M_wakes0, p0, p1, p2, k1, k2, l1, l2, q1, q2, o0, nI_1])
            rw [ef, e8 M1 hF, (hbr M1 hF).1, (hbr M1 hF).2]
            refine ⟨hx, hx, fun h => h108 M1 hF rfl rfl rfl h300 rfl rfl ?_, fun h => ?_⟩
            · rw [if_pos (show ls < 0 by rw [h]; decide), Int32.add_zero]
            · obtain ⟨b1, b2⟩ := hls.resolve_left h
              have hn0 : ¬ ls < 0 := fun z => by
                rw [ti_lt] at z
                exact absurd b1.1 (Int.not_le.mpr z)
              refine ⟨⟨hb, hd, b1, b2, hm0⟩, o8, fun hz => h108 M1 hF rfl rfl rfl h300 rfl rfl ?_, fun hz => h108 _ ?_ ?_ ?_ ?_ ?_ ?_ ?_ ?_⟩
              · rw [if_neg hn0, hz, Int32.add_zero]
              · intro k a1 a2 a3
                rw [up_ne a1]
                exact hF k a1 a2 a3
              · rw [up_s, ud_o (by decide)]
              · rw [up_ne (by decide)]
              · rw [up_ne (by decide)]
              · rw [up_s, ud_o (by decide)]; exact h300
              · rw [up_s, ud_o (by decide)]
              · rw [up_s, ud_o (by decide)]
              · rw [up_s, ud_s, if_neg hn0, (wk01 _ _ _ _).resolve_left hz]
          have c0 : ¬ nI (s_f3 (M1 55)) < 0 := fun z => by
            rw [ti_lt, ti_nI (by omega), show (0 : Int32).toInt = 0 from rfl] at z
            omega
          have c4 : nI (s_f3 (M1 55)) < 4 := by
            rw [ti_lt, ti_nI (by omega), show (4 : Int32).toInt = 4 from rfl]
            omega
          (refine b_22 _ _ _ ?_; simp only [k_X1_live_0, k_X1_live_12, k_X1_live_13, k_X1_live_22, k_X1_live_57, k_X1_live_58, k_X1_live_108, k_X1_live_148, k_X1_live_171, xp_1, xp_2, xp_3, xp_4, xp_5, xp_6, xp_7, xp_10, xp_11, xp_12, xp_13, xp_14, xp_15, xp_16, xp_17, xp_18, xp_19, xp_20, xp_21, xp_22, xp_23, xp_30, xp_31, xp_32, xp_33, xp_34, xp_35, xp_36, xp_37, xp_38, xp_39, xp_40, xp_41, xp_42, xp_43, xp_50, xp_51, xp_52, xp_53, xp_60, xp_61, xp_62, xp_63, xp_64, xp_65, xp_70, xp_80, xp_81, xp_82, up_ne, up_s, ud_s, ud_o, xw_0, xw_1, xg_0, xg_1, xl_i, xl_r, xs_0, xs_1, xq_i, xq_r, xq_v, xc_0, xc_1, xt_0, xt_1, xr_0, xr_1, xr_2, xe_0, xe_1, ob_0, ob_18, ob_36, ob_54, ak_55, ln_55, cq_55, ak_56, ln_56, cq_56, ob_57, ak_58, ln_58, cq_58, ak_59, ln_59, cq_59, ob_60, ak_61, ln_61, cq_61, ak_62, ln_62, cq_62, ob_63, ak_64, ln_64, cq_64, ak_65, ln_65, cq_65, ak_66, ln_66, cq_66, ak_67, ln_67, cq_67, ak_68, ln_68, cq_68, ak_69, ln_69, cq_69, ak_70, ln_70, cq_70, ak_71, ln_71, cq_71, ak_72, ln_72, cq_72, ak_73, ln_73, cq_73, pt_54_0, pt_54_1, pt_57_0, pt_57_3, pt_60_0, pt_60_1, pt_60_2, pt_60_4, pt_60_5, pt_60_6, pt_60_8, pt_63_0, pt_63_1, pt_63_2, pt_63_3, pt_63_4, pt_63_6, pt_63_7, pt_63_10, pt_63_11, pt_63_17, true_and, and_true, List.length_cons, List.length_nil, Nat.reduceAdd, Nat.reduceLeDiff, forall_eq, ne_eq, Nat.reduceEqDiff, not_false_eq_true, or_false, false_or, or_true, true_or, reduceCtorEq, Nat.zero_le, Nat.reduceMul, Nat.add_zero, false_and, and_false, false_implies, true_implies, forall_const, implies_true, List.append_nil, List.nil_append, List.cons_append, mb_i, mb_ii, mb_iii, mb_r, mb_ri, mb_rii, mb_riii, mb_rr, mb_rri, mb_rrii, mb_rriii, mb_riiiii, mb_rrr, mb_rir, mb_iiii, mb_riiii, tn_0, tn_1, tn_2, tn_3, tn_4, tn_5, tn_6, tc_0, tc_1, tc_2, tc_3, tc_4, tc_5, tc_6, xf_0, xf_1, xf_2, Sum.inl.injEq, Sum.inr.injEq, C_M_depthOf2, C_M_fallAsleep, C_M_firstToRing, C_M_gap, C_M_live, C_M_ring, C_M_wakes0, p0, p1, p2, k1, k2, l1, l2, q1, q2, o0, nI_1])
          rw [hfq]
          exact ⟨fun z => absurd h1 z, fun _ => ⟨fun z => absurd h300 z, fun _ => ⟨fun z => absurd z c0, fun _ => ⟨fun _ => h58, fun z => absurd c4 z⟩⟩⟩⟩
        · have hfq : fq (M1 55) (s_f3 (M1 55)) = (-1, 300) := if_neg hm
          (refine b_22 _ _ _ ?_; simp only [k_X1_live_0, k_X1_live_12, k_X1_live_13, k_X1_live_22, k_X1_live_57, k_X1_live_58, k_X1_live_108, k_X1_live_148, k_X1_live_171, xp_1, xp_2, xp_3, xp_4, xp_5, xp_6, xp_7, xp_10, xp_11, xp_12, xp_13, xp_14, xp_15, xp_16, xp_17, xp_18, xp_19, xp_20, xp_21, xp_22, xp_23, xp_30, xp_31, xp_32, xp_33, xp_34, xp_35, xp_36, xp_37, xp_38, xp_39, xp_40, xp_41, xp_42, xp_43, xp_50, xp_51, xp_52, xp_53, xp_60, xp_61, xp_62, xp_63, xp_64, xp_65, xp_70, xp_80, xp_81, xp_82, up_ne, up_s, ud_s, ud_o, xw_0, xw_1, xg_0, xg_1, xl_i, xl_r, xs_0, xs_1, xq_i, xq_r, xq_v, xc_0, xc_1, xt_0, xt_1, xr_0, xr_1, xr_2, xe_0, xe_1, ob_0, ob_18, ob_36, ob_54, ak_55, ln_55, cq_55, ak_56, ln_56, cq_56, ob_57, ak_58, ln_58, cq_58, ak_59, ln_59, cq_59, ob_60, ak_61, ln_61, cq_61, ak_62, ln_62, cq_62, ob_63, ak_64, ln_64, cq_64, ak_65, ln_65, cq_65, ak_66, ln_66, cq_66, ak_67, ln_67, cq_67, ak_68, ln_68, cq_68, ak_69, ln_69, cq_69, ak_70, ln_70, cq_70, ak_71, ln_71, cq_71, ak_72, ln_72, cq_72, ak_73, ln_73, cq_73, pt_54_0, pt_54_1, pt_57_0, pt_57_3, pt_60_0, pt_60_1, pt_60_2, pt_60_4, pt_60_5, pt_60_6, pt_60_8, pt_63_0, pt_63_1, pt_63_2, pt_63_3, pt_63_4, pt_63_6, pt_63_7, pt_63_10, pt_63_11, pt_63_17, true_and, and_true, List.length_cons, List.length_nil, Nat.reduceAdd, Nat.reduceLeDiff, forall_eq, ne_eq, Nat.reduceEqDiff, not_false_eq_true, or_false, false_or, or_true, true_or, reduceCtorEq, Nat.zero_le, Nat.reduceMul, Nat.add_zero, false_and, and_false, false_implies, true_implies, forall_const, implies_true, List.append_nil, List.nil_append, List.cons_append, mb_i, mb_ii, mb_iii, mb_r, mb_ri, mb_rii, mb_riii, mb_rr, mb_rri, mb_rrii, mb_rriii, mb_riiiii, mb_rrr, mb_rir, mb_iiii, mb_riiii, tn_0, tn_1, tn_2, tn_3, tn_4, tn_5, tn_6, tc_0, tc_1, tc_2, tc_3, tc_4, tc_5, tc_6, xf_0, xf_1, xf_2, Sum.inl.injEq, Sum.inr.injEq, C_M_depthOf2, C_M_fallAsleep, C_M_firstToRing, C_M_gap, C_M_live, C_M_ring, C_M_wakes0, p0, p1, p2, k1, k2, l1, l2, q1, q2, o0, nI_1])
          rw [hfq]
          refine ⟨fun z => absurd h1 z, fun _ => ⟨fun z => absurd h300 z, fun _ => ⟨fun _ => ?_, fun z => absurd (show (-1 : Int32) < 0 by decide) z⟩⟩⟩
          (refine b_57 _ _ _ ?_; simp only [k_X1_live_0, k_X1_live_12, k_X1_live_13, k_X1_live_22, k_X1_live_57, k_X1_live_58, k_X1_live_108, k_X1_live_148, k_X1_live_171, xp_1, xp_2, xp_3, xp_4, xp_5, xp_6, xp_7, xp_10, xp_11, xp_12, xp_13, xp_14, xp_15, xp_16, xp_17, xp_18, xp_19, xp_20, xp_21, xp_22, xp_23, xp_30, xp_31, xp_32, xp_33, xp_34, xp_35, xp_36, xp_37, xp_38, xp_39, xp_40, xp_41, xp_42, xp_43, xp_50, xp_51, xp_52, xp_53, xp_60, xp_61, xp_62, xp_63, xp_64, xp_65, xp_70, xp_80, xp_81, xp_82, up_ne, up_s, ud_s, ud_o, xw_0, xw_1, xg_0, xg_1, xl_i, xl_r, xs_0, xs_1, xq_i, xq_r, xq_v, xc_0, xc_1, xt_0, xt_1, xr_0, xr_1, xr_2, xe_0, xe_1, ob_0, ob_18, ob_36, ob_54, ak_55, ln_55, cq_55, ak_56, ln_56, cq_56, ob_57, ak_58, ln_58, cq_58, ak_59, ln_59, cq_59, ob_60, ak_61, ln_61, cq_61, ak_62, ln_62, cq_62, ob_63, ak_64, ln_64, cq_64, ak_65, ln_65, cq_65, ak_66, ln_66, cq_66, ak_67, ln_67, cq_67, ak_68, ln_68, cq_68, ak_69, ln_69, cq_69, ak_70, ln_70, cq_70, ak_71, ln_71, cq_71, ak_72, ln_72, cq_72, ak_73, ln_73, cq_73, pt_54_0, pt_54_1, pt_57_0, pt_57_3, pt_60_0, pt_60_1, pt_60_2, pt_60_4, pt_60_5, pt_60_6, pt_60_8, pt_63_0, pt_63_1, pt_63_2, pt_63_3, pt_63_4, pt_63_6, pt_63_7, pt_63_10, pt_63_11, pt_63_17, true_and, and_true, List.length_cons, List.length_nil, Nat.reduceAdd, Nat.reduceLeDiff, forall_eq, ne_eq, Nat.reduceEqDiff, not_false_eq_true, or_false, false_or, or_true, true_or, reduceCtorEq, Nat.zero_le, Nat.reduceMul, Nat.add_zero, false_and, and_false, false_implies, true_implies, forall_const, implies_true, List.append_nil, List.nil_append, List.cons_append, mb_i, mb_ii, mb_iii, mb_r, mb_ri, mb_rii, mb_riii, mb_rr, mb_rri, mb_rrii, mb_rriii, mb_riiiii, mb_rrr, mb_rir, mb_iiii, mb_riiii, tn_0, tn_1, tn_2, tn_3, tn_4, tn_5, tn_6, tc_0, tc_1, tc_2, tc_3, tc_4, tc_5, tc_6, xf_0, xf_1, xf_2, Sum.inl.injEq, Sum.inr.injEq, C_M_depthOf2, C_M_fallAsleep, C_M_firstToRing, C_M_gap, C_M_live, C_M_ring, C_M_wakes0, p0, p1, p2, k1, k2, l1, l2, q1, q2, o0, nI_1])
          exact hend _ M1 hF (Or.inl ⟨h300, hm, hmo⟩)
      · have h171 : V 171 [some (.inr 54), some (.inr b), some (.inl i), some (.inl ls), some (.inl (nI cnt)), L5, L6, L7, L8] [] M1 := by
          (refine b_171 _ _ _ ?_; simp only [k_X1_live_0, k_X1_live_12, k_X1_live_13, k_X1_live_22, k_X1_live_57, k_X1_live_58, k_X1_live_108, k_X1_live_148, k_X1_live_171, xp_1, xp_2, xp_3, xp_4, xp_5, xp_6, xp_7, xp_10, xp_11, xp_12, xp_13, xp_14, xp_15, xp_16, xp_17, xp_18, xp_19, xp_20, xp_21, xp_22, xp_23, xp_30, xp_31, xp_32, xp_33, xp_34, xp_35, xp_36, xp_37, xp_38, xp_39, xp_40, xp_41, xp_42, xp_43, xp_50, xp_51, xp_52, xp_53, xp_60, xp_61, xp_62, xp_63, xp_64, xp_65, xp_70, xp_80, xp_81, xp_82, up_ne, up_s, ud_s, ud_o, xw_0, xw_1, xg_0, xg_1, xl_i, xl_r, xs_0, xs_1, xq_i, xq_r, xq_v, xc_0, xc_1, xt_0, xt_1, xr_0, xr_1, xr_2, xe_0, xe_1, ob_0, ob_18, ob_36, ob_54, ak_55, ln_55, cq_55, ak_56, ln_56, cq_56, ob_57, ak_58, ln_58, cq_58, ak_59, ln_59, cq_59, ob_60, ak_61, ln_61, cq_61, ak_62, ln_62, cq_62, ob_63, ak_64, ln_64, cq_64, ak_65, ln_65, cq_65, ak_66, ln_66, cq_66, ak_67, ln_67, cq_67, ak_68, ln_68, cq_68, ak_69, ln_69, cq_69, ak_70, ln_70, cq_70, ak_71, ln_71, cq_71, ak_72, ln_72, cq_72, ak_73, ln_73, cq_73, pt_54_0, pt_54_1, pt_57_0, pt_57_3, pt_60_0, pt_60_1, pt_60_2, pt_60_4, pt_60_5, pt_60_6, pt_60_8, pt_63_0, pt_63_1, pt_63_2, pt_63_3, pt_63_4, pt_63_6, pt_63_7, pt_63_10, pt_63_11, pt_63_17, true_and, and_true, List.length_cons, List.length_nil, Nat.reduceAdd, Nat.reduceLeDiff, forall_eq, ne_eq, Nat.reduceEqDiff, not_false_eq_true, or_false, false_or, or_true, true_or, reduceCtorEq, Nat.zero_le, Nat.reduceMul, Nat.add_zero, false_and, and_false, false_implies, true_implies, forall_const, implies_true, List.append_nil, List.nil_append, List.cons_append, mb_i, mb_ii, mb_iii, mb_r, mb_ri, mb_rii, mb_riii, mb_rr, mb_rri, mb_rrii, mb_rriii, mb_riiiii, mb_rrr, mb_rir, mb_iiii, mb_riiii, tn_0, tn_1, tn_2, tn_3, tn_4, tn_5, tn_6, tc_0, tc_1, tc_2, tc_3, tc_4, tc_5, tc_6, xf_0, xf_1, xf_2, Sum.inl.injEq, Sum.inr.injEq, C_M_depthOf2, C_M_fallAsleep, C_M_firstToRing, C_M_gap, C_M_live, C_M_ring, C_M_wakes0, p0, p1, p2, k1, k2, l1, l2, q1, q2, o0, nI_1])
          exact hend n M1 hF (Or.inr (hS.resolve_left (fun w => h300 w.1)))
        (refine b_22 _ _ _ ?_; simp only [k_X1_live_0, k_X1_live_12, k_X1_live_13, k_X1_live_22, k_X1_live_57, k_X1_live_58, k_X1_live_108, k_X1_live_148, k_X1_live_171, xp_1, xp_2, xp_3, xp_4, xp_5, xp_6, xp_7, xp_10, xp_11, xp_12, xp_13, xp_14, xp_15, xp_16, xp_17, xp_18, xp_19, xp_20, xp_21, xp_22, xp_23, xp_30, xp_31, xp_32, xp_33, xp_34, xp_35, xp_36, xp_37, xp_38, xp_39, xp_40, xp_41, xp_42, xp_43, xp_50, xp_51, xp_52, xp_53, xp_60, xp_61, xp_62, xp_63, xp_64, xp_65, xp_70, xp_80, xp_81, xp_82, up_ne, up_s, ud_s, ud_o, xw_0, xw_1, xg_0, xg_1, xl_i, xl_r, xs_0, xs_1, xq_i, xq_r, xq_v, xc_0, xc_1, xt_0, xt_1, xr_0, xr_1, xr_2, xe_0, xe_1, ob_0, ob_18, ob_36, ob_54, ak_55, ln_55, cq_55, ak_56, ln_56, cq_56, ob_57, ak_58, ln_58, cq_58, ak_59, ln_59, cq_59, ob_60, ak_61, ln_61, cq_61, ak_62, ln_62, cq_62, ob_63, ak_64, ln_64, cq_64, ak_65, ln_65, cq_65, ak_66, ln_66, cq_66, ak_67, ln_67, cq_67, ak_68, ln_68, cq_68, ak_69, ln_69, cq_69, ak_70, ln_70, cq_70, ak_71, ln_71, cq_71, ak_72, ln_72, cq_72, ak_73, ln_73, cq_73, pt_54_0, pt_54_1, pt_57_0, pt_57_3, pt_60_0, pt_60_1, pt_60_2, pt_60_4, pt_60_5, pt_60_6, pt_60_8, pt_63_0, pt_63_1, pt_63_2, pt_63_3, pt_63_4, pt_63_6, pt_63_7, pt_63_10, pt_63_11, pt_63_17, true_and, and_true, List.length_cons, List.length_nil, Nat.reduceAdd, Nat.reduceLeDiff, forall_eq, ne_eq, Nat.reduceEqDiff, not_false_eq_true, or_false, false_or, or_true, true_or, reduceCtorEq, Nat.zero_le, Nat.reduceMul, Nat.add_zero, false_and, and_false, false_implies, true_implies, forall_const, implies_true, List.append_nil, List.nil_append, List.cons_append, mb_i, mb_ii, mb_iii, mb_r, mb_ri, mb_rii, mb_riii, mb_rr, mb_rri, mb_rrii, mb_rriii, mb_riiiii, mb_rrr, mb_rir, mb_iiii, mb_riiii, tn_0, tn_1, tn_2, tn_3, tn_4, tn_5, tn_6, tc_0, tc_1, tc_2, tc_3, tc_4, tc_5, tc_6, xf_0, xf_1, xf_2, Sum.inl.injEq, Sum.inr.injEq, C_M_depthOf2, C_M_fallAsleep, C_M_firstToRing, C_M_gap, C_M_live, C_M_ring, C_M_wakes0, p0, p1, p2, k1, k2, l1, l2, q1, q2, o0, nI_1])
        exact ⟨fun z => absurd h1 z, fun _ => ⟨fun _ => h171, fun z => absurd z h300⟩⟩
  have n0 : ¬ i < 0 := fun z => by
    rw [ti_lt, show (0 : Int32).toInt = 0 from rfl] at z
    omega
  have nl : i < M b 3 := ti_lt.mpr hin
  have h13 : V 13 [some (.inr 54), some (.inr b), some (.inl i), some (.inl ls), none, none, none, none, none] [] M := by
    (refine b_13 _ _ _ ?_; simp only [k_X1_live_0, k_X1_live_12, k_X1_live_13, k_X1_live_22, k_X1_live_57, k_X1_live_58, k_X1_live_108, k_X1_live_148, k_X1_live_171, xp_1, xp_2, xp_3, xp_4, xp_5, xp_6, xp_7, xp_10, xp_11, xp_12, xp_13, xp_14, xp_15, xp_16, xp_17, xp_18, xp_19, xp_20, xp_21, xp_22, xp_23, xp_30, xp_31, xp_32, xp_33, xp_34, xp_35, xp_36, xp_37, xp_38, xp_39, xp_40, xp_41, xp_42, xp_43, xp_50, xp_51, xp_52, xp_53, xp_60, xp_61, xp_62, xp_63, xp_64, xp_65, xp_70, xp_80, xp_81, xp_82, up_ne, up_s, ud_s, ud_o, xw_0, xw_1, xg_0, xg_1, xl_i, xl_r, xs_0, xs_1, xq_i, xq_r, xq_v, xc_0, xc_1, xt_0, xt_1, xr_0, xr_1, xr_2, xe_0, xe_1, ob_0, ob_18, ob_36, ob_54, ak_55, ln_55, cq_55, ak_56, ln_56, cq_56, ob_57, ak_58, ln_58, cq_58, ak_59, ln_59, cq_59, ob_60, ak_61, ln_61, cq_61, ak_62, ln_62, cq_62, ob_63, ak_64, ln_64, cq_64, ak_65, ln_65, cq_65, ak_66, ln_66, cq_66, ak_67, ln_67, cq_67, ak_68, ln_68, cq_68, ak_69, ln_69, cq_69, ak_70, ln_70, cq_70, ak_71, ln_71, cq_71, ak_72, ln_72, cq_72, ak_73, ln_73, cq_73, pt_54_0, pt_54_1, pt_57_0, pt_57_3, pt_60_0, pt_60_1, pt_60_2, pt_60_4, pt_60_5, pt_60_6, pt_60_8, pt_63_0, pt_63_1, pt_63_2, pt_63_3, pt_63_4, pt_63_6, pt_63_7, pt_63_10, pt_63_11, pt_63_17, true_and, and_true, List.length_cons, List.length_nil, Nat.reduceAdd, Nat.reduceLeDiff, forall_eq, ne_eq, Nat.reduceEqDiff, not_false_eq_true, or_false, false_or, or_true, true_or, reduceCtorEq, Nat.zero_le, Nat.reduceMul, Nat.add_zero, false_and, and_false, false_implies, true_implies, forall_const, implies_true, List.append_nil, List.nil_append, List.cons_append, mb_i, mb_ii, mb_iii, mb_r, mb_ri, mb_rii, mb_riii, mb_rr, mb_rri, mb_rrii, mb_rriii, mb_riiiii, mb_rrr, mb_rir, mb_iiii, mb_riiii, tn_0, tn_1, tn_2, tn_3, tn_4, tn_5, tn_6, tc_0, tc_1, tc_2, tc_3, tc_4, tc_5, tc_6, xf_0, xf_1, xf_2, Sum.inl.injEq, Sum.inr.injEq, C_M_depthOf2, C_M_fallAsleep, C_M_firstToRing, C_M_gap, C_M_live, C_M_ring, C_M_wakes0, p0, p1, p2, k1, k2, l1, l2, q1, q2, o0, nI_1])
    refine ⟨⟨hb, hd, hi, hin⟩, fun M2 hM2 => ?_⟩
    obtain ⟨g0, g2, g3, g4, g5, g6, g7⟩ := hM2
    refine body 1200 0 M2 _ _ _ _ (by omega) g7 g2 (Or.inl ⟨g3, s_J_0 hd (i := i) (but := -9) (fun k hk => (g0 k hk).1) (fun k hk => (g0 k hk).2), ?_⟩)
    rw [g4, g5, g6]
    exact s_mo_cg _ (fun c hc => (g0 c hc).1) (fun c hc => (g0 c hc).2)
  (refine b_0 _ _ _ ?_; simp only [k_X1_live_0, k_X1_live_12, k_X1_live_13, k_X1_live_22, k_X1_live_57, k_X1_live_58, k_X1_live_108, k_X1_live_148, k_X1_live_171, xp_1, xp_2, xp_3, xp_4, xp_5, xp_6, xp_7, xp_10, xp_11, xp_12, xp_13, xp_14, xp_15, xp_16, xp_17, xp_18, xp_19, xp_20, xp_21, xp_22, xp_23, xp_30, xp_31, xp_32, xp_33, xp_34, xp_35, xp_36, xp_37, xp_38, xp_39, xp_40, xp_41, xp_42, xp_43, xp_50, xp_51, xp_52, xp_53, xp_60, xp_61, xp_62, xp_63, xp_64, xp_65, xp_70, xp_80, xp_81, xp_82, up_ne, up_s, ud_s, ud_o, xw_0, xw_1, xg_0, xg_1, xl_i, xl_r, xs_0, xs_1, xq_i, xq_r, xq_v, xc_0, xc_1, xt_0, xt_1, xr_0, xr_1, xr_2, xe_0, xe_1, ob_0, ob_18, ob_36, ob_54, ak_55, ln_55, cq_55, ak_56, ln_56, cq_56, ob_57, ak_58, ln_58, cq_58, ak_59, ln_59, cq_59, ob_60, ak_61, ln_61, cq_61, ak_62, ln_62, cq_62, ob_63, ak_64, ln_64, cq_64, ak_65, ln_65, cq_65, ak_66, ln_66, cq_66, ak_67, ln_67, cq_67, ak_68, ln_68, cq_68, ak_69, ln_69, cq_69, ak_70, ln_70, cq_70, ak_71, ln_71, cq_71, ak_72, ln_72, cq_72, ak_73, ln_73, cq_73, pt_54_0, pt_54_1, pt_57_0, pt_57_3, pt_60_0, pt_60_1, pt_60_2, pt_60_4, pt_60_5, pt_60_6, pt_60_8, pt_63_0, pt_63_1, pt_63_2, pt_63_3, pt_63_4, pt_63_6, pt_63_7, pt_63_10, pt_63_11, pt_63_17, true_and, and_true, List.length_cons, List.length_nil, Nat.reduceAdd, Nat.reduceLeDiff, forall_eq, ne_eq, Nat.reduceEqDiff, not_false_eq_true, or_false, false_or, or_true, true_or, reduceCtorEq, Nat.zero_le, Nat.reduceMul, Nat.add_zero, false_and, and_false, false_implies, true_implies, forall_const, implies_true, List.append_nil, List.nil_append, List.cons_append, mb_i, mb_ii, mb_iii, mb_r, mb_ri, mb_rii, mb_riii, mb_rr, mb_rri, mb_rrii, mb_rriii, mb_riiiii, mb_rrr, mb_rir, mb_iiii, mb_riiii, tn_0, tn_1, tn_2, tn_3, tn_4, tn_5, tn_6, tc_0, tc_1, tc_2, tc_3, tc_4, tc_5, tc_6, xf_0, xf_1, xf_2, Sum.inl.injEq, Sum.inr.injEq, C_M_depthOf2, C_M_fallAsleep, C_M_firstToRing, C_M_gap, C_M_live, C_M_ring, C_M_wakes0, p0, p1, p2, k1, k2, l1, l2, q1, q2, o0, nI_1])
  exact ⟨fun z => absurd z n0, fun _ => ⟨fun _ => h13, fun z => absurd nl z⟩⟩

