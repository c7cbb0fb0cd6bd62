/-! the class takes statements, tells a room -/
theorem bd_n0 {x : Int32} {hi : Int} (h : bd x 0 hi) : ¬ x < 0 := by
  have z0 : (0 : Int32).toInt = 0 := rfl
  have := h.1
  rw [ti_lt]
  omega
theorem bd_nh {x y : Int32} {hi : Int} (h : bd x 0 hi) (hy : y.toInt = hi) : ¬ y < x := by
  have := h.2
  rw [ti_lt]
  omega
theorem awS {q : Nat → Int32} (h : qB 115 q) : s_aw q (mj_sc 100) (mj_sc 101) 4 0 = if q 1 < 20 then 0 else if 20 < q 2 then 0 else if 30 < q 3 then 0 else 1 := by
  obtain ⟨h0, h1, h2, h3⟩ := h.1 rfl
  show (if q 0 < 0 then (0 : Int32) else if 5 < q 0 then 0 else if q 1 < 20 then 0 else if 99 < q 1 then 0 else if q 2 < 0 then 0 else if 20 < q 2 then 0 else if q 3 < 0 then 0 else if 30 < q 3 then 0 else 1) = _
  rw [if_neg (bd_n0 h0), if_neg (bd_nh h0 rfl), if_neg (bd_nh h1 rfl), if_neg (bd_n0 h2), if_neg (bd_n0 h3)]
theorem awC {q : Nat → Int32} (h : qB 99 q) : s_aw q (mj_sc 102) (mj_sc 103) 5 0 = if 3 < q 1 then 0 else if 299 < q 2 then 0 else if q 3 < 1 then 0 else if 20 < q 3 then 0 else if 30 < q 4 then 0 else 1 := by
  obtain ⟨h0, h1, h2, h3, h4⟩ := h.2.1 rfl
  show (if q 0 < 0 then (0 : Int32) else if 5 < q 0 then 0 else if q 1 < 0 then 0 else if 3 < q 1 then 0 else if q 2 < 0 then 0 else if 299 < q 2 then 0 else if q 3 < 1 then 0 else if 20 < q 3 then 0 else if q 4 < 0 then 0 else if 30 < q 4 then 0 else 1) = _
  rw [if_neg (bd_n0 h0), if_neg (bd_nh h0 rfl), if_neg (bd_n0 h1), if_neg (bd_n0 h2), if_neg (bd_n0 h4)]
theorem awT {q : Nat → Int32} (h : qB 116 q) : s_aw q (mj_sc 104) (mj_sc 105) 2 0 = if q 0 < 1 then 0 else if 60 < q 0 then 0 else 1 := by
  obtain ⟨h0, h1⟩ := h.2.2.1 rfl
  show (if q 0 < 1 then (0 : Int32) else if 60 < q 0 then 0 else if q 1 < 0 then 0 else if 99 < q 1 then 0 else 1) = _
  rw [if_neg (bd_n0 h1), if_neg (bd_nh h1 rfl)]
theorem awB {q : Nat → Int32} (h : qB 98 q) : s_aw q (mj_sc 106) (mj_sc 107) 1 0 = if 299 < q 0 then 0 else 1 := by
  have h0 := h.2.2.2.1 rfl
  show (if q 0 < 0 then (0 : Int32) else if 299 < q 0 then 0 else 1) = _
  rw [if_neg (bd_n0 h0)]
theorem awF {q : Nat → Int32} (h : qB 102 q) : s_aw q (mj_sc 108) (mj_sc 109) 1 0 = 1 := by
  have h0 := h.2.2.2.2 rfl
  show (if q 0 < 0 then (0 : Int32) else if 99 < q 0 then 0 else 1) = _
  rw [if_neg (bd_n0 h0), if_neg (bd_nh h0 rfl)]
theorem tkS {r q : Nat → Int32} (h : qB 115 q) : s_tk r 115 q = if r 0 = 4 then (0, r) else if s_aw q (mj_sc 100) (mj_sc 101) 4 0 = 0 then (0, r) else (1, upd (s_cp r (7 + 4 * tn (r 0)) q 4) 0 (r 0 + 1)) := by
  have e : s_tk r 115 q = (if q 1 < 20 then (0, r) else if 20 < q 2 then (0, r) else if 30 < q 3 then (0, r) else if r 0 = 4 then (0, r) else (1, upd (s_cp r (7 + 4 * tn (r 0)) q 4) 0 (r 0 + 1))) := rfl
  rw [e, awS h]
  by_cases a : r 0 = 4
  · rw [if_pos a, if_pos a]
    split
    · rfl
    · split
      · rfl
      · split <;> rfl
  · rw [if_neg a, if_neg a]
    by_cases b : q 1 < 20
    · rw [if_pos b, if_pos b, if_pos rfl]
    · rw [if_neg b, if_neg b]
      by_cases c : 20 < q 2
      · rw [if_pos c, if_pos c, if_pos rfl]
      · rw [if_neg c, if_neg c]
        by_cases d : 30 < q 3
        · rw [if_pos d, if_pos d, if_pos rfl]
        · rw [if_neg d, if_neg d, if_neg (show ¬ (1 : Int32) = 0 by decide)]
theorem tkC {r q : Nat → Int32} (h : qB 99 q) (hr : bd (r 0) 0 4) : s_tk r 99 q = if r 1 = 4 then (0, r) else if s_aw q (mj_sc 102) (mj_sc 103) 5 0 = 0 then (0, r) else if q 1 < r 0 then (1, upd (s_cp r (23 + 5 * tn (r 1)) q 5) 1 (r 1 + 1)) else (0, r) := by
  have e : s_tk r 99 q = (if s_in (q 1) (r 0) = 0 then (0, r) else if q 2 < 300 then (if q 3 < 1 then (0, r) else if 20 < q 3 then (0, r) else if 30 < q 4 then (0, r) else if r 1 = 4 then (0, r) else (1, upd (s_cp r (23 + 5 * tn (r 1)) q 5) 1 (r 1 + 1))) else (0, r)) := rfl
  obtain ⟨h0, h1, h2, h3, h4⟩ := h.2.1 rfl
  have i1 : (s_in (q 1) (r 0) = 0) = ¬ q 1 < r 0 := propext (by
    unfold s_in
    rw [if_neg (bd_n0 h1)]
    by_cases c : q 1 < r 0
    · rw [if_pos c]
      exact ⟨fun z => absurd z (by decide), fun z => absurd c z⟩
    · rw [if_neg c]
      exact ⟨fun _ => c, fun _ => rfl⟩)
  have i2 : (q 2 < 300) = ¬ 299 < q 2 := propext (by
    have z1 : (300 : Int32).toInt = 300 := rfl
    have z2 : (299 : Int32).toInt = 299 := rfl
    rw [ti_lt, ti_lt]
    omega)
  have i3 : q 1 < r 0 → ¬ 3 < q 1 := fun z => by
    have z3 : (3 : Int32).toInt = 3 := rfl
    have := hr.2
    rw [ti_lt] at z ⊢
    omega
  rw [e, awC h]
  by_cases a : q 1 < r 0
  · rw [if_neg (by rw [i1]; exact fun z => z a), if_pos a, if_neg (i3 a)]
    by_cases b : 299 < q 2
    · rw [if_neg (by rw [i2]; exact fun z => z b), if_pos b, if_pos rfl]
      split <;> rfl
    · rw [if_pos (by rw [i2]; exact b), if_neg b]
      by_cases c : q 3 < 1
      · rw [if_pos c, if_pos c, if_pos rfl]
        split <;> rfl
      · rw [if_neg c, if_neg c]
        by_cases d : 20 < q 3
        · rw [if_pos d, if_pos d, if_pos rfl]
          split <;> rfl
        · rw [if_neg d, if_neg d]
          by_cases f : 30 < q 4
          · rw [if_pos f, if_pos f, if_pos rfl]
            split <;> rfl
          · rw [if_neg f, if_neg f, if_neg (show ¬ (1 : Int32) = 0 by decide)]
  · rw [if_pos (by rw [i1]; exact a), if_neg a]
    simp only [ite_self]
theorem tkT {r q : Nat → Int32} (h : qB 116 q) : s_tk r 116 q = if r 2 = 6 then (0, r) else if s_aw q (mj_sc 104) (mj_sc 105) 2 0 = 0 then (0, r) else (1, upd (s_cp r (43 + 2 * tn (r 2)) q 2) 2 (r 2 + 1)) := by
  have e : s_tk r 116 q = (if q 0 < 1 then (0, r) else if 60 < q 0 then (0, r) else if r 2 = 6 then (0, r) else (1, upd (s_cp r (43 + 2 * tn (r 2)) q 2) 2 (r 2 + 1))) := rfl
  rw [e, awT h]
  by_cases a : r 2 = 6
  · rw [if_pos a, if_pos a]
    split
    · rfl
    · split <;> rfl
  · rw [if_neg a, if_neg a]
    by_cases b : q 0 < 1
    · rw [if_pos b, if_pos b, if_pos rfl]
    · rw [if_neg b, if_neg b]
      by_cases c : 60 < q 0
      · rw [if_pos c, if_pos c, if_pos rfl]
      · rw [if_neg c, if_neg c, if_neg (show ¬ (1 : Int32) = 0 by decide)]
theorem ne_lt {x y : Int32} {hi : Int} (h : bd x 0 hi) (hy : y.toInt = hi) : x < y ↔ ¬ x = y := by
  have := h.2
  rw [ti_lt, ti_eq]
  omega
theorem frB_r (b : Nat) (M : mj_M) : frB b M M := fun _ _ => rfl
theorem frB_u {b k j : Nat} {M M1 : mj_M} {x : Int32} (h : frB b M M1) (hk : b ≤ k ∧ k < b + 18) : frB b M (mj_up M1 k j x) := fun c hc => (up_ne (by omega)).trans (h c hc)
theorem frB_c {b k n : Nat} {M : mj_M} (hk : b ≤ k ∧ k < b + 18) : frB b M (cpo M k 59 n) := fun c hc => cpo_o (by omega)
def C_M_takeSleeper : mj_C := (2, rk1, fun avs M => ma_rr avs fun b c => (rB b ∧ c = 59 ∧ bd (M b 3) 0 4 ∧ qB 115 (M 59)), fun avs M r M' => ma_rr avs fun b c => (r = .inl (s_tk (rv M b) 115 (M 59)).1 ∧ frB b M M' ∧ (¬ (s_tk (rv M b) 115 (M 59)).1 = 0 → rv M' b = (s_tk (rv M b) 115 (M 59)).2)))
theorem rc_M_takeSleeper : ∀ avs M, C_M_takeSleeper.2.2.1 avs M → ∃ a r, avs = .inr a :: r ∧ mj_ob a = 2 := by
  intro avs M h
  obtain ⟨b, c, rfl, h⟩ := mc_rr h
  exact ⟨_, _, rfl, (rB_o h.1).1⟩
set_option maxRecDepth 20000 in
set_option maxHeartbeats 2000000 in
theorem t_M_takeSleeper : mj_T yX2_takeSleeper cX2_takeSleeper 2 (some .boolean) 2 C_M_takeSleeper := by
  refine mj_T_of (own := 2) (rk := 3) [(240, C_M_beAs3)] (by decide) rfl (by decide) ⟨rfl, rfl, rfl⟩ (List.forall_mem_cons.mpr ⟨mj_KV (own := 2) (nest := true) t_M_beAs3 ⟨wc_X3_beAs, wi_X3, by decide, wl_2_80⟩ wn_X3_beAs ws_X3_beAs (c0 := 3) (by decide) rfl (by decide +kernel) rc_M_beAs3 (by decide), (fun _ h => absurd h List.not_mem_nil)⟩) ?_
  intro avs M hlen hpre V hV
  obtain ⟨b, c, rfl, hp⟩ := mc_rr hpre
  show V 0 [some (.inr b), some (.inr c)] [] M
  have b_0 := hV h_X2_takeSleeper_0; have b_24 := hV h_X2_takeSleeper_24; have b_26 := hV h_X2_takeSleeper_26
  clear hlen hpre hV
  obtain ⟨hb, rfl, h4, hq⟩ := hp
  obtain ⟨p0, p1, p2, q1, q2, q3⟩ := rB_p hb
  obtain ⟨k1, k2, k3, l1, l2, l3⟩ := rB_k hb
  obtain ⟨o0, o1, o2, o3⟩ := rB_o hb
  have hbl : b ≤ 36 := by rcases hb with rfl | rfl | rfl <;> omega
  have htk := tkS (r := rv M b) hq
  have hne := ne_lt (y := 4) h4 rfl
  have h24 : ∀ M1 : mj_M, frB b M M1 → (s_tk (rv M b) 115 (M 59)).1 = 0 → V 24 [some (.inr b), some (.inr 59)] [] M1 := by
    intro M1 hf hz
    (refine b_24 _ _ _ ?_; simp only [k_X2_takeSleeper_0, k_X2_takeSleeper_24, k_X2_takeSleeper_26, xp_1, xp_2, xp_3, xp_4, xp_5, xp_6, xp_7, xp_10, xp_11, xp_12, xp_13, xp_14, xp_15, xp_16, xp_17, xp_18, xp_19, xp_20, xp_21, xp_22, xp_23, xp_30, xp_31, xp_32, xp_33, xp_34, xp_35, xp_36, xp_37, xp_38, xp_39, xp_40, xp_41, xp_42, xp_43, xp_50, xp_51, xp_52, xp_53, xp_60, xp_61, xp_62, xp_63, xp_64, xp_65, xp_70, xp_80, xp_81, xp_82, up_ne, up_s, ud_s, ud_o, xw_0, xw_1, xg_0, xg_1, xl_i, xl_r, xs_0, xs_1, xq_i, xq_r, xq_v, xc_0, xc_1, xt_0, xt_1, xr_0, xr_1, xr_2, xe_0, xe_1, ob_0, ob_18, ob_36, ob_54, ak_55, ln_55, cq_55, ak_56, ln_56, cq_56, ob_57, ak_58, ln_58, cq_58, ak_59, ln_59, cq_59, ob_60, ak_61, ln_61, cq_61, ak_62, ln_62, cq_62, ob_63, ak_64, ln_64, cq_64, ak_65, ln_65, cq_65, ak_66, ln_66, cq_66, ak_67, ln_67, cq_67, ak_68, ln_68, cq_68, ak_69, ln_69, cq_69, ak_70, ln_70, cq_70, ak_71, ln_71, cq_71, ak_72, ln_72, cq_72, ak_73, ln_73, cq_73, pt_54_0, pt_54_1, pt_57_0, pt_57_3, pt_60_0, pt_60_1, pt_60_2, pt_60_4, pt_60_5, pt_60_6, pt_60_8, pt_63_0, pt_63_1, pt_63_2, pt_63_3, pt_63_4, pt_63_6, pt_63_7, pt_63_10, pt_63_11, pt_63_17, true_and, and_true, List.length_cons, List.length_nil, Nat.reduceAdd, Nat.reduceLeDiff, forall_eq, ne_eq, Nat.reduceEqDiff, not_false_eq_true, or_false, false_or, or_true, true_or, reduceCtorEq, Nat.zero_le, Nat.reduceMul, Nat.add_zero, false_and, and_false, false_implies, true_implies, forall_const, implies_true, List.append_nil, List.nil_append, List.cons_append, mb_i, mb_ii, mb_iii, mb_r, mb_ri, mb_rii, mb_riii, mb_rr, mb_rri, mb_rrii, mb_rriii, mb_riiiii, mb_rrr, mb_rir, mb_iiii, mb_riiii, tn_0, tn_1, tn_2, tn_3, tn_4, tn_5, tn_6, tc_0, tc_1, tc_2, tc_3, tc_4, tc_5, tc_6, xf_0, xf_1, xf_2, Sum.inl.injEq, Sum.inr.injEq, C_M_beAs3, C_M_takeSleeper, p0, k1, l1, q1, o0])
    exact ⟨hz.symm, hf, fun z => absurd hz z⟩
  (refine b_0 _ _ _ ?_; simp only [k_X2_takeSleeper_0, k_X2_takeSleeper_24, k_X2_takeSleeper_26, xp_1, xp_2, xp_3, xp_4, xp_5, xp_6, xp_7, xp_10, xp_11, xp_12, xp_13, xp_14, xp_15, xp_16, xp_17, xp_18, xp_19, xp_20, xp_21, xp_22, xp_23, xp_30, xp_31, xp_32, xp_33, xp_34, xp_35, xp_36, xp_37, xp_38, xp_39, xp_40, xp_41, xp_42, xp_43, xp_50, xp_51, xp_52, xp_53, xp_60, xp_61, xp_62, xp_63, xp_64, xp_65, xp_70, xp_80, xp_81, xp_82, up_ne, up_s, ud_s, ud_o, xw_0, xw_1, xg_0, xg_1, xl_i, xl_r, xs_0, xs_1, xq_i, xq_r, xq_v, xc_0, xc_1, xt_0, xt_1, xr_0, xr_1, xr_2, xe_0, xe_1, ob_0, ob_18, ob_36, ob_54, ak_55, ln_55, cq_55, ak_56, ln_56, cq_56, ob_57, ak_58, ln_58, cq_58, ak_59, ln_59, cq_59, ob_60, ak_61, ln_61, cq_61, ak_62, ln_62, cq_62, ob_63, ak_64, ln_64, cq_64, ak_65, ln_65, cq_65, ak_66, ln_66, cq_66, ak_67, ln_67, cq_67, ak_68, ln_68, cq_68, ak_69, ln_69, cq_69, ak_70, ln_70, cq_70, ak_71, ln_71, cq_71, ak_72, ln_72, cq_72, ak_73, ln_73, cq_73, pt_54_0, pt_54_1, pt_57_0, pt_57_3, pt_60_0, pt_60_1, pt_60_2, pt_60_4, pt_60_5, pt_60_6, pt_60_8, pt_63_0, pt_63_1, pt_63_2, pt_63_3, pt_63_4, pt_63_6, pt_63_7, pt_63_10, pt_63_11, pt_63_17, true_and, and_true, List.length_cons, List.length_nil, Nat.reduceAdd, Nat.reduceLeDiff, forall_eq, ne_eq, Nat.reduceEqDiff, not_false_eq_true, or_false, false_or, or_true, true_or, reduceCtorEq, Nat.zero_le, Nat.reduceMul, Nat.add_zero, false_and, and_false, false_implies, true_implies, forall_const, implies_true, List.append_nil, List.nil_append, List.cons_append, mb_i, mb_ii, mb_iii, mb_r, mb_ri, mb_rii, mb_riii, mb_rr, mb_rri, mb_rrii, mb_rriii, mb_riiiii, mb_rrr, mb_rir, mb_iiii, mb_riiii, tn_0, tn_1, tn_2, tn_3, tn_4, tn_5, tn_6, tc_0, tc_1, tc_2, tc_3, tc_4, tc_5, tc_6, xf_0, xf_1, xf_2, Sum.inl.injEq, Sum.inr.injEq, C_M_beAs3, C_M_takeSleeper, p0, k1, l1, q1, o0])
  refine ⟨fun h => h24 M (frB_r b M) ?_, fun h => ?_⟩
  · rw [htk, if_pos (show rv M b 0 = 4 from Classical.not_not.mp (fun z => h (hne.mpr z)))]
  · have hn := hne.mp h
    have h5 : tn (M b 3) < 4 := by
      have := tn_of h4.1
      rw [ti_lt] at h
      have : (4 : Int32).toInt = 4 := rfl
      omega
    rw [if_neg (show ¬ rv M b 0 = 4 from hn)] at htk
    refine ⟨vi_x h4.1 (by rw [ti_lt] at h; exact h), ⟨o1 _ h5, by show b + 4 + tn (M b 3) < 54; omega⟩, fun hz => ?_, fun hz => ?_⟩
    · rw [if_neg hz] at htk ⊢
      (refine b_26 _ _ _ ?_; simp only [k_X2_takeSleeper_0, k_X2_takeSleeper_24, k_X2_takeSleeper_26, xp_1, xp_2, xp_3, xp_4, xp_5, xp_6, xp_7, xp_10, xp_11, xp_12, xp_13, xp_14, xp_15, xp_16, xp_17, xp_18, xp_19, xp_20, xp_21, xp_22, xp_23, xp_30, xp_31, xp_32, xp_33, xp_34, xp_35, xp_36, xp_37, xp_38, xp_39, xp_40, xp_41, xp_42, xp_43, xp_50, xp_51, xp_52, xp_53, xp_60, xp_61, xp_62, xp_63, xp_64, xp_65, xp_70, xp_80, xp_81, xp_82, up_ne, up_s, ud_s, ud_o, xw_0, xw_1, xg_0, xg_1, xl_i, xl_r, xs_0, xs_1, xq_i, xq_r, xq_v, xc_0, xc_1, xt_0, xt_1, xr_0, xr_1, xr_2, xe_0, xe_1, ob_0, ob_18, ob_36, ob_54, ak_55, ln_55, cq_55, ak_56, ln_56, cq_56, ob_57, ak_58, ln_58, cq_58, ak_59, ln_59, cq_59, ob_60, ak_61, ln_61, cq_61, ak_62, ln_62, cq_62, ob_63, ak_64, ln_64, cq_64, ak_65, ln_65, cq_65, ak_66, ln_66, cq_66, ak_67, ln_67, cq_67, ak_68, ln_68, cq_68, ak_69, ln_69, cq_69, ak_70, ln_70, cq_70, ak_71, ln_71, cq_71, ak_72, ln_72, cq_72, ak_73, ln_73, cq_73, pt_54_0, pt_54_1, pt_57_0, pt_57_3, pt_60_0, pt_60_1, pt_60_2, pt_60_4, pt_60_5, pt_60_6, pt_60_8, pt_63_0, pt_63_1, pt_63_2, pt_63_3, pt_63_4, pt_63_6, pt_63_7, pt_63_10, pt_63_11, pt_63_17, true_and, and_true, List.length_cons, List.length_nil, Nat.reduceAdd, Nat.reduceLeDiff, forall_eq, ne_eq, Nat.reduceEqDiff, not_false_eq_true, or_false, false_or, or_true, true_or, reduceCtorEq, Nat.zero_le, Nat.reduceMul, Nat.add_zero, false_and, and_false, false_implies, true_implies, forall_const, implies_true, List.append_nil, List.nil_append, List.cons_append, mb_i, mb_ii, mb_iii, mb_r, mb_ri, mb_rii, mb_riii, mb_rr, mb_rri, mb_rrii, mb_rriii, mb_riiiii, mb_rrr, mb_rir, mb_iiii, mb_riiii, tn_0, tn_1, tn_2, tn_3, tn_4, tn_5, tn_6, tc_0, tc_1, tc_2, tc_3, tc_4, tc_5, tc_6, xf_0, xf_1, xf_2, Sum.inl.injEq, Sum.inr.injEq, C_M_beAs3, C_M_takeSleeper, p0, k1, l1, q1, o0])
      rw [htk]
      have e3 : cpo M (b + 4 + tn (M b 3)) 59 4 b = M b := cpo_o (by omega)
      rw [show cpo M (b + 4 + (M b 3).toNatClampNeg) 59 4 b = M b from e3]
      exact ⟨rfl, frB_u (frB_c (by show b ≤ b + 4 + tn (M b 3) ∧ b + 4 + tn (M b 3) < b + 18; omega)) (by omega), fun _ => rv_addS rfl h5 h4 (by omega)⟩
    · rw [if_pos hz] at htk ⊢
      exact h24 M (frB_r b M) (by rw [htk])

def C_M_takeClock : mj_C := (2, rk1, fun avs M => ma_rr avs fun b c => (rB b ∧ c = 59 ∧ bd (M b 3) 0 4 ∧ bd (M b 4) 0 4 ∧ qB 99 (M 59)), fun avs M r M' => ma_rr avs fun b c => (r = .inl (s_tk (rv M b) 99 (M 59)).1 ∧ frB b M M' ∧ (¬ (s_tk (rv M b) 99 (M 59)).1 = 0 → rv M' b = (s_tk (rv M b) 99 (M 59)).2)))
theorem rc_M_takeClock : ∀ avs M, C_M_takeClock.2.2.1 avs M → ∃ a r, avs = .inr a :: r ∧ mj_ob a = 2 := by
  intro avs M h
  obtain ⟨b, c, rfl, h⟩ := mc_rr h
  exact ⟨_, _, rfl, (rB_o h.1).1⟩
set_option maxRecDepth 20000 in
set_option maxHeartbeats 2000000 in
theorem t_M_takeClock : mj_T yX2_takeClock cX2_takeClock 2 (some .boolean) 2 C_M_takeClock := by
  refine mj_T_of (own := 2) (rk := 3) [(249, C_M_beAs0)] (by decide) rfl (by decide) ⟨rfl, rfl, rfl⟩ (List.forall_mem_cons.mpr ⟨mj_KV (own := 2) (nest := true) t_M_beAs0 ⟨wc_X0_beAs, wi_X0, by decide, wl_2_83⟩ wn_X0_beAs ws_X0_beAs (c0 := 0) (by decide) rfl (by decide +kernel) rc_M_beAs0 (by decide), (fun _ h => absurd h List.not_mem_nil)⟩) ?_
  intro avs M hlen hpre V hV
  obtain ⟨b, c, rfl, hp⟩ := mc_rr hpre
  show V 0 [some (.inr b), some (.inr c)] [] M
  have b_0 := hV h_X2_takeClock_0; have b_24 := hV h_X2_takeClock_24; have b_26 := hV h_X2_takeClock_26; have b_47 := hV h_X2_takeClock_47
  clear hlen hpre hV
  obtain ⟨hb, rfl, h3, h4, hq⟩ := hp
  obtain ⟨p0, p1, p2, q1, q2, q3⟩ := rB_p hb
  obtain ⟨k1, k2, k3, l1, l2, l3⟩ := rB_k hb
  obtain ⟨o0, o1, o2, o3⟩ := rB_o hb
  have hbl : b ≤ 36 := by rcases hb with rfl | rfl | rfl <;> omega
  have htk := tkC (r := rv M b) hq h3
  have hne := ne_lt (y := 4) h4 rfl
  have h24 : ∀ M1 : mj_M, frB b M M1 → (s_tk (rv M b) 99 (M 59)).1 = 0 → V 24 [some (.inr b), some (.inr 59)] [] M1 := by
    intro M1 hf hz
    (refine b_24 _ _ _ ?_; simp only [k_X2_takeClock_0, k_X2_takeClock_24, k_X2_takeClock_26, k_X2_takeClock_47, xp_1, xp_2, xp_3, xp_4, xp_5, xp_6, xp_7, xp_10, xp_11, xp_12, xp_13, xp_14, xp_15, xp_16, xp_17, xp_18, xp_19, xp_20, xp_21, xp_22, xp_23, xp_30, xp_31, xp_32, xp_33, xp_34, xp_35, xp_36, xp_37, xp_38, xp_39, xp_40, xp_41, xp_42, xp_43, xp_50, xp_51, xp_52, xp_53, xp_60, xp_61, xp_62, xp_63, xp_64, xp_65, xp_70, xp_80, xp_81, xp_82, up_ne, up_s, ud_s, ud_o, xw_0, xw_1, xg_0, xg_1, xl_i, xl_r, xs_0, xs_1, xq_i, xq_r, xq_v, xc_0, xc_1, xt_0, xt_1, xr_0, xr_1, xr_2, xe_0, xe_1, ob_0, ob_18, ob_36, ob_54, ak_55, ln_55, cq_55, ak_56, ln_56, cq_56, ob_57, ak_58, ln_58, cq_58, ak_59, ln_59, cq_59, ob_60, ak_61, ln_61, cq_61, ak_62, ln_62, cq_62, ob_63, ak_64, ln_64, cq_64, ak_65, ln_65, cq_65, ak_66, ln_66, cq_66, ak_67, ln_67, cq_67, ak_68, ln_68, cq_68, ak_69, ln_69, cq_69, ak_70, ln_70, cq_70, ak_71, ln_71, cq_71, ak_72, ln_72, cq_72, ak_73, ln_73, cq_73, pt_54_0, pt_54_1, pt_57_0, pt_57_3, pt_60_0, pt_60_1, pt_60_2, pt_60_4, pt_60_5, pt_60_6, pt_60_8, pt_63_0, pt_63_1, pt_63_2, pt_63_3, pt_63_4, pt_63_6, pt_63_7, pt_63_10, pt_63_11, pt_63_17, true_and, and_true, List.length_cons, List.length_nil, Nat.reduceAdd, Nat.reduceLeDiff, forall_eq, ne_eq, Nat.reduceEqDiff, not_false_eq_true, or_false, false_or, or_true, true_or, reduceCtorEq, Nat.zero_le, Nat.reduceMul, Nat.add_zero, false_and, and_false, false_implies, true_implies, forall_const, implies_true, List.append_nil, List.nil_append, List.cons_append, mb_i, mb_ii, mb_iii, mb_r, mb_ri, mb_rii, mb_riii, mb_rr, mb_rri, mb_rrii, mb_rriii, mb_riiiii, mb_rrr, mb_rir, mb_iiii, mb_riiii, tn_0, tn_1, tn_2, tn_3, tn_4, tn_5, tn_6, tc_0, tc_1, tc_2, tc_3, tc_4, tc_5, tc_6, xf_0, xf_1, xf_2, Sum.inl.injEq, Sum.inr.injEq, C_M_beAs0, C_M_takeClock, p1, k2, l2, q2, o0])
    exact ⟨hz.symm, hf, fun z => absurd hz z⟩
  (refine b_0 _ _ _ ?_; simp only [k_X2_takeClock_0, k_X2_takeClock_24, k_X2_takeClock_26, k_X2_takeClock_47, xp_1, xp_2, xp_3, xp_4, xp_5, xp_6, xp_7, xp_10, xp_11, xp_12, xp_13, xp_14, xp_15, xp_16, xp_17, xp_18, xp_19, xp_20, xp_21, xp_22, xp_23, xp_30, xp_31, xp_32, xp_33, xp_34, xp_35, xp_36, xp_37, xp_38, xp_39, xp_40, xp_41, xp_42, xp_43, xp_50, xp_51, xp_52, xp_53, xp_60, xp_61, xp_62, xp_63, xp_64, xp_65, xp_70, xp_80, xp_81, xp_82, up_ne, up_s, ud_s, ud_o, xw_0, xw_1, xg_0, xg_1, xl_i, xl_r, xs_0, xs_1, xq_i, xq_r, xq_v, xc_0, xc_1, xt_0, xt_1, xr_0, xr_1, xr_2, xe_0, xe_1, ob_0, ob_18, ob_36, ob_54, ak_55, ln_55, cq_55, ak_56, ln_56, cq_56, ob_57, ak_58, ln_58, cq_58, ak_59, ln_59, cq_59, ob_60, ak_61, ln_61, cq_61, ak_62, ln_62, cq_62, ob_63, ak_64, ln_64, cq_64, ak_65, ln_65, cq_65, ak_66, ln_66, cq_66, ak_67, ln_67, cq_67, ak_68, ln_68, cq_68, ak_69, ln_69, cq_69, ak_70, ln_70, cq_70, ak_71, ln_71, cq_71, ak_72, ln_72, cq_72, ak_73, ln_73, cq_73, pt_54_0, pt_54_1, pt_57_0, pt_57_3, pt_60_0, pt_60_1, pt_60_2, pt_60_4, pt_60_5, pt_60_6, pt_60_8, pt_63_0, pt_63_1, pt_63_2, pt_63_3, pt_63_4, pt_63_6, pt_63_7, pt_63_10, pt_63_11, pt_63_17, true_and, and_true, List.length_cons, List.length_nil, Nat.reduceAdd, Nat.reduceLeDiff, forall_eq, ne_eq, Nat.reduceEqDiff, not_false_eq_true, or_false, false_or, or_true, true_or, reduceCtorEq, Nat.zero_le, Nat.reduceMul, Nat.add_zero, false_and, and_false, false_implies, true_implies, forall_const, implies_true, List.append_nil, List.nil_append, List.cons_append, mb_i, mb_ii, mb_iii, mb_r, mb_ri, mb_rii, mb_riii, mb_rr, mb_rri, mb_rrii, mb_rriii, mb_riiiii, mb_rrr, mb_rir, mb_iiii, mb_riiii, tn_0, tn_1, tn_2, tn_3, tn_4, tn_5, tn_6, tc_0, tc_1, tc_2, tc_3, tc_4, tc_5, tc_6, xf_0, xf_1, xf_2, Sum.inl.injEq, Sum.inr.injEq, C_M_beAs0, C_M_takeClock, p1, k2, l2, q2, o0])
  refine ⟨fun h => h24 M (frB_r b M) ?_, fun h => ?_⟩
  · rw [htk, if_pos (show rv M b 1 = 4 from Classical.not_not.mp (fun z => h (hne.mpr z)))]
  · have hn := hne.mp h
    have h5 : tn (M b 4) < 4 := by
      have := tn_of h4.1
      rw [ti_lt] at h
      have : (4 : Int32).toInt = 4 := rfl
      omega
    have h5b : (M b 4).toNatClampNeg < 4 := h5
    have hx : vp_in (M b 4) 4 := vi_x h4.1 (by rw [ti_lt] at h; exact h)
    rw [if_neg (show ¬ rv M b 1 = 4 from hn)] at htk
    refine ⟨hx, ⟨o2 _ h5, by show b + 8 + tn (M b 4) < 54; omega⟩, fun hz => ?_, fun hz => ?_⟩
    · rw [if_neg hz] at htk ⊢
      have e3 : cpo M (b + 8 + (M b 4).toNatClampNeg) 59 5 b = M b := cpo_o (by omega)
      have e1 : cpo M (b + 8 + (M b 4).toNatClampNeg) 59 5 (b + 8 + (M b 4).toNatClampNeg) 1 = M 59 1 := cpo_s (by omega)
      have hf : frB b M (cpo M (b + 8 + (M b 4).toNatClampNeg) 59 5) := frB_c (by omega)
      (refine b_26 _ _ _ ?_; simp only [k_X2_takeClock_0, k_X2_takeClock_24, k_X2_takeClock_26, k_X2_takeClock_47, xp_1, xp_2, xp_3, xp_4, xp_5, xp_6, xp_7, xp_10, xp_11, xp_12, xp_13, xp_14, xp_15, xp_16, xp_17, xp_18, xp_19, xp_20, xp_21, xp_22, xp_23, xp_30, xp_31, xp_32, xp_33, xp_34, xp_35, xp_36, xp_37, xp_38, xp_39, xp_40, xp_41, xp_42, xp_43, xp_50, xp_51, xp_52, xp_53, xp_60, xp_61, xp_62, xp_63, xp_64, xp_65, xp_70, xp_80, xp_81, xp_82, up_ne, up_s, ud_s, ud_o, xw_0, xw_1, xg_0, xg_1, xl_i, xl_r, xs_0, xs_1, xq_i, xq_r, xq_v, xc_0, xc_1, xt_0, xt_1, xr_0, xr_1, xr_2, xe_0, xe_1, ob_0, ob_18, ob_36, ob_54, ak_55, ln_55, cq_55, ak_56, ln_56, cq_56, ob_57, ak_58, ln_58, cq_58, ak_59, ln_59, cq_59, ob_60, ak_61, ln_61, cq_61, ak_62, ln_62, cq_62, ob_63, ak_64, ln_64, cq_64, ak_65, ln_65, cq_65, ak_66, ln_66, cq_66, ak_67, ln_67, cq_67, ak_68, ln_68, cq_68, ak_69, ln_69, cq_69, ak_70, ln_70, cq_70, ak_71, ln_71, cq_71, ak_72, ln_72, cq_72, ak_73, ln_73, cq_73, pt_54_0, pt_54_1, pt_57_0, pt_57_3, pt_60_0, pt_60_1, pt_60_2, pt_60_4, pt_60_5, pt_60_6, pt_60_8, pt_63_0, pt_63_1, pt_63_2, pt_63_3, pt_63_4, pt_63_6, pt_63_7, pt_63_10, pt_63_11, pt_63_17, true_and, and_true, List.length_cons, List.length_nil, Nat.reduceAdd, Nat.reduceLeDiff, forall_eq, ne_eq, Nat.reduceEqDiff, not_false_eq_true, or_false, false_or, or_true, true_or, reduceCtorEq, Nat.zero_le, Nat.reduceMul, Nat.add_zero, false_and, and_false, false_implies, true_implies, forall_const, implies_true, List.append_nil, List.nil_append, List.cons_append, mb_i, mb_ii, mb_iii, mb_r, mb_ri, mb_rii, mb_riii, mb_rr, mb_rri, mb_rrii, mb_rriii, mb_riiiii, mb_rrr, mb_rir, mb_iiii, mb_riiii, tn_0, tn_1, tn_2, tn_3, tn_4, tn_5, tn_6, tc_0, tc_1, tc_2, tc_3, tc_4, tc_5, tc_6, xf_0, xf_1, xf_2, Sum.inl.injEq, Sum.inr.injEq, C_M_beAs0, C_M_takeClock, p1, k2, l2, q2, o0])
      rw [e3, e1]
      refine ⟨hx, o2 _ h5, fun hlt => ?_, fun hge => ?_⟩
      · rw [if_pos (show M 59 1 < rv M b 0 from hlt)] at htk
        (refine b_47 _ _ _ ?_; simp only [k_X2_takeClock_0, k_X2_takeClock_24, k_X2_takeClock_26, k_X2_takeClock_47, xp_1, xp_2, xp_3, xp_4, xp_5, xp_6, xp_7, xp_10, xp_11, xp_12, xp_13, xp_14, xp_15, xp_16, xp_17, xp_18, xp_19, xp_20, xp_21, xp_22, xp_23, xp_30, xp_31, xp_32, xp_33, xp_34, xp_35, xp_36, xp_37, xp_38, xp_39, xp_40, xp_41, xp_42, xp_43, xp_50, xp_51, xp_52, xp_53, xp_60, xp_61, xp_62, xp_63, xp_64, xp_65, xp_70, xp_80, xp_81, xp_82, up_ne, up_s, ud_s, ud_o, xw_0, xw_1, xg_0, xg_1, xl_i, xl_r, xs_0, xs_1, xq_i, xq_r, xq_v, xc_0, xc_1, xt_0, xt_1, xr_0, xr_1, xr_2, xe_0, xe_1, ob_0, ob_18, ob_36, ob_54, ak_55, ln_55, cq_55, ak_56, ln_56, cq_56, ob_57, ak_58, ln_58, cq_58, ak_59, ln_59, cq_59, ob_60, ak_61, ln_61, cq_61, ak_62, ln_62, cq_62, ob_63, ak_64, ln_64, cq_64, ak_65, ln_65, cq_65, ak_66, ln_66, cq_66, ak_67, ln_67, cq_67, ak_68, ln_68, cq_68, ak_69, ln_69, cq_69, ak_70, ln_70, cq_70, ak_71, ln_71, cq_71, ak_72, ln_72, cq_72, ak_73, ln_73, cq_73, pt_54_0, pt_54_1, pt_57_0, pt_57_3, pt_60_0, pt_60_1, pt_60_2, pt_60_4, pt_60_5, pt_60_6, pt_60_8, pt_63_0, pt_63_1, pt_63_2, pt_63_3, pt_63_4, pt_63_6, pt_63_7, pt_63_10, pt_63_11, pt_63_17, true_and, and_true, List.length_cons, List.length_nil, Nat.reduceAdd, Nat.reduceLeDiff, forall_eq, ne_eq, Nat.reduceEqDiff, not_false_eq_true, or_false, false_or, or_true, true_or, reduceCtorEq, Nat.zero_le, Nat.reduceMul, Nat.add_zero, false_and, and_false, false_implies, true_implies, forall_const, implies_true, List.append_nil, List.nil_append, List.cons_append, mb_i, mb_ii, mb_iii, mb_r, mb_ri, mb_rii, mb_riii, mb_rr, mb_rri, mb_rrii, mb_rriii, mb_riiiii, mb_rrr, mb_rir, mb_iiii, mb_riiii, tn_0, tn_1, tn_2, tn_3, tn_4, tn_5, tn_6, tc_0, tc_1, tc_2, tc_3, tc_4, tc_5, tc_6, xf_0, xf_1, xf_2, Sum.inl.injEq, Sum.inr.injEq, C_M_beAs0, C_M_takeClock, p1, k2, l2, q2, o0])
        rw [htk, e3]
        exact ⟨rfl, frB_u hf (by omega), fun _ => rv_addC rfl h5 h4 (by omega)⟩
      · rw [if_neg (show ¬ M 59 1 < rv M b 0 from hge)] at htk
        rw [htk]
        exact ⟨rfl, hf, fun z => absurd rfl z⟩
    · rw [if_pos hz] at htk ⊢
      exact h24 M (frB_r b M) (by rw [htk])

def C_M_takeTask : mj_C := (2, rk1, fun avs M => ma_rr avs fun b c => (rB b ∧ c = 59 ∧ bd (M b 5) 0 6 ∧ qB 116 (M 59)), fun avs M r M' => ma_rr avs fun b c => (r = .inl (s_tk (rv M b) 116 (M 59)).1 ∧ frB b M M' ∧ (¬ (s_tk (rv M b) 116 (M 59)).1 = 0 → rv M' b = (s_tk (rv M b) 116 (M 59)).2)))
theorem rc_M_takeTask : ∀ avs M, C_M_takeTask.2.2.1 avs M → ∃ a r, avs = .inr a :: r ∧ mj_ob a = 2 := by
  intro avs M h
  obtain ⟨b, c, rfl, h⟩ := mc_rr h
  exact ⟨_, _, rfl, (rB_o h.1).1⟩
set_option maxRecDepth 20000 in
set_option maxHeartbeats 2000000 in
theorem t_M_takeTask : mj_T yX2_takeTask cX2_takeTask 2 (some .boolean) 2 C_M_takeTask := by
  refine mj_T_of (own := 2) (rk := 3) [(261, C_M_beAs4)] (by decide) rfl (by decide) ⟨rfl, rfl, rfl⟩ (List.forall_mem_cons.mpr ⟨mj_KV (own := 2) (nest := true) t_M_beAs4 ⟨wc_X4_beAs, wi_X4, by decide, wl_2_87⟩ wn_X4_beAs ws_X4_beAs (c0 := 4) (by decide) rfl (by decide +kernel) rc_M_beAs4 (by decide), (fun _ h => absurd h List.not_mem_nil)⟩) ?_
  intro avs M hlen hpre V hV
  obtain ⟨b, c, rfl, hp⟩ := mc_rr hpre
  show V 0 [some (.inr b), some (.inr c)] [] M
  have b_0 := hV h_X2_takeTask_0; have b_25 := hV h_X2_takeTask_25; have b_27 := hV h_X2_takeTask_27
  clear hlen hpre hV
  obtain ⟨hb, rfl, h4, hq⟩ := hp
  obtain ⟨p0, p1, p2, q1, q2, q3⟩ := rB_p hb
  obtain ⟨k1, k2, k3, l1, l2, l3⟩ := rB_k hb
  obtain ⟨o0, o1, o2, o3⟩ := rB_o hb
  have hbl : b ≤ 36 := by rcases hb with rfl | rfl | rfl <;> omega
  have htk := tkT (r := rv M b) hq
  have hne := ne_lt (y := 6) h4 rfl
  have h25 : ∀ M1 : mj_M, frB b M M1 → (s_tk (rv M b) 116 (M 59)).1 = 0 → V 25 [some (.inr b), some (.inr 59)] [] M1 := by
    intro M1 hf hz
    (refine b_25 _ _ _ ?_; simp only [k_X2_takeTask_0, k_X2_takeTask_25, k_X2_takeTask_27, xp_1, xp_2, xp_3, xp_4, xp_5, xp_6, xp_7, xp_10, xp_11, xp_12, xp_13, xp_14, xp_15, xp_16, xp_17, xp_18, xp_19, xp_20, xp_21, xp_22, xp_23, xp_30, xp_31, xp_32, xp_33, xp_34, xp_35, xp_36, xp_37, xp_38, xp_39, xp_40, xp_41, xp_42, xp_43, xp_50, xp_51, xp_52, xp_53, xp_60, xp_61, xp_62, xp_63, xp_64, xp_65, xp_70, xp_80, xp_81, xp_82, up_ne, up_s, ud_s, ud_o, xw_0, xw_1, xg_0, xg_1, xl_i, xl_r, xs_0, xs_1, xq_i, xq_r, xq_v, xc_0, xc_1, xt_0, xt_1, xr_0, xr_1, xr_2, xe_0, xe_1, ob_0, ob_18, ob_36, ob_54, ak_55, ln_55, cq_55, ak_56, ln_56, cq_56, ob_57, ak_58, ln_58, cq_58, ak_59, ln_59, cq_59, ob_60, ak_61, ln_61, cq_61, ak_62, ln_62, cq_62, ob_63, ak_64, ln_64, cq_64, ak_65, ln_65, cq_65, ak_66, ln_66, cq_66, ak_67, ln_67, cq_67, ak_68, ln_68, cq_68, ak_69, ln_69, cq_69, ak_70, ln_70, cq_70, ak_71, ln_71, cq_71, ak_72, ln_72, cq_72, ak_73, ln_73, cq_73, pt_54_0, pt_54_1, pt_57_0, pt_57_3, pt_60_0, pt_60_1, pt_60_2, pt_60_4, pt_60_5, pt_60_6, pt_60_8, pt_63_0, pt_63_1, pt_63_2, pt_63_3, pt_63_4, pt_63_6, pt_63_7, pt_63_10, pt_63_11, pt_63_17, true_and, and_true, List.length_cons, List.length_nil, Nat.reduceAdd, Nat.reduceLeDiff, forall_eq, ne_eq, Nat.reduceEqDiff, not_false_eq_true, or_false, false_or, or_true, true_or, reduceCtorEq, Nat.zero_le, Nat.reduceMul, Nat.add_zero, false_and, and_false, false_implies, true_implies, forall_const, implies_true, List.append_nil, List.nil_append, List.cons_append, mb_i, mb_ii, mb_iii, mb_r, mb_ri, mb_rii, mb_riii, mb_rr, mb_rri, mb_rrii, mb_rriii, mb_riiiii, mb_rrr, mb_rir, mb_iiii, mb_riiii, tn_0, tn_1, tn_2, tn_3, tn_4, tn_5, tn_6, tc_0, tc_1, tc_2, tc_3, tc_4, tc_5, tc_6, xf_0, xf_1, xf_2, Sum.inl.injEq, Sum.inr.injEq, C_M_beAs4, C_M_takeTask, p2, k3, l3, q3, o0])
    exact ⟨hz.symm, hf, fun z => absurd hz z⟩
  (refine b_0 _ _ _ ?_; simp only [k_X2_takeTask_0, k_X2_takeTask_25, k_X2_takeTask_27, xp_1, xp_2, xp_3, xp_4, xp_5, xp_6, xp_7, xp_10, xp_11, xp_12, xp_13, xp_14, xp_15, xp_16, xp_17, xp_18, xp_19, xp_20, xp_21, xp_22, xp_23, xp_30, xp_31, xp_32, xp_33, xp_34, xp_35, xp_36, xp_37, xp_38, xp_39, xp_40, xp_41, xp_42, xp_43, xp_50, xp_51, xp_52, xp_53, xp_60, xp_61, xp_62, xp_63, xp_64, xp_65, xp_70, xp_80, xp_81, xp_82, up_ne, up_s, ud_s, ud_o, xw_0, xw_1, xg_0, xg_1, xl_i, xl_r, xs_0, xs_1, xq_i, xq_r, xq_v, xc_0, xc_1, xt_0, xt_1, xr_0, xr_1, xr_2, xe_0, xe_1, ob_0, ob_18, ob_36, ob_54, ak_55, ln_55, cq_55, ak_56, ln_56, cq_56, ob_57, ak_58, ln_58, cq_58, ak_59, ln_59, cq_59, ob_60, ak_61, ln_61, cq_61, ak_62, ln_62, cq_62, ob_63, ak_64, ln_64, cq_64, ak_65, ln_65, cq_65, ak_66, ln_66, cq_66, ak_67, ln_67, cq_67, ak_68, ln_68, cq_68, ak_69, ln_69, cq_69, ak_70, ln_70, cq_70, ak_71, ln_71, cq_71, ak_72, ln_72, cq_72, ak_73, ln_73, cq_73, pt_54_0, pt_54_1, pt_57_0, pt_57_3, pt_60_0, pt_60_1, pt_60_2, pt_60_4, pt_60_5, pt_60_6, pt_60_8, pt_63_0, pt_63_1, pt_63_2, pt_63_3, pt_63_4, pt_63_6, pt_63_7, pt_63_10, pt_63_11, pt_63_17, true_and, and_true, List.length_cons, List.length_nil, Nat.reduceAdd, Nat.reduceLeDiff, forall_eq, ne_eq, Nat.reduceEqDiff, not_false_eq_true, or_false, false_or, or_true, true_or, reduceCtorEq, Nat.zero_le, Nat.reduceMul, Nat.add_zero, false_and, and_false, false_implies, true_implies, forall_const, implies_true, List.append_nil, List.nil_append, List.cons_append, mb_i, mb_ii, mb_iii, mb_r, mb_ri, mb_rii, mb_riii, mb_rr, mb_rri, mb_rrii, mb_rriii, mb_riiiii, mb_rrr, mb_rir, mb_iiii, mb_riiii, tn_0, tn_1, tn_2, tn_3, tn_4, tn_5, tn_6, tc_0, tc_1, tc_2, tc_3, tc_4, tc_5, tc_6, xf_0, xf_1, xf_2, Sum.inl.injEq, Sum.inr.injEq, C_M_beAs4, C_M_takeTask, p2, k3, l3, q3, o0])
  refine ⟨fun h => h25 M (frB_r b M) ?_, fun h => ?_⟩
  · rw [htk, if_pos (show rv M b 2 = 6 from Classical.not_not.mp (fun z => h (hne.mpr z)))]
  · have hn := hne.mp h
    have h5 : tn (M b 5) < 6 := by
      have := tn_of h4.1
      rw [ti_lt] at h
      have : (6 : Int32).toInt = 6 := rfl
      omega
    have h5b : (M b 5).toNatClampNeg < 6 := h5
    rw [if_neg (show ¬ rv M b 2 = 6 from hn)] at htk
    refine ⟨vi_x h4.1 (by rw [ti_lt] at h; exact h), ⟨o3 _ h5, by omega⟩, fun hz => ?_, fun hz => ?_⟩
    · rw [if_neg hz] at htk ⊢
      have e3 : cpo M (b + 12 + (M b 5).toNatClampNeg) 59 2 b = M b := cpo_o (by omega)
      (refine b_27 _ _ _ ?_; simp only [k_X2_takeTask_0, k_X2_takeTask_25, k_X2_takeTask_27, xp_1, xp_2, xp_3, xp_4, xp_5, xp_6, xp_7, xp_10, xp_11, xp_12, xp_13, xp_14, xp_15, xp_16, xp_17, xp_18, xp_19, xp_20, xp_21, xp_22, xp_23, xp_30, xp_31, xp_32, xp_33, xp_34, xp_35, xp_36, xp_37, xp_38, xp_39, xp_40, xp_41, xp_42, xp_43, xp_50, xp_51, xp_52, xp_53, xp_60, xp_61, xp_62, xp_63, xp_64, xp_65, xp_70, xp_80, xp_81, xp_82, up_ne, up_s, ud_s, ud_o, xw_0, xw_1, xg_0, xg_1, xl_i, xl_r, xs_0, xs_1, xq_i, xq_r, xq_v, xc_0, xc_1, xt_0, xt_1, xr_0, xr_1, xr_2, xe_0, xe_1, ob_0, ob_18, ob_36, ob_54, ak_55, ln_55, cq_55, ak_56, ln_56, cq_56, ob_57, ak_58, ln_58, cq_58, ak_59, ln_59, cq_59, ob_60, ak_61, ln_61, cq_61, ak_62, ln_62, cq_62, ob_63, ak_64, ln_64, cq_64, ak_65, ln_65, cq_65, ak_66, ln_66, cq_66, ak_67, ln_67, cq_67, ak_68, ln_68, cq_68, ak_69, ln_69, cq_69, ak_70, ln_70, cq_70, ak_71, ln_71, cq_71, ak_72, ln_72, cq_72, ak_73, ln_73, cq_73, pt_54_0, pt_54_1, pt_57_0, pt_57_3, pt_60_0, pt_60_1, pt_60_2, pt_60_4, pt_60_5, pt_60_6, pt_60_8, pt_63_0, pt_63_1, pt_63_2, pt_63_3, pt_63_4, pt_63_6, pt_63_7, pt_63_10, pt_63_11, pt_63_17, true_and, and_true, List.length_cons, List.length_nil, Nat.reduceAdd, Nat.reduceLeDiff, forall_eq, ne_eq, Nat.reduceEqDiff, not_false_eq_true, or_false, false_or, or_true, true_or, reduceCtorEq, Nat.zero_le, Nat.reduceMul, Nat.add_zero, false_and, and_false, false_implies, true_implies, forall_const, implies_true, List.append_nil, List.nil_append, List.cons_append, mb_i, mb_ii, mb_iii, mb_r, mb_ri, mb_rii, mb_riii, mb_rr, mb_rri, mb_rrii, mb_rriii, mb_riiiii, mb_rrr, mb_rir, mb_iiii, mb_riiii, tn_0, tn_1, tn_2, tn_3, tn_4, tn_5, tn_6, tc_0, tc_1, tc_2, tc_3, tc_4, tc_5, tc_6, xf_0, xf_1, xf_2, Sum.inl.injEq, Sum.inr.injEq, C_M_beAs4, C_M_takeTask, p2, k3, l3, q3, o0])
      rw [htk, e3]
      exact ⟨rfl, frB_u (frB_c (by omega)) (by omega), fun _ => rv_addT rfl h5 h4 (by omega)⟩
    · rw [if_pos hz] at htk ⊢
      exact h25 M (frB_r b M) (by rw [htk])

def C_M_takeBus : mj_C := (2, rk1, fun avs M => ma_rr avs fun b c => (rB b ∧ c = 59 ∧ qB 98 (M 59)), fun avs M r M' => ma_rr avs fun b c => (r = .inl (s_tk (rv M b) 98 (M 59)).1 ∧ frB b M M' ∧ (¬ (s_tk (rv M b) 98 (M 59)).1 = 0 → rv M' b = (s_tk (rv M b) 98 (M 59)).2)))
theorem rc_M_takeBus : ∀ avs M, C_M_takeBus.2.2.1 avs M → ∃ a r, avs = .inr a :: r ∧ mj_ob a = 2 := by
  intro avs M h
  obtain ⟨b, c, rfl, h⟩ := mc_rr h
  exact ⟨_, _, rfl, (rB_o h.1).1⟩
set_option maxRecDepth 20000 in
set_option maxHeartbeats 2000000 in
theorem t_M_takeBus : mj_T yX2_takeBus cX2_takeBus 2 (some .boolean) 1 C_M_takeBus := by
  refine mj_T_of (own := 2) (rk := 3) [(287, C_M_areWithin)] (by decide) rfl (by decide) ⟨rfl, rfl, rfl⟩ (List.forall_mem_cons.mpr ⟨mj_KS (own := 2) (nest := true) t_M_areWithin ⟨wc_X6_areWithin, wi_X6, by decide, wl_2_95⟩ wn_X6_areWithin (by decide +kernel) (by decide), (fun _ h => absurd h List.not_mem_nil)⟩) ?_
  intro avs M hlen hpre V hV
  obtain ⟨b, c, rfl, hp⟩ := mc_rr hpre
  show V 0 [some (.inr b), some (.inr c)] [] M
  have b_0 := hV h_X2_takeBus_0; have b_15 := hV h_X2_takeBus_15
  clear hlen hpre hV
  obtain ⟨hb, rfl, hq⟩ := hp
  obtain ⟨o0, o1, o2, o3⟩ := rB_o hb
  have haw := awB hq
  have e : s_tk (rv M b) 98 (M 59) = (if M 59 0 < 300 then 1 else 0, upd (rv M b) 3 (M 59 0)) := rfl
  have i2 : (M 59 0 < 300) = ¬ 299 < M 59 0 := propext (by
    have z1 : (300 : Int32).toInt = 300 := rfl
    have z2 : (299 : Int32).toInt = 299 := rfl
    rw [ti_lt, ti_lt]
    omega)
  have hlh : s_lh 106 107 := by unfold s_lh; decide
  (refine b_0 _ _ _ ?_; simp only [k_X2_takeBus_0, k_X2_takeBus_15, xp_1, xp_2, xp_3, xp_4, xp_5, xp_6, xp_7, xp_10, xp_11, xp_12, xp_13, xp_14, xp_15, xp_16, xp_17, xp_18, xp_19, xp_20, xp_21, xp_22, xp_23, xp_30, xp_31, xp_32, xp_33, xp_34, xp_35, xp_36, xp_37, xp_38, xp_39, xp_40, xp_41, xp_42, xp_43, xp_50, xp_51, xp_52, xp_53, xp_60, xp_61, xp_62, xp_63, xp_64, xp_65, xp_70, xp_80, xp_81, xp_82, up_ne, up_s, ud_s, ud_o, xw_0, xw_1, xg_0, xg_1, xl_i, xl_r, xs_0, xs_1, xq_i, xq_r, xq_v, xc_0, xc_1, xt_0, xt_1, xr_0, xr_1, xr_2, xe_0, xe_1, ob_0, ob_18, ob_36, ob_54, ak_55, ln_55, cq_55, ak_56, ln_56, cq_56, ob_57, ak_58, ln_58, cq_58, ak_59, ln_59, cq_59, ob_60, ak_61, ln_61, cq_61, ak_62, ln_62, cq_62, ob_63, ak_64, ln_64, cq_64, ak_65, ln_65, cq_65, ak_66, ln_66, cq_66, ak_67, ln_67, cq_67, ak_68, ln_68, cq_68, ak_69, ln_69, cq_69, ak_70, ln_70, cq_70, ak_71, ln_71, cq_71, ak_72, ln_72, cq_72, ak_73, ln_73, cq_73, pt_54_0, pt_54_1, pt_57_0, pt_57_3, pt_60_0, pt_60_1, pt_60_2, pt_60_4, pt_60_5, pt_60_6, pt_60_8, pt_63_0, pt_63_1, pt_63_2, pt_63_3, pt_63_4, pt_63_6, pt_63_7, pt_63_10, pt_63_11, pt_63_17, true_and, and_true, List.length_cons, List.length_nil, Nat.reduceAdd, Nat.reduceLeDiff, forall_eq, ne_eq, Nat.reduceEqDiff, not_false_eq_true, or_false, false_or, or_true, true_or, reduceCtorEq, Nat.zero_le, Nat.reduceMul, Nat.add_zero, false_and, and_false, false_implies, true_implies, forall_const, implies_true, List.append_nil, List.nil_append, List.cons_append, mb_i, mb_ii, mb_iii, mb_r, mb_ri, mb_rii, mb_riii, mb_rr, mb_rri, mb_rrii, mb_rriii, mb_riiiii, mb_rrr, mb_rir, mb_iiii, mb_riiii, tn_0, tn_1, tn_2, tn_3, tn_4, tn_5, tn_6, tc_0, tc_1, tc_2, tc_3, tc_4, tc_5, tc_6, xf_0, xf_1, xf_2, Sum.inl.injEq, Sum.inr.injEq, C_M_areWithin, C_M_takeBus, o0])
  refine ⟨hlh, fun hz => ?_, fun hz => ?_⟩
  · have h9 : ¬ 299 < M 59 0 := fun z => hz (haw.trans (if_pos z))
    (refine b_15 _ _ _ ?_; simp only [k_X2_takeBus_0, k_X2_takeBus_15, xp_1, xp_2, xp_3, xp_4, xp_5, xp_6, xp_7, xp_10, xp_11, xp_12, xp_13, xp_14, xp_15, xp_16, xp_17, xp_18, xp_19, xp_20, xp_21, xp_22, xp_23, xp_30, xp_31, xp_32, xp_33, xp_34, xp_35, xp_36, xp_37, xp_38, xp_39, xp_40, xp_41, xp_42, xp_43, xp_50, xp_51, xp_52, xp_53, xp_60, xp_61, xp_62, xp_63, xp_64, xp_65, xp_70, xp_80, xp_81, xp_82, up_ne, up_s, ud_s, ud_o, xw_0, xw_1, xg_0, xg_1, xl_i, xl_r, xs_0, xs_1, xq_i, xq_r, xq_v, xc_0, xc_1, xt_0, xt_1, xr_0, xr_1, xr_2, xe_0, xe_1, ob_0, ob_18, ob_36, ob_54, ak_55, ln_55, cq_55, ak_56, ln_56, cq_56, ob_57, ak_58, ln_58, cq_58, ak_59, ln_59, cq_59, ob_60, ak_61, ln_61, cq_61, ak_62, ln_62, cq_62, ob_63, ak_64, ln_64, cq_64, ak_65, ln_65, cq_65, ak_66, ln_66, cq_66, ak_67, ln_67, cq_67, ak_68, ln_68, cq_68, ak_69, ln_69, cq_69, ak_70, ln_70, cq_70, ak_71, ln_71, cq_71, ak_72, ln_72, cq_72, ak_73, ln_73, cq_73, pt_54_0, pt_54_1, pt_57_0, pt_57_3, pt_60_0, pt_60_1, pt_60_2, pt_60_4, pt_60_5, pt_60_6, pt_60_8, pt_63_0, pt_63_1, pt_63_2, pt_63_3, pt_63_4, pt_63_6, pt_63_7, pt_63_10, pt_63_11, pt_63_17, true_and, and_true, List.length_cons, List.length_nil, Nat.reduceAdd, Nat.reduceLeDiff, forall_eq, ne_eq, Nat.reduceEqDiff, not_false_eq_true, or_false, false_or, or_true, true_or, reduceCtorEq, Nat.zero_le, Nat.reduceMul, Nat.add_zero, false_and, and_false, false_implies, true_implies, forall_const, implies_true, List.append_nil, List.nil_append, List.cons_append, mb_i, mb_ii, mb_iii, mb_r, mb_ri, mb_rii, mb_riii, mb_rr, mb_rri, mb_rrii, mb_rriii, mb_riiiii, mb_rrr, mb_rir, mb_iiii, mb_riiii, tn_0, tn_1, tn_2, tn_3, tn_4, tn_5, tn_6, tc_0, tc_1, tc_2, tc_3, tc_4, tc_5, tc_6, xf_0, xf_1, xf_2, Sum.inl.injEq, Sum.inr.injEq, C_M_areWithin, C_M_takeBus, o0])
    rw [e, if_pos (by rw [i2]; exact h9)]
    exact ⟨vi_0, rfl, frB_u (frB_r b M) (by omega), fun _ => rv_u7 (j := 3) (by omega)⟩
  · have h9 : 299 < M 59 0 := Classical.not_not.mp (fun z => absurd ((haw.symm.trans hz)) (by rw [if_neg z]; decide))
    rw [e, if_neg (by rw [i2]; exact fun z => z h9)]
    exact ⟨rfl, frB_r b M, fun z => absurd rfl z⟩

def C_M_takeFirm : mj_C := (2, rk1, fun avs M => ma_rr avs fun b c => (rB b ∧ c = 59 ∧ qB 102 (M 59)), fun avs M r M' => ma_rr avs fun b c => (r = .inl (s_tk (rv M b) 102 (M 59)).1 ∧ frB b M M' ∧ (¬ (s_tk (rv M b) 102 (M 59)).1 = 0 → rv M' b = (s_tk (rv M b) 102 (M 59)).2)))
theorem rc_M_takeFirm : ∀ avs M, C_M_takeFirm.2.2.1 avs M → ∃ a r, avs = .inr a :: r ∧ mj_ob a = 2 := by
  intro avs M h
  obtain ⟨b, c, rfl, h⟩ := mc_rr h
  exact ⟨_, _, rfl, (rB_o h.1).1⟩
set_option maxRecDepth 20000 in
set_option maxHeartbeats 2000000 in
theorem t_M_takeFirm : mj_T yX2_takeFirm cX2_takeFirm 2 (some .boolean) 1 C_M_takeFirm := by
  refine mj_T_of (own := 2) (rk := 3) [(287, C_M_areWithin)] (by decide) rfl (by decide) ⟨rfl, rfl, rfl⟩ (List.forall_mem_cons.mpr ⟨mj_KS (own := 2) (nest := true) t_M_areWithin ⟨wc_X6_areWithin, wi_X6, by decide, wl_2_95⟩ wn_X6_areWithin (by decide +kernel) (by decide), (fun _ h => absurd h List.not_mem_nil)⟩) ?_
  intro avs M hlen hpre V hV
  obtain ⟨b, c, rfl, hp⟩ := mc_rr hpre
  show V 0 [some (.inr b), some (.inr c)] [] M
  have b_0 := hV h_X2_takeFirm_0; have b_15 := hV h_X2_takeFirm_15
  clear hlen hpre hV
  obtain ⟨hb, rfl, hq⟩ := hp
  obtain ⟨o0, o1, o2, o3⟩ := rB_o hb
  have haw := awF hq
  have e : s_tk (rv M b) 102 (M 59) = (1, upd (rv M b) 4 (M 59 0)) := rfl
  have hlh : s_lh 108 109 := by unfold s_lh; decide
  (refine b_0 _ _ _ ?_; simp only [k_X2_takeFirm_0, k_X2_takeFirm_15, xp_1, xp_2, xp_3, xp_4, xp_5, xp_6, xp_7, xp_10, xp_11, xp_12, xp_13, xp_14, xp_15, xp_16, xp_17, xp_18, xp_19, xp_20, xp_21, xp_22, xp_23, xp_30, xp_31, xp_32, xp_33, xp_34, xp_35, xp_36, xp_37, xp_38, xp_39, xp_40, xp_41, xp_42, xp_43, xp_50, xp_51, xp_52, xp_53, xp_60, xp_61, xp_62, xp_63, xp_64, xp_65, xp_70, xp_80, xp_81, xp_82, up_ne, up_s, ud_s, ud_o, xw_0, xw_1, xg_0, xg_1, xl_i, xl_r, xs_0, xs_1, xq_i, xq_r, xq_v, xc_0, xc_1, xt_0, xt_1, xr_0, xr_1, xr_2, xe_0, xe_1, ob_0, ob_18, ob_36, ob_54, ak_55, ln_55, cq_55, ak_56, ln_56, cq_56, ob_57, ak_58, ln_58, cq_58, ak_59, ln_59, cq_59, ob_60, ak_61, ln_61, cq_61, ak_62, ln_62, cq_62, ob_63, ak_64, ln_64, cq_64, ak_65, ln_65, cq_65, ak_66, ln_66, cq_66, ak_67, ln_67, cq_67, ak_68, ln_68, cq_68, ak_69, ln_69, cq_69, ak_70, ln_70, cq_70, ak_71, ln_71, cq_71, ak_72, ln_72, cq_72, ak_73, ln_73, cq_73, pt_54_0, pt_54_1, pt_57_0, pt_57_3, pt_60_0, pt_60_1, pt_60_2, pt_60_4, pt_60_5, pt_60_6, pt_60_8, pt_63_0, pt_63_1, pt_63_2, pt_63_3, pt_63_4, pt_63_6, pt_63_7, pt_63_10, pt_63_11, pt_63_17, true_and, and_true, List.length_cons, List.length_nil, Nat.reduceAdd, Nat.reduceLeDiff, forall_eq, ne_eq, Nat.reduceEqDiff, not_false_eq_true, or_false, false_or, or_true, true_or, reduceCtorEq, Nat.zero_le, Nat.reduceMul, Nat.add_zero, false_and, and_false, false_implies, true_implies, forall_const, implies_true, List.append_nil, List.nil_append, List.cons_append, mb_i, mb_ii, mb_iii, mb_r, mb_ri, mb_rii, mb_riii, mb_rr, mb_rri, mb_rrii, mb_rriii, mb_riiiii, mb_rrr, mb_rir, mb_iiii, mb_riiii, tn_0, tn_1, tn_2, tn_3, tn_4, tn_5, tn_6, tc_0, tc_1, tc_2, tc_3, tc_4, tc_5, tc_6, xf_0, xf_1, xf_2, Sum.inl.injEq, Sum.inr.injEq, C_M_areWithin, C_M_takeFirm, o0])
  refine ⟨hlh, fun hz => ?_, fun hz => absurd (haw.symm.trans hz) (by decide)⟩
  (refine b_15 _ _ _ ?_; simp only [k_X2_takeFirm_0, k_X2_takeFirm_15, xp_1, xp_2, xp_3, xp_4, xp_5, xp_6, xp_7, xp_10, xp_11, xp_12, xp_13, xp_14, xp_15, xp_16, xp_17, xp_18, xp_19, xp_20, xp_21, xp_22, xp_23, xp_30, xp_31, xp_32, xp_33, xp_34, xp_35, xp_36, xp_37, xp_38, xp_39, xp_40, xp_41, xp_42, xp_43, xp_50, xp_51, xp_52, xp_53, xp_60, xp_61, xp_62, xp_63, xp_64, xp_65, xp_70, xp_80, xp_81, xp_82, up_ne, up_s, ud_s, ud_o, xw_0, xw_1, xg_0, xg_1, xl_i, xl_r, xs_0, xs_1, xq_i, xq_r, xq_v, xc_0, xc_1, xt_0, xt_1, xr_0, xr_1, xr_2, xe_0, xe_1, ob_0, ob_18, ob_36, ob_54, ak_55, ln_55, cq_55, ak_56, ln_56, cq_56, ob_57, ak_58, ln_58, cq_58, ak_59, ln_59, cq_59, ob_60, ak_61, ln_61, cq_61, ak_62, ln_62, cq_62, ob_63, ak_64, ln_64, cq_64, ak_65, ln_65, cq_65, ak_66, ln_66, cq_66, ak_67, ln_67, cq_67, ak_68, ln_68, cq_68, ak_69, ln_69, cq_69, ak_70, ln_70, cq_70, ak_71, ln_71, cq_71, ak_72, ln_72, cq_72, ak_73, ln_73, cq_73, pt_54_0, pt_54_1, pt_57_0, pt_57_3, pt_60_0, pt_60_1, pt_60_2, pt_60_4, pt_60_5, pt_60_6, pt_60_8, pt_63_0, pt_63_1, pt_63_2, pt_63_3, pt_63_4, pt_63_6, pt_63_7, pt_63_10, pt_63_11, pt_63_17, true_and, and_true, List.length_cons, List.length_nil, Nat.reduceAdd, Nat.reduceLeDiff, forall_eq, ne_eq, Nat.reduceEqDiff, not_false_eq_true, or_false, false_or, or_true, true_or, reduceCtorEq, Nat.zero_le, Nat.reduceMul, Nat.add_zero, false_and, and_false, false_implies, true_implies, forall_const, implies_true, List.append_nil, List.nil_append, List.cons_append, mb_i, mb_ii, mb_iii, mb_r, mb_ri, mb_rii, mb_riii, mb_rr, mb_rri, mb_rrii, mb_rriii, mb_riiiii, mb_rrr, mb_rir, mb_iiii, mb_riiii, tn_0, tn_1, tn_2, tn_3, tn_4, tn_5, tn_6, tc_0, tc_1, tc_2, tc_3, tc_4, tc_5, tc_6, xf_0, xf_1, xf_2, Sum.inl.injEq, Sum.inr.injEq, C_M_areWithin, C_M_takeFirm, o0])
  rw [e]
  exact ⟨vi_0, rfl, frB_u (frB_r b M) (by omega), fun _ => rv_u7 (j := 4) (by omega)⟩

theorem tk_01 {r q : Nat → Int32} {c : Int32} : (s_tk r c q).1 = 0 ∨ (s_tk r c q).1 = 1 := by
  unfold s_tk
  repeat' split
  all_goals first | exact Or.inl rfl | exact Or.inr rfl | skip
def C_M_take : mj_C := (3, rk1, fun avs M => ma_rir avs fun b t c => (rB b ∧ c = 59 ∧ cB (rv M b) ∧ s_x1 t ∧ qB t (M 59)), fun avs M r M' => ma_rir avs fun b t c => (r = .inl (s_tk (rv M b) t (M 59)).1 ∧ frB b M M' ∧ (¬ (s_tk (rv M b) t (M 59)).1 = 0 → rv M' b = (s_tk (rv M b) t (M 59)).2)))
theorem rc_M_take : ∀ avs M, C_M_take.2.2.1 avs M → ∃ a r, avs = .inr a :: r ∧ mj_ob a = 2 := by
  intro avs M h
  obtain ⟨b, t, c, rfl, h⟩ := mc_rir h
  exact ⟨_, _, rfl, (rB_o h.1).1⟩
set_option maxRecDepth 20000 in
set_option maxHeartbeats 2000000 in
theorem t_M_take : mj_T yX2_take cX2_take 3 (some .boolean) 3 C_M_take := by
  refine mj_T_of (own := 2) (rk := 3) [(192, C_M_takeSleeper), (204, C_M_takeClock), (213, C_M_takeTask), (222, C_M_takeBus), (231, C_M_takeFirm)] (by decide) rfl (by decide) ⟨rfl, rfl, rfl⟩ (List.forall_mem_cons.mpr ⟨mj_KV (own := 2) (nest := false) t_M_takeSleeper ⟨wc_X2_takeSleeper, wi_X2, by decide, wl_2_64⟩ wn_X2_takeSleeper ws_X2_takeSleeper (c0 := 2) (by decide) rfl (by decide +kernel) rc_M_takeSleeper (by decide), (List.forall_mem_cons.mpr ⟨mj_KV (own := 2) (nest := false) t_M_takeClock ⟨wc_X2_takeClock, wi_X2, by decide, wl_2_68⟩ wn_X2_takeClock ws_X2_takeClock (c0 := 2) (by decide) rfl (by decide +kernel) rc_M_takeClock (by decide), (List.forall_mem_cons.mpr ⟨mj_KV (own := 2) (nest := false) t_M_takeTask ⟨wc_X2_takeTask, wi_X2, by decide, wl_2_71⟩ wn_X2_takeTask ws_X2_takeTask (c0 := 2) (by decide) rfl (by decide +kernel) rc_M_takeTask (by decide), (List.forall_mem_cons.mpr ⟨mj_KV (own := 2) (nest := false) t_M_takeBus ⟨wc_X2_takeBus, wi_X2, by decide, wl_2_74⟩ wn_X2_takeBus ws_X2_takeBus (c0 := 2) (by decide) rfl (by decide +kernel) rc_M_takeBus (by decide), (List.forall_mem_cons.mpr ⟨mj_KV (own := 2) (nest := false) t_M_takeFirm ⟨wc_X2_takeFirm, wi_X2, by decide, wl_2_77⟩ wn_X2_takeFirm ws_X2_takeFirm (c0 := 2) (by decide) rfl (by decide +kernel) rc_M_takeFirm (by decide), (fun _ h => absurd h List.not_mem_nil)⟩)⟩)⟩)⟩)⟩) ?_
  intro avs M hlen hpre V hV
  obtain ⟨b, t, c, rfl, hp⟩ := mc_rir hpre
  show V 0 [some (.inr b), some (.inl t), some (.inr c)] [] M
  have b_0 := hV h_X2_take_0; have b_52 := hV h_X2_take_52; have b_58 := hV h_X2_take_58; have b_64 := hV h_X2_take_64; have b_70 := hV h_X2_take_70; have b_76 := hV h_X2_take_76; have b_82 := hV h_X2_take_82
  clear hlen hpre hV
  obtain ⟨hb, rfl, hB, hx, hq⟩ := hp
  (refine b_0 _ _ _ ?_; simp only [k_X2_take_0, k_X2_take_52, k_X2_take_58, k_X2_take_64, k_X2_take_70, k_X2_take_76, k_X2_take_82, xp_1, xp_2, xp_3, xp_4, xp_5, xp_6, xp_7, xp_10, xp_11, xp_12, xp_13, xp_14, xp_15, xp_16, xp_17, xp_18, xp_19, xp_20, xp_21, xp_22, xp_23, xp_30, xp_31, xp_32, xp_33, xp_34, xp_35, xp_36, xp_37, xp_38, xp_39, xp_40, xp_41, xp_42, xp_43, xp_50, xp_51, xp_52, xp_53, xp_60, xp_61, xp_62, xp_63, xp_64, xp_65, xp_70, xp_80, xp_81, xp_82, up_ne, up_s, ud_s, ud_o, xw_0, xw_1, xg_0, xg_1, xl_i, xl_r, xs_0, xs_1, xq_i, xq_r, xq_v, xc_0, xc_1, xt_0, xt_1, xr_0, xr_1, xr_2, xe_0, xe_1, ob_0, ob_18, ob_36, ob_54, ak_55, ln_55, cq_55, ak_56, ln_56, cq_56, ob_57, ak_58, ln_58, cq_58, ak_59, ln_59, cq_59, ob_60, ak_61, ln_61, cq_61, ak_62, ln_62, cq_62, ob_63, ak_64, ln_64, cq_64, ak_65, ln_65, cq_65, ak_66, ln_66, cq_66, ak_67, ln_67, cq_67, ak_68, ln_68, cq_68, ak_69, ln_69, cq_69, ak_70, ln_70, cq_70, ak_71, ln_71, cq_71, ak_72, ln_72, cq_72, ak_73, ln_73, cq_73, pt_54_0, pt_54_1, pt_57_0, pt_57_3, pt_60_0, pt_60_1, pt_60_2, pt_60_4, pt_60_5, pt_60_6, pt_60_8, pt_63_0, pt_63_1, pt_63_2, pt_63_3, pt_63_4, pt_63_6, pt_63_7, pt_63_10, pt_63_11, pt_63_17, true_and, and_true, List.length_cons, List.length_nil, Nat.reduceAdd, Nat.reduceLeDiff, forall_eq, ne_eq, Nat.reduceEqDiff, not_false_eq_true, or_false, false_or, or_true, true_or, reduceCtorEq, Nat.zero_le, Nat.reduceMul, Nat.add_zero, false_and, and_false, false_implies, true_implies, forall_const, implies_true, List.append_nil, List.nil_append, List.cons_append, mb_i, mb_ii, mb_iii, mb_r, mb_ri, mb_rii, mb_riii, mb_rr, mb_rri, mb_rrii, mb_rriii, mb_riiiii, mb_rrr, mb_rir, mb_iiii, mb_riiii, tn_0, tn_1, tn_2, tn_3, tn_4, tn_5, tn_6, tc_0, tc_1, tc_2, tc_3, tc_4, tc_5, tc_6, xf_0, xf_1, xf_2, Sum.inl.injEq, Sum.inr.injEq, C_M_take, C_M_takeBus, C_M_takeClock, C_M_takeFirm, C_M_takeSleeper, C_M_takeTask])
  refine ⟨fun h => ?_, fun n98 => ⟨fun h => ?_, fun n99 => ⟨fun h => ?_, fun n102 => ⟨fun h => ?_, fun n115 => ⟨fun h => ?_, fun n116 => ?_⟩⟩⟩⟩⟩
  · subst h
    (refine b_70 _ _ _ ?_; simp only [k_X2_take_0, k_X2_take_52, k_X2_take_58, k_X2_take_64, k_X2_take_70, k_X2_take_76, k_X2_take_82, xp_1, xp_2, xp_3, xp_4, xp_5, xp_6, xp_7, xp_10, xp_11, xp_12, xp_13, xp_14, xp_15, xp_16, xp_17, xp_18, xp_19, xp_20, xp_21, xp_22, xp_23, xp_30, xp_31, xp_32, xp_33, xp_34, xp_35, xp_36, xp_37, xp_38, xp_39, xp_40, xp_41, xp_42, xp_43, xp_50, xp_51, xp_52, xp_53, xp_60, xp_61, xp_62, xp_63, xp_64, xp_65, xp_70, xp_80, xp_81, xp_82, up_ne, up_s, ud_s, ud_o, xw_0, xw_1, xg_0, xg_1, xl_i, xl_r, xs_0, xs_1, xq_i, xq_r, xq_v, xc_0, xc_1, xt_0, xt_1, xr_0, xr_1, xr_2, xe_0, xe_1, ob_0, ob_18, ob_36, ob_54, ak_55, ln_55, cq_55, ak_56, ln_56, cq_56, ob_57, ak_58, ln_58, cq_58, ak_59, ln_59, cq_59, ob_60, ak_61, ln_61, cq_61, ak_62, ln_62, cq_62, ob_63, ak_64, ln_64, cq_64, ak_65, ln_65, cq_65, ak_66, ln_66, cq_66, ak_67, ln_67, cq_67, ak_68, ln_68, cq_68, ak_69, ln_69, cq_69, ak_70, ln_70, cq_70, ak_71, ln_71, cq_71, ak_72, ln_72, cq_72, ak_73, ln_73, cq_73, pt_54_0, pt_54_1, pt_57_0, pt_57_3, pt_60_0, pt_60_1, pt_60_2, pt_60_4, pt_60_5, pt_60_6, pt_60_8, pt_63_0, pt_63_1, pt_63_2, pt_63_3, pt_63_4, pt_63_6, pt_63_7, pt_63_10, pt_63_11, pt_63_17, true_and, and_true, List.length_cons, List.length_nil, Nat.reduceAdd, Nat.reduceLeDiff, forall_eq, ne_eq, Nat.reduceEqDiff, not_false_eq_true, or_false, false_or, or_true, true_or, reduceCtorEq, Nat.zero_le, Nat.reduceMul, Nat.add_zero, false_and, and_false, false_implies, true_implies, forall_const, implies_true, List.append_nil, List.nil_append, List.cons_append, mb_i, mb_ii, mb_iii, mb_r, mb_ri, mb_rii, mb_riii, mb_rr, mb_rri, mb_rrii, mb_rriii, mb_riiiii, mb_rrr, mb_rir, mb_iiii, mb_riiii, tn_0, tn_1, tn_2, tn_3, tn_4, tn_5, tn_6, tc_0, tc_1, tc_2, tc_3, tc_4, tc_5, tc_6, xf_0, xf_1, xf_2, Sum.inl.injEq, Sum.inr.injEq, C_M_take, C_M_takeBus, C_M_takeClock, C_M_takeFirm, C_M_takeSleeper, C_M_takeTask])
    refine ⟨⟨hb, hq⟩, fun x M1 hx => ?_⟩
    rw [hx.1]
    exact ⟨tk_01, rfl, hx.2⟩
  · subst h
    (refine b_58 _ _ _ ?_; simp only [k_X2_take_0, k_X2_take_52, k_X2_take_58, k_X2_take_64, k_X2_take_70, k_X2_take_76, k_X2_take_82, xp_1, xp_2, xp_3, xp_4, xp_5, xp_6, xp_7, xp_10, xp_11, xp_12, xp_13, xp_14, xp_15, xp_16, xp_17, xp_18, xp_19, xp_20, xp_21, xp_22, xp_23, xp_30, xp_31, xp_32, xp_33, xp_34, xp_35, xp_36, xp_37, xp_38, xp_39, xp_40, xp_41, xp_42, xp_43, xp_50, xp_51, xp_52, xp_53, xp_60, xp_61, xp_62, xp_63, xp_64, xp_65, xp_70, xp_80, xp_81, xp_82, up_ne, up_s, ud_s, ud_o, xw_0, xw_1, xg_0, xg_1, xl_i, xl_r, xs_0, xs_1, xq_i, xq_r, xq_v, xc_0, xc_1, xt_0, xt_1, xr_0, xr_1, xr_2, xe_0, xe_1, ob_0, ob_18, ob_36, ob_54, ak_55, ln_55, cq_55, ak_56, ln_56, cq_56, ob_57, ak_58, ln_58, cq_58, ak_59, ln_59, cq_59, ob_60, ak_61, ln_61, cq_61, ak_62, ln_62, cq_62, ob_63, ak_64, ln_64, cq_64, ak_65, ln_65, cq_65, ak_66, ln_66, cq_66, ak_67, ln_67, cq_67, ak_68, ln_68, cq_68, ak_69, ln_69, cq_69, ak_70, ln_70, cq_70, ak_71, ln_71, cq_71, ak_72, ln_72, cq_72, ak_73, ln_73, cq_73, pt_54_0, pt_54_1, pt_57_0, pt_57_3, pt_60_0, pt_60_1, pt_60_2, pt_60_4, pt_60_5, pt_60_6, pt_60_8, pt_63_0, pt_63_1, pt_63_2, pt_63_3, pt_63_4, pt_63_6, pt_63_7, pt_63_10, pt_63_11, pt_63_17, true_and, and_true, List.length_cons, List.length_nil, Nat.reduceAdd, Nat.reduceLeDiff, forall_eq, ne_eq, Nat.reduceEqDiff, not_false_eq_true, or_false, false_or, or_true, true_or, reduceCtorEq, Nat.zero_le, Nat.reduceMul, Nat.add_zero, false_and, and_false, false_implies, true_implies, forall_const, implies_true, List.append_nil, List.nil_append, List.cons_append, mb_i, mb_ii, mb_iii, mb_r, mb_ri, mb_rii, mb_riii, mb_rr, mb_rri, mb_rrii, mb_rriii, mb_riiiii, mb_rrr, mb_rir, mb_iiii, mb_riiii, tn_0, tn_1, tn_2, tn_3, tn_4, tn_5, tn_6, tc_0, tc_1, tc_2, tc_3, tc_4, tc_5, tc_6, xf_0, xf_1, xf_2, Sum.inl.injEq, Sum.inr.injEq, C_M_take, C_M_takeBus, C_M_takeClock, C_M_takeFirm, C_M_takeSleeper, C_M_takeTask])
    refine ⟨⟨hb, hB.1, hB.2.1, hq⟩, fun x M1 hx => ?_⟩
    rw [hx.1]
    exact ⟨tk_01, rfl, hx.2⟩
  · subst h
    (refine b_76 _ _ _ ?_; simp only [k_X2_take_0, k_X2_take_52, k_X2_take_58, k_X2_take_64, k_X2_take_70, k_X2_take_76, k_X2_take_82, xp_1, xp_2, xp_3, xp_4, xp_5, xp_6, xp_7, xp_10, xp_11, xp_12, xp_13, xp_14, xp_15, xp_16, xp_17, xp_18, xp_19, xp_20, xp_21, xp_22, xp_23, xp_30, xp_31, xp_32, xp_33, xp_34, xp_35, xp_36, xp_37, xp_38, xp_39, xp_40, xp_41, xp_42, xp_43, xp_50, xp_51, xp_52, xp_53, xp_60, xp_61, xp_62, xp_63, xp_64, xp_65, xp_70, xp_80, xp_81, xp_82, up_ne, up_s, ud_s, ud_o, xw_0, xw_1, xg_0, xg_1, xl_i, xl_r, xs_0, xs_1, xq_i, xq_r, xq_v, xc_0, xc_1, xt_0, xt_1, xr_0, xr_1, xr_2, xe_0, xe_1, ob_0, ob_18, ob_36, ob_54, ak_55, ln_55, cq_55, ak_56, ln_56, cq_56, ob_57, ak_58, ln_58, cq_58, ak_59, ln_59, cq_59, ob_60, ak_61, ln_61, cq_61, ak_62, ln_62, cq_62, ob_63, ak_64, ln_64, cq_64, ak_65, ln_65, cq_65, ak_66, ln_66, cq_66, ak_67, ln_67, cq_67, ak_68, ln_68, cq_68, ak_69, ln_69, cq_69, ak_70, ln_70, cq_70, ak_71, ln_71, cq_71, ak_72, ln_72, cq_72, ak_73, ln_73, cq_73, pt_54_0, pt_54_1, pt_57_0, pt_57_3, pt_60_0, pt_60_1, pt_60_2, pt_60_4, pt_60_5, pt_60_6, pt_60_8, pt_63_0, pt_63_1, pt_63_2, pt_63_3, pt_63_4, pt_63_6, pt_63_7, pt_63_10, pt_63_11, pt_63_17, true_and, and_true, List.length_cons, List.length_nil, Nat.reduceAdd, Nat.reduceLeDiff, forall_eq, ne_eq, Nat.reduceEqDiff, not_false_eq_true, or_false, false_or, or_true, true_or, reduceCtorEq, Nat.zero_le, Nat.reduceMul, Nat.add_zero, false_and, and_false, false_implies, true_implies, forall_const, implies_true, List.append_nil, List.nil_append, List.cons_append, mb_i, mb_ii, mb_iii, mb_r, mb_ri, mb_rii, mb_riii, mb_rr, mb_rri, mb_rrii, mb_rriii, mb_riiiii, mb_rrr, mb_rir, mb_iiii, mb_riiii, tn_0, tn_1, tn_2, tn_3, tn_4, tn_5, tn_6, tc_0, tc_1, tc_2, tc_3, tc_4, tc_5, tc_6, xf_0, xf_1, xf_2, Sum.inl.injEq, Sum.inr.injEq, C_M_take, C_M_takeBus, C_M_takeClock, C_M_takeFirm, C_M_takeSleeper, C_M_takeTask])
    refine ⟨⟨hb, hq⟩, fun x M1 hx => ?_⟩
    rw [hx.1]
    exact ⟨tk_01, rfl, hx.2⟩
  · subst h
    (refine b_52 _ _ _ ?_; simp only [k_X2_take_0, k_X2_take_52, k_X2_take_58, k_X2_take_64, k_X2_take_70, k_X2_take_76, k_X2_take_82, xp_1, xp_2, xp_3, xp_4, xp_5, xp_6, xp_7, xp_10, xp_11, xp_12, xp_13, xp_14, xp_15, xp_16, xp_17, xp_18, xp_19, xp_20, xp_21, xp_22, xp_23, xp_30, xp_31, xp_32, xp_33, xp_34, xp_35, xp_36, xp_37, xp_38, xp_39, xp_40, xp_41, xp_42, xp_43, xp_50, xp_51, xp_52, xp_53, xp_60, xp_61, xp_62, xp_63, xp_64, xp_65, xp_70, xp_80, xp_81, xp_82, up_ne, up_s, ud_s, ud_o, xw_0, xw_1, xg_0, xg_1, xl_i, xl_r, xs_0, xs_1, xq_i, xq_r, xq_v, xc_0, xc_1, xt_0, xt_1, xr_0, xr_1, xr_2, xe_0, xe_1, ob_0, ob_18, ob_36, ob_54, ak_55, ln_55, cq_55, ak_56, ln_56, cq_56, ob_57, ak_58, ln_58, cq_58, ak_59, ln_59, cq_59, ob_60, ak_61, ln_61, cq_61, ak_62, ln_62, cq_62, ob_63, ak_64, ln_64, cq_64, ak_65, ln_65, cq_65, ak_66, ln_66, cq_66, ak_67, ln_67, cq_67, ak_68, ln_68, cq_68, ak_69, ln_69, cq_69, ak_70, ln_70, cq_70, ak_71, ln_71, cq_71, ak_72, ln_72, cq_72, ak_73, ln_73, cq_73, pt_54_0, pt_54_1, pt_57_0, pt_57_3, pt_60_0, pt_60_1, pt_60_2, pt_60_4, pt_60_5, pt_60_6, pt_60_8, pt_63_0, pt_63_1, pt_63_2, pt_63_3, pt_63_4, pt_63_6, pt_63_7, pt_63_10, pt_63_11, pt_63_17, true_and, and_true, List.length_cons, List.length_nil, Nat.reduceAdd, Nat.reduceLeDiff, forall_eq, ne_eq, Nat.reduceEqDiff, not_false_eq_true, or_false, false_or, or_true, true_or, reduceCtorEq, Nat.zero_le, Nat.reduceMul, Nat.add_zero, false_and, and_false, false_implies, true_implies, forall_const, implies_true, List.append_nil, List.nil_append, List.cons_append, mb_i, mb_ii, mb_iii, mb_r, mb_ri, mb_rii, mb_riii, mb_rr, mb_rri, mb_rrii, mb_rriii, mb_riiiii, mb_rrr, mb_rir, mb_iiii, mb_riiii, tn_0, tn_1, tn_2, tn_3, tn_4, tn_5, tn_6, tc_0, tc_1, tc_2, tc_3, tc_4, tc_5, tc_6, xf_0, xf_1, xf_2, Sum.inl.injEq, Sum.inr.injEq, C_M_take, C_M_takeBus, C_M_takeClock, C_M_takeFirm, C_M_takeSleeper, C_M_takeTask])
    refine ⟨⟨hb, hB.1, hq⟩, fun x M1 hx => ?_⟩
    rw [hx.1]
    exact ⟨tk_01, rfl, hx.2⟩
  · subst h
    (refine b_64 _ _ _ ?_; simp only [k_X2_take_0, k_X2_take_52, k_X2_take_58, k_X2_take_64, k_X2_take_70, k_X2_take_76, k_X2_take_82, xp_1, xp_2, xp_3, xp_4, xp_5, xp_6, xp_7, xp_10, xp_11, xp_12, xp_13, xp_14, xp_15, xp_16, xp_17, xp_18, xp_19, xp_20, xp_21, xp_22, xp_23, xp_30, xp_31, xp_32, xp_33, xp_34, xp_35, xp_36, xp_37, xp_38, xp_39, xp_40, xp_41, xp_42, xp_43, xp_50, xp_51, xp_52, xp_53, xp_60, xp_61, xp_62, xp_63, xp_64, xp_65, xp_70, xp_80, xp_81, xp_82, up_ne, up_s, ud_s, ud_o, xw_0, xw_1, xg_0, xg_1, xl_i, xl_r, xs_0, xs_1, xq_i, xq_r, xq_v, xc_0, xc_1, xt_0, xt_1, xr_0, xr_1, xr_2, xe_0, xe_1, ob_0, ob_18, ob_36, ob_54, ak_55, ln_55, cq_55, ak_56, ln_56, cq_56, ob_57, ak_58, ln_58, cq_58, ak_59, ln_59, cq_59, ob_60, ak_61, ln_61, cq_61, ak_62, ln_62, cq_62, ob_63, ak_64, ln_64, cq_64, ak_65, ln_65, cq_65, ak_66, ln_66, cq_66, ak_67, ln_67, cq_67, ak_68, ln_68, cq_68, ak_69, ln_69, cq_69, ak_70, ln_70, cq_70, ak_71, ln_71, cq_71, ak_72, ln_72, cq_72, ak_73, ln_73, cq_73, pt_54_0, pt_54_1, pt_57_0, pt_57_3, pt_60_0, pt_60_1, pt_60_2, pt_60_4, pt_60_5, pt_60_6, pt_60_8, pt_63_0, pt_63_1, pt_63_2, pt_63_3, pt_63_4, pt_63_6, pt_63_7, pt_63_10, pt_63_11, pt_63_17, true_and, and_true, List.length_cons, List.length_nil, Nat.reduceAdd, Nat.reduceLeDiff, forall_eq, ne_eq, Nat.reduceEqDiff, not_false_eq_true, or_false, false_or, or_true, true_or, reduceCtorEq, Nat.zero_le, Nat.reduceMul, Nat.add_zero, false_and, and_false, false_implies, true_implies, forall_const, implies_true, List.append_nil, List.nil_append, List.cons_append, mb_i, mb_ii, mb_iii, mb_r, mb_ri, mb_rii, mb_riii, mb_rr, mb_rri, mb_rrii, mb_rriii, mb_riiiii, mb_rrr, mb_rir, mb_iiii, mb_riiii, tn_0, tn_1, tn_2, tn_3, tn_4, tn_5, tn_6, tc_0, tc_1, tc_2, tc_3, tc_4, tc_5, tc_6, xf_0, xf_1, xf_2, Sum.inl.injEq, Sum.inr.injEq, C_M_take, C_M_takeBus, C_M_takeClock, C_M_takeFirm, C_M_takeSleeper, C_M_takeTask])
    refine ⟨⟨hb, hB.2.2, hq⟩, fun x M1 hx => ?_⟩
    rw [hx.1]
    exact ⟨tk_01, rfl, hx.2⟩
  · exfalso
    rcases hx with h | h | h | h | h
    · exact n115 h
    · exact n99 h
    · exact n116 h
    · exact n98 h
    · exact n102 h

