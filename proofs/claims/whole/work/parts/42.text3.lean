/-! the class reads a statement; what is read is in bounds -/
theorem oP_rp {T : Nat → Int32} {n b p : Int32} {k : Nat} {q : Nat → Int32} (h : dT T n) (h0 : 0 ≤ p.toInt) (hp : p.toInt ≤ n.toInt) (hb : ¬ b = -1) : oP n p (s_rp T n b p k q) := by
  unfold s_rp
  split
  · exact oP_k h h0 hp ks_sg
  · split
    · exact oP_k h h0 hp kc_sg
    · split
      · exact oP_n h h0 hp
      · split
        · exact oP_n h h0 hp
        · split
          · exact oP_n h h0 hp
          · split
            · exact oP_n h h0 hp
            · exact oP_s h h0 hp hb
def s_ci : List Int32 → Nat
  | [] => 0
  | b :: t => s_ri b + s_ci t
theorem ci_le : ∀ i, i < 8 → s_ci (mj_sb.getD i []) ≤ 6 := by decide
theorem ci_5 : ∀ i, i < 5 → s_ci (mj_sb.getD i []) ≤ 5 := by decide
theorem ri_01 (b : Int32) : s_ri b = 0 ∨ s_ri b = 1 := by
  unfold s_ri
  split
  · exact Or.inr rfl
  · split
    · exact Or.inr rfl
    · split
      · exact Or.inr rfl
      · split
        · exact Or.inr rfl
        · split
          · exact Or.inr rfl
          · split
            · exact Or.inr rfl
            · exact Or.inl rfl
theorem fi_x {c : Int32} : (s_x1 c → s_fi2 c < 5 ∧ ¬ mj_sN.getD (s_fi2 c) 0 = 0) ∧ (¬ s_x1 c → s_fi2 c = 5) ∧ s_fi2 c < 8 := by
  refine ⟨fun h => ?_, fun h => ?_, ?_⟩
  · rcases h with rfl | rfl | rfl | rfl | rfl <;> decide
  · unfold s_fi2
    rw [if_neg (fun z => h (Or.inl z)), if_neg (fun z => h (Or.inr (Or.inl z))), if_neg (fun z => h (Or.inr (Or.inr (Or.inl z)))), if_neg (fun z => h (Or.inr (Or.inr (Or.inr (Or.inl z))))), if_neg (fun z => h (Or.inr (Or.inr (Or.inr (Or.inr z)))))]
  · unfold s_fi2
    repeat' split
    all_goals decide
def C_M_readStatement5 : mj_C := (1, rk1, fun avs M => ma_r avs fun a => (a = 57 ∧ pT M), fun avs M r M' => ma_r avs fun a => (r = .inl (s_st (M 58) (M 57 1) (M 57 2) (M 59)).1 ∧ ∃ q' k', wT M M' (s_st (M 58) (M 57 1) (M 57 2) (M 59)).2.1 q' k' ∧ (¬ (s_st (M 58) (M 57 1) (M 57 2) (M 59)).1 = 0 → q' = (s_st (M 58) (M 57 1) (M 57 2) (M 59)).2.2)))
theorem rc_M_readStatement5 : ∀ avs M, C_M_readStatement5.2.2.1 avs M → ∃ a r, avs = .inr a :: r ∧ mj_ob a = 5 := by
  intro avs M h
  obtain ⟨a, rfl, h⟩ := mc_r h
  exact ⟨_, _, rfl, by rw [h.1]; rfl⟩
set_option maxRecDepth 20000 in
set_option maxHeartbeats 2000000 in
theorem t_M_readStatement5 : mj_T yX5_readStatement cX5_readStatement 3 (some .boolean) 6 C_M_readStatement5 := by
  refine mj_T_of (own := 5) (rk := 3) [(108, C_M_letterAt), (140, C_M_formOf), (150, C_J_isEmpty), (165, C_J_length), (174, C_J_charAt), (186, C_M_readPart)] (by decide) rfl (by decide) ⟨rfl, rfl, rfl⟩ (List.forall_mem_cons.mpr ⟨mj_KV (own := 5) (nest := false) t_M_letterAt ⟨wc_X5_letterAt, wi_X5, by decide, wl_5_36⟩ wn_X5_letterAt ws_X5_letterAt (c0 := 5) (by decide) rfl (by decide +kernel) rc_M_letterAt (by decide), (List.forall_mem_cons.mpr ⟨mj_KS (own := 5) (nest := false) t_M_formOf ⟨wc_X5_formOf, wi_X5, by decide, wl_5_46⟩ wn_X5_formOf (by decide +kernel) (by decide), (List.forall_mem_cons.mpr ⟨J_isEmpty_5_50, (List.forall_mem_cons.mpr ⟨J_length_5_55, (List.forall_mem_cons.mpr ⟨J_charAt_5_58, (List.forall_mem_cons.mpr ⟨mj_KV (own := 5) (nest := false) t_M_readPart ⟨wc_X5_readPart, wi_X5, by decide, wl_5_62⟩ wn_X5_readPart ws_X5_readPart (c0 := 5) (by decide) rfl (by decide +kernel) rc_M_readPart (by decide), (fun _ h => absurd h List.not_mem_nil)⟩)⟩)⟩)⟩)⟩)⟩) ?_
  intro avs M hlen hpre V hV
  obtain ⟨a, rfl, hp⟩ := mc_r hpre
  show V 0 [some (.inr a), none, none] [] M
  have b_0 := hV h_X5_readStatement_0; have b_21 := hV h_X5_readStatement_21; have b_38 := hV h_X5_readStatement_38; have b_60 := hV h_X5_readStatement_60; have b_66 := hV h_X5_readStatement_66
  clear hlen hpre hV
  obtain ⟨rfl, hpp⟩ := hp
  have hn96 := hpp.1.1.2
  have e1 : (1 : Int32).toInt = 1 := rfl
  obtain ⟨c, hc⟩ : ∃ c, c = s_sg (M 58) (M 57 1) (M 57 2) := ⟨_, rfl⟩
  obtain ⟨F, hF⟩ : ∃ F, F = s_fi2 c := ⟨_, rfl⟩
  have hfx := fi_x (c := c)
  rw [← hF] at hfx
  have eF : 200 + F - 200 = F := by omega
  obtain ⟨X, hX⟩ : ∃ X, X = s_st (M 58) (M 57 1) (M 57 2) (M 59) := ⟨_, rfl⟩
  have hN := sN_le F hfx.2.2
  have hsb := sb_ok F hfx.2.2
  have main : s_x1 c → V 21 [some (.inr 57), some (.inr (200 + F)), none] [] M := by
    intro h1
    obtain ⟨g1, g2⟩ := hfx.1 h1
    have hXe : X = s_fm (M 58) (M 57 1) (mj_sb.getD F []) (M 57 2 + 1) 0 (M 59) := by
      rw [hX, hF, fm_st h1]
      unfold s_st
      rw [← hc]
      rw [if_pos (show c = 115 ∨ c = 99 ∨ c = 116 ∨ c = 98 ∨ c = 102 from h1)]
    have hlt : M 57 2 < M 57 1 := sg_lt (T := M 58) (n := M 57 1) (by rw [← hc]; rcases h1 with rfl | rfl | rfl | rfl | rfl <;> decide)
    rw [ti_lt] at hlt
    have hp0 := hpp.2.1
    have ep : (M 57 2 + 1).toInt = (M 57 2).toInt + 1 := by rw [ti_add (by omega) (by omega), e1]
    have loop : ∀ (l : List Int32) (i kk : Nat) (p : Int32) (q : Nat → Int32) (M1 : mj_M), i + l.length = mj_sN.getD F 0 → (mj_sb.getD F []).drop i = l → wT M M1 p q (nI kk) → 0 ≤ p.toInt → p.toInt ≤ (M 57 1).toInt → kk + s_ci l ≤ 5 → s_fm (M 58) (M 57 1) l p kk q = X → V 38 [some (.inr 57), some (.inr (200 + F)), some (.inl (nI i))] [] M1 := by
      intro l
      induction l with
      | nil =>
        intro i kk p q M1 hi hdr hw h0 hpn hkk hfm
        have hi2 : i = mj_sN.getD F 0 := hi
        (refine b_38 _ _ _ ?_; simp only [k_X5_readStatement_0, k_X5_readStatement_21, k_X5_readStatement_38, k_X5_readStatement_60, k_X5_readStatement_66, xp_1, xp_2, xp_3, xp_4, xp_5, xp_6, xp_7, xp_10, xp_11, xp_12, xp_13, xp_14, xp_15, xp_16, xp_17, xp_18, xp_19, xp_20, xp_21, xp_22, xp_23, xp_30, xp_31, xp_32, xp_33, xp_34, xp_35, xp_36, xp_37, xp_38, xp_39, xp_40, xp_41, xp_42, xp_43, xp_50, xp_51, xp_52, xp_53, xp_60, xp_61, xp_62, xp_63, xp_64, xp_65, xp_70, xp_80, xp_81, xp_82, up_ne, up_s, ud_s, ud_o, xw_0, xw_1, xg_0, xg_1, xl_i, xl_r, xs_0, xs_1, xq_i, xq_r, xq_v, xc_0, xc_1, xt_0, xt_1, xr_0, xr_1, xr_2, xe_0, xe_1, ob_0, ob_18, ob_36, ob_54, ak_55, ln_55, cq_55, ak_56, ln_56, cq_56, ob_57, ak_58, ln_58, cq_58, ak_59, ln_59, cq_59, ob_60, ak_61, ln_61, cq_61, ak_62, ln_62, cq_62, ob_63, ak_64, ln_64, cq_64, ak_65, ln_65, cq_65, ak_66, ln_66, cq_66, ak_67, ln_67, cq_67, ak_68, ln_68, cq_68, ak_69, ln_69, cq_69, ak_70, ln_70, cq_70, ak_71, ln_71, cq_71, ak_72, ln_72, cq_72, ak_73, ln_73, cq_73, pt_54_0, pt_54_1, pt_57_0, pt_57_3, pt_60_0, pt_60_1, pt_60_2, pt_60_4, pt_60_5, pt_60_6, pt_60_8, pt_63_0, pt_63_1, pt_63_2, pt_63_3, pt_63_4, pt_63_6, pt_63_7, pt_63_10, pt_63_11, pt_63_17, true_and, and_true, List.length_cons, List.length_nil, Nat.reduceAdd, Nat.reduceLeDiff, forall_eq, ne_eq, Nat.reduceEqDiff, not_false_eq_true, or_false, false_or, or_true, true_or, reduceCtorEq, Nat.zero_le, Nat.reduceMul, Nat.add_zero, false_and, and_false, false_implies, true_implies, forall_const, implies_true, List.append_nil, List.nil_append, List.cons_append, mb_i, mb_ii, mb_iii, mb_r, mb_ri, mb_rii, mb_riii, mb_rr, mb_rri, mb_rrii, mb_rriii, mb_riiiii, mb_rrr, mb_rir, mb_iiii, mb_riiii, tn_0, tn_1, tn_2, tn_3, tn_4, tn_5, tn_6, tc_0, tc_1, tc_2, tc_3, tc_4, tc_5, tc_6, xf_0, xf_1, xf_2, Sum.inl.injEq, Sum.inr.injEq, C_J_charAt, C_J_isEmpty, C_J_length, C_M_formOf, C_M_letterAt, C_M_readPart, C_M_readStatement5, nI_1])
        rw [eF]
        refine ⟨⟨F, hfx.2.2, rfl⟩, fun _ => ?_, fun hlt => absurd hlt (by rw [hi2, ti_lt]; omega)⟩
        (refine b_66 _ _ _ ?_; simp only [k_X5_readStatement_0, k_X5_readStatement_21, k_X5_readStatement_38, k_X5_readStatement_60, k_X5_readStatement_66, xp_1, xp_2, xp_3, xp_4, xp_5, xp_6, xp_7, xp_10, xp_11, xp_12, xp_13, xp_14, xp_15, xp_16, xp_17, xp_18, xp_19, xp_20, xp_21, xp_22, xp_23, xp_30, xp_31, xp_32, xp_33, xp_34, xp_35, xp_36, xp_37, xp_38, xp_39, xp_40, xp_41, xp_42, xp_43, xp_50, xp_51, xp_52, xp_53, xp_60, xp_61, xp_62, xp_63, xp_64, xp_65, xp_70, xp_80, xp_81, xp_82, up_ne, up_s, ud_s, ud_o, xw_0, xw_1, xg_0, xg_1, xl_i, xl_r, xs_0, xs_1, xq_i, xq_r, xq_v, xc_0, xc_1, xt_0, xt_1, xr_0, xr_1, xr_2, xe_0, xe_1, ob_0, ob_18, ob_36, ob_54, ak_55, ln_55, cq_55, ak_56, ln_56, cq_56, ob_57, ak_58, ln_58, cq_58, ak_59, ln_59, cq_59, ob_60, ak_61, ln_61, cq_61, ak_62, ln_62, cq_62, ob_63, ak_64, ln_64, cq_64, ak_65, ln_65, cq_65, ak_66, ln_66, cq_66, ak_67, ln_67, cq_67, ak_68, ln_68, cq_68, ak_69, ln_69, cq_69, ak_70, ln_70, cq_70, ak_71, ln_71, cq_71, ak_72, ln_72, cq_72, ak_73, ln_73, cq_73, pt_54_0, pt_54_1, pt_57_0, pt_57_3, pt_60_0, pt_60_1, pt_60_2, pt_60_4, pt_60_5, pt_60_6, pt_60_8, pt_63_0, pt_63_1, pt_63_2, pt_63_3, pt_63_4, pt_63_6, pt_63_7, pt_63_10, pt_63_11, pt_63_17, true_and, and_true, List.length_cons, List.length_nil, Nat.reduceAdd, Nat.reduceLeDiff, forall_eq, ne_eq, Nat.reduceEqDiff, not_false_eq_true, or_false, false_or, or_true, true_or, reduceCtorEq, Nat.zero_le, Nat.reduceMul, Nat.add_zero, false_and, and_false, false_implies, true_implies, forall_const, implies_true, List.append_nil, List.nil_append, List.cons_append, mb_i, mb_ii, mb_iii, mb_r, mb_ri, mb_rii, mb_riii, mb_rr, mb_rri, mb_rrii, mb_rriii, mb_riiiii, mb_rrr, mb_rir, mb_iiii, mb_riiii, tn_0, tn_1, tn_2, tn_3, tn_4, tn_5, tn_6, tc_0, tc_1, tc_2, tc_3, tc_4, tc_5, tc_6, xf_0, xf_1, xf_2, Sum.inl.injEq, Sum.inr.injEq, C_J_charAt, C_J_isEmpty, C_J_length, C_M_formOf, C_M_letterAt, C_M_readPart, C_M_readStatement5, nI_1])
        rw [← hX, ← hfm]
        exact ⟨rfl, q, nI kk, hw, fun _ => rfl⟩
      | cons b t ih =>
        intro i kk p q M1 hi hdr hw h0 hpn hkk hfm
        have hi9 : i + (t.length + 1) = mj_sN.getD F 0 := hi
        have hi1 : i < (mj_sb.getD F []).length := by rw [hsb.1]; omega
        have hbv : sCh F (nI i) = b := by
          unfold sCh
          rw [show (nI i).toNatClampNeg = i from tn_nI (by omega), gd_at hi1]
          rw [List.drop_eq_getElem_cons hi1] at hdr
          exact (List.cons.inj hdr).1
        have ht : (mj_sb.getD F []).drop (i + 1) = t := by
          rw [List.drop_eq_getElem_cons hi1] at hdr
          exact (List.cons.inj hdr).2
        have hbm : b ∈ mj_sb.getD F [] := by
          have : b ∈ (mj_sb.getD F []).drop i := by rw [hdr]; exact List.mem_cons_self
          exact List.mem_of_mem_drop this
        have hb0 := sb_in F hfx.2.2 b hbm
        have hbn : ¬ b = -1 := fun z => by
          rw [z] at hb0
          exact absurd hb0.1 (by decide)
        have hp1 := pT_w hpp hw h0 hpn
        have eT := wT_T hw
        have en := wT_n hw
        have ek : M1 57 4 = nI kk := hw.2.2.1
        have e59 : M1 59 = q := hw.2.1
        have e2 : M1 57 2 = p := hw.1
        have etk : tn (nI kk) = kk := by
          have : kk ≤ 5 := by omega
          exact tn_nI (by omega)
        have hci : s_ci (b :: t) = s_ri b + s_ci t := rfl
        have hoP := oP_rp (k := kk) (q := q) hpp.1 h0 hpn hbn
        (refine b_38 _ _ _ ?_; simp only [k_X5_readStatement_0, k_X5_readStatement_21, k_X5_readStatement_38, k_X5_readStatement_60, k_X5_readStatement_66, xp_1, xp_2, xp_3, xp_4, xp_5, xp_6, xp_7, xp_10, xp_11, xp_12, xp_13, xp_14, xp_15, xp_16, xp_17, xp_18, xp_19, xp_20, xp_21, xp_22, xp_23, xp_30, xp_31, xp_32, xp_33, xp_34, xp_35, xp_36, xp_37, xp_38, xp_39, xp_40, xp_41, xp_42, xp_43, xp_50, xp_51, xp_52, xp_53, xp_60, xp_61, xp_62, xp_63, xp_64, xp_65, xp_70, xp_80, xp_81, xp_82, up_ne, up_s, ud_s, ud_o, xw_0, xw_1, xg_0, xg_1, xl_i, xl_r, xs_0, xs_1, xq_i, xq_r, xq_v, xc_0, xc_1, xt_0, xt_1, xr_0, xr_1, xr_2, xe_0, xe_1, ob_0, ob_18, ob_36, ob_54, ak_55, ln_55, cq_55, ak_56, ln_56, cq_56, ob_57, ak_58, ln_58, cq_58, ak_59, ln_59, cq_59, ob_60, ak_61, ln_61, cq_61, ak_62, ln_62, cq_62, ob_63, ak_64, ln_64, cq_64, ak_65, ln_65, cq_65, ak_66, ln_66, cq_66, ak_67, ln_67, cq_67, ak_68, ln_68, cq_68, ak_69, ln_69, cq_69, ak_70, ln_70, cq_70, ak_71, ln_71, cq_71, ak_72, ln_72, cq_72, ak_73, ln_73, cq_73, pt_54_0, pt_54_1, pt_57_0, pt_57_3, pt_60_0, pt_60_1, pt_60_2, pt_60_4, pt_60_5, pt_60_6, pt_60_8, pt_63_0, pt_63_1, pt_63_2, pt_63_3, pt_63_4, pt_63_6, pt_63_7, pt_63_10, pt_63_11, pt_63_17, true_and, and_true, List.length_cons, List.length_nil, Nat.reduceAdd, Nat.reduceLeDiff, forall_eq, ne_eq, Nat.reduceEqDiff, not_false_eq_true, or_false, false_or, or_true, true_or, reduceCtorEq, Nat.zero_le, Nat.reduceMul, Nat.add_zero, false_and, and_false, false_implies, true_implies, forall_const, implies_true, List.append_nil, List.nil_append, List.cons_append, mb_i, mb_ii, mb_iii, mb_r, mb_ri, mb_rii, mb_riii, mb_rr, mb_rri, mb_rrii, mb_rriii, mb_riiiii, mb_rrr, mb_rir, mb_iiii, mb_riiii, tn_0, tn_1, tn_2, tn_3, tn_4, tn_5, tn_6, tc_0, tc_1, tc_2, tc_3, tc_4, tc_5, tc_6, xf_0, xf_1, xf_2, Sum.inl.injEq, Sum.inr.injEq, C_J_charAt, C_J_isEmpty, C_J_length, C_M_formOf, C_M_letterAt, C_M_readPart, C_M_readStatement5, nI_1])
        rw [eF, hbv, eT, en, ek, e59, e2, etk]
        refine ⟨⟨F, hfx.2.2, rfl⟩, fun hge => absurd (by rw [ti_lt, ti_nI (by omega), ti_nI (by omega)]; omega) hge, fun _ => ⟨⟨F, hfx.2.2, rfl, vi_l (by omega) (by omega)⟩, ⟨hp1, fun hz => ?_⟩, fun x M2 hx => ?_⟩⟩
        · have := ri_01 b
          exact bd_n (by omega) (by omega)
        · obtain ⟨hx, q2, k2, hw2, hq2⟩ := hx
          have hw3 := wT_t hw hw2
          have hfm2 : s_th (s_rp (M 58) (M 57 1) b p kk q) (fun p q => s_fm (M 58) (M 57 1) t p (kk + s_ri b) q) = X := hfm
          unfold s_th at hfm2
          refine ⟨fun hne => ?_, fun he => ?_⟩
          · rw [hx] at hne
            rw [if_neg hne] at hfm2
            obtain ⟨hq3, hk3⟩ := hq2 hne
            have ek2 : nI kk + nI (s_ri b) = nI (kk + s_ri b) := by
              rcases ri_01 b with w | w
              · rw [w]; exact Int32.add_zero _
              · rw [w]; exact nI_1 kk
            rw [hq3, hk3, ek2] at hw3
            (refine b_60 _ _ _ ?_; simp only [k_X5_readStatement_0, k_X5_readStatement_21, k_X5_readStatement_38, k_X5_readStatement_60, k_X5_readStatement_66, xp_1, xp_2, xp_3, xp_4, xp_5, xp_6, xp_7, xp_10, xp_11, xp_12, xp_13, xp_14, xp_15, xp_16, xp_17, xp_18, xp_19, xp_20, xp_21, xp_22, xp_23, xp_30, xp_31, xp_32, xp_33, xp_34, xp_35, xp_36, xp_37, xp_38, xp_39, xp_40, xp_41, xp_42, xp_43, xp_50, xp_51, xp_52, xp_53, xp_60, xp_61, xp_62, xp_63, xp_64, xp_65, xp_70, xp_80, xp_81, xp_82, up_ne, up_s, ud_s, ud_o, xw_0, xw_1, xg_0, xg_1, xl_i, xl_r, xs_0, xs_1, xq_i, xq_r, xq_v, xc_0, xc_1, xt_0, xt_1, xr_0, xr_1, xr_2, xe_0, xe_1, ob_0, ob_18, ob_36, ob_54, ak_55, ln_55, cq_55, ak_56, ln_56, cq_56, ob_57, ak_58, ln_58, cq_58, ak_59, ln_59, cq_59, ob_60, ak_61, ln_61, cq_61, ak_62, ln_62, cq_62, ob_63, ak_64, ln_64, cq_64, ak_65, ln_65, cq_65, ak_66, ln_66, cq_66, ak_67, ln_67, cq_67, ak_68, ln_68, cq_68, ak_69, ln_69, cq_69, ak_70, ln_70, cq_70, ak_71, ln_71, cq_71, ak_72, ln_72, cq_72, ak_73, ln_73, cq_73, pt_54_0, pt_54_1, pt_57_0, pt_57_3, pt_60_0, pt_60_1, pt_60_2, pt_60_4, pt_60_5, pt_60_6, pt_60_8, pt_63_0, pt_63_1, pt_63_2, pt_63_3, pt_63_4, pt_63_6, pt_63_7, pt_63_10, pt_63_11, pt_63_17, true_and, and_true, List.length_cons, List.length_nil, Nat.reduceAdd, Nat.reduceLeDiff, forall_eq, ne_eq, Nat.reduceEqDiff, not_false_eq_true, or_false, false_or, or_true, true_or, reduceCtorEq, Nat.zero_le, Nat.reduceMul, Nat.add_zero, false_and, and_false, false_implies, true_implies, forall_const, implies_true, List.append_nil, List.nil_append, List.cons_append, mb_i, mb_ii, mb_iii, mb_r, mb_ri, mb_rii, mb_riii, mb_rr, mb_rri, mb_rrii, mb_rriii, mb_riiiii, mb_rrr, mb_rir, mb_iiii, mb_riiii, tn_0, tn_1, tn_2, tn_3, tn_4, tn_5, tn_6, tc_0, tc_1, tc_2, tc_3, tc_4, tc_5, tc_6, xf_0, xf_1, xf_2, Sum.inl.injEq, Sum.inr.injEq, C_J_charAt, C_J_isEmpty, C_J_length, C_M_formOf, C_M_letterAt, C_M_readPart, C_M_readStatement5, nI_1])
            exact ih (i + 1) (kk + s_ri b) _ _ M2 (by omega) ht hw3 (by have := hoP.1; omega) hoP.2 (by omega) hfm2
          · rw [hx] at he
            rw [if_pos he] at hfm2
            rw [← hX, ← hfm2]
            exact ⟨he.symm, q2, k2, hw3, fun z => absurd he z⟩
    (refine b_21 _ _ _ ?_; simp only [k_X5_readStatement_0, k_X5_readStatement_21, k_X5_readStatement_38, k_X5_readStatement_60, k_X5_readStatement_66, xp_1, xp_2, xp_3, xp_4, xp_5, xp_6, xp_7, xp_10, xp_11, xp_12, xp_13, xp_14, xp_15, xp_16, xp_17, xp_18, xp_19, xp_20, xp_21, xp_22, xp_23, xp_30, xp_31, xp_32, xp_33, xp_34, xp_35, xp_36, xp_37, xp_38, xp_39, xp_40, xp_41, xp_42, xp_43, xp_50, xp_51, xp_52, xp_53, xp_60, xp_61, xp_62, xp_63, xp_64, xp_65, xp_70, xp_80, xp_81, xp_82, up_ne, up_s, ud_s, ud_o, xw_0, xw_1, xg_0, xg_1, xl_i, xl_r, xs_0, xs_1, xq_i, xq_r, xq_v, xc_0, xc_1, xt_0, xt_1, xr_0, xr_1, xr_2, xe_0, xe_1, ob_0, ob_18, ob_36, ob_54, ak_55, ln_55, cq_55, ak_56, ln_56, cq_56, ob_57, ak_58, ln_58, cq_58, ak_59, ln_59, cq_59, ob_60, ak_61, ln_61, cq_61, ak_62, ln_62, cq_62, ob_63, ak_64, ln_64, cq_64, ak_65, ln_65, cq_65, ak_66, ln_66, cq_66, ak_67, ln_67, cq_67, ak_68, ln_68, cq_68, ak_69, ln_69, cq_69, ak_70, ln_70, cq_70, ak_71, ln_71, cq_71, ak_72, ln_72, cq_72, ak_73, ln_73, cq_73, pt_54_0, pt_54_1, pt_57_0, pt_57_3, pt_60_0, pt_60_1, pt_60_2, pt_60_4, pt_60_5, pt_60_6, pt_60_8, pt_63_0, pt_63_1, pt_63_2, pt_63_3, pt_63_4, pt_63_6, pt_63_7, pt_63_10, pt_63_11, pt_63_17, true_and, and_true, List.length_cons, List.length_nil, Nat.reduceAdd, Nat.reduceLeDiff, forall_eq, ne_eq, Nat.reduceEqDiff, not_false_eq_true, or_false, false_or, or_true, true_or, reduceCtorEq, Nat.zero_le, Nat.reduceMul, Nat.add_zero, false_and, and_false, false_implies, true_implies, forall_const, implies_true, List.append_nil, List.nil_append, List.cons_append, mb_i, mb_ii, mb_iii, mb_r, mb_ri, mb_rii, mb_riii, mb_rr, mb_rri, mb_rrii, mb_rriii, mb_riiiii, mb_rrr, mb_rir, mb_iiii, mb_riiii, tn_0, tn_1, tn_2, tn_3, tn_4, tn_5, tn_6, tc_0, tc_1, tc_2, tc_3, tc_4, tc_5, tc_6, xf_0, xf_1, xf_2, Sum.inl.injEq, Sum.inr.injEq, C_J_charAt, C_J_isEmpty, C_J_length, C_M_formOf, C_M_letterAt, C_M_readPart, C_M_readStatement5, nI_1])
    refine loop (mj_sb.getD F []) 0 0 (M 57 2 + 1) (M 59) _ (by rw [hsb.1]; omega) rfl (wT_4 (wT_2 (wT_r M) _) _) (by omega) (by omega) ?_ hXe.symm
    have := ci_5 F g1
    omega
  (refine b_0 _ _ _ ?_; simp only [k_X5_readStatement_0, k_X5_readStatement_21, k_X5_readStatement_38, k_X5_readStatement_60, k_X5_readStatement_66, xp_1, xp_2, xp_3, xp_4, xp_5, xp_6, xp_7, xp_10, xp_11, xp_12, xp_13, xp_14, xp_15, xp_16, xp_17, xp_18, xp_19, xp_20, xp_21, xp_22, xp_23, xp_30, xp_31, xp_32, xp_33, xp_34, xp_35, xp_36, xp_37, xp_38, xp_39, xp_40, xp_41, xp_42, xp_43, xp_50, xp_51, xp_52, xp_53, xp_60, xp_61, xp_62, xp_63, xp_64, xp_65, xp_70, xp_80, xp_81, xp_82, up_ne, up_s, ud_s, ud_o, xw_0, xw_1, xg_0, xg_1, xl_i, xl_r, xs_0, xs_1, xq_i, xq_r, xq_v, xc_0, xc_1, xt_0, xt_1, xr_0, xr_1, xr_2, xe_0, xe_1, ob_0, ob_18, ob_36, ob_54, ak_55, ln_55, cq_55, ak_56, ln_56, cq_56, ob_57, ak_58, ln_58, cq_58, ak_59, ln_59, cq_59, ob_60, ak_61, ln_61, cq_61, ak_62, ln_62, cq_62, ob_63, ak_64, ln_64, cq_64, ak_65, ln_65, cq_65, ak_66, ln_66, cq_66, ak_67, ln_67, cq_67, ak_68, ln_68, cq_68, ak_69, ln_69, cq_69, ak_70, ln_70, cq_70, ak_71, ln_71, cq_71, ak_72, ln_72, cq_72, ak_73, ln_73, cq_73, pt_54_0, pt_54_1, pt_57_0, pt_57_3, pt_60_0, pt_60_1, pt_60_2, pt_60_4, pt_60_5, pt_60_6, pt_60_8, pt_63_0, pt_63_1, pt_63_2, pt_63_3, pt_63_4, pt_63_6, pt_63_7, pt_63_10, pt_63_11, pt_63_17, true_and, and_true, List.length_cons, List.length_nil, Nat.reduceAdd, Nat.reduceLeDiff, forall_eq, ne_eq, Nat.reduceEqDiff, not_false_eq_true, or_false, false_or, or_true, true_or, reduceCtorEq, Nat.zero_le, Nat.reduceMul, Nat.add_zero, false_and, and_false, false_implies, true_implies, forall_const, implies_true, List.append_nil, List.nil_append, List.cons_append, mb_i, mb_ii, mb_iii, mb_r, mb_ri, mb_rii, mb_riii, mb_rr, mb_rri, mb_rrii, mb_rriii, mb_riiiii, mb_rrr, mb_rir, mb_iiii, mb_riiii, tn_0, tn_1, tn_2, tn_3, tn_4, tn_5, tn_6, tc_0, tc_1, tc_2, tc_3, tc_4, tc_5, tc_6, xf_0, xf_1, xf_2, Sum.inl.injEq, Sum.inr.injEq, C_J_charAt, C_J_isEmpty, C_J_length, C_M_formOf, C_M_letterAt, C_M_readPart, C_M_readStatement5, nI_1])
  rw [← hc, ← hF, eF]
  refine ⟨⟨hpp.1.1, hpp.2.1⟩, ⟨F, hfx.2.2, rfl⟩, fun hz => ?_, fun hz => ?_⟩
  · by_cases h1 : s_x1 c
    · exact main h1
    · rw [hfx.2.1 h1] at hz
      exact absurd hz (by decide)
  · by_cases h1 : s_x1 c
    · rw [if_neg (hfx.1 h1).2] at hz
      exact absurd hz (by decide)
    · have hXe : X = (0, M 57 2, M 59) := by
        rw [hX]
        unfold s_st
        rw [← hc, if_neg (show ¬ (c = 115 ∨ c = 99 ∨ c = 116 ∨ c = 98 ∨ c = 102) from h1)]
      rw [← hX, hXe]
      exact ⟨rfl, _, _, wT_r M, fun z => absurd rfl z⟩

/-! numbers read are in bounds -/
theorem th_ok {a : Int32 × Int32 × (Nat → Int32)} {f : Int32 → (Nat → Int32) → Int32 × Int32 × (Nat → Int32)} (h : ¬ (s_th a f).1 = 0) : ¬ a.1 = 0 ∧ s_th a f = f a.2.1 a.2.2 := by
  unfold s_th at h ⊢
  by_cases e : a.1 = 0
  · rw [if_pos e] at h
    exact absurd e h
  · rw [if_neg e]
    exact ⟨e, rfl⟩
theorem p10 : ∀ f : Nat, (1 : Int) ≤ 10 ^ f := by
  intro f
  induction f with
  | zero => decide
  | succ f ih =>
    rw [Int.pow_succ]
    omega
theorem nv_b {T : Nat → Int32} {n : Int32} (h : dT T n) : ∀ (f : Nat) (p v : Int32) (c : Nat) (B : Int), bd v 0 (B - 1) → B * 10 ^ f ≤ 100000 → bd (s_nv T n f p v c).2.1 0 (B * 10 ^ f - 1) := by
  intro f
  induction f with
  | zero =>
    intro p v c B hv hB
    have : B * 10 ^ 0 = B := by simp
    rw [this]
    exact hv
  | succ f ih =>
    intro p v c B hv hB
    have hpow : B * 10 ^ (f + 1) = (10 * B) * 10 ^ f := by
      rw [Int.pow_succ, Int.mul_comm 10 B, Int.mul_assoc, Int.mul_comm (10 ^ f) 10]
    have hv1 := hv.1
    have hv2 := hv.2
    have hp1 : (1 : Int) ≤ 10 ^ f := p10 f
    have hB0 : 0 ≤ B := by omega
    have hB1 : B ≤ B * 10 ^ f := by
      have := Int.mul_le_mul_of_nonneg_left hp1 hB0
      omega
    have hB2 : 10 * B ≤ (10 * B) * 10 ^ f := by
      have := Int.mul_le_mul_of_nonneg_left hp1 (show 0 ≤ 10 * B by omega)
      omega
    rw [s_nv]
    by_cases hd : s_in (s_sg T n p - 48) 10 = 0
    · rw [if_pos hd]
      refine ⟨hv1, ?_⟩
      show v.toInt ≤ _
      rw [hpow]
      omega
    · rw [if_neg hd, hpow]
      have hsg := sg_bd (p := p) h
      have hdg := s_in_dg hsg
      have g1 : ¬ s_sg T n p < 48 := fun z => hd (hdg.mpr (Or.inl z))
      have g2 : ¬ 57 < s_sg T n p := fun z => hd (hdg.mpr (Or.inr z))
      have z48 : (48 : Int32).toInt = 48 := rfl
      have z57 : (57 : Int32).toInt = 57 := rfl
      have z10 : (10 : Int32).toInt = 10 := rfl
      rw [ti_lt, z48] at g1
      rw [ti_lt, z57] at g2
      have hm : (10 * v).toInt = 10 * v.toInt := by rw [ti_mul (by rw [z10]; omega) (by rw [z10]; omega), z10]
      have ha : (10 * v + s_sg T n p).toInt = 10 * v.toInt + (s_sg T n p).toInt := by rw [ti_add (by omega) (by omega), hm]
      have hs : (10 * v + s_sg T n p - 48).toInt = 10 * v.toInt + (s_sg T n p).toInt - 48 := by rw [ti_sub (by omega) (by omega), ha, z48]
      exact ih (p + 1) _ (c + 1) (10 * B) ⟨by omega, by omega⟩ (by omega)
theorem pn_b {T : Nat → Int32} {n least p : Int32} {most k : Nat} {q : Nat → Int32} (h : dT T n) (hm : most ≤ 3) : ∃ v, (s_pn T n least most p k q).2.2 = upd q k v ∧ bd v 0 (10 ^ most - 1) := by
  refine ⟨_, rfl, ?_⟩
  have := nv_b h most p 0 0 1 ⟨by decide, by decide⟩ (by rcases (show most = 0 ∨ most = 1 ∨ most = 2 ∨ most = 3 by omega) with rfl | rfl | rfl | rfl <;> decide)
  rw [Int.one_mul] at this
  exact this
theorem pk_b {kind p : Int32} {k : Nat} {q : Nat → Int32} (h : ¬ (s_pk kind p k q).1 = 0) : ¬ kind < 0 ∧ (s_pk kind p k q).2.2 = upd q k kind := by
  unfold s_pk at h ⊢
  by_cases e : kind < 0
  · rw [if_pos e] at h
    exact absurd rfl h
  · rw [if_neg e]
    exact ⟨e, rfl⟩
theorem ps_b {T : Nat → Int32} {n c p : Int32} {q : Nat → Int32} : (s_ps T n c p q).2.2 = q := by
  unfold s_ps
  split <;> rfl
theorem ks_b {c : Int32} (h : ¬ s_ks c < 0) : bd (s_ks c) 0 5 := by
  have := (kk_ix (s := 206) (c := c) (Or.inl rfl))
  exact (this.2 (fun z => h (this.1.mp z))).2
theorem kc_b {c : Int32} (h : ¬ s_kc c < 0) : bd (s_kc c) 0 5 := by
  have := (kk_ix (s := 207) (c := c) (Or.inr rfl))
  exact (this.2 (fun z => h (this.1.mp z))).2
def qB (c : Int32) (q : Nat → Int32) : Prop := (c = 115 → bd (q 0) 0 5 ∧ bd (q 1) 0 99 ∧ bd (q 2) 0 99 ∧ bd (q 3) 0 99) ∧ (c = 99 → bd (q 0) 0 5 ∧ bd (q 1) 0 9 ∧ bd (q 2) 0 999 ∧ bd (q 3) 0 999 ∧ bd (q 4) 0 999) ∧ (c = 116 → bd (q 0) 0 99 ∧ bd (q 1) 0 99) ∧ (c = 98 → bd (q 0) 0 999) ∧ (c = 102 → bd (q 0) 0 99)
theorem st_q {T : Nat → Int32} {n p : Int32} {q : Nat → Int32} (hT : dT T n) (h : ¬ (s_st T n p q).1 = 0) : s_x1 (s_sg T n p) ∧ qB (s_sg T n p) (s_st T n p q).2.2 := by
  unfold s_st at h ⊢
  generalize s_sg T n p = c at h ⊢
  by_cases hx : c = 115 ∨ c = 99 ∨ c = 116 ∨ c = 98 ∨ c = 102
  · rw [if_pos hx] at h ⊢
    obtain ⟨h1, e1⟩ := th_ok h
    rw [e1, ps_b]
    refine ⟨hx, ?_⟩
    rcases hx with rfl | rfl | rfl | rfl | rfl
    · rw [xa_0] at h1 ⊢
      unfold s_xs at h1 ⊢
      obtain ⟨a1, b1⟩ := th_ok h1
      rw [b1] at h1 ⊢
      obtain ⟨c1, d1⟩ := pk_b a1
      rw [d1] at h1 ⊢
      obtain ⟨a2, b2⟩ := th_ok h1
      rw [b2] at h1 ⊢
      obtain ⟨v2, d2, u2⟩ := pn_b (least := 2) (most := 2) (p := (s_pk (s_ks (s_sg T n (p + 1))) (p + 1) 0 q).2.1) (k := 1) (q := upd q 0 (s_ks (s_sg T n (p + 1)))) hT (by omega)
      rw [d2] at h1 ⊢
      obtain ⟨a3, b3⟩ := th_ok h1
      rw [b3] at h1 ⊢
      rw [ps_b] at h1 ⊢
      obtain ⟨a4, b4⟩ := th_ok h1
      rw [b4] at h1 ⊢
      obtain ⟨v4, d4, u4⟩ := pn_b (T := T) (n := n) (least := 1) (most := 2) (p := _) (k := 2) (q := upd (upd q 0 (s_ks (s_sg T n (p + 1)))) 1 v2) hT (by omega)
      rw [d4] at h1 ⊢
      obtain ⟨a5, b5⟩ := th_ok h1
      rw [b5] at h1 ⊢
      rw [ps_b] at h1 ⊢
      obtain ⟨v6, d6, u6⟩ := pn_b (T := T) (n := n) (least := 1) (most := 2) (p := _) (k := 3) (q := upd (upd (upd q 0 (s_ks (s_sg T n (p + 1)))) 1 v2) 2 v4) hT (by omega)
      rw [d6]
      refine ⟨fun _ => ⟨?_, ?_, ?_, ?_⟩, fun z => absurd z (by decide), fun z => absurd z (by decide), fun z => absurd z (by decide), fun z => absurd z (by decide)⟩
      · rw [ud_o (by decide), ud_o (by decide), ud_o (by decide), ud_s]; exact ks_b c1
      · rw [ud_o (by decide), ud_o (by decide), ud_s]; exact u2
      · rw [ud_o (by decide), ud_s]; exact u4
      · rw [ud_s]; exact u6
    · rw [xa_1] at h1 ⊢
      unfold s_xc at h1 ⊢
      obtain ⟨a1, b1⟩ := th_ok h1
      rw [b1] at h1 ⊢
      obtain ⟨c1, d1⟩ := pk_b a1
      rw [d1] at h1 ⊢
      obtain ⟨a2, b2⟩ := th_ok h1
      rw [b2] at h1 ⊢
      obtain ⟨v2, d2, u2⟩ := pn_b (least := 1) (most := 1) (p := (s_pk (s_kc (s_sg T n (p + 1))) (p + 1) 0 q).2.1) (k := 1) (q := upd q 0 (s_kc (s_sg T n (p + 1)))) hT (by omega)
      rw [d2] at h1 ⊢
      obtain ⟨a3, b3⟩ := th_ok h1
      rw [b3] at h1 ⊢
      rw [ps_b] at h1 ⊢
      obtain ⟨a4, b4⟩ := th_ok h1
      rw [b4] at h1 ⊢
      obtain ⟨v4, d4, u4⟩ := pn_b (T := T) (n := n) (least := 1) (most := 3) (p := _) (k := 2) (q := upd (upd q 0 (s_kc (s_sg T n (p + 1)))) 1 v2) hT (by omega)
      rw [d4] at h1 ⊢
      obtain ⟨a5, b5⟩ := th_ok h1
      rw [b5] at h1 ⊢
      rw [ps_b] at h1 ⊢
      obtain ⟨a6, b6⟩ := th_ok h1
      rw [b6] at h1 ⊢
      obtain ⟨v6, d6, u6⟩ := pn_b (T := T) (n := n) (least := 1) (most := 3) (p := _) (k := 3) (q := upd (upd (upd q 0 (s_kc (s_sg T n (p + 1)))) 1 v2) 2 v4) hT (by omega)
      rw [d6] at h1 ⊢
      obtain ⟨a7, b7⟩ := th_ok h1
      rw [b7] at h1 ⊢
      rw [ps_b] at h1 ⊢
      obtain ⟨v8, d8, u8⟩ := pn_b (T := T) (n := n) (least := 1) (most := 3) (p := _) (k := 4) (q := upd (upd (upd (upd q 0 (s_kc (s_sg T n (p + 1)))) 1 v2) 2 v4) 3 v6) hT (by omega)
      rw [d8]
      refine ⟨fun z => absurd z (by decide), fun _ => ⟨?_, ?_, ?_, ?_, ?_⟩, fun z => absurd z (by decide), fun z => absurd z (by decide), fun z => absurd z (by decide)⟩
      · rw [ud_o (by decide), ud_o (by decide), ud_o (by decide), ud_o (by decide), ud_s]; exact kc_b c1
      · rw [ud_o (by decide), ud_o (by decide), ud_o (by decide), ud_s]; exact u2
      · rw [ud_o (by decide), ud_o (by decide), ud_s]; exact u4
      · rw [ud_o (by decide), ud_s]; exact u6
      · rw [ud_s]; exact u8
    · rw [xa_2] at h1 ⊢
      unfold s_xt at h1 ⊢
      obtain ⟨a1, b1⟩ := th_ok h1
      rw [b1] at h1 ⊢
      obtain ⟨v1, d1, u1⟩ := pn_b (T := T) (n := n) (least := 1) (most := 2) (p := p + 1) (k := 0) (q := q) hT (by omega)
      rw [d1] at h1 ⊢
      obtain ⟨a2, b2⟩ := th_ok h1
      rw [b2] at h1 ⊢
      rw [ps_b] at h1 ⊢
      obtain ⟨v2, d2, u2⟩ := pn_b (T := T) (n := n) (least := 1) (most := 2) (p := _) (k := 1) (q := upd q 0 v1) hT (by omega)
      rw [d2]
      refine ⟨fun z => absurd z (by decide), fun z => absurd z (by decide), fun _ => ⟨?_, ?_⟩, fun z => absurd z (by decide), fun z => absurd z (by decide)⟩
      · rw [ud_o (by decide), ud_s]; exact u1
      · rw [ud_s]; exact u2
    · rw [xa_3] at h1 ⊢
      obtain ⟨v1, d1, u1⟩ := pn_b (T := T) (n := n) (least := 1) (most := 3) (p := p + 1) (k := 0) (q := q) hT (by omega)
      rw [d1]
      refine ⟨fun z => absurd z (by decide), fun z => absurd z (by decide), fun z => absurd z (by decide), fun _ => ?_, fun z => absurd z (by decide)⟩
      rw [ud_s]; exact u1
    · rw [xa_4] at h1 ⊢
      obtain ⟨v1, d1, u1⟩ := pn_b (T := T) (n := n) (least := 1) (most := 2) (p := p + 1) (k := 0) (q := q) hT (by omega)
      rw [d1]
      refine ⟨fun z => absurd z (by decide), fun z => absurd z (by decide), fun z => absurd z (by decide), fun z => absurd z (by decide), fun _ => ?_⟩
      rw [ud_s]; exact u1
  · rw [if_neg hx] at h
    exact absurd rfl h
