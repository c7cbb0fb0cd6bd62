/-! the class tells a room; letter(), room() -/
/-- while a text is told into a room: all else stays -/
def frT (b : Nat) (M M1 : mj_M) : Prop := (∀ k, k ≠ 57 → k ≠ 59 → ¬ (b ≤ k ∧ k < b + 18) → M1 k = M k) ∧ ∀ j, j ≠ 2 → j ≠ 4 → M1 57 j = M 57 j
theorem frT_r (b : Nat) (M : mj_M) : frT b M M := ⟨fun _ _ _ _ => rfl, fun _ _ _ => rfl⟩
theorem frT_w {b : Nat} {M M1 M2 : mj_M} {p k : Int32} {q : Nat → Int32} (h : frT b M M1) (h2 : wT M1 M2 p q k) : frT b M M2 := ⟨fun c a1 a2 a3 => (h2.2.2.2.1 c a1 a2).trans (h.1 c a1 a2 a3), fun j a1 a2 => (h2.2.2.2.2 j a1 a2).trans (h.2 j a1 a2)⟩
theorem frT_b {b : Nat} {M M1 M2 : mj_M} (hb : b ≤ 36) (h : frT b M M1) (h2 : frB b M1 M2) : frT b M M2 := ⟨fun c a1 a2 a3 => (h2 c a3).trans (h.1 c a1 a2 a3), fun j a1 a2 => (congrFun (h2 57 (by omega)) j).trans (h.2 j a1 a2)⟩
theorem frT_2 {b : Nat} {M M1 : mj_M} (h : frT b M M1) (x : Int32) : frT b M (mj_up M1 57 2 x) := ⟨fun c a1 a2 a3 => (up_ne a1).trans (h.1 c a1 a2 a3), fun j a1 a2 => by rw [up_s, ud_o a1]; exact h.2 j a1 a2⟩
theorem r2_ge {T : Nat → Int32} {n : Int32} {f : Nat} {p : Int32} {r : Nat → Int32} (h : ¬ p < n) : s_r2 T n f p r = (1, 0, r) := by
  cases f with
  | zero => rfl
  | succ f => rw [s_r2, if_neg h]
def C_M_tellInto : mj_C := (2, rk1, fun avs M => ma_rr avs fun a b => (a = 57 ∧ rB b ∧ dT (M 58) (M 57 1) ∧ cB (rv M b)), fun avs M r M' => ma_rr avs fun a b => (r = .inl (s_rd (M 58) (M 57 1) (rv M b)).1 ∧ (0 < (s_rd (M 58) (M 57 1) (rv M b)).1 → rv M' b = (s_rd (M 58) (M 57 1) (rv M b)).2) ∧ frT b M M'))
theorem rc_M_tellInto : ∀ avs M, C_M_tellInto.2.2.1 avs M → ∃ a r, avs = .inr a :: r ∧ mj_ob a = 5 := by
  intro avs M h
  obtain ⟨a, b, rfl, h⟩ := mc_rr h
  exact ⟨_, _, rfl, by rw [h.1]; rfl⟩
set_option maxRecDepth 20000 in
set_option maxHeartbeats 2000000 in
theorem t_M_tellInto : mj_T yX5_tellInto cX5_tellInto 5 (some .int) 7 C_M_tellInto := by
  refine mj_T_of (own := 5) (rk := 1) [(99, C_M_readStatement5), (108, C_M_letterAt), (120, C_M_take)] (by decide) rfl (by decide) ⟨rfl, rfl⟩ (List.forall_mem_cons.mpr ⟨mj_KV (own := 5) (nest := false) t_M_readStatement5 ⟨wc_X5_readStatement, wi_X5, by decide, wl_5_33⟩ wn_X5_readStatement ws_X5_readStatement (c0 := 5) (by decide) rfl (by decide +kernel) rc_M_readStatement5 (by decide), (List.forall_mem_cons.mpr ⟨mj_KV (own := 5) (nest := false) t_M_letterAt ⟨wc_X5_letterAt, wi_X5, by decide, wl_5_36⟩ wn_X5_letterAt ws_X5_letterAt (c0 := 5) (by decide) rfl (by decide +kernel) rc_M_letterAt (by decide), (List.forall_mem_cons.mpr ⟨mj_KV (own := 5) (nest := true) t_M_take ⟨wc_X2_take, wi_X2, by decide, wl_5_40⟩ wn_X2_take ws_X2_take (c0 := 2) (by decide) rfl (by decide +kernel) rc_M_take (by decide), (fun _ h => absurd h List.not_mem_nil)⟩)⟩)⟩) ?_
  intro avs M hlen hpre V hV
  obtain ⟨a, b, rfl, hp⟩ := mc_rr hpre
  show V 0 [some (.inr a), some (.inr b), none, none, none] [] M
  have b_0 := hV h_X5_tellInto_0; have b_10 := hV h_X5_tellInto_10; have b_38 := hV h_X5_tellInto_38; have b_64 := hV h_X5_tellInto_64; have b_85 := hV h_X5_tellInto_85; have b_90 := hV h_X5_tellInto_90; have b_91 := hV h_X5_tellInto_91; have b_97 := hV h_X5_tellInto_97
  clear hlen hpre hV
  obtain ⟨rfl, hb, hT, hB⟩ := hp
  have hbl : b ≤ 36 := by rcases hb with rfl | rfl | rfl <;> omega
  have hn1 := hT.1.1
  have hn2 := hT.1.2
  have e1 : (1 : Int32).toInt = 1 := rfl
  have z0 : (0 : Int32).toInt = 0 := rfl
  have z9 : (-9 : Int32).toInt = -9 := rfl
  have z96 : (96 : Int32).toInt = 96 := rfl
  have z1k : (-1000 : Int32).toInt = -1000 := rfl
  have z2k : (-2000 : Int32).toInt = -2000 := rfl
  have loop : ∀ (f k : Nat) (M1 : mj_M) (w : Int32) (L4 : Option mj_V), frT b M M1 → 0 ≤ (M1 57 2).toInt → (M1 57 2).toInt ≤ (M 57 1).toInt → (M 57 1).toInt - (M1 57 2).toInt < f → (k : Int) ≤ (M1 57 2).toInt → (k = 0 ∨ M1 57 2 < M 57 1) → s_r1 (M 58) (M 57 1) f (M1 57 2) (nI k) = s_r1 (M 58) (M 57 1) 97 0 0 → ((w = -9 ∧ s_r2 (M 58) (M 57 1) f (M1 57 2) (rv M1 b) = s_r2 (M 58) (M 57 1) 97 0 (rv M b) ∧ cB (rv M1 b)) ∨ (¬ w = -9 ∧ bd w 0 96 ∧ (s_r2 (M 58) (M 57 1) 97 0 (rv M b)).1 = 0 ∧ (s_r2 (M 58) (M 57 1) 97 0 (rv M b)).2.1 = -2000 - w)) → V 10 [some (.inr 57), some (.inr b), some (.inl w), some (.inl (nI (k + 1))), L4] [] M1 := by
    intro f
    induction f with
    | zero =>
      intro k M1 w L4 hw h0 h1 hf
      omega
    | succ f ih =>
      intro k M1 w L4 hw h0 h1 hf hk hk2 hr1 hr2
      have e58 : M1 58 = M 58 := hw.1 58 (by decide) (by decide) (by omega)
      have en : M1 57 1 = M 57 1 := hw.2 1 (by decide) (by decide)
      have hp : pT M1 := ⟨by rw [e58, en]; exact hT, h0, by rw [en]; exact h1⟩
      obtain ⟨q1, q2, q3⟩ := eQ_st (T := M 58) (n := M 57 1) (p := M1 57 2) (q := M1 59) (q' := fun _ => 0)
      have st := st_p (T := M 58) (n := M 57 1) (p := M1 57 2) (q := fun _ => 0) hT h0 h1
      have hk96 : (k : Int) + 1 ≤ 96 := by
        rcases hk2 with h | h
        · omega
        · rw [ti_lt] at h
          omega
      rw [s_r1] at hr1
      (refine b_10 _ _ _ ?_; simp only [k_X5_tellInto_0, k_X5_tellInto_10, k_X5_tellInto_38, k_X5_tellInto_64, k_X5_tellInto_85, k_X5_tellInto_90, k_X5_tellInto_91, k_X5_tellInto_97, xp_1, xp_2, xp_3, xp_4, xp_5, xp_6, xp_7, xp_10, xp_11, xp_12, xp_13, xp_14, xp_15, xp_16, xp_17, xp_18, xp_19, xp_20, xp_21, xp_22, xp_23, xp_30, xp_31, xp_32, xp_33, xp_34, xp_35, xp_36, xp_37, xp_38, xp_39, xp_40, xp_41, xp_42, xp_43, xp_50, xp_51, xp_52, xp_53, xp_60, xp_61, xp_62, xp_63, xp_64, xp_65, xp_70, xp_80, xp_81, xp_82, up_ne, up_s, ud_s, ud_o, xw_0, xw_1, xg_0, xg_1, xl_i, xl_r, xs_0, xs_1, xq_i, xq_r, xq_v, xc_0, xc_1, xt_0, xt_1, xr_0, xr_1, xr_2, xe_0, xe_1, ob_0, ob_18, ob_36, ob_54, ak_55, ln_55, cq_55, ak_56, ln_56, cq_56, ob_57, ak_58, ln_58, cq_58, ak_59, ln_59, cq_59, ob_60, ak_61, ln_61, cq_61, ak_62, ln_62, cq_62, ob_63, ak_64, ln_64, cq_64, ak_65, ln_65, cq_65, ak_66, ln_66, cq_66, ak_67, ln_67, cq_67, ak_68, ln_68, cq_68, ak_69, ln_69, cq_69, ak_70, ln_70, cq_70, ak_71, ln_71, cq_71, ak_72, ln_72, cq_72, ak_73, ln_73, cq_73, pt_54_0, pt_54_1, pt_57_0, pt_57_3, pt_60_0, pt_60_1, pt_60_2, pt_60_4, pt_60_5, pt_60_6, pt_60_8, pt_63_0, pt_63_1, pt_63_2, pt_63_3, pt_63_4, pt_63_6, pt_63_7, pt_63_10, pt_63_11, pt_63_17, true_and, and_true, List.length_cons, List.length_nil, Nat.reduceAdd, Nat.reduceLeDiff, forall_eq, ne_eq, Nat.reduceEqDiff, not_false_eq_true, or_false, false_or, or_true, true_or, reduceCtorEq, Nat.zero_le, Nat.reduceMul, Nat.add_zero, false_and, and_false, false_implies, true_implies, forall_const, implies_true, List.append_nil, List.nil_append, List.cons_append, mb_i, mb_ii, mb_iii, mb_r, mb_ri, mb_rii, mb_riii, mb_rr, mb_rri, mb_rrii, mb_rriii, mb_riiiii, mb_rrr, mb_rir, mb_iiii, mb_riiii, tn_0, tn_1, tn_2, tn_3, tn_4, tn_5, tn_6, tc_0, tc_1, tc_2, tc_3, tc_4, tc_5, tc_6, xf_0, xf_1, xf_2, Sum.inl.injEq, Sum.inr.injEq, C_M_letterAt, C_M_readStatement5, C_M_take, C_M_tellInto, nI_1])
      rw [e58, en]
      refine ⟨fun hlt => absurd hlt (by rw [ti_lt, ti_nI (by omega), z96]; omega), fun _ => ⟨hp, fun x M2 hx => ?_⟩⟩
      obtain ⟨hx, q9, k9, hw2, hq9⟩ := hx
      have e2 : M2 57 2 = (s_st (M 58) (M 57 1) (M1 57 2) (fun _ => 0)).2.1 := hw2.1.trans q2
      have hwM2 := frT_w hw hw2
      refine ⟨fun hne => ?_, fun he => ?_⟩
      · rw [hx] at hne
        have hne0 : ¬ (s_st (M 58) (M 57 1) (M1 57 2) (fun _ => 0)).1 = 0 := by rw [← q1]; exact hne
        have hpr := st.2.resolve_left hne0
        rw [if_neg hne0] at hr1
        obtain ⟨hx1, hqB⟩ := st_q hT hne
        rw [← hq9 hne] at hqB
        have e59 : M2 59 = q9 := hw2.2.1
        have hlt : M1 57 2 < M 57 1 := by
          rw [ti_lt]
          have := st.1.2
          omega
        have erv : rv M2 b = rv M1 b := rv_e fun c hc => hw2.2.2.2.1 c (by omega) (by omega)
        have f58 : M2 58 = M 58 := hwM2.1 58 (by decide) (by decide) (by omega)
        have fn : M2 57 1 = M 57 1 := hwM2.2 1 (by decide) (by decide)
        -- behind the taking
        have h64 : ∀ (w2 : Int32) (M3 : mj_M) (L4 : Option mj_V), frT b M M3 → M3 57 2 = (s_st (M 58) (M 57 1) (M1 57 2) (fun _ => 0)).2.1 → ((w2 = -9 ∧ s_r2 (M 58) (M 57 1) f (M3 57 2) (rv M3 b) = s_r2 (M 58) (M 57 1) 97 0 (rv M b) ∧ cB (rv M3 b)) ∨ (¬ w2 = -9 ∧ bd w2 0 96 ∧ (s_r2 (M 58) (M 57 1) 97 0 (rv M b)).1 = 0 ∧ (s_r2 (M 58) (M 57 1) 97 0 (rv M b)).2.1 = -2000 - w2)) → V 64 [some (.inr 57), some (.inr b), some (.inl w2), some (.inl (nI (k + 1))), L4] [] M3 := by
          intro w2 M3 L4 hw3 e23 hr3
          have g1 : M3 57 1 = M 57 1 := hw3.2 1 (by decide) (by decide)
          (refine b_64 _ _ _ ?_; simp only [k_X5_tellInto_0, k_X5_tellInto_10, k_X5_tellInto_38, k_X5_tellInto_64, k_X5_tellInto_85, k_X5_tellInto_90, k_X5_tellInto_91, k_X5_tellInto_97, xp_1, xp_2, xp_3, xp_4, xp_5, xp_6, xp_7, xp_10, xp_11, xp_12, xp_13, xp_14, xp_15, xp_16, xp_17, xp_18, xp_19, xp_20, xp_21, xp_22, xp_23, xp_30, xp_31, xp_32, xp_33, xp_34, xp_35, xp_36, xp_37, xp_38, xp_39, xp_40, xp_41, xp_42, xp_43, xp_50, xp_51, xp_52, xp_53, xp_60, xp_61, xp_62, xp_63, xp_64, xp_65, xp_70, xp_80, xp_81, xp_82, up_ne, up_s, ud_s, ud_o, xw_0, xw_1, xg_0, xg_1, xl_i, xl_r, xs_0, xs_1, xq_i, xq_r, xq_v, xc_0, xc_1, xt_0, xt_1, xr_0, xr_1, xr_2, xe_0, xe_1, ob_0, ob_18, ob_36, ob_54, ak_55, ln_55, cq_55, ak_56, ln_56, cq_56, ob_57, ak_58, ln_58, cq_58, ak_59, ln_59, cq_59, ob_60, ak_61, ln_61, cq_61, ak_62, ln_62, cq_62, ob_63, ak_64, ln_64, cq_64, ak_65, ln_65, cq_65, ak_66, ln_66, cq_66, ak_67, ln_67, cq_67, ak_68, ln_68, cq_68, ak_69, ln_69, cq_69, ak_70, ln_70, cq_70, ak_71, ln_71, cq_71, ak_72, ln_72, cq_72, ak_73, ln_73, cq_73, pt_54_0, pt_54_1, pt_57_0, pt_57_3, pt_60_0, pt_60_1, pt_60_2, pt_60_4, pt_60_5, pt_60_6, pt_60_8, pt_63_0, pt_63_1, pt_63_2, pt_63_3, pt_63_4, pt_63_6, pt_63_7, pt_63_10, pt_63_11, pt_63_17, true_and, and_true, List.length_cons, List.length_nil, Nat.reduceAdd, Nat.reduceLeDiff, forall_eq, ne_eq, Nat.reduceEqDiff, not_false_eq_true, or_false, false_or, or_true, true_or, reduceCtorEq, Nat.zero_le, Nat.reduceMul, Nat.add_zero, false_and, and_false, false_implies, true_implies, forall_const, implies_true, List.append_nil, List.nil_append, List.cons_append, mb_i, mb_ii, mb_iii, mb_r, mb_ri, mb_rii, mb_riii, mb_rr, mb_rri, mb_rrii, mb_rriii, mb_riiiii, mb_rrr, mb_rir, mb_iiii, mb_riiii, tn_0, tn_1, tn_2, tn_3, tn_4, tn_5, tn_6, tc_0, tc_1, tc_2, tc_3, tc_4, tc_5, tc_6, xf_0, xf_1, xf_2, Sum.inl.injEq, Sum.inr.injEq, C_M_letterAt, C_M_readStatement5, C_M_take, C_M_tellInto, nI_1])
          rw [g1, e23]
          refine ⟨fun hlt2 => ?_, fun hge => ?_⟩
          · rw [if_pos hlt2] at hr1
            (refine b_91 _ _ _ ?_; simp only [k_X5_tellInto_0, k_X5_tellInto_10, k_X5_tellInto_38, k_X5_tellInto_64, k_X5_tellInto_85, k_X5_tellInto_90, k_X5_tellInto_91, k_X5_tellInto_97, xp_1, xp_2, xp_3, xp_4, xp_5, xp_6, xp_7, xp_10, xp_11, xp_12, xp_13, xp_14, xp_15, xp_16, xp_17, xp_18, xp_19, xp_20, xp_21, xp_22, xp_23, xp_30, xp_31, xp_32, xp_33, xp_34, xp_35, xp_36, xp_37, xp_38, xp_39, xp_40, xp_41, xp_42, xp_43, xp_50, xp_51, xp_52, xp_53, xp_60, xp_61, xp_62, xp_63, xp_64, xp_65, xp_70, xp_80, xp_81, xp_82, up_ne, up_s, ud_s, ud_o, xw_0, xw_1, xg_0, xg_1, xl_i, xl_r, xs_0, xs_1, xq_i, xq_r, xq_v, xc_0, xc_1, xt_0, xt_1, xr_0, xr_1, xr_2, xe_0, xe_1, ob_0, ob_18, ob_36, ob_54, ak_55, ln_55, cq_55, ak_56, ln_56, cq_56, ob_57, ak_58, ln_58, cq_58, ak_59, ln_59, cq_59, ob_60, ak_61, ln_61, cq_61, ak_62, ln_62, cq_62, ob_63, ak_64, ln_64, cq_64, ak_65, ln_65, cq_65, ak_66, ln_66, cq_66, ak_67, ln_67, cq_67, ak_68, ln_68, cq_68, ak_69, ln_69, cq_69, ak_70, ln_70, cq_70, ak_71, ln_71, cq_71, ak_72, ln_72, cq_72, ak_73, ln_73, cq_73, pt_54_0, pt_54_1, pt_57_0, pt_57_3, pt_60_0, pt_60_1, pt_60_2, pt_60_4, pt_60_5, pt_60_6, pt_60_8, pt_63_0, pt_63_1, pt_63_2, pt_63_3, pt_63_4, pt_63_6, pt_63_7, pt_63_10, pt_63_11, pt_63_17, true_and, and_true, List.length_cons, List.length_nil, Nat.reduceAdd, Nat.reduceLeDiff, forall_eq, ne_eq, Nat.reduceEqDiff, not_false_eq_true, or_false, false_or, or_true, true_or, reduceCtorEq, Nat.zero_le, Nat.reduceMul, Nat.add_zero, false_and, and_false, false_implies, true_implies, forall_const, implies_true, List.append_nil, List.nil_append, List.cons_append, mb_i, mb_ii, mb_iii, mb_r, mb_ri, mb_rii, mb_riii, mb_rr, mb_rri, mb_rrii, mb_rriii, mb_riiiii, mb_rrr, mb_rir, mb_iiii, mb_riiii, tn_0, tn_1, tn_2, tn_3, tn_4, tn_5, tn_6, tc_0, tc_1, tc_2, tc_3, tc_4, tc_5, tc_6, xf_0, xf_1, xf_2, Sum.inl.injEq, Sum.inr.injEq, C_M_letterAt, C_M_readStatement5, C_M_take, C_M_tellInto, nI_1])
            rw [show nI k + 1 = nI (k + 1) from nI_1 k] at hr1
            exact ih (k + 1) M3 w2 _ hw3 (by rw [e23]; omega) (by rw [e23]; exact st.1.2) (by rw [e23]; omega) (by rw [e23]; omega) (Or.inr (by rw [e23]; exact hlt2)) (by rw [e23]; exact hr1) hr3
          · rw [if_neg hge, show nI k + 1 = nI (k + 1) from nI_1 k] at hr1
            have h90 : ∀ x : Int32, x = (s_rd (M 58) (M 57 1) (rv M b)).1 → (0 < (s_rd (M 58) (M 57 1) (rv M b)).1 → rv M3 b = (s_rd (M 58) (M 57 1) (rv M b)).2) → V 90 [some (.inr 57), some (.inr b), some (.inl w2), some (.inl (nI (k + 1))), L4] [.inl x] M3 := by
              intro x hx hr
              (refine b_90 _ _ _ ?_; simp only [k_X5_tellInto_0, k_X5_tellInto_10, k_X5_tellInto_38, k_X5_tellInto_64, k_X5_tellInto_85, k_X5_tellInto_90, k_X5_tellInto_91, k_X5_tellInto_97, xp_1, xp_2, xp_3, xp_4, xp_5, xp_6, xp_7, xp_10, xp_11, xp_12, xp_13, xp_14, xp_15, xp_16, xp_17, xp_18, xp_19, xp_20, xp_21, xp_22, xp_23, xp_30, xp_31, xp_32, xp_33, xp_34, xp_35, xp_36, xp_37, xp_38, xp_39, xp_40, xp_41, xp_42, xp_43, xp_50, xp_51, xp_52, xp_53, xp_60, xp_61, xp_62, xp_63, xp_64, xp_65, xp_70, xp_80, xp_81, xp_82, up_ne, up_s, ud_s, ud_o, xw_0, xw_1, xg_0, xg_1, xl_i, xl_r, xs_0, xs_1, xq_i, xq_r, xq_v, xc_0, xc_1, xt_0, xt_1, xr_0, xr_1, xr_2, xe_0, xe_1, ob_0, ob_18, ob_36, ob_54, ak_55, ln_55, cq_55, ak_56, ln_56, cq_56, ob_57, ak_58, ln_58, cq_58, ak_59, ln_59, cq_59, ob_60, ak_61, ln_61, cq_61, ak_62, ln_62, cq_62, ob_63, ak_64, ln_64, cq_64, ak_65, ln_65, cq_65, ak_66, ln_66, cq_66, ak_67, ln_67, cq_67, ak_68, ln_68, cq_68, ak_69, ln_69, cq_69, ak_70, ln_70, cq_70, ak_71, ln_71, cq_71, ak_72, ln_72, cq_72, ak_73, ln_73, cq_73, pt_54_0, pt_54_1, pt_57_0, pt_57_3, pt_60_0, pt_60_1, pt_60_2, pt_60_4, pt_60_5, pt_60_6, pt_60_8, pt_63_0, pt_63_1, pt_63_2, pt_63_3, pt_63_4, pt_63_6, pt_63_7, pt_63_10, pt_63_11, pt_63_17, true_and, and_true, List.length_cons, List.length_nil, Nat.reduceAdd, Nat.reduceLeDiff, forall_eq, ne_eq, Nat.reduceEqDiff, not_false_eq_true, or_false, false_or, or_true, true_or, reduceCtorEq, Nat.zero_le, Nat.reduceMul, Nat.add_zero, false_and, and_false, false_implies, true_implies, forall_const, implies_true, List.append_nil, List.nil_append, List.cons_append, mb_i, mb_ii, mb_iii, mb_r, mb_ri, mb_rii, mb_riii, mb_rr, mb_rri, mb_rrii, mb_rriii, mb_riiiii, mb_rrr, mb_rir, mb_iiii, mb_riiii, tn_0, tn_1, tn_2, tn_3, tn_4, tn_5, tn_6, tc_0, tc_1, tc_2, tc_3, tc_4, tc_5, tc_6, xf_0, xf_1, xf_2, Sum.inl.injEq, Sum.inr.injEq, C_M_letterAt, C_M_readStatement5, C_M_take, C_M_tellInto, nI_1])
              exact ⟨hx, hr, hw3⟩
            rcases hr3 with ⟨rfl, hr4, hr5⟩ | ⟨hw9, hwb, hr4, hr5⟩
            · rw [e23, r2_ge hge] at hr4
              have z : s_rd (M 58) (M 57 1) (rv M b) = (nI (k + 1), rv M3 b) := by
                unfold s_rd
                rw [← hr1, ← hr4]
                rfl
              refine ⟨fun h => absurd rfl h, fun _ => h90 _ (by rw [z]) (fun _ => by rw [z])⟩
            · have z : s_rd (M 58) (M 57 1) (rv M b) = (-2000 - w2, rv M b) := by
                unfold s_rd
                rw [← hr1, hr4, hr5]
                rfl
              refine ⟨fun _ => ?_, fun h => absurd h hw9⟩
              (refine b_85 _ _ _ ?_; simp only [k_X5_tellInto_0, k_X5_tellInto_10, k_X5_tellInto_38, k_X5_tellInto_64, k_X5_tellInto_85, k_X5_tellInto_90, k_X5_tellInto_91, k_X5_tellInto_97, xp_1, xp_2, xp_3, xp_4, xp_5, xp_6, xp_7, xp_10, xp_11, xp_12, xp_13, xp_14, xp_15, xp_16, xp_17, xp_18, xp_19, xp_20, xp_21, xp_22, xp_23, xp_30, xp_31, xp_32, xp_33, xp_34, xp_35, xp_36, xp_37, xp_38, xp_39, xp_40, xp_41, xp_42, xp_43, xp_50, xp_51, xp_52, xp_53, xp_60, xp_61, xp_62, xp_63, xp_64, xp_65, xp_70, xp_80, xp_81, xp_82, up_ne, up_s, ud_s, ud_o, xw_0, xw_1, xg_0, xg_1, xl_i, xl_r, xs_0, xs_1, xq_i, xq_r, xq_v, xc_0, xc_1, xt_0, xt_1, xr_0, xr_1, xr_2, xe_0, xe_1, ob_0, ob_18, ob_36, ob_54, ak_55, ln_55, cq_55, ak_56, ln_56, cq_56, ob_57, ak_58, ln_58, cq_58, ak_59, ln_59, cq_59, ob_60, ak_61, ln_61, cq_61, ak_62, ln_62, cq_62, ob_63, ak_64, ln_64, cq_64, ak_65, ln_65, cq_65, ak_66, ln_66, cq_66, ak_67, ln_67, cq_67, ak_68, ln_68, cq_68, ak_69, ln_69, cq_69, ak_70, ln_70, cq_70, ak_71, ln_71, cq_71, ak_72, ln_72, cq_72, ak_73, ln_73, cq_73, pt_54_0, pt_54_1, pt_57_0, pt_57_3, pt_60_0, pt_60_1, pt_60_2, pt_60_4, pt_60_5, pt_60_6, pt_60_8, pt_63_0, pt_63_1, pt_63_2, pt_63_3, pt_63_4, pt_63_6, pt_63_7, pt_63_10, pt_63_11, pt_63_17, true_and, and_true, List.length_cons, List.length_nil, Nat.reduceAdd, Nat.reduceLeDiff, forall_eq, ne_eq, Nat.reduceEqDiff, not_false_eq_true, or_false, false_or, or_true, true_or, reduceCtorEq, Nat.zero_le, Nat.reduceMul, Nat.add_zero, false_and, and_false, false_implies, true_implies, forall_const, implies_true, List.append_nil, List.nil_append, List.cons_append, mb_i, mb_ii, mb_iii, mb_r, mb_ri, mb_rii, mb_riii, mb_rr, mb_rri, mb_rrii, mb_rriii, mb_riiiii, mb_rrr, mb_rir, mb_iiii, mb_riiii, tn_0, tn_1, tn_2, tn_3, tn_4, tn_5, tn_6, tc_0, tc_1, tc_2, tc_3, tc_4, tc_5, tc_6, xf_0, xf_1, xf_2, Sum.inl.injEq, Sum.inr.injEq, C_M_letterAt, C_M_readStatement5, C_M_take, C_M_tellInto, nI_1])
              refine h90 _ (by rw [z]) (fun h => ?_)
              rw [z] at h
              exfalso
              have hb1 := hwb.1
              have hb2 := hwb.2
              have h9 : (0 : Int32).toInt < (-2000 - w2).toInt := ti_lt.mp h
              rw [ti_sub (by omega) (by omega), z0] at h9
              omega
        have h38 : V 38 [some (.inr 57), some (.inr b), some (.inl w), some (.inl (nI (k + 1))), some (.inl (M1 57 2))] [] M2 := by
          (refine b_38 _ _ _ ?_; simp only [k_X5_tellInto_0, k_X5_tellInto_10, k_X5_tellInto_38, k_X5_tellInto_64, k_X5_tellInto_85, k_X5_tellInto_90, k_X5_tellInto_91, k_X5_tellInto_97, xp_1, xp_2, xp_3, xp_4, xp_5, xp_6, xp_7, xp_10, xp_11, xp_12, xp_13, xp_14, xp_15, xp_16, xp_17, xp_18, xp_19, xp_20, xp_21, xp_22, xp_23, xp_30, xp_31, xp_32, xp_33, xp_34, xp_35, xp_36, xp_37, xp_38, xp_39, xp_40, xp_41, xp_42, xp_43, xp_50, xp_51, xp_52, xp_53, xp_60, xp_61, xp_62, xp_63, xp_64, xp_65, xp_70, xp_80, xp_81, xp_82, up_ne, up_s, ud_s, ud_o, xw_0, xw_1, xg_0, xg_1, xl_i, xl_r, xs_0, xs_1, xq_i, xq_r, xq_v, xc_0, xc_1, xt_0, xt_1, xr_0, xr_1, xr_2, xe_0, xe_1, ob_0, ob_18, ob_36, ob_54, ak_55, ln_55, cq_55, ak_56, ln_56, cq_56, ob_57, ak_58, ln_58, cq_58, ak_59, ln_59, cq_59, ob_60, ak_61, ln_61, cq_61, ak_62, ln_62, cq_62, ob_63, ak_64, ln_64, cq_64, ak_65, ln_65, cq_65, ak_66, ln_66, cq_66, ak_67, ln_67, cq_67, ak_68, ln_68, cq_68, ak_69, ln_69, cq_69, ak_70, ln_70, cq_70, ak_71, ln_71, cq_71, ak_72, ln_72, cq_72, ak_73, ln_73, cq_73, pt_54_0, pt_54_1, pt_57_0, pt_57_3, pt_60_0, pt_60_1, pt_60_2, pt_60_4, pt_60_5, pt_60_6, pt_60_8, pt_63_0, pt_63_1, pt_63_2, pt_63_3, pt_63_4, pt_63_6, pt_63_7, pt_63_10, pt_63_11, pt_63_17, true_and, and_true, List.length_cons, List.length_nil, Nat.reduceAdd, Nat.reduceLeDiff, forall_eq, ne_eq, Nat.reduceEqDiff, not_false_eq_true, or_false, false_or, or_true, true_or, reduceCtorEq, Nat.zero_le, Nat.reduceMul, Nat.add_zero, false_and, and_false, false_implies, true_implies, forall_const, implies_true, List.append_nil, List.nil_append, List.cons_append, mb_i, mb_ii, mb_iii, mb_r, mb_ri, mb_rii, mb_riii, mb_rr, mb_rri, mb_rrii, mb_rriii, mb_riiiii, mb_rrr, mb_rir, mb_iiii, mb_riiii, tn_0, tn_1, tn_2, tn_3, tn_4, tn_5, tn_6, tc_0, tc_1, tc_2, tc_3, tc_4, tc_5, tc_6, xf_0, xf_1, xf_2, Sum.inl.injEq, Sum.inr.injEq, C_M_letterAt, C_M_readStatement5, C_M_take, C_M_tellInto, nI_1])
          rw [f58, fn]
          refine ⟨fun h9 => ?_, fun h9 => ?_⟩
          · exact h64 w M2 _ hwM2 e2 (Or.inr (hr2.resolve_left (fun z => h9 z.1)))
          · obtain ⟨-, hr4, hr5⟩ := hr2.resolve_right (fun z => z.1 h9)
            rw [s_r2, if_pos hlt] at hr4
            have etk : s_tk (rv M2 b) (s_sg (M 58) (M 57 1) (M1 57 2)) (M2 59) = s_tk (rv M1 b) (s_sg (M 58) (M 57 1) (M1 57 2)) (s_st (M 58) (M 57 1) (M1 57 2) (fun _ => 0)).2.2 := by
              rw [erv, e59, hq9 hne]
              exact tk_cg (q3 hne)
            refine ⟨⟨hT.1, h0⟩, ⟨hb, by rw [erv]; exact hr5, hx1, by rw [e59]; exact hqB⟩, fun y M3 hy => ?_⟩
            obtain ⟨hy, hfB, hyr⟩ := hy
            rw [etk] at hy hyr
            have hw3 := frT_b hbl hwM2 hfB
            have e23 : M3 57 2 = (s_st (M 58) (M 57 1) (M1 57 2) (fun _ => 0)).2.1 := (congrFun (hfB 57 (by omega)) 2).trans e2
            refine ⟨fun hyn => ?_, fun hy0 => ?_⟩
            · rw [hy] at hyn
              rw [if_neg hyn] at hr4
              refine h64 w M3 _ hw3 e23 (Or.inl ⟨h9, ?_, ?_⟩)
              · rw [e23, hyr hyn]
                exact hr4
              · rw [hyr hyn]
                exact (tk_ok hr5).1
            · rw [hy] at hy0
              rw [if_pos hy0] at hr4
              have hn9 : ¬ M1 57 2 = -9 := fun z => by
                rw [z, z9] at h0
                omega
              exact h64 (M1 57 2) M3 _ hw3 e23 (Or.inr ⟨hn9, ⟨h0, by omega⟩, by rw [← hr4], by rw [← hr4]⟩)
        exact h38
      · rw [hx] at he
        have he0 : (s_st (M 58) (M 57 1) (M1 57 2) (fun _ => 0)).1 = 0 := by rw [← q1]; exact he
        rw [if_pos he0] at hr1
        have z : s_rd (M 58) (M 57 1) (rv M b) = (-1000 - (s_st (M 58) (M 57 1) (M1 57 2) (fun _ => 0)).2.1, rv M b) := by
          unfold s_rd
          rw [← hr1]
          rfl
        rw [z, e2]
        refine ⟨rfl, fun h => ?_, hwM2⟩
        exfalso
        have hb1 := st.1.1
        have hb2 := st.1.2
        rw [ti_lt, ti_sub (by omega) (by omega), z0] at h
        omega
  have hw0 := frT_2 (frT_r b M) 0
  have er : rv (mj_up M 57 2 0) b = rv M b := rv_uo (by omega)
  have e20 : mj_up M 57 2 0 57 2 = 0 := by rw [up_s, ud_s]
  (refine b_0 _ _ _ ?_; simp only [k_X5_tellInto_0, k_X5_tellInto_10, k_X5_tellInto_38, k_X5_tellInto_64, k_X5_tellInto_85, k_X5_tellInto_90, k_X5_tellInto_91, k_X5_tellInto_97, xp_1, xp_2, xp_3, xp_4, xp_5, xp_6, xp_7, xp_10, xp_11, xp_12, xp_13, xp_14, xp_15, xp_16, xp_17, xp_18, xp_19, xp_20, xp_21, xp_22, xp_23, xp_30, xp_31, xp_32, xp_33, xp_34, xp_35, xp_36, xp_37, xp_38, xp_39, xp_40, xp_41, xp_42, xp_43, xp_50, xp_51, xp_52, xp_53, xp_60, xp_61, xp_62, xp_63, xp_64, xp_65, xp_70, xp_80, xp_81, xp_82, up_ne, up_s, ud_s, ud_o, xw_0, xw_1, xg_0, xg_1, xl_i, xl_r, xs_0, xs_1, xq_i, xq_r, xq_v, xc_0, xc_1, xt_0, xt_1, xr_0, xr_1, xr_2, xe_0, xe_1, ob_0, ob_18, ob_36, ob_54, ak_55, ln_55, cq_55, ak_56, ln_56, cq_56, ob_57, ak_58, ln_58, cq_58, ak_59, ln_59, cq_59, ob_60, ak_61, ln_61, cq_61, ak_62, ln_62, cq_62, ob_63, ak_64, ln_64, cq_64, ak_65, ln_65, cq_65, ak_66, ln_66, cq_66, ak_67, ln_67, cq_67, ak_68, ln_68, cq_68, ak_69, ln_69, cq_69, ak_70, ln_70, cq_70, ak_71, ln_71, cq_71, ak_72, ln_72, cq_72, ak_73, ln_73, cq_73, pt_54_0, pt_54_1, pt_57_0, pt_57_3, pt_60_0, pt_60_1, pt_60_2, pt_60_4, pt_60_5, pt_60_6, pt_60_8, pt_63_0, pt_63_1, pt_63_2, pt_63_3, pt_63_4, pt_63_6, pt_63_7, pt_63_10, pt_63_11, pt_63_17, true_and, and_true, List.length_cons, List.length_nil, Nat.reduceAdd, Nat.reduceLeDiff, forall_eq, ne_eq, Nat.reduceEqDiff, not_false_eq_true, or_false, false_or, or_true, true_or, reduceCtorEq, Nat.zero_le, Nat.reduceMul, Nat.add_zero, false_and, and_false, false_implies, true_implies, forall_const, implies_true, List.append_nil, List.nil_append, List.cons_append, mb_i, mb_ii, mb_iii, mb_r, mb_ri, mb_rii, mb_riii, mb_rr, mb_rri, mb_rrii, mb_rriii, mb_riiiii, mb_rrr, mb_rir, mb_iiii, mb_riiii, tn_0, tn_1, tn_2, tn_3, tn_4, tn_5, tn_6, tc_0, tc_1, tc_2, tc_3, tc_4, tc_5, tc_6, xf_0, xf_1, xf_2, Sum.inl.injEq, Sum.inr.injEq, C_M_letterAt, C_M_readStatement5, C_M_take, C_M_tellInto, nI_1])
  refine loop 97 0 _ (-9) none hw0 (by rw [e20]; decide) (by rw [e20, z0]; exact hn1) (by rw [e20, z0]; omega) (by rw [e20]; decide) (Or.inl rfl) (by rw [e20]; rfl) (Or.inl ⟨rfl, by rw [e20, er], by rw [er]; exact hB⟩)

theorem r1_pos {T : Nat → Int32} {n : Int32} : ∀ (f : Nat) (p : Int32) (k : Int32), 0 ≤ k.toInt → k.toInt + f ≤ 1000 → (s_r1 T n f p k).1 = 0 ∨ 0 < (s_r1 T n f p k).2 := by
  intro f
  have e1 : (1 : Int32).toInt = 1 := rfl
  have z0 : (0 : Int32).toInt = 0 := rfl
  induction f with
  | zero => intro p k _ _; exact Or.inl rfl
  | succ f ih =>
    intro p k h0 h1
    have e : (k + 1).toInt = k.toInt + 1 := by rw [ti_add (by omega) (by omega), e1]
    rw [s_r1]
    split
    · exact Or.inl rfl
    · split
      · exact ih _ _ (by omega) (by omega)
      · refine Or.inr ?_
        rw [ti_lt, z0]
        show 0 < (k + 1).toInt
        omega
theorem rd_no {T : Nat → Int32} {n : Int32} {r : Nat → Int32} (h : ¬ 0 < (s_rd T n r).1) : (s_rd T n r).2 = r := by
  unfold s_rd at h ⊢
  by_cases a : (s_r1 T n 97 0 0).1 = 0
  · rw [if_pos a]
  · rw [if_neg a] at h ⊢
    by_cases b : (s_r2 T n 97 0 r).1 = 0
    · rw [if_pos b]
    · rw [if_neg b] at h
      exact absurd ((r1_pos (T := T) (n := n) 97 0 0 (by decide) (by decide)).resolve_left a) h
def C_M_forget : mj_C := (1, 0, fun avs M => ma_r avs fun a => (a = 57), fun avs M r M' => ma_r avs fun a => (M' = mj_up M 57 1 0))
theorem rc_M_forget : ∀ avs M, C_M_forget.2.2.1 avs M → ∃ a r, avs = .inr a :: r ∧ mj_ob a = 5 := by
  intro avs M h
  obtain ⟨a, rfl, h⟩ := mc_r h
  exact ⟨_, _, rfl, by rw [h]; rfl⟩
set_option maxRecDepth 20000 in
set_option maxHeartbeats 2000000 in
theorem t_M_forget : mj_T yX5_forget cX5_forget 1 none 0 C_M_forget := by
  refine mj_T_of (own := 5) (rk := 0) [] (by decide) rfl (by decide) ⟨rfl, rfl⟩ (fun _ h => absurd h List.not_mem_nil) ?_
  intro avs M hlen hpre V hV
  obtain ⟨a, rfl, hp⟩ := mc_r hpre
  show V 0 [some (.inr a)] [] M
  have b_0 := hV h_X5_forget_0
  clear hlen hpre hV
  subst hp
  (refine b_0 _ _ _ ?_; simp only [k_X5_forget_0, xp_1, xp_2, xp_3, xp_4, xp_5, xp_6, xp_7, xp_10, xp_11, xp_12, xp_13, xp_14, xp_15, xp_16, xp_17, xp_18, xp_19, xp_20, xp_21, xp_22, xp_23, xp_30, xp_31, xp_32, xp_33, xp_34, xp_35, xp_36, xp_37, xp_38, xp_39, xp_40, xp_41, xp_42, xp_43, xp_50, xp_51, xp_52, xp_53, xp_60, xp_61, xp_62, xp_63, xp_64, xp_65, xp_70, xp_80, xp_81, xp_82, up_ne, up_s, ud_s, ud_o, xw_0, xw_1, xg_0, xg_1, xl_i, xl_r, xs_0, xs_1, xq_i, xq_r, xq_v, xc_0, xc_1, xt_0, xt_1, xr_0, xr_1, xr_2, xe_0, xe_1, ob_0, ob_18, ob_36, ob_54, ak_55, ln_55, cq_55, ak_56, ln_56, cq_56, ob_57, ak_58, ln_58, cq_58, ak_59, ln_59, cq_59, ob_60, ak_61, ln_61, cq_61, ak_62, ln_62, cq_62, ob_63, ak_64, ln_64, cq_64, ak_65, ln_65, cq_65, ak_66, ln_66, cq_66, ak_67, ln_67, cq_67, ak_68, ln_68, cq_68, ak_69, ln_69, cq_69, ak_70, ln_70, cq_70, ak_71, ln_71, cq_71, ak_72, ln_72, cq_72, ak_73, ln_73, cq_73, pt_54_0, pt_54_1, pt_57_0, pt_57_3, pt_60_0, pt_60_1, pt_60_2, pt_60_4, pt_60_5, pt_60_6, pt_60_8, pt_63_0, pt_63_1, pt_63_2, pt_63_3, pt_63_4, pt_63_6, pt_63_7, pt_63_10, pt_63_11, pt_63_17, true_and, and_true, List.length_cons, List.length_nil, Nat.reduceAdd, Nat.reduceLeDiff, forall_eq, ne_eq, Nat.reduceEqDiff, not_false_eq_true, or_false, false_or, or_true, true_or, reduceCtorEq, Nat.zero_le, Nat.reduceMul, Nat.add_zero, false_and, and_false, false_implies, true_implies, forall_const, implies_true, List.append_nil, List.nil_append, List.cons_append, mb_i, mb_ii, mb_iii, mb_r, mb_ri, mb_rii, mb_riii, mb_rr, mb_rri, mb_rrii, mb_rriii, mb_riiiii, mb_rrr, mb_rir, mb_iiii, mb_riiii, tn_0, tn_1, tn_2, tn_3, tn_4, tn_5, tn_6, tc_0, tc_1, tc_2, tc_3, tc_4, tc_5, tc_6, xf_0, xf_1, xf_2, Sum.inl.injEq, Sum.inr.injEq, C_M_forget])

def C_M_room6 : mj_C := (1, rk1, fun avs M => ma_r avs fun a => (a = 60 ∧ dS (cS M)), fun avs M r M' => ma_r avs fun a => (r = .inl (F_room (cS M)).1 ∧ cS M' = (F_room (cS M)).2 ∧ fr2 M M'))
theorem rc_M_room6 : ∀ avs M, C_M_room6.2.2.1 avs M → ∃ a r, avs = .inr a :: r ∧ mj_ob a = 6 := by
  intro avs M h
  obtain ⟨a, rfl, h⟩ := mc_r h
  exact ⟨_, _, rfl, by rw [h.1]; rfl⟩
set_option maxRecDepth 20000 in
set_option maxHeartbeats 2000000 in
theorem t_M_room6 : mj_T yX6_room cX6_room 2 (some .int) 8 C_M_room6 := by
  refine mj_T_of (own := 6) (rk := 1) [(201, C_M_copyFrom2), (213, C_M_tellInto), (225, C_M_forget)] (by decide) rfl (by decide) ⟨rfl, rfl⟩ (List.forall_mem_cons.mpr ⟨mj_KV (own := 6) (nest := true) t_M_copyFrom2 ⟨wc_X2_copyFrom, wi_X2, by decide, wl_6_67⟩ wn_X2_copyFrom ws_X2_copyFrom (c0 := 2) (by decide) rfl (by decide +kernel) rc_M_copyFrom2 (by decide), (List.forall_mem_cons.mpr ⟨mj_KV (own := 6) (nest := true) t_M_tellInto ⟨wc_X5_tellInto, wi_X5, by decide, wl_6_71⟩ wn_X5_tellInto ws_X5_tellInto (c0 := 5) (by decide) rfl (by decide +kernel) rc_M_tellInto (by decide), (List.forall_mem_cons.mpr ⟨mj_KV (own := 6) (nest := true) t_M_forget ⟨wc_X5_forget, wi_X5, by decide, wl_6_75⟩ wn_X5_forget ws_X5_forget (c0 := 5) (by decide) rfl (by decide +kernel) rc_M_forget (by decide), (fun _ h => absurd h List.not_mem_nil)⟩)⟩)⟩) ?_
  intro avs M hlen hpre V hV
  obtain ⟨a, rfl, hp⟩ := mc_r hpre
  show V 0 [some (.inr a), none] [] M
  have b_0 := hV h_X6_room_0; have b_38 := hV h_X6_room_38
  clear hlen hpre hV
  obtain ⟨rfl, hS⟩ := hp
  have hR : dR (rv M 0) := hS.1
  have hT : dT (M 58) (M 57 1) := ⟨hS.2.2.2.1, hS.2.2.2.2.1⟩
  have hB : cB (rv M 0) := ⟨hR.1, hR.2.1, hR.2.2.1⟩
  have h38 : ∀ (M3 : mj_M), rv M3 0 = (s_rd (M 58) (M 57 1) (rv M 0)).2 → (∀ k, (36 ≤ k ∧ k < 54) ∨ 58 ≤ k → k ≠ 59 → M3 k = M k) → V 38 [some (.inr 60), some (.inl (s_rd (M 58) (M 57 1) (rv M 0)).1)] [] M3 := by
    intro M3 hr hk
    (refine b_38 _ _ _ ?_; simp only [k_X6_room_0, k_X6_room_38, xp_1, xp_2, xp_3, xp_4, xp_5, xp_6, xp_7, xp_10, xp_11, xp_12, xp_13, xp_14, xp_15, xp_16, xp_17, xp_18, xp_19, xp_20, xp_21, xp_22, xp_23, xp_30, xp_31, xp_32, xp_33, xp_34, xp_35, xp_36, xp_37, xp_38, xp_39, xp_40, xp_41, xp_42, xp_43, xp_50, xp_51, xp_52, xp_53, xp_60, xp_61, xp_62, xp_63, xp_64, xp_65, xp_70, xp_80, xp_81, xp_82, up_ne, up_s, ud_s, ud_o, xw_0, xw_1, xg_0, xg_1, xl_i, xl_r, xs_0, xs_1, xq_i, xq_r, xq_v, xc_0, xc_1, xt_0, xt_1, xr_0, xr_1, xr_2, xe_0, xe_1, ob_0, ob_18, ob_36, ob_54, ak_55, ln_55, cq_55, ak_56, ln_56, cq_56, ob_57, ak_58, ln_58, cq_58, ak_59, ln_59, cq_59, ob_60, ak_61, ln_61, cq_61, ak_62, ln_62, cq_62, ob_63, ak_64, ln_64, cq_64, ak_65, ln_65, cq_65, ak_66, ln_66, cq_66, ak_67, ln_67, cq_67, ak_68, ln_68, cq_68, ak_69, ln_69, cq_69, ak_70, ln_70, cq_70, ak_71, ln_71, cq_71, ak_72, ln_72, cq_72, ak_73, ln_73, cq_73, pt_54_0, pt_54_1, pt_57_0, pt_57_3, pt_60_0, pt_60_1, pt_60_2, pt_60_4, pt_60_5, pt_60_6, pt_60_8, pt_63_0, pt_63_1, pt_63_2, pt_63_3, pt_63_4, pt_63_6, pt_63_7, pt_63_10, pt_63_11, pt_63_17, true_and, and_true, List.length_cons, List.length_nil, Nat.reduceAdd, Nat.reduceLeDiff, forall_eq, ne_eq, Nat.reduceEqDiff, not_false_eq_true, or_false, false_or, or_true, true_or, reduceCtorEq, Nat.zero_le, Nat.reduceMul, Nat.add_zero, false_and, and_false, false_implies, true_implies, forall_const, implies_true, List.append_nil, List.nil_append, List.cons_append, mb_i, mb_ii, mb_iii, mb_r, mb_ri, mb_rii, mb_riii, mb_rr, mb_rri, mb_rrii, mb_rriii, mb_riiiii, mb_rrr, mb_rir, mb_iiii, mb_riiii, tn_0, tn_1, tn_2, tn_3, tn_4, tn_5, tn_6, tc_0, tc_1, tc_2, tc_3, tc_4, tc_5, tc_6, xf_0, xf_1, xf_2, Sum.inl.injEq, Sum.inr.injEq, C_M_copyFrom2, C_M_forget, C_M_room6, C_M_tellInto, qt_00, qt_01, qt_02, qt_10, qt_11, qt_12, qt_1, qt_2, qt_3, qt_19, qt_20, qt_21, qk_1, qk_2, qk_3, qk_19, qk_20, qk_21, qn_1, qn_2, qn_3, qn_19, qn_20, qn_21])
    have e1 : rv M3 36 = rv M 36 := rv_e fun k hk' => hk k (by omega) (by omega)
    have e60 := hk 60 (by omega) (by omega)
    refine ⟨rfl, ?_, fun k h63 => (up_ne (by omega)).trans (hk k (by omega) (by omega))⟩
    refine cS_ext ?_ ?_ ?_ ?_ ?_ ?_ ?_ ?_ (fun _ => rfl) (fun _ _ => rfl)
    · rw [rv_uo (by omega)]; exact hr
    · rw [rv_uo (by omega), up_ne (by decide), e60, e1]; rfl
    · rw [up_ne (by decide)]; exact hk 58 (by omega) (by omega)
    · rw [up_ne (by decide)]; exact hk 61 (by omega) (by omega)
    · rw [up_ne (by decide)]; exact hk 62 (by omega) (by omega)
    · rw [up_ne (by decide), e60]; rfl
    · rw [up_s, ud_s]; rfl
    · rw [up_ne (by decide), e60]; rfl
  (refine b_0 _ _ _ ?_; simp only [k_X6_room_0, k_X6_room_38, xp_1, xp_2, xp_3, xp_4, xp_5, xp_6, xp_7, xp_10, xp_11, xp_12, xp_13, xp_14, xp_15, xp_16, xp_17, xp_18, xp_19, xp_20, xp_21, xp_22, xp_23, xp_30, xp_31, xp_32, xp_33, xp_34, xp_35, xp_36, xp_37, xp_38, xp_39, xp_40, xp_41, xp_42, xp_43, xp_50, xp_51, xp_52, xp_53, xp_60, xp_61, xp_62, xp_63, xp_64, xp_65, xp_70, xp_80, xp_81, xp_82, up_ne, up_s, ud_s, ud_o, xw_0, xw_1, xg_0, xg_1, xl_i, xl_r, xs_0, xs_1, xq_i, xq_r, xq_v, xc_0, xc_1, xt_0, xt_1, xr_0, xr_1, xr_2, xe_0, xe_1, ob_0, ob_18, ob_36, ob_54, ak_55, ln_55, cq_55, ak_56, ln_56, cq_56, ob_57, ak_58, ln_58, cq_58, ak_59, ln_59, cq_59, ob_60, ak_61, ln_61, cq_61, ak_62, ln_62, cq_62, ob_63, ak_64, ln_64, cq_64, ak_65, ln_65, cq_65, ak_66, ln_66, cq_66, ak_67, ln_67, cq_67, ak_68, ln_68, cq_68, ak_69, ln_69, cq_69, ak_70, ln_70, cq_70, ak_71, ln_71, cq_71, ak_72, ln_72, cq_72, ak_73, ln_73, cq_73, pt_54_0, pt_54_1, pt_57_0, pt_57_3, pt_60_0, pt_60_1, pt_60_2, pt_60_4, pt_60_5, pt_60_6, pt_60_8, pt_63_0, pt_63_1, pt_63_2, pt_63_3, pt_63_4, pt_63_6, pt_63_7, pt_63_10, pt_63_11, pt_63_17, true_and, and_true, List.length_cons, List.length_nil, Nat.reduceAdd, Nat.reduceLeDiff, forall_eq, ne_eq, Nat.reduceEqDiff, not_false_eq_true, or_false, false_or, or_true, true_or, reduceCtorEq, Nat.zero_le, Nat.reduceMul, Nat.add_zero, false_and, and_false, false_implies, true_implies, forall_const, implies_true, List.append_nil, List.nil_append, List.cons_append, mb_i, mb_ii, mb_iii, mb_r, mb_ri, mb_rii, mb_riii, mb_rr, mb_rri, mb_rrii, mb_rriii, mb_riiiii, mb_rrr, mb_rir, mb_iiii, mb_riiii, tn_0, tn_1, tn_2, tn_3, tn_4, tn_5, tn_6, tc_0, tc_1, tc_2, tc_3, tc_4, tc_5, tc_6, xf_0, xf_1, xf_2, Sum.inl.injEq, Sum.inr.injEq, C_M_copyFrom2, C_M_forget, C_M_room6, C_M_tellInto, qt_00, qt_01, qt_02, qt_10, qt_11, qt_12, qt_1, qt_2, qt_3, qt_19, qt_20, qt_21, qk_1, qk_2, qk_3, qk_19, qk_20, qk_21, qn_1, qn_2, qn_3, qn_19, qn_20, qn_21])
  refine ⟨⟨Or.inr (Or.inl rfl), Or.inl rfl⟩, fun M1 hm => ?_⟩
  have e58 : M1 58 = M 58 := hm.2 58 (by omega)
  have e57 : M1 57 = M 57 := hm.2 57 (by omega)
  have e0 : rv M1 0 = rv M 0 := rv_e fun k hk => hm.2 k (by omega)
  rw [e58, e57, hm.1]
  refine ⟨⟨Or.inr (Or.inl rfl), hT, hB⟩, fun x M2 hx => ?_⟩
  obtain ⟨hx, hr, hf⟩ := hx
  have f0 : rv M2 0 = rv M 0 := (rv_e fun k hk => hf.1 k (by omega) (by omega) (by omega)).trans e0
  have hk2 : ∀ k, (36 ≤ k ∧ k < 54) ∨ 58 ≤ k → k ≠ 59 → M2 k = M k := fun k hk h59 => (hf.1 k (by omega) h59 (by omega)).trans (hm.2 k (by omega))
  rw [hx]
  refine ⟨fun h => ?_, fun h => ⟨⟨Or.inl rfl, Or.inr (Or.inl rfl)⟩, fun M3 hm3 => ?_⟩⟩
  · exact h38 M2 (by rw [f0, rd_no h]) hk2
  · exact h38 M3 (by rw [hm3.1, hr h]) (fun k hk h59 => (hm3.2 k (by omega)).trans (hk2 k hk h59))

def C_M_isFull : mj_C := (1, 1, fun avs M => ma_r avs fun a => (a = 57), fun avs M r M' => ma_r avs fun a => (r = .inl (if M 57 1 < 96 then 0 else 1) ∧ M' = M))
theorem rc_M_isFull : ∀ avs M, C_M_isFull.2.2.1 avs M → ∃ a r, avs = .inr a :: r ∧ mj_ob a = 5 := by
  intro avs M h
  obtain ⟨a, rfl, h⟩ := mc_r h
  exact ⟨_, _, rfl, by rw [h]; rfl⟩
set_option maxRecDepth 20000 in
set_option maxHeartbeats 2000000 in
theorem t_M_isFull : mj_T yX5_isFull cX5_isFull 1 (some .boolean) 0 C_M_isFull := by
  refine mj_T_of (own := 5) (rk := 3) [] (by decide) rfl (by decide) ⟨rfl, rfl, rfl⟩ (fun _ h => absurd h List.not_mem_nil) ?_
  intro avs M hlen hpre V hV
  obtain ⟨a, rfl, hp⟩ := mc_r hpre
  show V 0 [some (.inr a)] [] M
  have b_0 := hV h_X5_isFull_0; have b_16 := hV h_X5_isFull_16; have b_17 := hV h_X5_isFull_17
  clear hlen hpre hV
  subst hp
  have e96 : nI 96 = 96 := rfl
  (refine b_0 _ _ _ ?_; simp only [k_X5_isFull_0, k_X5_isFull_16, k_X5_isFull_17, xp_1, xp_2, xp_3, xp_4, xp_5, xp_6, xp_7, xp_10, xp_11, xp_12, xp_13, xp_14, xp_15, xp_16, xp_17, xp_18, xp_19, xp_20, xp_21, xp_22, xp_23, xp_30, xp_31, xp_32, xp_33, xp_34, xp_35, xp_36, xp_37, xp_38, xp_39, xp_40, xp_41, xp_42, xp_43, xp_50, xp_51, xp_52, xp_53, xp_60, xp_61, xp_62, xp_63, xp_64, xp_65, xp_70, xp_80, xp_81, xp_82, up_ne, up_s, ud_s, ud_o, xw_0, xw_1, xg_0, xg_1, xl_i, xl_r, xs_0, xs_1, xq_i, xq_r, xq_v, xc_0, xc_1, xt_0, xt_1, xr_0, xr_1, xr_2, xe_0, xe_1, ob_0, ob_18, ob_36, ob_54, ak_55, ln_55, cq_55, ak_56, ln_56, cq_56, ob_57, ak_58, ln_58, cq_58, ak_59, ln_59, cq_59, ob_60, ak_61, ln_61, cq_61, ak_62, ln_62, cq_62, ob_63, ak_64, ln_64, cq_64, ak_65, ln_65, cq_65, ak_66, ln_66, cq_66, ak_67, ln_67, cq_67, ak_68, ln_68, cq_68, ak_69, ln_69, cq_69, ak_70, ln_70, cq_70, ak_71, ln_71, cq_71, ak_72, ln_72, cq_72, ak_73, ln_73, cq_73, pt_54_0, pt_54_1, pt_57_0, pt_57_3, pt_60_0, pt_60_1, pt_60_2, pt_60_4, pt_60_5, pt_60_6, pt_60_8, pt_63_0, pt_63_1, pt_63_2, pt_63_3, pt_63_4, pt_63_6, pt_63_7, pt_63_10, pt_63_11, pt_63_17, true_and, and_true, List.length_cons, List.length_nil, Nat.reduceAdd, Nat.reduceLeDiff, forall_eq, ne_eq, Nat.reduceEqDiff, not_false_eq_true, or_false, false_or, or_true, true_or, reduceCtorEq, Nat.zero_le, Nat.reduceMul, Nat.add_zero, false_and, and_false, false_implies, true_implies, forall_const, implies_true, List.append_nil, List.nil_append, List.cons_append, mb_i, mb_ii, mb_iii, mb_r, mb_ri, mb_rii, mb_riii, mb_rr, mb_rri, mb_rrii, mb_rriii, mb_riiiii, mb_rrr, mb_rir, mb_iiii, mb_riiii, tn_0, tn_1, tn_2, tn_3, tn_4, tn_5, tn_6, tc_0, tc_1, tc_2, tc_3, tc_4, tc_5, tc_6, xf_0, xf_1, xf_2, Sum.inl.injEq, Sum.inr.injEq, C_M_isFull])
  rw [e96]
  refine ⟨fun h => ?_, fun h => ?_⟩
  · (refine b_16 _ _ _ ?_; simp only [k_X5_isFull_0, k_X5_isFull_16, k_X5_isFull_17, xp_1, xp_2, xp_3, xp_4, xp_5, xp_6, xp_7, xp_10, xp_11, xp_12, xp_13, xp_14, xp_15, xp_16, xp_17, xp_18, xp_19, xp_20, xp_21, xp_22, xp_23, xp_30, xp_31, xp_32, xp_33, xp_34, xp_35, xp_36, xp_37, xp_38, xp_39, xp_40, xp_41, xp_42, xp_43, xp_50, xp_51, xp_52, xp_53, xp_60, xp_61, xp_62, xp_63, xp_64, xp_65, xp_70, xp_80, xp_81, xp_82, up_ne, up_s, ud_s, ud_o, xw_0, xw_1, xg_0, xg_1, xl_i, xl_r, xs_0, xs_1, xq_i, xq_r, xq_v, xc_0, xc_1, xt_0, xt_1, xr_0, xr_1, xr_2, xe_0, xe_1, ob_0, ob_18, ob_36, ob_54, ak_55, ln_55, cq_55, ak_56, ln_56, cq_56, ob_57, ak_58, ln_58, cq_58, ak_59, ln_59, cq_59, ob_60, ak_61, ln_61, cq_61, ak_62, ln_62, cq_62, ob_63, ak_64, ln_64, cq_64, ak_65, ln_65, cq_65, ak_66, ln_66, cq_66, ak_67, ln_67, cq_67, ak_68, ln_68, cq_68, ak_69, ln_69, cq_69, ak_70, ln_70, cq_70, ak_71, ln_71, cq_71, ak_72, ln_72, cq_72, ak_73, ln_73, cq_73, pt_54_0, pt_54_1, pt_57_0, pt_57_3, pt_60_0, pt_60_1, pt_60_2, pt_60_4, pt_60_5, pt_60_6, pt_60_8, pt_63_0, pt_63_1, pt_63_2, pt_63_3, pt_63_4, pt_63_6, pt_63_7, pt_63_10, pt_63_11, pt_63_17, true_and, and_true, List.length_cons, List.length_nil, Nat.reduceAdd, Nat.reduceLeDiff, forall_eq, ne_eq, Nat.reduceEqDiff, not_false_eq_true, or_false, false_or, or_true, true_or, reduceCtorEq, Nat.zero_le, Nat.reduceMul, Nat.add_zero, false_and, and_false, false_implies, true_implies, forall_const, implies_true, List.append_nil, List.nil_append, List.cons_append, mb_i, mb_ii, mb_iii, mb_r, mb_ri, mb_rii, mb_riii, mb_rr, mb_rri, mb_rrii, mb_rriii, mb_riiiii, mb_rrr, mb_rir, mb_iiii, mb_riiii, tn_0, tn_1, tn_2, tn_3, tn_4, tn_5, tn_6, tc_0, tc_1, tc_2, tc_3, tc_4, tc_5, tc_6, xf_0, xf_1, xf_2, Sum.inl.injEq, Sum.inr.injEq, C_M_isFull])
    (refine b_17 _ _ _ ?_; simp only [k_X5_isFull_0, k_X5_isFull_16, k_X5_isFull_17, xp_1, xp_2, xp_3, xp_4, xp_5, xp_6, xp_7, xp_10, xp_11, xp_12, xp_13, xp_14, xp_15, xp_16, xp_17, xp_18, xp_19, xp_20, xp_21, xp_22, xp_23, xp_30, xp_31, xp_32, xp_33, xp_34, xp_35, xp_36, xp_37, xp_38, xp_39, xp_40, xp_41, xp_42, xp_43, xp_50, xp_51, xp_52, xp_53, xp_60, xp_61, xp_62, xp_63, xp_64, xp_65, xp_70, xp_80, xp_81, xp_82, up_ne, up_s, ud_s, ud_o, xw_0, xw_1, xg_0, xg_1, xl_i, xl_r, xs_0, xs_1, xq_i, xq_r, xq_v, xc_0, xc_1, xt_0, xt_1, xr_0, xr_1, xr_2, xe_0, xe_1, ob_0, ob_18, ob_36, ob_54, ak_55, ln_55, cq_55, ak_56, ln_56, cq_56, ob_57, ak_58, ln_58, cq_58, ak_59, ln_59, cq_59, ob_60, ak_61, ln_61, cq_61, ak_62, ln_62, cq_62, ob_63, ak_64, ln_64, cq_64, ak_65, ln_65, cq_65, ak_66, ln_66, cq_66, ak_67, ln_67, cq_67, ak_68, ln_68, cq_68, ak_69, ln_69, cq_69, ak_70, ln_70, cq_70, ak_71, ln_71, cq_71, ak_72, ln_72, cq_72, ak_73, ln_73, cq_73, pt_54_0, pt_54_1, pt_57_0, pt_57_3, pt_60_0, pt_60_1, pt_60_2, pt_60_4, pt_60_5, pt_60_6, pt_60_8, pt_63_0, pt_63_1, pt_63_2, pt_63_3, pt_63_4, pt_63_6, pt_63_7, pt_63_10, pt_63_11, pt_63_17, true_and, and_true, List.length_cons, List.length_nil, Nat.reduceAdd, Nat.reduceLeDiff, forall_eq, ne_eq, Nat.reduceEqDiff, not_false_eq_true, or_false, false_or, or_true, true_or, reduceCtorEq, Nat.zero_le, Nat.reduceMul, Nat.add_zero, false_and, and_false, false_implies, true_implies, forall_const, implies_true, List.append_nil, List.nil_append, List.cons_append, mb_i, mb_ii, mb_iii, mb_r, mb_ri, mb_rii, mb_riii, mb_rr, mb_rri, mb_rrii, mb_rriii, mb_riiiii, mb_rrr, mb_rir, mb_iiii, mb_riiii, tn_0, tn_1, tn_2, tn_3, tn_4, tn_5, tn_6, tc_0, tc_1, tc_2, tc_3, tc_4, tc_5, tc_6, xf_0, xf_1, xf_2, Sum.inl.injEq, Sum.inr.injEq, C_M_isFull])
    rw [if_pos h]
  · (refine b_17 _ _ _ ?_; simp only [k_X5_isFull_0, k_X5_isFull_16, k_X5_isFull_17, xp_1, xp_2, xp_3, xp_4, xp_5, xp_6, xp_7, xp_10, xp_11, xp_12, xp_13, xp_14, xp_15, xp_16, xp_17, xp_18, xp_19, xp_20, xp_21, xp_22, xp_23, xp_30, xp_31, xp_32, xp_33, xp_34, xp_35, xp_36, xp_37, xp_38, xp_39, xp_40, xp_41, xp_42, xp_43, xp_50, xp_51, xp_52, xp_53, xp_60, xp_61, xp_62, xp_63, xp_64, xp_65, xp_70, xp_80, xp_81, xp_82, up_ne, up_s, ud_s, ud_o, xw_0, xw_1, xg_0, xg_1, xl_i, xl_r, xs_0, xs_1, xq_i, xq_r, xq_v, xc_0, xc_1, xt_0, xt_1, xr_0, xr_1, xr_2, xe_0, xe_1, ob_0, ob_18, ob_36, ob_54, ak_55, ln_55, cq_55, ak_56, ln_56, cq_56, ob_57, ak_58, ln_58, cq_58, ak_59, ln_59, cq_59, ob_60, ak_61, ln_61, cq_61, ak_62, ln_62, cq_62, ob_63, ak_64, ln_64, cq_64, ak_65, ln_65, cq_65, ak_66, ln_66, cq_66, ak_67, ln_67, cq_67, ak_68, ln_68, cq_68, ak_69, ln_69, cq_69, ak_70, ln_70, cq_70, ak_71, ln_71, cq_71, ak_72, ln_72, cq_72, ak_73, ln_73, cq_73, pt_54_0, pt_54_1, pt_57_0, pt_57_3, pt_60_0, pt_60_1, pt_60_2, pt_60_4, pt_60_5, pt_60_6, pt_60_8, pt_63_0, pt_63_1, pt_63_2, pt_63_3, pt_63_4, pt_63_6, pt_63_7, pt_63_10, pt_63_11, pt_63_17, true_and, and_true, List.length_cons, List.length_nil, Nat.reduceAdd, Nat.reduceLeDiff, forall_eq, ne_eq, Nat.reduceEqDiff, not_false_eq_true, or_false, false_or, or_true, true_or, reduceCtorEq, Nat.zero_le, Nat.reduceMul, Nat.add_zero, false_and, and_false, false_implies, true_implies, forall_const, implies_true, List.append_nil, List.nil_append, List.cons_append, mb_i, mb_ii, mb_iii, mb_r, mb_ri, mb_rii, mb_riii, mb_rr, mb_rri, mb_rrii, mb_rriii, mb_riiiii, mb_rrr, mb_rir, mb_iiii, mb_riiii, tn_0, tn_1, tn_2, tn_3, tn_4, tn_5, tn_6, tc_0, tc_1, tc_2, tc_3, tc_4, tc_5, tc_6, xf_0, xf_1, xf_2, Sum.inl.injEq, Sum.inr.injEq, C_M_isFull])
    rw [if_neg h]

def C_M_add5 : mj_C := (2, 1, fun avs M => ma_ri avs fun a c => (a = 57 ∧ bd (M 57 1) 0 95), fun avs M r M' => ma_ri avs fun a c => (r = .inl (M 57 1 + 1) ∧ M' = mj_up (mj_up M 58 (tn (M 57 1)) (vp_nar .char c)) 57 1 (M 57 1 + 1)))
theorem rc_M_add5 : ∀ avs M, C_M_add5.2.2.1 avs M → ∃ a r, avs = .inr a :: r ∧ mj_ob a = 5 := by
  intro avs M h
  obtain ⟨a, c, rfl, h⟩ := mc_ri h
  exact ⟨_, _, rfl, by rw [h.1]; rfl⟩
set_option maxRecDepth 20000 in
set_option maxHeartbeats 2000000 in
theorem t_M_add5 : mj_T yX5_add cX5_add 2 (some .int) 1 C_M_add5 := by
  refine mj_T_of (own := 5) (rk := 1) [(87, C_M_isFull)] (by decide) rfl (by decide) ⟨rfl, rfl⟩ (List.forall_mem_cons.mpr ⟨mj_KV (own := 5) (nest := false) t_M_isFull ⟨wc_X5_isFull, wi_X5, by decide, wl_5_29⟩ wn_X5_isFull ws_X5_isFull (c0 := 5) (by decide) rfl (by decide +kernel) rc_M_isFull (by decide), (fun _ h => absurd h List.not_mem_nil)⟩) ?_
  intro avs M hlen hpre V hV
  obtain ⟨a, c, rfl, hp⟩ := mc_ri hpre
  show V 0 [some (.inr a), some (.inl c)] [] M
  have b_0 := hV h_X5_add_0; have b_27 := hV h_X5_add_27
  clear hlen hpre hV
  obtain ⟨rfl, h⟩ := hp
  have h2 := h.2
  have h96 : M 57 1 < 96 := by
    rw [ti_lt]
    show (M 57 1).toInt < 96
    omega
  (refine b_0 _ _ _ ?_; simp only [k_X5_add_0, k_X5_add_27, xp_1, xp_2, xp_3, xp_4, xp_5, xp_6, xp_7, xp_10, xp_11, xp_12, xp_13, xp_14, xp_15, xp_16, xp_17, xp_18, xp_19, xp_20, xp_21, xp_22, xp_23, xp_30, xp_31, xp_32, xp_33, xp_34, xp_35, xp_36, xp_37, xp_38, xp_39, xp_40, xp_41, xp_42, xp_43, xp_50, xp_51, xp_52, xp_53, xp_60, xp_61, xp_62, xp_63, xp_64, xp_65, xp_70, xp_80, xp_81, xp_82, up_ne, up_s, ud_s, ud_o, xw_0, xw_1, xg_0, xg_1, xl_i, xl_r, xs_0, xs_1, xq_i, xq_r, xq_v, xc_0, xc_1, xt_0, xt_1, xr_0, xr_1, xr_2, xe_0, xe_1, ob_0, ob_18, ob_36, ob_54, ak_55, ln_55, cq_55, ak_56, ln_56, cq_56, ob_57, ak_58, ln_58, cq_58, ak_59, ln_59, cq_59, ob_60, ak_61, ln_61, cq_61, ak_62, ln_62, cq_62, ob_63, ak_64, ln_64, cq_64, ak_65, ln_65, cq_65, ak_66, ln_66, cq_66, ak_67, ln_67, cq_67, ak_68, ln_68, cq_68, ak_69, ln_69, cq_69, ak_70, ln_70, cq_70, ak_71, ln_71, cq_71, ak_72, ln_72, cq_72, ak_73, ln_73, cq_73, pt_54_0, pt_54_1, pt_57_0, pt_57_3, pt_60_0, pt_60_1, pt_60_2, pt_60_4, pt_60_5, pt_60_6, pt_60_8, pt_63_0, pt_63_1, pt_63_2, pt_63_3, pt_63_4, pt_63_6, pt_63_7, pt_63_10, pt_63_11, pt_63_17, true_and, and_true, List.length_cons, List.length_nil, Nat.reduceAdd, Nat.reduceLeDiff, forall_eq, ne_eq, Nat.reduceEqDiff, not_false_eq_true, or_false, false_or, or_true, true_or, reduceCtorEq, Nat.zero_le, Nat.reduceMul, Nat.add_zero, false_and, and_false, false_implies, true_implies, forall_const, implies_true, List.append_nil, List.nil_append, List.cons_append, mb_i, mb_ii, mb_iii, mb_r, mb_ri, mb_rii, mb_riii, mb_rr, mb_rri, mb_rrii, mb_rriii, mb_riiiii, mb_rrr, mb_rir, mb_iiii, mb_riiii, tn_0, tn_1, tn_2, tn_3, tn_4, tn_5, tn_6, tc_0, tc_1, tc_2, tc_3, tc_4, tc_5, tc_6, xf_0, xf_1, xf_2, Sum.inl.injEq, Sum.inr.injEq, C_M_add5, C_M_isFull])
  rw [if_pos h96]
  refine ⟨fun z => absurd rfl z, fun _ => ⟨vi_x h.1 (by omega), ?_⟩⟩
  (refine b_27 _ _ _ ?_; simp only [k_X5_add_0, k_X5_add_27, xp_1, xp_2, xp_3, xp_4, xp_5, xp_6, xp_7, xp_10, xp_11, xp_12, xp_13, xp_14, xp_15, xp_16, xp_17, xp_18, xp_19, xp_20, xp_21, xp_22, xp_23, xp_30, xp_31, xp_32, xp_33, xp_34, xp_35, xp_36, xp_37, xp_38, xp_39, xp_40, xp_41, xp_42, xp_43, xp_50, xp_51, xp_52, xp_53, xp_60, xp_61, xp_62, xp_63, xp_64, xp_65, xp_70, xp_80, xp_81, xp_82, up_ne, up_s, ud_s, ud_o, xw_0, xw_1, xg_0, xg_1, xl_i, xl_r, xs_0, xs_1, xq_i, xq_r, xq_v, xc_0, xc_1, xt_0, xt_1, xr_0, xr_1, xr_2, xe_0, xe_1, ob_0, ob_18, ob_36, ob_54, ak_55, ln_55, cq_55, ak_56, ln_56, cq_56, ob_57, ak_58, ln_58, cq_58, ak_59, ln_59, cq_59, ob_60, ak_61, ln_61, cq_61, ak_62, ln_62, cq_62, ob_63, ak_64, ln_64, cq_64, ak_65, ln_65, cq_65, ak_66, ln_66, cq_66, ak_67, ln_67, cq_67, ak_68, ln_68, cq_68, ak_69, ln_69, cq_69, ak_70, ln_70, cq_70, ak_71, ln_71, cq_71, ak_72, ln_72, cq_72, ak_73, ln_73, cq_73, pt_54_0, pt_54_1, pt_57_0, pt_57_3, pt_60_0, pt_60_1, pt_60_2, pt_60_4, pt_60_5, pt_60_6, pt_60_8, pt_63_0, pt_63_1, pt_63_2, pt_63_3, pt_63_4, pt_63_6, pt_63_7, pt_63_10, pt_63_11, pt_63_17, true_and, and_true, List.length_cons, List.length_nil, Nat.reduceAdd, Nat.reduceLeDiff, forall_eq, ne_eq, Nat.reduceEqDiff, not_false_eq_true, or_false, false_or, or_true, true_or, reduceCtorEq, Nat.zero_le, Nat.reduceMul, Nat.add_zero, false_and, and_false, false_implies, true_implies, forall_const, implies_true, List.append_nil, List.nil_append, List.cons_append, mb_i, mb_ii, mb_iii, mb_r, mb_ri, mb_rii, mb_riii, mb_rr, mb_rri, mb_rrii, mb_rriii, mb_riiiii, mb_rrr, mb_rir, mb_iiii, mb_riiii, tn_0, tn_1, tn_2, tn_3, tn_4, tn_5, tn_6, tc_0, tc_1, tc_2, tc_3, tc_4, tc_5, tc_6, xf_0, xf_1, xf_2, Sum.inl.injEq, Sum.inr.injEq, C_M_add5, C_M_isFull])

def C_M_letter6 : mj_C := (2, rk1, fun avs M => ma_ri avs fun a c => (a = 60 ∧ dS (cS M)), fun avs M r M' => ma_ri avs fun a c => (r = .inl (F_letter (cS M) c).1 ∧ cS M' = (F_letter (cS M) c).2 ∧ fr2 M M'))
theorem rc_M_letter6 : ∀ avs M, C_M_letter6.2.2.1 avs M → ∃ a r, avs = .inr a :: r ∧ mj_ob a = 6 := by
  intro avs M h
  obtain ⟨a, c, rfl, h⟩ := mc_ri h
  exact ⟨_, _, rfl, by rw [h.1]; rfl⟩
set_option maxRecDepth 20000 in
set_option maxHeartbeats 2000000 in
theorem t_M_letter6 : mj_T yX6_letter cX6_letter 3 (some .int) 2 C_M_letter6 := by
  refine mj_T_of (own := 6) (rk := 1) [(155, C_M_outside), (165, C_M_isFull), (177, C_M_refuse6), (189, C_M_add5)] (by decide) rfl (by decide) ⟨rfl, rfl⟩ (List.forall_mem_cons.mpr ⟨mj_KS (own := 6) (nest := false) t_M_outside ⟨wc_X6_outside, wi_X6, by decide, wl_6_51⟩ wn_X6_outside (by decide +kernel) (by decide), (List.forall_mem_cons.mpr ⟨mj_KV (own := 6) (nest := true) t_M_isFull ⟨wc_X5_isFull, wi_X5, by decide, wl_6_55⟩ wn_X5_isFull ws_X5_isFull (c0 := 5) (by decide) rfl (by decide +kernel) rc_M_isFull (by decide), (List.forall_mem_cons.mpr ⟨mj_KV (own := 6) (nest := false) t_M_refuse6 ⟨wc_X6_refuse, wi_X6, by decide, wl_6_59⟩ wn_X6_refuse ws_X6_refuse (c0 := 6) (by decide) rfl (by decide +kernel) rc_M_refuse6 (by decide), (List.forall_mem_cons.mpr ⟨mj_KV (own := 6) (nest := true) t_M_add5 ⟨wc_X5_add, wi_X5, by decide, wl_6_63⟩ wn_X5_add ws_X5_add (c0 := 5) (by decide) rfl (by decide +kernel) rc_M_add5 (by decide), (fun _ h => absurd h List.not_mem_nil)⟩)⟩)⟩)⟩) ?_
  intro avs M hlen hpre V hV
  obtain ⟨a, c, rfl, hp⟩ := mc_ri hpre
  show V 0 [some (.inr a), some (.inl c), none] [] M
  have b_0 := hV h_X6_letter_0; have b_26 := hV h_X6_letter_26; have b_38 := hV h_X6_letter_38; have b_47 := hV h_X6_letter_47
  clear hlen hpre hV
  obtain ⟨rfl, hS⟩ := hp
  have h96 : bd (M 57 1) 0 96 := hS.2.2.2.1
  have hlt := lt_96 h96
  have h26 : ∀ no : Int32, no = (if s_wi c 0 255 = 0 then (if M 57 1 = 96 then -6 else 0) else s_wi c 0 255) → V 26 [some (.inr 60), some (.inl c), some (.inl no)] [] M := by
    intro no hno
    by_cases h : s_wi c 0 255 = 0
    · rw [if_pos h] at hno
      by_cases h2 : M 57 1 = 96
      · rw [if_pos h2] at hno
        subst hno
        (refine b_26 _ _ _ ?_; simp only [k_X6_letter_0, k_X6_letter_26, k_X6_letter_38, k_X6_letter_47, xp_1, xp_2, xp_3, xp_4, xp_5, xp_6, xp_7, xp_10, xp_11, xp_12, xp_13, xp_14, xp_15, xp_16, xp_17, xp_18, xp_19, xp_20, xp_21, xp_22, xp_23, xp_30, xp_31, xp_32, xp_33, xp_34, xp_35, xp_36, xp_37, xp_38, xp_39, xp_40, xp_41, xp_42, xp_43, xp_50, xp_51, xp_52, xp_53, xp_60, xp_61, xp_62, xp_63, xp_64, xp_65, xp_70, xp_80, xp_81, xp_82, up_ne, up_s, ud_s, ud_o, xw_0, xw_1, xg_0, xg_1, xl_i, xl_r, xs_0, xs_1, xq_i, xq_r, xq_v, xc_0, xc_1, xt_0, xt_1, xr_0, xr_1, xr_2, xe_0, xe_1, ob_0, ob_18, ob_36, ob_54, ak_55, ln_55, cq_55, ak_56, ln_56, cq_56, ob_57, ak_58, ln_58, cq_58, ak_59, ln_59, cq_59, ob_60, ak_61, ln_61, cq_61, ak_62, ln_62, cq_62, ob_63, ak_64, ln_64, cq_64, ak_65, ln_65, cq_65, ak_66, ln_66, cq_66, ak_67, ln_67, cq_67, ak_68, ln_68, cq_68, ak_69, ln_69, cq_69, ak_70, ln_70, cq_70, ak_71, ln_71, cq_71, ak_72, ln_72, cq_72, ak_73, ln_73, cq_73, pt_54_0, pt_54_1, pt_57_0, pt_57_3, pt_60_0, pt_60_1, pt_60_2, pt_60_4, pt_60_5, pt_60_6, pt_60_8, pt_63_0, pt_63_1, pt_63_2, pt_63_3, pt_63_4, pt_63_6, pt_63_7, pt_63_10, pt_63_11, pt_63_17, true_and, and_true, List.length_cons, List.length_nil, Nat.reduceAdd, Nat.reduceLeDiff, forall_eq, ne_eq, Nat.reduceEqDiff, not_false_eq_true, or_false, false_or, or_true, true_or, reduceCtorEq, Nat.zero_le, Nat.reduceMul, Nat.add_zero, false_and, and_false, false_implies, true_implies, forall_const, implies_true, List.append_nil, List.nil_append, List.cons_append, mb_i, mb_ii, mb_iii, mb_r, mb_ri, mb_rii, mb_riii, mb_rr, mb_rri, mb_rrii, mb_rriii, mb_riiiii, mb_rrr, mb_rir, mb_iiii, mb_riiii, tn_0, tn_1, tn_2, tn_3, tn_4, tn_5, tn_6, tc_0, tc_1, tc_2, tc_3, tc_4, tc_5, tc_6, xf_0, xf_1, xf_2, Sum.inl.injEq, Sum.inr.injEq, C_M_add5, C_M_isFull, C_M_letter6, C_M_outside, C_M_refuse6])
        refine ⟨fun z => absurd z (by decide), fun _ => ⟨rc6, ?_⟩⟩
        (refine b_47 _ _ _ ?_; simp only [k_X6_letter_0, k_X6_letter_26, k_X6_letter_38, k_X6_letter_47, xp_1, xp_2, xp_3, xp_4, xp_5, xp_6, xp_7, xp_10, xp_11, xp_12, xp_13, xp_14, xp_15, xp_16, xp_17, xp_18, xp_19, xp_20, xp_21, xp_22, xp_23, xp_30, xp_31, xp_32, xp_33, xp_34, xp_35, xp_36, xp_37, xp_38, xp_39, xp_40, xp_41, xp_42, xp_43, xp_50, xp_51, xp_52, xp_53, xp_60, xp_61, xp_62, xp_63, xp_64, xp_65, xp_70, xp_80, xp_81, xp_82, up_ne, up_s, ud_s, ud_o, xw_0, xw_1, xg_0, xg_1, xl_i, xl_r, xs_0, xs_1, xq_i, xq_r, xq_v, xc_0, xc_1, xt_0, xt_1, xr_0, xr_1, xr_2, xe_0, xe_1, ob_0, ob_18, ob_36, ob_54, ak_55, ln_55, cq_55, ak_56, ln_56, cq_56, ob_57, ak_58, ln_58, cq_58, ak_59, ln_59, cq_59, ob_60, ak_61, ln_61, cq_61, ak_62, ln_62, cq_62, ob_63, ak_64, ln_64, cq_64, ak_65, ln_65, cq_65, ak_66, ln_66, cq_66, ak_67, ln_67, cq_67, ak_68, ln_68, cq_68, ak_69, ln_69, cq_69, ak_70, ln_70, cq_70, ak_71, ln_71, cq_71, ak_72, ln_72, cq_72, ak_73, ln_73, cq_73, pt_54_0, pt_54_1, pt_57_0, pt_57_3, pt_60_0, pt_60_1, pt_60_2, pt_60_4, pt_60_5, pt_60_6, pt_60_8, pt_63_0, pt_63_1, pt_63_2, pt_63_3, pt_63_4, pt_63_6, pt_63_7, pt_63_10, pt_63_11, pt_63_17, true_and, and_true, List.length_cons, List.length_nil, Nat.reduceAdd, Nat.reduceLeDiff, forall_eq, ne_eq, Nat.reduceEqDiff, not_false_eq_true, or_false, false_or, or_true, true_or, reduceCtorEq, Nat.zero_le, Nat.reduceMul, Nat.add_zero, false_and, and_false, false_implies, true_implies, forall_const, implies_true, List.append_nil, List.nil_append, List.cons_append, mb_i, mb_ii, mb_iii, mb_r, mb_ri, mb_rii, mb_riii, mb_rr, mb_rri, mb_rrii, mb_rriii, mb_riiiii, mb_rrr, mb_rir, mb_iiii, mb_riiii, tn_0, tn_1, tn_2, tn_3, tn_4, tn_5, tn_6, tc_0, tc_1, tc_2, tc_3, tc_4, tc_5, tc_6, xf_0, xf_1, xf_2, Sum.inl.injEq, Sum.inr.injEq, C_M_add5, C_M_isFull, C_M_letter6, C_M_outside, C_M_refuse6])
        unfold F_letter
        rw [if_pos h, cS_51, if_pos h2]
        exact ⟨rfl, cS_bp, fr2_u (fr2_r M) (by decide)⟩
      · rw [if_neg h2] at hno
        subst hno
        have h3 := hlt.mpr h2
        rw [ti_lt, show (96 : Int32).toInt = 96 from rfl] at h3
        have h38 : V 38 [some (.inr 60), some (.inl c), some (.inl 0)] [] M := by
          (refine b_38 _ _ _ ?_; simp only [k_X6_letter_0, k_X6_letter_26, k_X6_letter_38, k_X6_letter_47, xp_1, xp_2, xp_3, xp_4, xp_5, xp_6, xp_7, xp_10, xp_11, xp_12, xp_13, xp_14, xp_15, xp_16, xp_17, xp_18, xp_19, xp_20, xp_21, xp_22, xp_23, xp_30, xp_31, xp_32, xp_33, xp_34, xp_35, xp_36, xp_37, xp_38, xp_39, xp_40, xp_41, xp_42, xp_43, xp_50, xp_51, xp_52, xp_53, xp_60, xp_61, xp_62, xp_63, xp_64, xp_65, xp_70, xp_80, xp_81, xp_82, up_ne, up_s, ud_s, ud_o, xw_0, xw_1, xg_0, xg_1, xl_i, xl_r, xs_0, xs_1, xq_i, xq_r, xq_v, xc_0, xc_1, xt_0, xt_1, xr_0, xr_1, xr_2, xe_0, xe_1, ob_0, ob_18, ob_36, ob_54, ak_55, ln_55, cq_55, ak_56, ln_56, cq_56, ob_57, ak_58, ln_58, cq_58, ak_59, ln_59, cq_59, ob_60, ak_61, ln_61, cq_61, ak_62, ln_62, cq_62, ob_63, ak_64, ln_64, cq_64, ak_65, ln_65, cq_65, ak_66, ln_66, cq_66, ak_67, ln_67, cq_67, ak_68, ln_68, cq_68, ak_69, ln_69, cq_69, ak_70, ln_70, cq_70, ak_71, ln_71, cq_71, ak_72, ln_72, cq_72, ak_73, ln_73, cq_73, pt_54_0, pt_54_1, pt_57_0, pt_57_3, pt_60_0, pt_60_1, pt_60_2, pt_60_4, pt_60_5, pt_60_6, pt_60_8, pt_63_0, pt_63_1, pt_63_2, pt_63_3, pt_63_4, pt_63_6, pt_63_7, pt_63_10, pt_63_11, pt_63_17, true_and, and_true, List.length_cons, List.length_nil, Nat.reduceAdd, Nat.reduceLeDiff, forall_eq, ne_eq, Nat.reduceEqDiff, not_false_eq_true, or_false, false_or, or_true, true_or, reduceCtorEq, Nat.zero_le, Nat.reduceMul, Nat.add_zero, false_and, and_false, false_implies, true_implies, forall_const, implies_true, List.append_nil, List.nil_append, List.cons_append, mb_i, mb_ii, mb_iii, mb_r, mb_ri, mb_rii, mb_riii, mb_rr, mb_rri, mb_rrii, mb_rriii, mb_riiiii, mb_rrr, mb_rir, mb_iiii, mb_riiii, tn_0, tn_1, tn_2, tn_3, tn_4, tn_5, tn_6, tc_0, tc_1, tc_2, tc_3, tc_4, tc_5, tc_6, xf_0, xf_1, xf_2, Sum.inl.injEq, Sum.inr.injEq, C_M_add5, C_M_isFull, C_M_letter6, C_M_outside, C_M_refuse6])
          refine ⟨⟨h96.1, by omega⟩, ?_⟩
          (refine b_47 _ _ _ ?_; simp only [k_X6_letter_0, k_X6_letter_26, k_X6_letter_38, k_X6_letter_47, xp_1, xp_2, xp_3, xp_4, xp_5, xp_6, xp_7, xp_10, xp_11, xp_12, xp_13, xp_14, xp_15, xp_16, xp_17, xp_18, xp_19, xp_20, xp_21, xp_22, xp_23, xp_30, xp_31, xp_32, xp_33, xp_34, xp_35, xp_36, xp_37, xp_38, xp_39, xp_40, xp_41, xp_42, xp_43, xp_50, xp_51, xp_52, xp_53, xp_60, xp_61, xp_62, xp_63, xp_64, xp_65, xp_70, xp_80, xp_81, xp_82, up_ne, up_s, ud_s, ud_o, xw_0, xw_1, xg_0, xg_1, xl_i, xl_r, xs_0, xs_1, xq_i, xq_r, xq_v, xc_0, xc_1, xt_0, xt_1, xr_0, xr_1, xr_2, xe_0, xe_1, ob_0, ob_18, ob_36, ob_54, ak_55, ln_55, cq_55, ak_56, ln_56, cq_56, ob_57, ak_58, ln_58, cq_58, ak_59, ln_59, cq_59, ob_60, ak_61, ln_61, cq_61, ak_62, ln_62, cq_62, ob_63, ak_64, ln_64, cq_64, ak_65, ln_65, cq_65, ak_66, ln_66, cq_66, ak_67, ln_67, cq_67, ak_68, ln_68, cq_68, ak_69, ln_69, cq_69, ak_70, ln_70, cq_70, ak_71, ln_71, cq_71, ak_72, ln_72, cq_72, ak_73, ln_73, cq_73, pt_54_0, pt_54_1, pt_57_0, pt_57_3, pt_60_0, pt_60_1, pt_60_2, pt_60_4, pt_60_5, pt_60_6, pt_60_8, pt_63_0, pt_63_1, pt_63_2, pt_63_3, pt_63_4, pt_63_6, pt_63_7, pt_63_10, pt_63_11, pt_63_17, true_and, and_true, List.length_cons, List.length_nil, Nat.reduceAdd, Nat.reduceLeDiff, forall_eq, ne_eq, Nat.reduceEqDiff, not_false_eq_true, or_false, false_or, or_true, true_or, reduceCtorEq, Nat.zero_le, Nat.reduceMul, Nat.add_zero, false_and, and_false, false_implies, true_implies, forall_const, implies_true, List.append_nil, List.nil_append, List.cons_append, mb_i, mb_ii, mb_iii, mb_r, mb_ri, mb_rii, mb_riii, mb_rr, mb_rri, mb_rrii, mb_rriii, mb_riiiii, mb_rrr, mb_rir, mb_iiii, mb_riiii, tn_0, tn_1, tn_2, tn_3, tn_4, tn_5, tn_6, tc_0, tc_1, tc_2, tc_3, tc_4, tc_5, tc_6, xf_0, xf_1, xf_2, Sum.inl.injEq, Sum.inr.injEq, C_M_add5, C_M_isFull, C_M_letter6, C_M_outside, C_M_refuse6])
          unfold F_letter
          rw [if_pos h, cS_51, if_neg h2, pk_vc, i2c_id (s_wi_0 h)]
          refine ⟨rfl, ?_, fr2_u (fr2_u (fr2_r M) (by decide)) (by decide)⟩
          rw [cS_n1, cS_t]
        (refine b_26 _ _ _ ?_; simp only [k_X6_letter_0, k_X6_letter_26, k_X6_letter_38, k_X6_letter_47, xp_1, xp_2, xp_3, xp_4, xp_5, xp_6, xp_7, xp_10, xp_11, xp_12, xp_13, xp_14, xp_15, xp_16, xp_17, xp_18, xp_19, xp_20, xp_21, xp_22, xp_23, xp_30, xp_31, xp_32, xp_33, xp_34, xp_35, xp_36, xp_37, xp_38, xp_39, xp_40, xp_41, xp_42, xp_43, xp_50, xp_51, xp_52, xp_53, xp_60, xp_61, xp_62, xp_63, xp_64, xp_65, xp_70, xp_80, xp_81, xp_82, up_ne, up_s, ud_s, ud_o, xw_0, xw_1, xg_0, xg_1, xl_i, xl_r, xs_0, xs_1, xq_i, xq_r, xq_v, xc_0, xc_1, xt_0, xt_1, xr_0, xr_1, xr_2, xe_0, xe_1, ob_0, ob_18, ob_36, ob_54, ak_55, ln_55, cq_55, ak_56, ln_56, cq_56, ob_57, ak_58, ln_58, cq_58, ak_59, ln_59, cq_59, ob_60, ak_61, ln_61, cq_61, ak_62, ln_62, cq_62, ob_63, ak_64, ln_64, cq_64, ak_65, ln_65, cq_65, ak_66, ln_66, cq_66, ak_67, ln_67, cq_67, ak_68, ln_68, cq_68, ak_69, ln_69, cq_69, ak_70, ln_70, cq_70, ak_71, ln_71, cq_71, ak_72, ln_72, cq_72, ak_73, ln_73, cq_73, pt_54_0, pt_54_1, pt_57_0, pt_57_3, pt_60_0, pt_60_1, pt_60_2, pt_60_4, pt_60_5, pt_60_6, pt_60_8, pt_63_0, pt_63_1, pt_63_2, pt_63_3, pt_63_4, pt_63_6, pt_63_7, pt_63_10, pt_63_11, pt_63_17, true_and, and_true, List.length_cons, List.length_nil, Nat.reduceAdd, Nat.reduceLeDiff, forall_eq, ne_eq, Nat.reduceEqDiff, not_false_eq_true, or_false, false_or, or_true, true_or, reduceCtorEq, Nat.zero_le, Nat.reduceMul, Nat.add_zero, false_and, and_false, false_implies, true_implies, forall_const, implies_true, List.append_nil, List.nil_append, List.cons_append, mb_i, mb_ii, mb_iii, mb_r, mb_ri, mb_rii, mb_riii, mb_rr, mb_rri, mb_rrii, mb_rriii, mb_riiiii, mb_rrr, mb_rir, mb_iiii, mb_riiii, tn_0, tn_1, tn_2, tn_3, tn_4, tn_5, tn_6, tc_0, tc_1, tc_2, tc_3, tc_4, tc_5, tc_6, xf_0, xf_1, xf_2, Sum.inl.injEq, Sum.inr.injEq, C_M_add5, C_M_isFull, C_M_letter6, C_M_outside, C_M_refuse6])
        exact ⟨h38, fun z => absurd trivial z⟩
    · rw [if_neg h] at hno
      subst hno
      (refine b_26 _ _ _ ?_; simp only [k_X6_letter_0, k_X6_letter_26, k_X6_letter_38, k_X6_letter_47, xp_1, xp_2, xp_3, xp_4, xp_5, xp_6, xp_7, xp_10, xp_11, xp_12, xp_13, xp_14, xp_15, xp_16, xp_17, xp_18, xp_19, xp_20, xp_21, xp_22, xp_23, xp_30, xp_31, xp_32, xp_33, xp_34, xp_35, xp_36, xp_37, xp_38, xp_39, xp_40, xp_41, xp_42, xp_43, xp_50, xp_51, xp_52, xp_53, xp_60, xp_61, xp_62, xp_63, xp_64, xp_65, xp_70, xp_80, xp_81, xp_82, up_ne, up_s, ud_s, ud_o, xw_0, xw_1, xg_0, xg_1, xl_i, xl_r, xs_0, xs_1, xq_i, xq_r, xq_v, xc_0, xc_1, xt_0, xt_1, xr_0, xr_1, xr_2, xe_0, xe_1, ob_0, ob_18, ob_36, ob_54, ak_55, ln_55, cq_55, ak_56, ln_56, cq_56, ob_57, ak_58, ln_58, cq_58, ak_59, ln_59, cq_59, ob_60, ak_61, ln_61, cq_61, ak_62, ln_62, cq_62, ob_63, ak_64, ln_64, cq_64, ak_65, ln_65, cq_65, ak_66, ln_66, cq_66, ak_67, ln_67, cq_67, ak_68, ln_68, cq_68, ak_69, ln_69, cq_69, ak_70, ln_70, cq_70, ak_71, ln_71, cq_71, ak_72, ln_72, cq_72, ak_73, ln_73, cq_73, pt_54_0, pt_54_1, pt_57_0, pt_57_3, pt_60_0, pt_60_1, pt_60_2, pt_60_4, pt_60_5, pt_60_6, pt_60_8, pt_63_0, pt_63_1, pt_63_2, pt_63_3, pt_63_4, pt_63_6, pt_63_7, pt_63_10, pt_63_11, pt_63_17, true_and, and_true, List.length_cons, List.length_nil, Nat.reduceAdd, Nat.reduceLeDiff, forall_eq, ne_eq, Nat.reduceEqDiff, not_false_eq_true, or_false, false_or, or_true, true_or, reduceCtorEq, Nat.zero_le, Nat.reduceMul, Nat.add_zero, false_and, and_false, false_implies, true_implies, forall_const, implies_true, List.append_nil, List.nil_append, List.cons_append, mb_i, mb_ii, mb_iii, mb_r, mb_ri, mb_rii, mb_riii, mb_rr, mb_rri, mb_rrii, mb_rriii, mb_riiiii, mb_rrr, mb_rir, mb_iiii, mb_riiii, tn_0, tn_1, tn_2, tn_3, tn_4, tn_5, tn_6, tc_0, tc_1, tc_2, tc_3, tc_4, tc_5, tc_6, xf_0, xf_1, xf_2, Sum.inl.injEq, Sum.inr.injEq, C_M_add5, C_M_isFull, C_M_letter6, C_M_outside, C_M_refuse6])
      refine ⟨fun z => absurd z h, fun _ => ⟨s_wi_rc h, ?_⟩⟩
      (refine b_47 _ _ _ ?_; simp only [k_X6_letter_0, k_X6_letter_26, k_X6_letter_38, k_X6_letter_47, xp_1, xp_2, xp_3, xp_4, xp_5, xp_6, xp_7, xp_10, xp_11, xp_12, xp_13, xp_14, xp_15, xp_16, xp_17, xp_18, xp_19, xp_20, xp_21, xp_22, xp_23, xp_30, xp_31, xp_32, xp_33, xp_34, xp_35, xp_36, xp_37, xp_38, xp_39, xp_40, xp_41, xp_42, xp_43, xp_50, xp_51, xp_52, xp_53, xp_60, xp_61, xp_62, xp_63, xp_64, xp_65, xp_70, xp_80, xp_81, xp_82, up_ne, up_s, ud_s, ud_o, xw_0, xw_1, xg_0, xg_1, xl_i, xl_r, xs_0, xs_1, xq_i, xq_r, xq_v, xc_0, xc_1, xt_0, xt_1, xr_0, xr_1, xr_2, xe_0, xe_1, ob_0, ob_18, ob_36, ob_54, ak_55, ln_55, cq_55, ak_56, ln_56, cq_56, ob_57, ak_58, ln_58, cq_58, ak_59, ln_59, cq_59, ob_60, ak_61, ln_61, cq_61, ak_62, ln_62, cq_62, ob_63, ak_64, ln_64, cq_64, ak_65, ln_65, cq_65, ak_66, ln_66, cq_66, ak_67, ln_67, cq_67, ak_68, ln_68, cq_68, ak_69, ln_69, cq_69, ak_70, ln_70, cq_70, ak_71, ln_71, cq_71, ak_72, ln_72, cq_72, ak_73, ln_73, cq_73, pt_54_0, pt_54_1, pt_57_0, pt_57_3, pt_60_0, pt_60_1, pt_60_2, pt_60_4, pt_60_5, pt_60_6, pt_60_8, pt_63_0, pt_63_1, pt_63_2, pt_63_3, pt_63_4, pt_63_6, pt_63_7, pt_63_10, pt_63_11, pt_63_17, true_and, and_true, List.length_cons, List.length_nil, Nat.reduceAdd, Nat.reduceLeDiff, forall_eq, ne_eq, Nat.reduceEqDiff, not_false_eq_true, or_false, false_or, or_true, true_or, reduceCtorEq, Nat.zero_le, Nat.reduceMul, Nat.add_zero, false_and, and_false, false_implies, true_implies, forall_const, implies_true, List.append_nil, List.nil_append, List.cons_append, mb_i, mb_ii, mb_iii, mb_r, mb_ri, mb_rii, mb_riii, mb_rr, mb_rri, mb_rrii, mb_rriii, mb_riiiii, mb_rrr, mb_rir, mb_iiii, mb_riiii, tn_0, tn_1, tn_2, tn_3, tn_4, tn_5, tn_6, tc_0, tc_1, tc_2, tc_3, tc_4, tc_5, tc_6, xf_0, xf_1, xf_2, Sum.inl.injEq, Sum.inr.injEq, C_M_add5, C_M_isFull, C_M_letter6, C_M_outside, C_M_refuse6])
      unfold F_letter
      rw [if_neg h]
      exact ⟨rfl, cS_bp, fr2_u (fr2_r M) (by decide)⟩
  (refine b_0 _ _ _ ?_; simp only [k_X6_letter_0, k_X6_letter_26, k_X6_letter_38, k_X6_letter_47, xp_1, xp_2, xp_3, xp_4, xp_5, xp_6, xp_7, xp_10, xp_11, xp_12, xp_13, xp_14, xp_15, xp_16, xp_17, xp_18, xp_19, xp_20, xp_21, xp_22, xp_23, xp_30, xp_31, xp_32, xp_33, xp_34, xp_35, xp_36, xp_37, xp_38, xp_39, xp_40, xp_41, xp_42, xp_43, xp_50, xp_51, xp_52, xp_53, xp_60, xp_61, xp_62, xp_63, xp_64, xp_65, xp_70, xp_80, xp_81, xp_82, up_ne, up_s, ud_s, ud_o, xw_0, xw_1, xg_0, xg_1, xl_i, xl_r, xs_0, xs_1, xq_i, xq_r, xq_v, xc_0, xc_1, xt_0, xt_1, xr_0, xr_1, xr_2, xe_0, xe_1, ob_0, ob_18, ob_36, ob_54, ak_55, ln_55, cq_55, ak_56, ln_56, cq_56, ob_57, ak_58, ln_58, cq_58, ak_59, ln_59, cq_59, ob_60, ak_61, ln_61, cq_61, ak_62, ln_62, cq_62, ob_63, ak_64, ln_64, cq_64, ak_65, ln_65, cq_65, ak_66, ln_66, cq_66, ak_67, ln_67, cq_67, ak_68, ln_68, cq_68, ak_69, ln_69, cq_69, ak_70, ln_70, cq_70, ak_71, ln_71, cq_71, ak_72, ln_72, cq_72, ak_73, ln_73, cq_73, pt_54_0, pt_54_1, pt_57_0, pt_57_3, pt_60_0, pt_60_1, pt_60_2, pt_60_4, pt_60_5, pt_60_6, pt_60_8, pt_63_0, pt_63_1, pt_63_2, pt_63_3, pt_63_4, pt_63_6, pt_63_7, pt_63_10, pt_63_11, pt_63_17, true_and, and_true, List.length_cons, List.length_nil, Nat.reduceAdd, Nat.reduceLeDiff, forall_eq, ne_eq, Nat.reduceEqDiff, not_false_eq_true, or_false, false_or, or_true, true_or, reduceCtorEq, Nat.zero_le, Nat.reduceMul, Nat.add_zero, false_and, and_false, false_implies, true_implies, forall_const, implies_true, List.append_nil, List.nil_append, List.cons_append, mb_i, mb_ii, mb_iii, mb_r, mb_ri, mb_rii, mb_riii, mb_rr, mb_rri, mb_rrii, mb_rriii, mb_riiiii, mb_rrr, mb_rir, mb_iiii, mb_riiii, tn_0, tn_1, tn_2, tn_3, tn_4, tn_5, tn_6, tc_0, tc_1, tc_2, tc_3, tc_4, tc_5, tc_6, xf_0, xf_1, xf_2, Sum.inl.injEq, Sum.inr.injEq, C_M_add5, C_M_isFull, C_M_letter6, C_M_outside, C_M_refuse6])
  refine ⟨fun h => h26 _ (by rw [if_neg h]), fun h => ⟨fun h2 => ?_, fun h2 => ?_⟩⟩
  · have h3 : M 57 1 < 96 := Classical.not_not.mp (fun z => absurd h2 (by rw [if_neg z]; decide))
    have := h26 0 (by rw [if_pos h, if_neg (hlt.mp h3)])
    rw [h]
    exact this
  · have h3 : ¬ M 57 1 < 96 := fun z => h2 (if_pos z)
    exact h26 (-6) (by rw [if_pos h, if_pos (Classical.not_not.mp (fun z => h3 (hlt.mpr z)))])

