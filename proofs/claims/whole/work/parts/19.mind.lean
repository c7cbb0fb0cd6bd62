/-! rooms with a number changed; what is only thought of -/
theorem ud_f {f : Nat → Int32} {k j : Nat} {x : Int32} : upd f k x j = if j = k then x else f j := rfl
theorem dR_clk {r : Nat → Int32} (h : dR r) {c : Nat} {k : Nat} {v : Int32} (hc : c < tn (r 1)) (hk : (k = 2 ∧ bd v 0 300) ∨ (k = 3 ∧ bd v 1 20)) : dR (upd r (23 + 5 * c + k) v) := by
  obtain ⟨r0, r1, r2, r3, r4, r5, r6, rs, rc, rt, rz⟩ := h
  have hr1 := tn_of r1.1
  have hr12 := r1.2
  have e : ∀ j, j ≠ 23 + 5 * c + k → upd r (23 + 5 * c + k) v j = r j := fun j h => ud_o h
  have hk2 : k = 2 ∨ k = 3 := by omega
  have e0 := e 0 (by omega); have e1 := e 1 (by omega); have e2 := e 2 (by omega); have e3 := e 3 (by omega); have e4 := e 4 (by omega); have e5 := e 5 (by omega); have e6 := e 6 (by omega)
  have hr0 := tn_of r0.1
  have hr02 := r0.2
  have hr2 := tn_of r2.1
  unfold dR
  rw [e0, e1, e2, e3, e4, e5, e6]
  refine ⟨r0, r1, r2, r3, r4, r5, r6, fun i hi => ?_, fun d hd => ?_, fun t ht => ?_, fun j hj => ?_⟩
  · rw [e _ (by omega), e _ (by omega), e _ (by omega), e _ (by omega)]
    exact rs i hi
  · rw [e (23 + 5 * d) (by omega), e (23 + 5 * d + 1) (by omega), e (23 + 5 * d + 4) (by omega)]
    obtain ⟨a1, a2, a3, a4, a5, a6⟩ := rc d hd
    refine ⟨a1, a2, a3, ?_, ?_, a6⟩
    · by_cases q : 23 + 5 * d + 2 = 23 + 5 * c + k
      · rw [q, ud_s]
        rcases hk with ⟨-, hv⟩ | ⟨hk, hv⟩
        · exact hv
        · omega
      · rw [e _ q]; exact a4
    · by_cases q : 23 + 5 * d + 3 = 23 + 5 * c + k
      · rw [q, ud_s]
        rcases hk with ⟨hk, hv⟩ | ⟨-, hv⟩
        · omega
        · exact hv
      · rw [e _ q]; exact a5
  · rw [e _ (by omega), e _ (by omega)]
    exact rt t ht
  · rw [e _ (by omega)]
    exact rz j hj
theorem dR_num {r : Nat → Int32} (h : dR r) {k : Nat} {v : Int32} (hk : (k = 3 ∧ bd v 0 299) ∨ (k = 4 ∧ bd v 0 99) ∨ (k = 5 ∧ bd v 0 9) ∨ (k = 6 ∧ bd v 0 6)) : dR (upd r k v) := by
  obtain ⟨r0, r1, r2, r3, r4, r5, r6, rs, rc, rt, rz⟩ := h
  have hk2 : k = 3 ∨ k = 4 ∨ k = 5 ∨ k = 6 := by omega
  have e : ∀ j, j ≠ k → upd r k v j = r j := fun j h => ud_o h
  have e0 := e 0 (by omega); have e1 := e 1 (by omega); have e2 := e 2 (by omega)
  unfold dR
  rw [e0, e1, e2]
  refine ⟨r0, r1, r2, ?_, ?_, ?_, ?_, fun i hi => ?_, fun d hd => ?_, fun t ht => ?_, fun j hj => ?_⟩
  · by_cases q : 3 = k
    · rw [q, ud_s]; rcases hk with ⟨-, h⟩ | ⟨h, -⟩ | ⟨h, -⟩ | ⟨h, -⟩
      · exact h
      all_goals omega
    · rw [e _ q]; exact r3
  · by_cases q : 4 = k
    · rw [q, ud_s]; rcases hk with ⟨h, -⟩ | ⟨-, h⟩ | ⟨h, -⟩ | ⟨h, -⟩
      · omega
      · exact h
      all_goals omega
    · rw [e _ q]; exact r4
  · by_cases q : 5 = k
    · rw [q, ud_s]; rcases hk with ⟨h, -⟩ | ⟨h, -⟩ | ⟨-, h⟩ | ⟨h, -⟩
      · omega
      · omega
      · exact h
      · omega
    · rw [e _ q]; exact r5
  · by_cases q : 6 = k
    · rw [q, ud_s]; rcases hk with ⟨h, -⟩ | ⟨h, -⟩ | ⟨h, -⟩ | ⟨-, h⟩
      · omega
      · omega
      · omega
      · exact h
    · rw [e _ q]; exact r6
  · rw [e _ (by omega), e _ (by omega), e _ (by omega), e _ (by omega)]
    exact rs i hi
  · rw [e _ (by omega), e _ (by omega), e _ (by omega), e _ (by omega), e _ (by omega)]
    exact rc d hd
  · rw [e _ (by omega), e _ (by omega)]
    exact rt t ht
  · rw [e _ (by omega)]
    exact rz j hj
theorem dR_ln {r : Nat → Int32} (h : dR r) {i : Nat} {v : Int32} (hi : i < tn (r 0)) (hv : bd v 0 30) : dR (upd r (7 + 4 * i + 3) v) := by
  obtain ⟨r0, r1, r2, r3, r4, r5, r6, rs, rc, rt, rz⟩ := h
  have hr0 := tn_of r0.1
  have hr02 := r0.2
  have e : ∀ j, j ≠ 7 + 4 * i + 3 → upd r (7 + 4 * i + 3) v j = r j := fun j h => ud_o h
  have e0 := e 0 (by omega); have e1 := e 1 (by omega); have e2 := e 2 (by omega); have e3 := e 3 (by omega); have e4 := e 4 (by omega); have e5 := e 5 (by omega); have e6 := e 6 (by omega)
  unfold dR
  rw [e0, e1, e2, e3, e4, e5, e6]
  refine ⟨r0, r1, r2, r3, r4, r5, r6, fun d hd => ?_, fun d hd => ?_, fun t ht => ?_, fun j hj => ?_⟩
  · rw [e (7 + 4 * d) (by omega), e (7 + 4 * d + 1) (by omega), e (7 + 4 * d + 2) (by omega)]
    obtain ⟨a1, a2, a3, a4⟩ := rs d hd
    refine ⟨a1, a2, a3, ?_⟩
    by_cases q : 7 + 4 * d + 3 = 7 + 4 * i + 3
    · rw [q, ud_s]; exact hv
    · rw [e _ q]; exact a4
  · rw [e _ (by omega), e _ (by omega), e _ (by omega), e _ (by omega), e _ (by omega)]
    exact rc d hd
  · rw [e _ (by omega), e _ (by omega)]
    exact rt t ht
  · rw [e _ (by omega)]
    exact rz j hj
theorem s_ti_bd {t pr : Int32} (ht : bd t 0 9) : bd (s_ti t pr) 0 9 := by
  have e0 : (0 : Int32).toInt = 0 := rfl
  have e9 : (9 : Int32).toInt = 9 := rfl
  unfold s_ti
  generalize t + (if 1 < pr then (1 : Int32) else if pr = 0 then -1 else 0) = q
  split
  · exact ⟨by decide, by decide⟩
  · rename_i h1
    split
    · exact ⟨by decide, by decide⟩
    · rename_i h2
      rw [ti_lt] at h1 h2
      exact ⟨by omega, by omega⟩
theorem s_dy_bd {d : Int32} (hd : bd d 0 6) : bd (s_dy d) 0 6 := by
  obtain ⟨h1, h2⟩ := hd
  have e1 : (1 : Int32).toInt = 1 := rfl
  have e6 : (6 : Int32).toInt = 6 := rfl
  unfold s_dy
  split
  · rename_i h
    rw [ti_lt, e6] at h
    exact ⟨by rw [ti_add (by omega) (by omega)]; omega, by rw [ti_add (by omega) (by omega)]; omega⟩
  · exact ⟨by decide, by decide⟩
theorem dR_go {r : Nat → Int32} (h : dR r) (i : Int32) : dR (s_go r i) := by
  have h5 := h.2.2.2.2.2.1
  have h6 := h.2.2.2.2.2.2.1
  exact dR_num (dR_num h (Or.inr (Or.inr (Or.inl ⟨rfl, s_ti_bd h5⟩)))) (Or.inr (Or.inr (Or.inr ⟨rfl, s_dy_bd h6⟩)))
theorem dR_gn {r : Nat → Int32} (h : dR r) (i : Int32) : ∀ n, dR (s_gn r i n) := by
  intro n
  induction n with
  | zero => exact h
  | succ n ih => exact dR_go ih i
theorem gn_o (r : Nat → Int32) (i : Int32) : ∀ n j, j ≠ 5 → j ≠ 6 → s_gn r i n j = r j := by
  intro n
  induction n with
  | zero => intro j _ _; rfl
  | succ n ih =>
    intro j h5 h6
    show upd (upd _ 5 _) 6 _ j = r j
    rw [ud_o h6, ud_o h5]
    exact ih j h5 h6
/-- in mind: the row at hand; all else as it was -/
def wI (M M1 : mj_M) (row : Nat → Int32) : Prop := M1 65 = row ∧ (∀ j, j < 55 → M1 68 j = M 65 j) ∧ (∀ k, k ≠ 63 → k ≠ 65 → k ≠ 68 → k ≠ 71 → k ≠ 72 → M1 k = M k) ∧ ∀ j, j ≠ 12 → j ≠ 13 → j ≠ 14 → j ≠ 15 → j ≠ 16 → M1 63 j = M 63 j
theorem wI_b (M : mj_M) : wI M (mj_cp M 65 68) (M 65) := by
  refine ⟨?_, fun j hj => ?_, fun k h1 h2 h3 h4 h5 => ?_, fun j _ _ _ _ _ => ?_⟩
  · funext j; simp [mj_cp]
  · simp [mj_cp, hj]
  · funext j; simp [mj_cp, h3]
  · simp [mj_cp]
theorem wI_p {M M1 : mj_M} {row : Nat → Int32} (h : wI M M1 row) (p : Nat) (v : Int32) : wI M (mj_up M1 65 p v) (upd row p v) := by
  obtain ⟨h1, h2, h3, h4⟩ := h
  refine ⟨by rw [up_s, h1], fun j hj => by rw [up_ne (by decide)]; exact h2 j hj, fun k k1 k2 k3 k4 k5 => by rw [up_ne k2]; exact h3 k k1 k2 k3 k4 k5, fun j j1 j2 j3 j4 j5 => by rw [up_ne (by decide)]; exact h4 j j1 j2 j3 j4 j5⟩
theorem wI_M {M M1 M2 : mj_M} {row : Nat → Int32} (h : wI M M1 row) (hf : fM M1 M2) : wI M M2 row := by
  obtain ⟨h1, h2, h3, h4⟩ := h
  refine ⟨by rw [hf.1 65 (by decide) (by decide) (by decide), h1], fun j hj => by rw [hf.1 68 (by decide) (by decide) (by decide)]; exact h2 j hj, fun k k1 k2 k3 k4 k5 => by rw [hf.1 k k1 k4 k5]; exact h3 k k1 k2 k3 k4 k5, fun j j1 j2 j3 j4 j5 => by rw [hf.2 j j1 j2 j3 j4]; exact h4 j j1 j2 j3 j4 j5⟩
theorem wI_V {M M1 M2 : mj_M} {row : Nat → Int32} (h : wI M M1 row) (h65 : M2 65 = M1 65) (hk : ∀ k, ¬ k = 63 → ¬ k = 71 → ¬ k = 72 → M2 k = M1 k) (hj : ∀ j, ¬ j = 12 → ¬ j = 13 → ¬ j = 14 → ¬ j = 15 → ¬ j = 16 → M2 63 j = M1 63 j) : wI M M2 row := by
  obtain ⟨h1, h2, h3, h4⟩ := h
  refine ⟨by rw [h65, h1], fun j hj => by rw [hk 68 (by decide) (by decide) (by decide)]; exact h2 j hj, fun k k1 k2 k3 k4 k5 => by rw [hk k k1 k4 k5]; exact h3 k k1 k2 k3 k4 k5, fun j j1 j2 j3 j4 j5 => by rw [hj j j1 j2 j3 j4 j5]; exact h4 j j1 j2 j3 j4 j5⟩
theorem wI_e {M M1 : mj_M} {row : Nat → Int32} (h : wI M M1 row) (hr : ∀ j, 55 ≤ j → row j = M 65 j) : mS (mj_cp M1 68 65) = mS M ∧ fr1 M (mj_cp M1 68 65) := by
  obtain ⟨h1, h2, h3, h4⟩ := h
  have e : ∀ k, k ≠ 65 → mj_cp M1 68 65 k = M1 k := fun k hk => by funext j; simp [mj_cp, hk]
  refine ⟨mS_eq ?_ ?_ ?_ ?_ ?_ ?_ ?_ ?_, fun k hk => ?_⟩
  · funext j
    by_cases hj : j < 55
    · simp [mj_cp, hj, h2 j hj]
    · simp [mj_cp, hj]
      rw [h1]
      exact hr j (by omega)
  · rw [e _ (by decide)]; exact h3 _ (by decide) (by decide) (by decide) (by decide) (by decide)
  · rw [e _ (by decide)]; exact h3 _ (by decide) (by decide) (by decide) (by decide) (by decide)
  · rw [e _ (by decide)]; exact h3 _ (by decide) (by decide) (by decide) (by decide) (by decide)
  · rw [e _ (by decide)]; exact h3 _ (by decide) (by decide) (by decide) (by decide) (by decide)
  · rw [e _ (by decide)]; exact h4 _ (by decide) (by decide) (by decide) (by decide) (by decide)
  · rw [e _ (by decide)]; exact h4 _ (by decide) (by decide) (by decide) (by decide) (by decide)
  · rw [e _ (by decide)]; exact h4 _ (by decide) (by decide) (by decide) (by decide) (by decide)
  · rw [e _ (by omega)]; exact h3 k (by omega) (by omega) (by omega) (by omega) (by omega)
theorem ud_cg {f g : Nat → Int32} {p : Nat} {v : Int32} (h : ∀ j, j ≠ p → f j = g j) : upd f p v = upd g p v := by
  funext j
  by_cases e : j = p
  · rw [e, ud_s, ud_s]
  · rw [ud_o e, ud_o e, h j e]
/-- whose a clock is -/
theorem own_sl {r : Nat → Int32} (h : dR r) {c : Nat} (hc : c < tn (r 1)) : s_sl r (r (23 + 5 * c + 1)) := by
  obtain ⟨-, -, -, -, -, -, -, -, rc, -, -⟩ := h
  have := rc c hc
  exact ⟨this.2.1.1, this.2.2.1⟩
theorem in_tn {i n : Int32} (h : ¬ s_in i n = 0) : tn i < tn n := by
  obtain ⟨h1, h2⟩ := s_in_ge h
  have e1 := tn_of h1
  have e2 := tn_of (x := n) (by omega)
  omega
def C_M_lays : mj_C := (2, 0, fun avs M => ma_rr avs fun f t => (65 ≤ f ∧ f ≤ 68 ∧ 65 ≤ t ∧ t ≤ 68 ∧ f ≠ t), fun avs M r M' => ma_rr avs fun f t => (M' = mj_cp M f t))
set_option maxRecDepth 20000 in
set_option maxHeartbeats 2000000 in
theorem t_M_lays : mj_T yX7_lays cX7_lays 3 none 0 C_M_lays := by
  refine mj_T_of (own := 7) (rk := 0) [] (by decide) rfl (by decide) ⟨rfl, rfl⟩ (fun _ h => absurd h List.not_mem_nil) ?_
  intro avs M hlen hpre V hV
  obtain ⟨f, t, rfl, hp⟩ := mc_rr hpre
  show V 0 [some (.inr f), some (.inr t), none] [] M
  have b_0 := hV h_X7_lays_0; have b_2 := hV h_X7_lays_2; have b_20 := hV h_X7_lays_20
  clear hlen hpre hV
  obtain ⟨f1, f2, t1, t2, hne⟩ := hp
  have hf : mj_ak f = 0 ∧ mj_ln mj_s0 f = 55 ∧ ∀ (M : mj_M) (j : Nat), mj_cq mj_s0 M f j = M f j := by
    rcases (show f = 65 ∨ f = 66 ∨ f = 67 ∨ f = 68 by omega) with rfl | rfl | rfl | rfl <;> exact ⟨rfl, rfl, fun _ _ => rfl⟩
  have ht : mj_ak t = 0 ∧ mj_ln mj_s0 t = 55 := by
    rcases (show t = 65 ∨ t = 66 ∨ t = 67 ∨ t = 68 by omega) with rfl | rfl | rfl | rfl <;> exact ⟨rfl, rfl⟩
  have loop : ∀ (g j : Nat), j + g = 55 → ∀ L2 : Option mj_V, L2 = some (.inl (nI j)) → V 2 [some (.inr f), some (.inr t), L2] [] (fun b i => if b = t then (if i < j then M f i else M b i) else M b i) := by
    intro g
    induction g with
    | zero =>
      intro j hj L2 hL
      subst hL
      (refine b_2 _ _ _ ?_; simp only [k_X7_lays_0, k_X7_lays_2, k_X7_lays_20, xp_1, xp_2, xp_3, xp_4, xp_5, xp_6, xp_7, xp_10, xp_11, xp_12, xp_13, xp_14, xp_15, xp_16, xp_17, xp_18, xp_19, xp_20, xp_21, xp_22, xp_23, xp_30, xp_31, xp_32, xp_33, xp_34, xp_35, xp_36, xp_37, xp_38, xp_39, xp_40, xp_41, xp_42, xp_43, xp_50, xp_51, xp_52, xp_53, xp_60, xp_61, xp_62, xp_63, xp_64, xp_65, xp_70, xp_80, xp_81, xp_82, up_ne, up_s, ud_s, ud_o, xw_0, xw_1, xg_0, xg_1, xl_i, xl_r, xs_0, xs_1, xq_i, xq_r, xq_v, xc_0, xc_1, xt_0, xt_1, xr_0, xr_1, xr_2, xe_0, xe_1, ob_0, ob_18, ob_36, ob_54, ak_55, ln_55, cq_55, ak_56, ln_56, cq_56, ob_57, ak_58, ln_58, cq_58, ak_59, ln_59, cq_59, ob_60, ak_61, ln_61, cq_61, ak_62, ln_62, cq_62, ob_63, ak_64, ln_64, cq_64, ak_65, ln_65, cq_65, ak_66, ln_66, cq_66, ak_67, ln_67, cq_67, ak_68, ln_68, cq_68, ak_69, ln_69, cq_69, ak_70, ln_70, cq_70, ak_71, ln_71, cq_71, ak_72, ln_72, cq_72, ak_73, ln_73, cq_73, pt_54_0, pt_54_1, pt_57_0, pt_57_3, pt_60_0, pt_60_1, pt_60_2, pt_60_4, pt_60_5, pt_60_6, pt_60_8, pt_63_0, pt_63_1, pt_63_2, pt_63_3, pt_63_4, pt_63_6, pt_63_7, pt_63_10, pt_63_11, pt_63_17, true_and, and_true, List.length_cons, List.length_nil, Nat.reduceAdd, Nat.reduceLeDiff, forall_eq, ne_eq, Nat.reduceEqDiff, not_false_eq_true, or_false, false_or, or_true, true_or, reduceCtorEq, Nat.zero_le, Nat.reduceMul, Nat.add_zero, false_and, and_false, false_implies, true_implies, forall_const, implies_true, List.append_nil, List.nil_append, List.cons_append, mb_i, mb_ii, mb_iii, mb_r, mb_ri, mb_rii, mb_riii, mb_rr, mb_rri, mb_rrii, mb_rriii, mb_riiiii, mb_rrr, mb_rir, mb_iiii, mb_riiii, tn_0, tn_1, tn_2, tn_3, tn_4, tn_5, tn_6, tc_0, tc_1, tc_2, tc_3, tc_4, tc_5, tc_6, xf_0, xf_1, xf_2, Sum.inl.injEq, Sum.inr.injEq, C_M_lays, nI_1])
      refine ⟨fun _ => ?_, fun h => absurd h (by rw [show j = 55 by omega]; decide)⟩
      (refine b_20 _ _ _ ?_; simp only [k_X7_lays_0, k_X7_lays_2, k_X7_lays_20, xp_1, xp_2, xp_3, xp_4, xp_5, xp_6, xp_7, xp_10, xp_11, xp_12, xp_13, xp_14, xp_15, xp_16, xp_17, xp_18, xp_19, xp_20, xp_21, xp_22, xp_23, xp_30, xp_31, xp_32, xp_33, xp_34, xp_35, xp_36, xp_37, xp_38, xp_39, xp_40, xp_41, xp_42, xp_43, xp_50, xp_51, xp_52, xp_53, xp_60, xp_61, xp_62, xp_63, xp_64, xp_65, xp_70, xp_80, xp_81, xp_82, up_ne, up_s, ud_s, ud_o, xw_0, xw_1, xg_0, xg_1, xl_i, xl_r, xs_0, xs_1, xq_i, xq_r, xq_v, xc_0, xc_1, xt_0, xt_1, xr_0, xr_1, xr_2, xe_0, xe_1, ob_0, ob_18, ob_36, ob_54, ak_55, ln_55, cq_55, ak_56, ln_56, cq_56, ob_57, ak_58, ln_58, cq_58, ak_59, ln_59, cq_59, ob_60, ak_61, ln_61, cq_61, ak_62, ln_62, cq_62, ob_63, ak_64, ln_64, cq_64, ak_65, ln_65, cq_65, ak_66, ln_66, cq_66, ak_67, ln_67, cq_67, ak_68, ln_68, cq_68, ak_69, ln_69, cq_69, ak_70, ln_70, cq_70, ak_71, ln_71, cq_71, ak_72, ln_72, cq_72, ak_73, ln_73, cq_73, pt_54_0, pt_54_1, pt_57_0, pt_57_3, pt_60_0, pt_60_1, pt_60_2, pt_60_4, pt_60_5, pt_60_6, pt_60_8, pt_63_0, pt_63_1, pt_63_2, pt_63_3, pt_63_4, pt_63_6, pt_63_7, pt_63_10, pt_63_11, pt_63_17, true_and, and_true, List.length_cons, List.length_nil, Nat.reduceAdd, Nat.reduceLeDiff, forall_eq, ne_eq, Nat.reduceEqDiff, not_false_eq_true, or_false, false_or, or_true, true_or, reduceCtorEq, Nat.zero_le, Nat.reduceMul, Nat.add_zero, false_and, and_false, false_implies, true_implies, forall_const, implies_true, List.append_nil, List.nil_append, List.cons_append, mb_i, mb_ii, mb_iii, mb_r, mb_ri, mb_rii, mb_riii, mb_rr, mb_rri, mb_rrii, mb_rriii, mb_riiiii, mb_rrr, mb_rir, mb_iiii, mb_riiii, tn_0, tn_1, tn_2, tn_3, tn_4, tn_5, tn_6, tc_0, tc_1, tc_2, tc_3, tc_4, tc_5, tc_6, xf_0, xf_1, xf_2, Sum.inl.injEq, Sum.inr.injEq, C_M_lays, nI_1])
      rw [show j = 55 by omega]
      rfl
    | succ g ih =>
      intro j hj L2 hL
      subst hL
      have h55 : nI j < 55 := by rw [ti_lt, ti_nI (by omega)]; have : (55 : Int32).toInt = 55 := rfl; omega
      have e1 : (nI j).toNatClampNeg = j := tn_nI (by omega)
      (refine b_2 _ _ _ ?_; simp only [k_X7_lays_0, k_X7_lays_2, k_X7_lays_20, xp_1, xp_2, xp_3, xp_4, xp_5, xp_6, xp_7, xp_10, xp_11, xp_12, xp_13, xp_14, xp_15, xp_16, xp_17, xp_18, xp_19, xp_20, xp_21, xp_22, xp_23, xp_30, xp_31, xp_32, xp_33, xp_34, xp_35, xp_36, xp_37, xp_38, xp_39, xp_40, xp_41, xp_42, xp_43, xp_50, xp_51, xp_52, xp_53, xp_60, xp_61, xp_62, xp_63, xp_64, xp_65, xp_70, xp_80, xp_81, xp_82, up_ne, up_s, ud_s, ud_o, xw_0, xw_1, xg_0, xg_1, xl_i, xl_r, xs_0, xs_1, xq_i, xq_r, xq_v, xc_0, xc_1, xt_0, xt_1, xr_0, xr_1, xr_2, xe_0, xe_1, ob_0, ob_18, ob_36, ob_54, ak_55, ln_55, cq_55, ak_56, ln_56, cq_56, ob_57, ak_58, ln_58, cq_58, ak_59, ln_59, cq_59, ob_60, ak_61, ln_61, cq_61, ak_62, ln_62, cq_62, ob_63, ak_64, ln_64, cq_64, ak_65, ln_65, cq_65, ak_66, ln_66, cq_66, ak_67, ln_67, cq_67, ak_68, ln_68, cq_68, ak_69, ln_69, cq_69, ak_70, ln_70, cq_70, ak_71, ln_71, cq_71, ak_72, ln_72, cq_72, ak_73, ln_73, cq_73, pt_54_0, pt_54_1, pt_57_0, pt_57_3, pt_60_0, pt_60_1, pt_60_2, pt_60_4, pt_60_5, pt_60_6, pt_60_8, pt_63_0, pt_63_1, pt_63_2, pt_63_3, pt_63_4, pt_63_6, pt_63_7, pt_63_10, pt_63_11, pt_63_17, true_and, and_true, List.length_cons, List.length_nil, Nat.reduceAdd, Nat.reduceLeDiff, forall_eq, ne_eq, Nat.reduceEqDiff, not_false_eq_true, or_false, false_or, or_true, true_or, reduceCtorEq, Nat.zero_le, Nat.reduceMul, Nat.add_zero, false_and, and_false, false_implies, true_implies, forall_const, implies_true, List.append_nil, List.nil_append, List.cons_append, mb_i, mb_ii, mb_iii, mb_r, mb_ri, mb_rii, mb_riii, mb_rr, mb_rri, mb_rrii, mb_rriii, mb_riiiii, mb_rrr, mb_rir, mb_iiii, mb_riiii, tn_0, tn_1, tn_2, tn_3, tn_4, tn_5, tn_6, tc_0, tc_1, tc_2, tc_3, tc_4, tc_5, tc_6, xf_0, xf_1, xf_2, Sum.inl.injEq, Sum.inr.injEq, C_M_lays, nI_1])
      rw [hf.1, hf.2.1, ht.1, ht.2, hf.2.2, e1]
      refine ⟨fun h => absurd h55 h, fun _ => ⟨Or.inl rfl, vi_l (by omega) (by omega), rfl, vi_l (by omega) (by omega), ?_⟩⟩
      refine mv_eq (ih (j + 1) (by omega) _ rfl) rfl rfl ?_
      funext b i
      unfold mj_up
      by_cases hb : b = t
      · subst hb
        rw [if_neg hne]
        by_cases hi : i = j
        · subst hi
          simp
        · by_cases h2 : i < j
          · have h3 : i < j + 1 := by omega
            simp [hi, h2, h3]
          · have h3 : ¬ i < j + 1 := by omega
            simp [hi, h2, h3]
      · simp [hb]
  (refine b_0 _ _ _ ?_; simp only [k_X7_lays_0, k_X7_lays_2, k_X7_lays_20, xp_1, xp_2, xp_3, xp_4, xp_5, xp_6, xp_7, xp_10, xp_11, xp_12, xp_13, xp_14, xp_15, xp_16, xp_17, xp_18, xp_19, xp_20, xp_21, xp_22, xp_23, xp_30, xp_31, xp_32, xp_33, xp_34, xp_35, xp_36, xp_37, xp_38, xp_39, xp_40, xp_41, xp_42, xp_43, xp_50, xp_51, xp_52, xp_53, xp_60, xp_61, xp_62, xp_63, xp_64, xp_65, xp_70, xp_80, xp_81, xp_82, up_ne, up_s, ud_s, ud_o, xw_0, xw_1, xg_0, xg_1, xl_i, xl_r, xs_0, xs_1, xq_i, xq_r, xq_v, xc_0, xc_1, xt_0, xt_1, xr_0, xr_1, xr_2, xe_0, xe_1, ob_0, ob_18, ob_36, ob_54, ak_55, ln_55, cq_55, ak_56, ln_56, cq_56, ob_57, ak_58, ln_58, cq_58, ak_59, ln_59, cq_59, ob_60, ak_61, ln_61, cq_61, ak_62, ln_62, cq_62, ob_63, ak_64, ln_64, cq_64, ak_65, ln_65, cq_65, ak_66, ln_66, cq_66, ak_67, ln_67, cq_67, ak_68, ln_68, cq_68, ak_69, ln_69, cq_69, ak_70, ln_70, cq_70, ak_71, ln_71, cq_71, ak_72, ln_72, cq_72, ak_73, ln_73, cq_73, pt_54_0, pt_54_1, pt_57_0, pt_57_3, pt_60_0, pt_60_1, pt_60_2, pt_60_4, pt_60_5, pt_60_6, pt_60_8, pt_63_0, pt_63_1, pt_63_2, pt_63_3, pt_63_4, pt_63_6, pt_63_7, pt_63_10, pt_63_11, pt_63_17, true_and, and_true, List.length_cons, List.length_nil, Nat.reduceAdd, Nat.reduceLeDiff, forall_eq, ne_eq, Nat.reduceEqDiff, not_false_eq_true, or_false, false_or, or_true, true_or, reduceCtorEq, Nat.zero_le, Nat.reduceMul, Nat.add_zero, false_and, and_false, false_implies, true_implies, forall_const, implies_true, List.append_nil, List.nil_append, List.cons_append, mb_i, mb_ii, mb_iii, mb_r, mb_ri, mb_rii, mb_riii, mb_rr, mb_rri, mb_rrii, mb_rriii, mb_riiiii, mb_rrr, mb_rir, mb_iiii, mb_riiii, tn_0, tn_1, tn_2, tn_3, tn_4, tn_5, tn_6, tc_0, tc_1, tc_2, tc_3, tc_4, tc_5, tc_6, xf_0, xf_1, xf_2, Sum.inl.injEq, Sum.inr.injEq, C_M_lays, nI_1])
  refine mv_eq (loop 55 0 (by omega) _ rfl) rfl rfl ?_
  funext b i
  simp

def C_M_begins : mj_C := (1, 0, fun avs M => ma_r avs fun a => (a = 63), fun avs M r M' => ma_r avs fun a => (M' = mj_cp M 65 68))
theorem rc_M_begins : ∀ avs M, C_M_begins.2.2.1 avs M → ∃ a r, avs = .inr a :: r ∧ mj_ob a = 7 := by
  intro avs M h
  obtain ⟨a, rfl, h⟩ := mc_r h
  exact ⟨_, _, rfl, by rw [h]; rfl⟩
set_option maxRecDepth 20000 in
set_option maxHeartbeats 2000000 in
theorem t_M_begins : mj_T yX7_begins cX7_begins 1 none 1 C_M_begins := by
  refine mj_T_of (own := 7) (rk := 0) [(137, C_M_lays)] (by decide) rfl (by decide) ⟨rfl, rfl⟩ (List.forall_mem_cons.mpr ⟨mj_KS (own := 7) (nest := false) t_M_lays ⟨wc_X7_lays, wi_X7, by decide, wl_7_45⟩ wn_X7_lays (by decide +kernel) (by decide), (fun _ h => absurd h List.not_mem_nil)⟩) ?_
  intro avs M hlen hpre V hV
  obtain ⟨a, rfl, hp⟩ := mc_r hpre
  show V 0 [some (.inr a)] [] M
  have b_0 := hV h_X7_begins_0
  clear hlen hpre hV
  subst hp
  (refine b_0 _ _ _ ?_; simp only [k_X7_begins_0, xp_1, xp_2, xp_3, xp_4, xp_5, xp_6, xp_7, xp_10, xp_11, xp_12, xp_13, xp_14, xp_15, xp_16, xp_17, xp_18, xp_19, xp_20, xp_21, xp_22, xp_23, xp_30, xp_31, xp_32, xp_33, xp_34, xp_35, xp_36, xp_37, xp_38, xp_39, xp_40, xp_41, xp_42, xp_43, xp_50, xp_51, xp_52, xp_53, xp_60, xp_61, xp_62, xp_63, xp_64, xp_65, xp_70, xp_80, xp_81, xp_82, up_ne, up_s, ud_s, ud_o, xw_0, xw_1, xg_0, xg_1, xl_i, xl_r, xs_0, xs_1, xq_i, xq_r, xq_v, xc_0, xc_1, xt_0, xt_1, xr_0, xr_1, xr_2, xe_0, xe_1, ob_0, ob_18, ob_36, ob_54, ak_55, ln_55, cq_55, ak_56, ln_56, cq_56, ob_57, ak_58, ln_58, cq_58, ak_59, ln_59, cq_59, ob_60, ak_61, ln_61, cq_61, ak_62, ln_62, cq_62, ob_63, ak_64, ln_64, cq_64, ak_65, ln_65, cq_65, ak_66, ln_66, cq_66, ak_67, ln_67, cq_67, ak_68, ln_68, cq_68, ak_69, ln_69, cq_69, ak_70, ln_70, cq_70, ak_71, ln_71, cq_71, ak_72, ln_72, cq_72, ak_73, ln_73, cq_73, pt_54_0, pt_54_1, pt_57_0, pt_57_3, pt_60_0, pt_60_1, pt_60_2, pt_60_4, pt_60_5, pt_60_6, pt_60_8, pt_63_0, pt_63_1, pt_63_2, pt_63_3, pt_63_4, pt_63_6, pt_63_7, pt_63_10, pt_63_11, pt_63_17, true_and, and_true, List.length_cons, List.length_nil, Nat.reduceAdd, Nat.reduceLeDiff, forall_eq, ne_eq, Nat.reduceEqDiff, not_false_eq_true, or_false, false_or, or_true, true_or, reduceCtorEq, Nat.zero_le, Nat.reduceMul, Nat.add_zero, false_and, and_false, false_implies, true_implies, forall_const, implies_true, List.append_nil, List.nil_append, List.cons_append, mb_i, mb_ii, mb_iii, mb_r, mb_ri, mb_rii, mb_riii, mb_rr, mb_rri, mb_rrii, mb_rriii, mb_riiiii, mb_rrr, mb_rir, mb_iiii, mb_riiii, tn_0, tn_1, tn_2, tn_3, tn_4, tn_5, tn_6, tc_0, tc_1, tc_2, tc_3, tc_4, tc_5, tc_6, xf_0, xf_1, xf_2, Sum.inl.injEq, Sum.inr.injEq, C_M_begins, C_M_lays])

def C_M_ends : mj_C := (1, 0, fun avs M => ma_r avs fun a => (a = 63), fun avs M r M' => ma_r avs fun a => (M' = mj_cp M 68 65))
theorem rc_M_ends : ∀ avs M, C_M_ends.2.2.1 avs M → ∃ a r, avs = .inr a :: r ∧ mj_ob a = 7 := by
  intro avs M h
  obtain ⟨a, rfl, h⟩ := mc_r h
  exact ⟨_, _, rfl, by rw [h]; rfl⟩
set_option maxRecDepth 20000 in
set_option maxHeartbeats 2000000 in
theorem t_M_ends : mj_T yX7_ends cX7_ends 1 none 1 C_M_ends := by
  refine mj_T_of (own := 7) (rk := 0) [(137, C_M_lays)] (by decide) rfl (by decide) ⟨rfl, rfl⟩ (List.forall_mem_cons.mpr ⟨mj_KS (own := 7) (nest := false) t_M_lays ⟨wc_X7_lays, wi_X7, by decide, wl_7_45⟩ wn_X7_lays (by decide +kernel) (by decide), (fun _ h => absurd h List.not_mem_nil)⟩) ?_
  intro avs M hlen hpre V hV
  obtain ⟨a, rfl, hp⟩ := mc_r hpre
  show V 0 [some (.inr a)] [] M
  have b_0 := hV h_X7_ends_0
  clear hlen hpre hV
  subst hp
  (refine b_0 _ _ _ ?_; simp only [k_X7_ends_0, xp_1, xp_2, xp_3, xp_4, xp_5, xp_6, xp_7, xp_10, xp_11, xp_12, xp_13, xp_14, xp_15, xp_16, xp_17, xp_18, xp_19, xp_20, xp_21, xp_22, xp_23, xp_30, xp_31, xp_32, xp_33, xp_34, xp_35, xp_36, xp_37, xp_38, xp_39, xp_40, xp_41, xp_42, xp_43, xp_50, xp_51, xp_52, xp_53, xp_60, xp_61, xp_62, xp_63, xp_64, xp_65, xp_70, xp_80, xp_81, xp_82, up_ne, up_s, ud_s, ud_o, xw_0, xw_1, xg_0, xg_1, xl_i, xl_r, xs_0, xs_1, xq_i, xq_r, xq_v, xc_0, xc_1, xt_0, xt_1, xr_0, xr_1, xr_2, xe_0, xe_1, ob_0, ob_18, ob_36, ob_54, ak_55, ln_55, cq_55, ak_56, ln_56, cq_56, ob_57, ak_58, ln_58, cq_58, ak_59, ln_59, cq_59, ob_60, ak_61, ln_61, cq_61, ak_62, ln_62, cq_62, ob_63, ak_64, ln_64, cq_64, ak_65, ln_65, cq_65, ak_66, ln_66, cq_66, ak_67, ln_67, cq_67, ak_68, ln_68, cq_68, ak_69, ln_69, cq_69, ak_70, ln_70, cq_70, ak_71, ln_71, cq_71, ak_72, ln_72, cq_72, ak_73, ln_73, cq_73, pt_54_0, pt_54_1, pt_57_0, pt_57_3, pt_60_0, pt_60_1, pt_60_2, pt_60_4, pt_60_5, pt_60_6, pt_60_8, pt_63_0, pt_63_1, pt_63_2, pt_63_3, pt_63_4, pt_63_6, pt_63_7, pt_63_10, pt_63_11, pt_63_17, true_and, and_true, List.length_cons, List.length_nil, Nat.reduceAdd, Nat.reduceLeDiff, forall_eq, ne_eq, Nat.reduceEqDiff, not_false_eq_true, or_false, false_or, or_true, true_or, reduceCtorEq, Nat.zero_le, Nat.reduceMul, Nat.add_zero, false_and, and_false, false_implies, true_implies, forall_const, implies_true, List.append_nil, List.nil_append, List.cons_append, mb_i, mb_ii, mb_iii, mb_r, mb_ri, mb_rii, mb_riii, mb_rr, mb_rri, mb_rrii, mb_rriii, mb_riiiii, mb_rrr, mb_rir, mb_iiii, mb_riiii, tn_0, tn_1, tn_2, tn_3, tn_4, tn_5, tn_6, tc_0, tc_1, tc_2, tc_3, tc_4, tc_5, tc_6, xf_0, xf_1, xf_2, Sum.inl.injEq, Sum.inr.injEq, C_M_ends, C_M_lays])

