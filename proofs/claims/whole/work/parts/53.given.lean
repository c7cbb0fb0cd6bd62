/-! what the start gives: static rows, String constants, classes -/
abbrev gG : Jvm.Cond := Jvm.Cond.and given_1 narrow_1
abbrev gt (t : Nat) : Term := .static RX6 (mj_sn.getD t "") "[I"
abbrev gk (i : Nat) : Term := .string RX5 (mj_st.getD i (0, "")).1
set_option maxRecDepth 100000 in
theorem st_harr : ∀ t, t < 10 → Cond.arrayOf (gt t) .int ∈ flatC gG := by decide +kernel
set_option maxRecDepth 100000 in
theorem st_hlen : ∀ t, t < 10 → Cond.eq (.length (gt t)) (.int (Int32.ofNat (mj_sh (100 + t)).2.2)) ∈ flatC gG := by decide +kernel
set_option maxRecDepth 100000 in
theorem st_hel : ∀ t, t < 10 → ∀ j, j < (mj_sh (100 + t)).2.2 → Cond.eq (.elem (gt t) (.int (Int32.ofNat j))) (.int (mj_sc (100 + t) j)) ∈ flatC gG := by decide +kernel
set_option maxRecDepth 100000 in
theorem st_lay : ∀ t, t < 10 → Cond.laysStatic RX6 (mj_sn.getD t "") "[I" ∈ lw_tbl := by decide +kernel
theorem st_small : ∀ t, t < 10 → (mj_sh (100 + t)).2.2 < 2 ^ 31 := by decide +kernel
set_option maxRecDepth 100000 in
theorem st_kex : ∀ i, i < 8 → Cond.exactly (gk i) "java/lang/String" ∈ flatC gG := by decide +kernel
set_option maxRecDepth 100000 in
theorem st_kco : ∀ i, i < 8 → Cond.eq (.field (gk i) "java/lang/String" "coder" "B") (.int 0) ∈ flatC gG := by decide +kernel
set_option maxRecDepth 100000 in
theorem st_kar : ∀ i, i < 8 → Cond.arrayOf (.field (gk i) "java/lang/String" "value" "[B") .byte ∈ flatC gG := by decide +kernel
set_option maxRecDepth 100000 in
theorem st_kle : ∀ i, i < 8 → Cond.eq (.length (.field (gk i) "java/lang/String" "value" "[B")) (.int (Int32.ofNat (mj_sN.getD i 0))) ∈ flatC gG := by decide +kernel
set_option maxRecDepth 100000 in
theorem st_kel : ∀ i, i < 8 → ∀ j, j < mj_sN.getD i 0 → Cond.eq (.elem (.field (gk i) "java/lang/String" "value" "[B") (.int (Int32.ofNat j))) (.int ((mj_sb.getD i []).getD j 0)) ∈ flatC gG := by decide +kernel
set_option maxRecDepth 100000 in
theorem st_kne : ∀ i, i < 8 → ∀ j, j < 8 → i ≠ j → Cond.not (Cond.eq (gk i) (gk j)) ∈ flatC gG ∨ Cond.not (Cond.eq (gk j) (gk i)) ∈ flatC gG := by decide +kernel
theorem st_ksm : ∀ i, i < 8 → mj_sN.getD i 0 < 2 ^ 31 := by decide +kernel
set_option maxRecDepth 100000 in
theorem st_krf : ∀ i, i < 8 → Cond.stringRef RX5 (mj_st.getD i (0, "")).1 (mj_st.getD i (0, "")).2 ∈ lw_tbl := by decide +kernel
set_option maxRecDepth 100000 in
theorem st_cs : Cond.eq (.static "java/lang/String" "COMPACT_STRINGS" "Z") (.int 1) ∈ flatC gG := by decide +kernel
set_option maxRecDepth 100000 in
theorem st_sf : Cond.isRef (.static "jdk/internal/util/Preconditions" "SIOOBE_FORMATTER" "Ljava/util/function/BiFunction;") ∈ flatC gG := by decide +kernel
theorem st_w380 : Cond.laysStatic "java/lang/String" "COMPACT_STRINGS" "Z" ∈ lw_tbl := List.mem_of_getElem? (i := 380) (by decide +kernel)
theorem st_w396 : Cond.laysStatic "jdk/internal/util/Preconditions" "SIOOBE_FORMATTER" "Ljava/util/function/BiFunction;" ∈ lw_tbl := List.mem_of_getElem? (i := 396) (by decide +kernel)
theorem st_w90 : Cond.initialized "java/lang/String" ∈ lw_tbl := List.mem_of_getElem? (i := 90) (by decide +kernel)
theorem st_w92 : Cond.initialized "jdk/internal/util/Preconditions" ∈ lw_tbl := List.mem_of_getElem? (i := 92) (by decide +kernel)
theorem st_w82 : Cond.initialized RX6 ∈ lw_tbl := List.mem_of_getElem? (i := 82) (by decide +kernel)
theorem st_w111 : Cond.arrayOver (.object RX3) ∈ lw_tbl := List.mem_of_getElem? (i := 111) (by decide +kernel)
theorem st_w113 : Cond.arrayOver (.object RX0) ∈ lw_tbl := List.mem_of_getElem? (i := 113) (by decide +kernel)
theorem st_w115 : Cond.arrayOver (.object RX4) ∈ lw_tbl := List.mem_of_getElem? (i := 115) (by decide +kernel)
theorem st_w253 : Cond.arrayClass .int ∈ lw_tbl := List.mem_of_getElem? (i := 253) (by decide +kernel)
theorem st_w277 : Cond.arrayClass .char ∈ lw_tbl := List.mem_of_getElem? (i := 277) (by decide +kernel)
section ST
variable {args : Array Value} {s : State}
theorem st_RO (hts : ∀ w ∈ lw_tbl, w.before args s = true) (hgv : gG.before args s = true) : ∃ g : Nat → Nat, ∀ ad : Nat → Nat, (∀ k, 100 ≤ k → k < 400 → ad k = g k) → mj_RO ad (fun q => s.heap.size ≤ q) s s.heap := by
  have hs := flat_of_before _ hgv
  have hA : ∀ a : Nat, a < s.heap.size → ¬ (fun q => s.heap.size ≤ q) a := fun a h => Nat.not_le.mpr h
  have h1 : ∀ t : Nat, ∃ q : Nat, t < 10 → va_Z RX6 (mj_sn.getD t "") "[I" (.ref q) (fun q => s.heap.size ≤ q) s s.heap ∧ va_T .int q (mj_sh (100 + t)).2.2 (fun j => .int (mj_sc (100 + t) j)) (fun q => s.heap.size ≤ q) s s.heap := by
    intro t
    by_cases ht : t < 10
    · obtain ⟨q, e1, e2⟩ := va_Tof (f := fun j => .int (mj_sc (100 + t) j)) (A := fun q => s.heap.size ≤ q) (st_small t ht) (hs _ (st_harr t ht)) (va_eqt (hs _ (st_hlen t ht))) (fun j hj => va_eqt (hs _ (st_hel t ht j hj))) hA
      exact ⟨q, fun _ => ⟨va_Zof (hts _ (st_lay t ht)) (hts _ st_w82) e1 hA, e2⟩⟩
    · exact ⟨0, fun h => absurd h ht⟩
  obtain ⟨tS, h1⟩ := Classical.axiomOfChoice h1
  obtain ⟨aK, aV, h2, h3⟩ := vk_Sof (N := 8) (tm := gk) (len := mj_sN) (byt := mj_sb) (A := fun q => s.heap.size ≤ q) st_ksm (fun i hi => hs _ (st_kex i hi)) (fun i hi => hs _ (st_kco i hi)) (fun i hi => hs _ (st_kar i hi)) (fun i hi => hs _ (st_kle i hi)) (fun i hi j hj => hs _ (st_kel i hi j hj)) (fun i j hi hj hij => (st_kne i hi j hj hij).elim (fun h => Or.inl (hs _ h)) (fun h => Or.inr (hs _ h))) hA
  refine ⟨fun k => if k < 200 then tS (k - 100) else if k < 300 then aK (k - 200) else aV (k - 300), fun ad had => ⟨fun t ht => ?_, ?_, fun i hi => ?_, ?_, ?_⟩⟩
  · have e : ad (100 + t) = tS t := by
      rw [had _ (by omega) (by omega)]
      dsimp only
      rw [if_pos (by omega), show 100 + t - 100 = t by omega]
    rw [e]
    exact h1 t ht
  · obtain ⟨k1, k2⟩ := h2
    have eK : ∀ i, i < 8 → ad (200 + i) = aK i := fun i hi => by
      rw [had _ (by omega) (by omega)]
      dsimp only
      rw [if_neg (by omega), if_pos (by omega), show 200 + i - 200 = i by omega]
    have eV : ∀ i, i < 8 → ad (300 + i) = aV i := fun i hi => by
      rw [had _ (by omega) (by omega)]
      dsimp only
      rw [if_neg (by omega), if_neg (by omega), show 300 + i - 300 = i by omega]
    refine ⟨fun i hi => ?_, fun i j hi hj h => ?_⟩
    · dsimp only
      rw [eK i hi, eV i hi]
      exact k1 i hi
    · dsimp only at h
      rw [eK i hi, eK j hj] at h
      exact k2 i j hi hj h
  · have e : ad (200 + i) = aK i := by
      rw [had _ (by omega) (by omega)]
      dsimp only
      rw [if_neg (by omega), if_pos (by omega), show 200 + i - 200 = i by omega]
    rw [e]
    exact vk_R.of (hts _ (st_krf i hi)) (h3 i hi)
  · exact va_Zof (hts _ st_w380) (hts _ st_w90) (va_eqi (hs _ st_cs)) hA
  · exact va_Zqof (hts _ st_w396) (hts _ st_w92) (hs _ st_sf) hA
theorem st_cls (hts : ∀ w ∈ lw_tbl, w.before args s = true) : ∃ D : va_G, ∀ (c : Nat) (q : vw_C), mj_cl[c]? = some q → u_Kn s q.1 q.2.1 q.2.2 (D.1 c) (D.2 c) := by
  have hg : ∀ w ∈ mj_gT, w.before args s = true := fun w hw => hts w (List.mem_filter.mp hw).1
  have hi : ∀ c, c < 8 → Cond.instantiable (mj_cC c).1 (mj_cC c).2.2 ∈ mj_gT := by
    intro c hc
    rcases (show c = 0 ∨ c = 1 ∨ c = 2 ∨ c = 3 ∨ c = 4 ∨ c = 5 ∨ c = 6 ∨ c = 7 by omega) with rfl | rfl | rfl | rfl | rfl | rfl | rfl | rfl
    · exact wq_t2_17
    · exact wq_t6_26
    · exact wq_t6_9
    · exact wq_t2_9
    · exact wq_t2_23
    · exact wq_t6_33
    · exact wq_t8_7
    · exact wq_t8_10
  have h : ∀ c : Nat, ∃ z : ClassId × (Nat → Nat), c < 8 → u_Kn s (mj_cC c).1 (mj_cC c).2.1 (mj_cC c).2.2 z.1 z.2 := by
    intro c
    by_cases hc : c < 8
    · obtain ⟨cC, iS, hK⟩ := u_known (C := (mj_cC c).1) (T := (mj_cC c).2.1) (N := (mj_cC c).2.2) hg (mj_ly hc) (hg _ (hi c hc))
      exact ⟨(cC, iS), fun _ => hK⟩
    · exact ⟨(0, fun _ => 0), fun h => absurd h hc⟩
  obtain ⟨z, hz⟩ := Classical.axiomOfChoice h
  refine ⟨(fun c => (z c).1, fun c => (z c).2), fun c q hq => ?_⟩
  have hc : c < 8 := (List.getElem?_eq_some_iff.mp hq).1
  have e : q = ((mj_cC c).1, (mj_cC c).2.1, (mj_cC c).2.2) := Option.some.inj (hq.symm.trans (mj_cl_at hc))
  subst e
  exact hz c hc
theorem st_arI {ty : FieldType} (hb : ∀ C, ty ≠ .object C) (h : (Cond.arrayClass ty).before args s = true) : ∃ cA : ClassId, ArrOfT s cA ty ∧ va_RA s cA ty := by
  obtain ⟨cA, kA, comp, h1, h2, h3⟩ := Cond.arrayClass_spec h
  refine ⟨cA, fun N z => ⟨(fun k h => by cases h), kA, h2, comp, h3⟩, ?_⟩
  cases ty with
  | object C => exact absurd rfl (hb C)
  | _ => exact h1
theorem st_arQ {C : String} (h : (Cond.arrayOver (.object C)).before args s = true) : ∃ cA : ClassId, ArrOfT s cA (.object C) ∧ va_RA s cA (.object C) := by
  obtain ⟨comp, cA, kA, h1, h2, h3, h4, h5⟩ := Cond.arrayOver_spec h
  exact ⟨cA, fun N z => ⟨(fun k h => by cases h), kA, h3, comp, h4⟩, kA, comp, h3, h4, h1, h5⟩
/-- the classes, the array classes, the nest's words -/
theorem st_K (hts : ∀ w ∈ lw_tbl, w.before args s = true) : ∃ (D : va_G) (tA : Nat → ClassId), cn_K D tA s := by
  obtain ⟨D, hD⟩ := st_cls hts
  obtain ⟨a0, b0⟩ := st_arI (ty := .int) (fun C h => by cases h) (hts _ st_w253)
  obtain ⟨a1, b1⟩ := st_arI (ty := .char) (fun C h => by cases h) (hts _ st_w277)
  obtain ⟨a2, b2⟩ := st_arQ (hts _ st_w111)
  obtain ⟨a3, b3⟩ := st_arQ (hts _ st_w113)
  obtain ⟨a4, b4⟩ := st_arQ (hts _ st_w115)
  refine ⟨D, fun k => [a0, a1, a2, a3, a4].getD k a0, ⟨hD, fun k q hq => ?_⟩, fun w hw => ?_, va_AO.of (hts _ st_w111), va_AO.of (hts _ st_w113), va_AO.of (hts _ st_w115)⟩
  · have hk : k < 5 := (List.getElem?_eq_some_iff.mp hq).1
    rcases (show k = 0 ∨ k = 1 ∨ k = 2 ∨ k = 3 ∨ k = 4 by omega) with rfl | rfl | rfl | rfl | rfl <;> cases hq
    · exact b0
    · exact b1
    · exact b2
    · exact b3
    · exact b4
  · have h1 := hts w (List.mem_filter.mp hw).1
    have h2 := (List.mem_filter.mp hw).2
    cases w with
    | fieldLinkNest a i b n d g => exact va_Nw.of rfl h1
    | methodLinkNest a i x g => exact va_Nw.of rfl h1
    | _ => exact absurd h2 Bool.false_ne_true
end ST
