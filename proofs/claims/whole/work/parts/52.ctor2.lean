theorem wq_o6 : Cond.methodLink (mj_on 6) 3 objectInit ∈ mj_gT := mj_gT_of (List.mem_of_getElem? (i := 101) (by decide +kernel)) rfl
theorem wq_o2 : Cond.methodLink (mj_on 2) 3 objectInit ∈ mj_gT := mj_gT_of (List.mem_of_getElem? (i := 109) (by decide +kernel)) rfl
theorem wq_o3 : Cond.methodLink (mj_on 3) 3 objectInit ∈ mj_gT := mj_gT_of (List.mem_of_getElem? (i := 120) (by decide +kernel)) rfl
theorem wq_o0 : Cond.methodLink (mj_on 0) 3 objectInit ∈ mj_gT := mj_gT_of (List.mem_of_getElem? (i := 140) (by decide +kernel)) rfl
theorem wq_o4 : Cond.methodLink (mj_on 4) 3 objectInit ∈ mj_gT := mj_gT_of (List.mem_of_getElem? (i := 166) (by decide +kernel)) rfl
theorem wq_o1 : Cond.methodLink (mj_on 1) 3 objectInit ∈ mj_gT := mj_gT_of (List.mem_of_getElem? (i := 226) (by decide +kernel)) rfl
theorem wq_o5 : Cond.methodLink (mj_on 5) 3 objectInit ∈ mj_gT := mj_gT_of (List.mem_of_getElem? (i := 259) (by decide +kernel)) rfl
theorem wq_o7 : Cond.methodLink (mj_on 7) 1 objectInit ∈ mj_gT := mj_gT_of (List.mem_of_getElem? (i := 835) (by decide +kernel)) rfl
theorem wq_ai : Cond.arrayClass .int ∈ mj_gT := mj_gT_of (List.mem_of_getElem? (i := 253) (by decide +kernel)) rfl
theorem wq_ac : Cond.arrayClass .char ∈ mj_gT := mj_gT_of (List.mem_of_getElem? (i := 277) (by decide +kernel)) rfl
theorem wq_c6_9 : Cond.classLink (mj_on 6) 9 (mj_cC 2).1 ∈ mj_gT := mj_gT_of (List.mem_of_getElem? (i := 104) (by decide +kernel)) rfl
theorem wq_t6_9 : Cond.instantiable (mj_cC 2).1 (mj_cC 2).2.2 ∈ mj_gT := mj_gT_of (List.mem_of_getElem? (i := 105) (by decide +kernel)) rfl
theorem wq_l6_9 : Cond.methodLinkNest (mj_on 6) 11 yX2_init RX6 ∈ mj_nw := mj_nw_of (List.mem_of_getElem? (i := 106) (by decide +kernel)) rfl
theorem wq_m6_9 : Cond.instanceMethod yX2_init ∈ mj_gT := mj_gT_of (List.mem_of_getElem? (i := 107) (by decide +kernel)) rfl
theorem wq_b6_9 : Cond.code yX2_init cX2_init 2 none ∈ mj_gT := mj_gT_of (List.mem_of_getElem? (i := 108) (by decide +kernel)) rfl
theorem wq_c2_9 : Cond.classLink (mj_on 2) 9 (mj_cC 3).1 ∈ mj_gT := mj_gT_of (List.mem_of_getElem? (i := 110) (by decide +kernel)) rfl
theorem wq_t2_9 : Cond.instantiable (mj_cC 3).1 (mj_cC 3).2.2 ∈ mj_gT := mj_gT_of (List.mem_of_getElem? (i := 116) (by decide +kernel)) rfl
theorem wq_l2_9 : Cond.methodLinkNest (mj_on 2) 51 yX3_init RX6 ∈ mj_nw := mj_nw_of (List.mem_of_getElem? (i := 117) (by decide +kernel)) rfl
theorem wq_m2_9 : Cond.instanceMethod yX3_init ∈ mj_gT := mj_gT_of (List.mem_of_getElem? (i := 118) (by decide +kernel)) rfl
theorem wq_b2_9 : Cond.code yX3_init cX3_init 1 none ∈ mj_gT := mj_gT_of (List.mem_of_getElem? (i := 119) (by decide +kernel)) rfl
theorem wq_c2_17 : Cond.classLink (mj_on 2) 17 (mj_cC 0).1 ∈ mj_gT := mj_gT_of (List.mem_of_getElem? (i := 112) (by decide +kernel)) rfl
theorem wq_t2_17 : Cond.instantiable (mj_cC 0).1 (mj_cC 0).2.2 ∈ mj_gT := mj_gT_of (List.mem_of_getElem? (i := 136) (by decide +kernel)) rfl
theorem wq_l2_17 : Cond.methodLinkNest (mj_on 2) 52 yX0_init RX6 ∈ mj_nw := mj_nw_of (List.mem_of_getElem? (i := 137) (by decide +kernel)) rfl
theorem wq_m2_17 : Cond.instanceMethod yX0_init ∈ mj_gT := mj_gT_of (List.mem_of_getElem? (i := 138) (by decide +kernel)) rfl
theorem wq_b2_17 : Cond.code yX0_init cX0_init 1 none ∈ mj_gT := mj_gT_of (List.mem_of_getElem? (i := 139) (by decide +kernel)) rfl
theorem wq_c2_23 : Cond.classLink (mj_on 2) 23 (mj_cC 4).1 ∈ mj_gT := mj_gT_of (List.mem_of_getElem? (i := 114) (by decide +kernel)) rfl
theorem wq_t2_23 : Cond.instantiable (mj_cC 4).1 (mj_cC 4).2.2 ∈ mj_gT := mj_gT_of (List.mem_of_getElem? (i := 162) (by decide +kernel)) rfl
theorem wq_l2_23 : Cond.methodLinkNest (mj_on 2) 53 yX4_init RX6 ∈ mj_nw := mj_nw_of (List.mem_of_getElem? (i := 163) (by decide +kernel)) rfl
theorem wq_m2_23 : Cond.instanceMethod yX4_init ∈ mj_gT := mj_gT_of (List.mem_of_getElem? (i := 164) (by decide +kernel)) rfl
theorem wq_b2_23 : Cond.code yX4_init cX4_init 1 none ∈ mj_gT := mj_gT_of (List.mem_of_getElem? (i := 165) (by decide +kernel)) rfl
theorem wq_c6_26 : Cond.classLink (mj_on 6) 26 (mj_cC 1).1 ∈ mj_gT := mj_gT_of (List.mem_of_getElem? (i := 221) (by decide +kernel)) rfl
theorem wq_t6_26 : Cond.instantiable (mj_cC 1).1 (mj_cC 1).2.2 ∈ mj_gT := mj_gT_of (List.mem_of_getElem? (i := 222) (by decide +kernel)) rfl
theorem wq_l6_26 : Cond.methodLinkNest (mj_on 6) 28 yX1_init RX6 ∈ mj_nw := mj_nw_of (List.mem_of_getElem? (i := 223) (by decide +kernel)) rfl
theorem wq_m6_26 : Cond.instanceMethod yX1_init ∈ mj_gT := mj_gT_of (List.mem_of_getElem? (i := 224) (by decide +kernel)) rfl
theorem wq_b6_26 : Cond.code yX1_init cX1_init 1 none ∈ mj_gT := mj_gT_of (List.mem_of_getElem? (i := 225) (by decide +kernel)) rfl
theorem wq_c6_33 : Cond.classLink (mj_on 6) 33 (mj_cC 5).1 ∈ mj_gT := mj_gT_of (List.mem_of_getElem? (i := 254) (by decide +kernel)) rfl
theorem wq_t6_33 : Cond.instantiable (mj_cC 5).1 (mj_cC 5).2.2 ∈ mj_gT := mj_gT_of (List.mem_of_getElem? (i := 255) (by decide +kernel)) rfl
theorem wq_l6_33 : Cond.methodLinkNest (mj_on 6) 35 yX5_init RX6 ∈ mj_nw := mj_nw_of (List.mem_of_getElem? (i := 256) (by decide +kernel)) rfl
theorem wq_m6_33 : Cond.instanceMethod yX5_init ∈ mj_gT := mj_gT_of (List.mem_of_getElem? (i := 257) (by decide +kernel)) rfl
theorem wq_b6_33 : Cond.code yX5_init cX5_init 1 none ∈ mj_gT := mj_gT_of (List.mem_of_getElem? (i := 258) (by decide +kernel)) rfl
theorem wq_c8_7 : Cond.classLink (mj_on 8) 7 (mj_cC 6).1 ∈ mj_gT := mj_gT_of (List.mem_of_getElem? (i := 96) (by decide +kernel)) rfl
theorem wq_t8_7 : Cond.instantiable (mj_cC 6).1 (mj_cC 6).2.2 ∈ mj_gT := mj_gT_of (List.mem_of_getElem? (i := 97) (by decide +kernel)) rfl
theorem wq_l8_7 : Cond.methodLink (mj_on 8) 9 yX6_init ∈ mj_gT := mj_gT_of (List.mem_of_getElem? (i := 98) (by decide +kernel)) rfl
theorem wq_m8_7 : Cond.instanceMethod yX6_init ∈ mj_gT := mj_gT_of (List.mem_of_getElem? (i := 99) (by decide +kernel)) rfl
theorem wq_b8_7 : Cond.code yX6_init cX6_init 1 none ∈ mj_gT := mj_gT_of (List.mem_of_getElem? (i := 100) (by decide +kernel)) rfl
theorem wq_c8_10 : Cond.classLink (mj_on 8) 10 (mj_cC 7).1 ∈ mj_gT := mj_gT_of (List.mem_of_getElem? (i := 830) (by decide +kernel)) rfl
theorem wq_t8_10 : Cond.instantiable (mj_cC 7).1 (mj_cC 7).2.2 ∈ mj_gT := mj_gT_of (List.mem_of_getElem? (i := 831) (by decide +kernel)) rfl
theorem wq_l8_10 : Cond.methodLink (mj_on 8) 12 yX7_init ∈ mj_gT := mj_gT_of (List.mem_of_getElem? (i := 832) (by decide +kernel)) rfl
theorem wq_m8_10 : Cond.instanceMethod yX7_init ∈ mj_gT := mj_gT_of (List.mem_of_getElem? (i := 833) (by decide +kernel)) rfl
theorem wq_b8_10 : Cond.code yX7_init cX7_init 1 none ∈ mj_gT := mj_gT_of (List.mem_of_getElem? (i := 834) (by decide +kernel)) rfl
theorem cn_df0 : ∀ j, j < (mj_cC 0).2.2 → defaultValue (mj_tyC 0 j) = vp_V [.int 0, .int 0, .int 0, .int 0, .int 0] j := by
  intro j hj
  have hj : j < 5 := hj
  rcases (show j = 0 ∨ j = 1 ∨ j = 2 ∨ j = 3 ∨ j = 4 by omega) with rfl | rfl | rfl | rfl | rfl <;> rfl
theorem cn_df1 : ∀ j, j < (mj_cC 1).2.2 → defaultValue (mj_tyC 1 j) = vp_V [.null, .null, .int 0, .int 0, .int 0, .int 0, .int 0] j := by
  intro j hj
  have hj : j < 7 := hj
  rcases (show j = 0 ∨ j = 1 ∨ j = 2 ∨ j = 3 ∨ j = 4 ∨ j = 5 ∨ j = 6 by omega) with rfl | rfl | rfl | rfl | rfl | rfl | rfl <;> rfl
theorem cn_df2 : ∀ j, j < (mj_cC 2).2.2 → defaultValue (mj_tyC 2 j) = vp_V [.null, .null, .null, .int 0, .int 0, .int 0, .int 0, .int 0, .int 0, .int 0] j := by
  intro j hj
  have hj : j < 10 := hj
  rcases (show j = 0 ∨ j = 1 ∨ j = 2 ∨ j = 3 ∨ j = 4 ∨ j = 5 ∨ j = 6 ∨ j = 7 ∨ j = 8 ∨ j = 9 by omega) with rfl | rfl | rfl | rfl | rfl | rfl | rfl | rfl | rfl | rfl <;> rfl
theorem cn_df3 : ∀ j, j < (mj_cC 3).2.2 → defaultValue (mj_tyC 3 j) = vp_V [.int 0, .int 0, .int 0, .int 0] j := by
  intro j hj
  have hj : j < 4 := hj
  rcases (show j = 0 ∨ j = 1 ∨ j = 2 ∨ j = 3 by omega) with rfl | rfl | rfl | rfl <;> rfl
theorem cn_df4 : ∀ j, j < (mj_cC 4).2.2 → defaultValue (mj_tyC 4 j) = vp_V [.int 0, .int 0] j := by
  intro j hj
  have hj : j < 2 := hj
  rcases (show j = 0 ∨ j = 1 by omega) with rfl | rfl <;> rfl
theorem cn_df5 : ∀ j, j < (mj_cC 5).2.2 → defaultValue (mj_tyC 5 j) = vp_V [.null, .int 0, .int 0, .null, .int 0] j := by
  intro j hj
  have hj : j < 5 := hj
  rcases (show j = 0 ∨ j = 1 ∨ j = 2 ∨ j = 3 ∨ j = 4 by omega) with rfl | rfl | rfl | rfl | rfl <;> rfl
theorem cn_df6 : ∀ j, j < (mj_cC 6).2.2 → defaultValue (mj_tyC 6 j) = vp_V [.null, .null, .null, .int 0, .null, .null, .null, .int 0, .null] j := by
  intro j hj
  have hj : j < 9 := hj
  rcases (show j = 0 ∨ j = 1 ∨ j = 2 ∨ j = 3 ∨ j = 4 ∨ j = 5 ∨ j = 6 ∨ j = 7 ∨ j = 8 by omega) with rfl | rfl | rfl | rfl | rfl | rfl | rfl | rfl | rfl <;> rfl
theorem cn_df7 : ∀ j, j < (mj_cC 7).2.2 → defaultValue (mj_tyC 7 j) = vp_V [.null, .null, .null, .null, .null, .int 0, .null, .null, .int 0, .int 0, .null, .null, .int 0, .int 0, .int 0, .int 0, .int 0, .null, .int 0] j := by
  intro j hj
  have hj : j < 19 := hj
  rcases (show j = 0 ∨ j = 1 ∨ j = 2 ∨ j = 3 ∨ j = 4 ∨ j = 5 ∨ j = 6 ∨ j = 7 ∨ j = 8 ∨ j = 9 ∨ j = 10 ∨ j = 11 ∨ j = 12 ∨ j = 13 ∨ j = 14 ∨ j = 15 ∨ j = 16 ∨ j = 17 ∨ j = 18 by omega) with rfl | rfl | rfl | rfl | rfl | rfl | rfl | rfl | rfl | rfl | rfl | rfl | rfl | rfl | rfl | rfl | rfl | rfl | rfl <;> rfl
def cn_o0 (_ : Nat → ClassId) (h : Nat) (w : va_W) : Prop := w = [(h, .inr (0, [.int 0, .int 0, .int 0, .int 1, .int 0]))]
def cn_o3 (_ : Nat → ClassId) (h : Nat) (w : va_W) : Prop := w = [(h, .inr (3, [.int 0, .int 0, .int 0, .int 0]))]
def cn_o4 (_ : Nat → ClassId) (h : Nat) (w : va_W) : Prop := w = [(h, .inr (4, [.int 0, .int 0]))]
def cn_o1 (tA : Nat → ClassId) (h : Nat) (w : va_W) : Prop := ∃ f : Nat → Nat, f 0 = h ∧ w = [(f 0, .inr (1, [.ref (f 1), .ref (f 2), .int 0, .int 300, .int 0, .int 0, .int 0])), (f 1, .inl (tA 0, 4, .inl (fun _ => 0))), (f 2, .inl (tA 0, 4, .inl (fun _ => 0)))]
def cn_o5 (tA : Nat → ClassId) (h : Nat) (w : va_W) : Prop := ∃ f : Nat → Nat, f 0 = h ∧ w = [(f 0, .inr (5, [.ref (f 1), .int 0, .int 0, .ref (f 2), .int 0])), (f 1, .inl (tA 1, 96, .inl (fun _ => 0))), (f 2, .inl (tA 0, 5, .inl (fun _ => 0)))]
def cn_rw (tA : Nat → ClassId) (f : Nat → Nat) : va_W := [(f 0, .inr (2, [.ref (f 1), .ref (f 2), .ref (f 3), .int 0, .int 0, .int 0, .int 200, .int 30, .int 0, .int 0])), (f 1, .inl (tA 2, 4, .inr (.inr (.inr (.inr (va_up (va_up (va_up (va_up (fun _ => none) 0 (some (f 4))) 1 (some (f 5))) 2 (some (f 6))) 3 (some (f 7)))))))), (f 2, .inl (tA 3, 4, .inr (.inr (.inr (.inr (va_up (va_up (va_up (va_up (fun _ => none) 0 (some (f 8))) 1 (some (f 9))) 2 (some (f 10))) 3 (some (f 11)))))))), (f 3, .inl (tA 4, 6, .inr (.inr (.inr (.inr (va_up (va_up (va_up (va_up (va_up (va_up (fun _ => none) 0 (some (f 12))) 1 (some (f 13))) 2 (some (f 14))) 3 (some (f 15))) 4 (some (f 16))) 5 (some (f 17)))))))), (f 4, .inr (3, [.int 0, .int 0, .int 0, .int 0])), (f 5, .inr (3, [.int 0, .int 0, .int 0, .int 0])), (f 6, .inr (3, [.int 0, .int 0, .int 0, .int 0])), (f 7, .inr (3, [.int 0, .int 0, .int 0, .int 0])), (f 8, .inr (0, [.int 0, .int 0, .int 0, .int 1, .int 0])), (f 9, .inr (0, [.int 0, .int 0, .int 0, .int 1, .int 0])), (f 10, .inr (0, [.int 0, .int 0, .int 0, .int 1, .int 0])), (f 11, .inr (0, [.int 0, .int 0, .int 0, .int 1, .int 0])), (f 12, .inr (4, [.int 0, .int 0])), (f 13, .inr (4, [.int 0, .int 0])), (f 14, .inr (4, [.int 0, .int 0])), (f 15, .inr (4, [.int 0, .int 0])), (f 16, .inr (4, [.int 0, .int 0])), (f 17, .inr (4, [.int 0, .int 0]))]
def cn_o2 (tA : Nat → ClassId) (h : Nat) (w : va_W) : Prop := ∃ f : Nat → Nat, f 0 = h ∧ w = cn_rw tA f
def cn_w7 (tA : Nat → ClassId) (f : Nat → Nat) : va_W := [(f 0, .inr (7, [.ref (f 1), .ref (f 2), .ref (f 3), .ref (f 4), .ref (f 5), .int 0, .ref (f 6), .ref (f 7), .int 0, .int 0, .ref (f 8), .ref (f 9), .int 0, .int 0, .int 0, .int 0, .int 0, .ref (f 10), .int 0])), (f 1, .inl (tA 0, 7, .inl (fun _ => 0))), (f 2, .inl (tA 0, 55, .inl (upd (upd (fun _ => 0) 3 200) 4 30))), (f 3, .inl (tA 0, 55, .inl (fun _ => 0))), (f 4, .inl (tA 0, 55, .inl (fun _ => 0))), (f 5, .inl (tA 0, 55, .inl (fun _ => 0))), (f 6, .inl (tA 0, 96, .inl (fun _ => 0))), (f 7, .inl (tA 0, 5, .inl (fun _ => 0))), (f 8, .inl (tA 0, 4, .inl (fun _ => 0))), (f 9, .inl (tA 0, 4, .inl (fun _ => 0))), (f 10, .inl (tA 0, 8, .inl (fun _ => 0)))]
def cn_o7 (tA : Nat → ClassId) (h : Nat) (w : va_W) : Prop := ∃ f : Nat → Nat, f 0 = h ∧ w = cn_w7 tA f
def cn_w1 (tA : Nat → ClassId) (f : Nat → Nat) : va_W := [(f 0, .inr (1, [.ref (f 1), .ref (f 2), .int 0, .int 300, .int 0, .int 0, .int 0])), (f 1, .inl (tA 0, 4, .inl (fun _ => 0))), (f 2, .inl (tA 0, 4, .inl (fun _ => 0)))]
def cn_w5 (tA : Nat → ClassId) (f : Nat → Nat) : va_W := [(f 0, .inr (5, [.ref (f 1), .int 0, .int 0, .ref (f 2), .int 0])), (f 1, .inl (tA 1, 96, .inl (fun _ => 0))), (f 2, .inl (tA 0, 5, .inl (fun _ => 0)))]
def cn_w6 (tA : Nat → ClassId) (h : Nat) (f1 f2 f3 f4 f5 : Nat → Nat) (q1 q2 : Nat) : va_W := [(h, .inr (6, [.ref (f1 0), .ref (f2 0), .ref (f3 0), .int 0, .ref (f4 0), .ref (f5 0), .ref q1, .int 0, .ref q2]))] ++ cn_rw tA f1 ++ cn_rw tA f2 ++ cn_rw tA f3 ++ cn_w1 tA f4 ++ cn_w5 tA f5 ++ [(q1, .inl (tA 0, 8, .inl (fun _ => 0)))] ++ [(q2, .inl (tA 0, 7, .inl (fun _ => 0)))]
def cn_o6 (tA : Nat → ClassId) (h : Nat) (w : va_W) : Prop := ∃ (f1 f2 f3 f4 f5 : Nat → Nat) (q1 q2 : Nat), w = cn_w6 tA h f1 f2 f3 f4 f5 q1 q2
theorem dX0_init_0 : decode cX0_init 0 = .ok (.aload_n 0, 1) := by decide +kernel
theorem dX0_init_1 : decode cX0_init 1 = .ok (.invokespecial 3, 3) := by decide +kernel
theorem dX0_init_4 : decode cX0_init 4 = .ok (.aload_n 0, 1) := by decide +kernel
theorem dX0_init_5 : decode cX0_init 5 = .ok (.iconst 0, 1) := by decide +kernel
theorem dX0_init_6 : decode cX0_init 6 = .ok (.putfield 9, 3) := by decide +kernel
theorem dX0_init_9 : decode cX0_init 9 = .ok (.aload_n 0, 1) := by decide +kernel
theorem dX0_init_10 : decode cX0_init 10 = .ok (.iconst 0, 1) := by decide +kernel
theorem dX0_init_11 : decode cX0_init 11 = .ok (.putfield 15, 3) := by decide +kernel
theorem dX0_init_14 : decode cX0_init 14 = .ok (.aload_n 0, 1) := by decide +kernel
theorem dX0_init_15 : decode cX0_init 15 = .ok (.iconst 0, 1) := by decide +kernel
theorem dX0_init_16 : decode cX0_init 16 = .ok (.putfield 18, 3) := by decide +kernel
theorem dX0_init_19 : decode cX0_init 19 = .ok (.aload_n 0, 1) := by decide +kernel
theorem dX0_init_20 : decode cX0_init 20 = .ok (.iconst 1, 1) := by decide +kernel
theorem dX0_init_21 : decode cX0_init 21 = .ok (.putfield 21, 3) := by decide +kernel
theorem dX0_init_24 : decode cX0_init 24 = .ok (.aload_n 0, 1) := by decide +kernel
theorem dX0_init_25 : decode cX0_init 25 = .ok (.iconst 0, 1) := by decide +kernel
theorem dX0_init_26 : decode cX0_init 26 = .ok (.putfield 24, 3) := by decide +kernel
theorem dX0_init_29 : decode cX0_init 29 = .ok (.return_, 1) := by decide +kernel
theorem dX1_init_0 : decode cX1_init 0 = .ok (.aload_n 0, 1) := by decide +kernel
theorem dX1_init_1 : decode cX1_init 1 = .ok (.invokespecial 3, 3) := by decide +kernel
theorem dX1_init_4 : decode cX1_init 4 = .ok (.aload_n 0, 1) := by decide +kernel
theorem dX1_init_5 : decode cX1_init 5 = .ok (.iconst 4, 1) := by decide +kernel
theorem dX1_init_6 : decode cX1_init 6 = .ok (.newarray .int, 2) := by decide +kernel
theorem dX1_init_8 : decode cX1_init 8 = .ok (.putfield 9, 3) := by decide +kernel
theorem dX1_init_11 : decode cX1_init 11 = .ok (.aload_n 0, 1) := by decide +kernel
theorem dX1_init_12 : decode cX1_init 12 = .ok (.iconst 4, 1) := by decide +kernel
theorem dX1_init_13 : decode cX1_init 13 = .ok (.newarray .int, 2) := by decide +kernel
theorem dX1_init_15 : decode cX1_init 15 = .ok (.putfield 15, 3) := by decide +kernel
theorem dX1_init_18 : decode cX1_init 18 = .ok (.aload_n 0, 1) := by decide +kernel
theorem dX1_init_19 : decode cX1_init 19 = .ok (.iconst 0, 1) := by decide +kernel
theorem dX1_init_20 : decode cX1_init 20 = .ok (.putfield 18, 3) := by decide +kernel
theorem dX1_init_23 : decode cX1_init 23 = .ok (.aload_n 0, 1) := by decide +kernel
theorem dX1_init_24 : decode cX1_init 24 = .ok (.sipush 300, 3) := by decide +kernel
theorem dX1_init_27 : decode cX1_init 27 = .ok (.putfield 22, 3) := by decide +kernel
theorem dX1_init_30 : decode cX1_init 30 = .ok (.aload_n 0, 1) := by decide +kernel
theorem dX1_init_31 : decode cX1_init 31 = .ok (.iconst 0, 1) := by decide +kernel
theorem dX1_init_32 : decode cX1_init 32 = .ok (.putfield 25, 3) := by decide +kernel
theorem dX1_init_35 : decode cX1_init 35 = .ok (.aload_n 0, 1) := by decide +kernel
theorem dX1_init_36 : decode cX1_init 36 = .ok (.iconst 0, 1) := by decide +kernel
theorem dX1_init_37 : decode cX1_init 37 = .ok (.putfield 28, 3) := by decide +kernel
theorem dX1_init_40 : decode cX1_init 40 = .ok (.aload_n 0, 1) := by decide +kernel
theorem dX1_init_41 : decode cX1_init 41 = .ok (.iconst 0, 1) := by decide +kernel
theorem dX1_init_42 : decode cX1_init 42 = .ok (.putfield 31, 3) := by decide +kernel
theorem dX1_init_45 : decode cX1_init 45 = .ok (.return_, 1) := by decide +kernel
theorem dX2_init_0 : decode cX2_init 0 = .ok (.aload_n 0, 1) := by decide +kernel
theorem dX2_init_1 : decode cX2_init 1 = .ok (.invokespecial 3, 3) := by decide +kernel
theorem dX2_init_4 : decode cX2_init 4 = .ok (.aload_n 0, 1) := by decide +kernel
theorem dX2_init_5 : decode cX2_init 5 = .ok (.iconst 4, 1) := by decide +kernel
theorem dX2_init_6 : decode cX2_init 6 = .ok (.anewarray 9, 3) := by decide +kernel
theorem dX2_init_9 : decode cX2_init 9 = .ok (.putfield 11, 3) := by decide +kernel
theorem dX2_init_12 : decode cX2_init 12 = .ok (.aload_n 0, 1) := by decide +kernel
theorem dX2_init_13 : decode cX2_init 13 = .ok (.iconst 4, 1) := by decide +kernel
theorem dX2_init_14 : decode cX2_init 14 = .ok (.anewarray 17, 3) := by decide +kernel
theorem dX2_init_17 : decode cX2_init 17 = .ok (.putfield 19, 3) := by decide +kernel
theorem dX2_init_20 : decode cX2_init 20 = .ok (.aload_n 0, 1) := by decide +kernel
theorem dX2_init_21 : decode cX2_init 21 = .ok (.bipush 6, 2) := by decide +kernel
theorem dX2_init_23 : decode cX2_init 23 = .ok (.anewarray 23, 3) := by decide +kernel
theorem dX2_init_26 : decode cX2_init 26 = .ok (.putfield 25, 3) := by decide +kernel
theorem dX2_init_29 : decode cX2_init 29 = .ok (.aload_n 0, 1) := by decide +kernel
theorem dX2_init_30 : decode cX2_init 30 = .ok (.iconst 0, 1) := by decide +kernel
theorem dX2_init_31 : decode cX2_init 31 = .ok (.putfield 29, 3) := by decide +kernel
theorem dX2_init_34 : decode cX2_init 34 = .ok (.aload_n 0, 1) := by decide +kernel
theorem dX2_init_35 : decode cX2_init 35 = .ok (.iconst 0, 1) := by decide +kernel
theorem dX2_init_36 : decode cX2_init 36 = .ok (.putfield 33, 3) := by decide +kernel
theorem dX2_init_39 : decode cX2_init 39 = .ok (.aload_n 0, 1) := by decide +kernel
theorem dX2_init_40 : decode cX2_init 40 = .ok (.iconst 0, 1) := by decide +kernel
theorem dX2_init_41 : decode cX2_init 41 = .ok (.putfield 36, 3) := by decide +kernel
theorem dX2_init_44 : decode cX2_init 44 = .ok (.aload_n 0, 1) := by decide +kernel
theorem dX2_init_45 : decode cX2_init 45 = .ok (.sipush 200, 3) := by decide +kernel
theorem dX2_init_48 : decode cX2_init 48 = .ok (.putfield 39, 3) := by decide +kernel
theorem dX2_init_51 : decode cX2_init 51 = .ok (.aload_n 0, 1) := by decide +kernel
theorem dX2_init_52 : decode cX2_init 52 = .ok (.bipush 30, 2) := by decide +kernel
theorem dX2_init_54 : decode cX2_init 54 = .ok (.putfield 42, 3) := by decide +kernel
theorem dX2_init_57 : decode cX2_init 57 = .ok (.aload_n 0, 1) := by decide +kernel
theorem dX2_init_58 : decode cX2_init 58 = .ok (.iconst 0, 1) := by decide +kernel
theorem dX2_init_59 : decode cX2_init 59 = .ok (.putfield 45, 3) := by decide +kernel
theorem dX2_init_62 : decode cX2_init 62 = .ok (.aload_n 0, 1) := by decide +kernel
theorem dX2_init_63 : decode cX2_init 63 = .ok (.iconst 0, 1) := by decide +kernel
theorem dX2_init_64 : decode cX2_init 64 = .ok (.putfield 48, 3) := by decide +kernel
theorem dX2_init_67 : decode cX2_init 67 = .ok (.iconst 0, 1) := by decide +kernel
theorem dX2_init_68 : decode cX2_init 68 = .ok (.istore_n 1, 1) := by decide +kernel
theorem dX2_init_69 : decode cX2_init 69 = .ok (.iload_n 1, 1) := by decide +kernel
theorem dX2_init_70 : decode cX2_init 70 = .ok (.aload_n 0, 1) := by decide +kernel
theorem dX2_init_71 : decode cX2_init 71 = .ok (.getfield 11, 3) := by decide +kernel
theorem dX2_init_74 : decode cX2_init 74 = .ok (.arraylength, 1) := by decide +kernel
theorem dX2_init_75 : decode cX2_init 75 = .ok (.if_icmp .ge 22, 3) := by decide +kernel
theorem dX2_init_78 : decode cX2_init 78 = .ok (.aload_n 0, 1) := by decide +kernel
theorem dX2_init_79 : decode cX2_init 79 = .ok (.getfield 11, 3) := by decide +kernel
theorem dX2_init_82 : decode cX2_init 82 = .ok (.iload_n 1, 1) := by decide +kernel
theorem dX2_init_83 : decode cX2_init 83 = .ok (.new 9, 3) := by decide +kernel
theorem dX2_init_86 : decode cX2_init 86 = .ok (.dup, 1) := by decide +kernel
theorem dX2_init_87 : decode cX2_init 87 = .ok (.invokespecial 51, 3) := by decide +kernel
theorem dX2_init_90 : decode cX2_init 90 = .ok (.aastore, 1) := by decide +kernel
theorem dX2_init_91 : decode cX2_init 91 = .ok (.iinc 1 1, 3) := by decide +kernel
theorem dX2_init_94 : decode cX2_init 94 = .ok (.goto (-25), 3) := by decide +kernel
theorem dX2_init_97 : decode cX2_init 97 = .ok (.iconst 0, 1) := by decide +kernel
theorem dX2_init_98 : decode cX2_init 98 = .ok (.istore_n 1, 1) := by decide +kernel
theorem dX2_init_99 : decode cX2_init 99 = .ok (.iload_n 1, 1) := by decide +kernel
theorem dX2_init_100 : decode cX2_init 100 = .ok (.aload_n 0, 1) := by decide +kernel
theorem dX2_init_101 : decode cX2_init 101 = .ok (.getfield 19, 3) := by decide +kernel
theorem dX2_init_104 : decode cX2_init 104 = .ok (.arraylength, 1) := by decide +kernel
theorem dX2_init_105 : decode cX2_init 105 = .ok (.if_icmp .ge 22, 3) := by decide +kernel
theorem dX2_init_108 : decode cX2_init 108 = .ok (.aload_n 0, 1) := by decide +kernel
theorem dX2_init_109 : decode cX2_init 109 = .ok (.getfield 19, 3) := by decide +kernel
theorem dX2_init_112 : decode cX2_init 112 = .ok (.iload_n 1, 1) := by decide +kernel
theorem dX2_init_113 : decode cX2_init 113 = .ok (.new 17, 3) := by decide +kernel
theorem dX2_init_116 : decode cX2_init 116 = .ok (.dup, 1) := by decide +kernel
theorem dX2_init_117 : decode cX2_init 117 = .ok (.invokespecial 52, 3) := by decide +kernel
theorem dX2_init_120 : decode cX2_init 120 = .ok (.aastore, 1) := by decide +kernel
theorem dX2_init_121 : decode cX2_init 121 = .ok (.iinc 1 1, 3) := by decide +kernel
theorem dX2_init_124 : decode cX2_init 124 = .ok (.goto (-25), 3) := by decide +kernel
theorem dX2_init_127 : decode cX2_init 127 = .ok (.iconst 0, 1) := by decide +kernel
theorem dX2_init_128 : decode cX2_init 128 = .ok (.istore_n 1, 1) := by decide +kernel
theorem dX2_init_129 : decode cX2_init 129 = .ok (.iload_n 1, 1) := by decide +kernel
theorem dX2_init_130 : decode cX2_init 130 = .ok (.aload_n 0, 1) := by decide +kernel
theorem dX2_init_131 : decode cX2_init 131 = .ok (.getfield 25, 3) := by decide +kernel
theorem dX2_init_134 : decode cX2_init 134 = .ok (.arraylength, 1) := by decide +kernel
theorem dX2_init_135 : decode cX2_init 135 = .ok (.if_icmp .ge 22, 3) := by decide +kernel
theorem dX2_init_138 : decode cX2_init 138 = .ok (.aload_n 0, 1) := by decide +kernel
theorem dX2_init_139 : decode cX2_init 139 = .ok (.getfield 25, 3) := by decide +kernel
theorem dX2_init_142 : decode cX2_init 142 = .ok (.iload_n 1, 1) := by decide +kernel
theorem dX2_init_143 : decode cX2_init 143 = .ok (.new 23, 3) := by decide +kernel
theorem dX2_init_146 : decode cX2_init 146 = .ok (.dup, 1) := by decide +kernel
theorem dX2_init_147 : decode cX2_init 147 = .ok (.invokespecial 53, 3) := by decide +kernel
theorem dX2_init_150 : decode cX2_init 150 = .ok (.aastore, 1) := by decide +kernel
theorem dX2_init_151 : decode cX2_init 151 = .ok (.iinc 1 1, 3) := by decide +kernel
theorem dX2_init_154 : decode cX2_init 154 = .ok (.goto (-25), 3) := by decide +kernel
theorem dX2_init_157 : decode cX2_init 157 = .ok (.return_, 1) := by decide +kernel
theorem dX3_init_0 : decode cX3_init 0 = .ok (.aload_n 0, 1) := by decide +kernel
theorem dX3_init_1 : decode cX3_init 1 = .ok (.invokespecial 3, 3) := by decide +kernel
theorem dX3_init_4 : decode cX3_init 4 = .ok (.aload_n 0, 1) := by decide +kernel
theorem dX3_init_5 : decode cX3_init 5 = .ok (.iconst 0, 1) := by decide +kernel
theorem dX3_init_6 : decode cX3_init 6 = .ok (.putfield 9, 3) := by decide +kernel
theorem dX3_init_9 : decode cX3_init 9 = .ok (.aload_n 0, 1) := by decide +kernel
theorem dX3_init_10 : decode cX3_init 10 = .ok (.iconst 0, 1) := by decide +kernel
theorem dX3_init_11 : decode cX3_init 11 = .ok (.putfield 15, 3) := by decide +kernel
theorem dX3_init_14 : decode cX3_init 14 = .ok (.aload_n 0, 1) := by decide +kernel
theorem dX3_init_15 : decode cX3_init 15 = .ok (.iconst 0, 1) := by decide +kernel
theorem dX3_init_16 : decode cX3_init 16 = .ok (.putfield 18, 3) := by decide +kernel
theorem dX3_init_19 : decode cX3_init 19 = .ok (.aload_n 0, 1) := by decide +kernel
theorem dX3_init_20 : decode cX3_init 20 = .ok (.iconst 0, 1) := by decide +kernel
theorem dX3_init_21 : decode cX3_init 21 = .ok (.putfield 21, 3) := by decide +kernel
theorem dX3_init_24 : decode cX3_init 24 = .ok (.return_, 1) := by decide +kernel
theorem dX4_init_0 : decode cX4_init 0 = .ok (.aload_n 0, 1) := by decide +kernel
theorem dX4_init_1 : decode cX4_init 1 = .ok (.invokespecial 3, 3) := by decide +kernel
theorem dX4_init_4 : decode cX4_init 4 = .ok (.aload_n 0, 1) := by decide +kernel
theorem dX4_init_5 : decode cX4_init 5 = .ok (.iconst 0, 1) := by decide +kernel
theorem dX4_init_6 : decode cX4_init 6 = .ok (.putfield 9, 3) := by decide +kernel
theorem dX4_init_9 : decode cX4_init 9 = .ok (.aload_n 0, 1) := by decide +kernel
theorem dX4_init_10 : decode cX4_init 10 = .ok (.iconst 0, 1) := by decide +kernel
theorem dX4_init_11 : decode cX4_init 11 = .ok (.putfield 15, 3) := by decide +kernel
theorem dX4_init_14 : decode cX4_init 14 = .ok (.return_, 1) := by decide +kernel
theorem dX5_init_0 : decode cX5_init 0 = .ok (.aload_n 0, 1) := by decide +kernel
theorem dX5_init_1 : decode cX5_init 1 = .ok (.invokespecial 3, 3) := by decide +kernel
theorem dX5_init_4 : decode cX5_init 4 = .ok (.aload_n 0, 1) := by decide +kernel
theorem dX5_init_5 : decode cX5_init 5 = .ok (.bipush 96, 2) := by decide +kernel
theorem dX5_init_7 : decode cX5_init 7 = .ok (.newarray .char, 2) := by decide +kernel
theorem dX5_init_9 : decode cX5_init 9 = .ok (.putfield 9, 3) := by decide +kernel
theorem dX5_init_12 : decode cX5_init 12 = .ok (.aload_n 0, 1) := by decide +kernel
theorem dX5_init_13 : decode cX5_init 13 = .ok (.iconst 0, 1) := by decide +kernel
theorem dX5_init_14 : decode cX5_init 14 = .ok (.putfield 15, 3) := by decide +kernel
theorem dX5_init_17 : decode cX5_init 17 = .ok (.aload_n 0, 1) := by decide +kernel
theorem dX5_init_18 : decode cX5_init 18 = .ok (.iconst 0, 1) := by decide +kernel
theorem dX5_init_19 : decode cX5_init 19 = .ok (.putfield 19, 3) := by decide +kernel
theorem dX5_init_22 : decode cX5_init 22 = .ok (.aload_n 0, 1) := by decide +kernel
theorem dX5_init_23 : decode cX5_init 23 = .ok (.iconst 5, 1) := by decide +kernel
theorem dX5_init_24 : decode cX5_init 24 = .ok (.newarray .int, 2) := by decide +kernel
theorem dX5_init_26 : decode cX5_init 26 = .ok (.putfield 22, 3) := by decide +kernel
theorem dX5_init_29 : decode cX5_init 29 = .ok (.aload_n 0, 1) := by decide +kernel
theorem dX5_init_30 : decode cX5_init 30 = .ok (.iconst 0, 1) := by decide +kernel
theorem dX5_init_31 : decode cX5_init 31 = .ok (.putfield 26, 3) := by decide +kernel
theorem dX5_init_34 : decode cX5_init 34 = .ok (.return_, 1) := by decide +kernel
theorem dX6_init_0 : decode cX6_init 0 = .ok (.aload_n 0, 1) := by decide +kernel
theorem dX6_init_1 : decode cX6_init 1 = .ok (.invokespecial 3, 3) := by decide +kernel
theorem dX6_init_4 : decode cX6_init 4 = .ok (.aload_n 0, 1) := by decide +kernel
theorem dX6_init_5 : decode cX6_init 5 = .ok (.new 9, 3) := by decide +kernel
theorem dX6_init_8 : decode cX6_init 8 = .ok (.dup, 1) := by decide +kernel
theorem dX6_init_9 : decode cX6_init 9 = .ok (.invokespecial 11, 3) := by decide +kernel
theorem dX6_init_12 : decode cX6_init 12 = .ok (.putfield 12, 3) := by decide +kernel
theorem dX6_init_15 : decode cX6_init 15 = .ok (.aload_n 0, 1) := by decide +kernel
theorem dX6_init_16 : decode cX6_init 16 = .ok (.new 9, 3) := by decide +kernel
theorem dX6_init_19 : decode cX6_init 19 = .ok (.dup, 1) := by decide +kernel
theorem dX6_init_20 : decode cX6_init 20 = .ok (.invokespecial 11, 3) := by decide +kernel
theorem dX6_init_23 : decode cX6_init 23 = .ok (.putfield 16, 3) := by decide +kernel
theorem dX6_init_26 : decode cX6_init 26 = .ok (.aload_n 0, 1) := by decide +kernel
theorem dX6_init_27 : decode cX6_init 27 = .ok (.new 9, 3) := by decide +kernel
theorem dX6_init_30 : decode cX6_init 30 = .ok (.dup, 1) := by decide +kernel
theorem dX6_init_31 : decode cX6_init 31 = .ok (.invokespecial 11, 3) := by decide +kernel
theorem dX6_init_34 : decode cX6_init 34 = .ok (.putfield 19, 3) := by decide +kernel
theorem dX6_init_37 : decode cX6_init 37 = .ok (.aload_n 0, 1) := by decide +kernel
theorem dX6_init_38 : decode cX6_init 38 = .ok (.iconst 0, 1) := by decide +kernel
theorem dX6_init_39 : decode cX6_init 39 = .ok (.putfield 22, 3) := by decide +kernel
theorem dX6_init_42 : decode cX6_init 42 = .ok (.aload_n 0, 1) := by decide +kernel
theorem dX6_init_43 : decode cX6_init 43 = .ok (.new 26, 3) := by decide +kernel
theorem dX6_init_46 : decode cX6_init 46 = .ok (.dup, 1) := by decide +kernel
theorem dX6_init_47 : decode cX6_init 47 = .ok (.invokespecial 28, 3) := by decide +kernel
theorem dX6_init_50 : decode cX6_init 50 = .ok (.putfield 29, 3) := by decide +kernel
theorem dX6_init_53 : decode cX6_init 53 = .ok (.aload_n 0, 1) := by decide +kernel
theorem dX6_init_54 : decode cX6_init 54 = .ok (.new 33, 3) := by decide +kernel
theorem dX6_init_57 : decode cX6_init 57 = .ok (.dup, 1) := by decide +kernel
theorem dX6_init_58 : decode cX6_init 58 = .ok (.invokespecial 35, 3) := by decide +kernel
theorem dX6_init_61 : decode cX6_init 61 = .ok (.putfield 36, 3) := by decide +kernel
theorem dX6_init_64 : decode cX6_init 64 = .ok (.aload_n 0, 1) := by decide +kernel
theorem dX6_init_65 : decode cX6_init 65 = .ok (.bipush 8, 2) := by decide +kernel
theorem dX6_init_67 : decode cX6_init 67 = .ok (.newarray .int, 2) := by decide +kernel
theorem dX6_init_69 : decode cX6_init 69 = .ok (.putfield 40, 3) := by decide +kernel
theorem dX6_init_72 : decode cX6_init 72 = .ok (.aload_n 0, 1) := by decide +kernel
theorem dX6_init_73 : decode cX6_init 73 = .ok (.iconst 0, 1) := by decide +kernel
theorem dX6_init_74 : decode cX6_init 74 = .ok (.putfield 44, 3) := by decide +kernel
theorem dX6_init_77 : decode cX6_init 77 = .ok (.aload_n 0, 1) := by decide +kernel
theorem dX6_init_78 : decode cX6_init 78 = .ok (.bipush 7, 2) := by decide +kernel
theorem dX6_init_80 : decode cX6_init 80 = .ok (.newarray .int, 2) := by decide +kernel
theorem dX6_init_82 : decode cX6_init 82 = .ok (.putfield 48, 3) := by decide +kernel
theorem dX6_init_85 : decode cX6_init 85 = .ok (.return_, 1) := by decide +kernel
theorem dX7_init_0 : decode cX7_init 0 = .ok (.aload_n 0, 1) := by decide +kernel
theorem dX7_init_1 : decode cX7_init 1 = .ok (.invokespecial 1, 3) := by decide +kernel
theorem dX7_init_4 : decode cX7_init 4 = .ok (.aload_n 0, 1) := by decide +kernel
theorem dX7_init_5 : decode cX7_init 5 = .ok (.bipush 7, 2) := by decide +kernel
theorem dX7_init_7 : decode cX7_init 7 = .ok (.newarray .int, 2) := by decide +kernel
theorem dX7_init_9 : decode cX7_init 9 = .ok (.putfield 7, 3) := by decide +kernel
theorem dX7_init_12 : decode cX7_init 12 = .ok (.aload_n 0, 1) := by decide +kernel
theorem dX7_init_13 : decode cX7_init 13 = .ok (.bipush 55, 2) := by decide +kernel
theorem dX7_init_15 : decode cX7_init 15 = .ok (.newarray .int, 2) := by decide +kernel
theorem dX7_init_17 : decode cX7_init 17 = .ok (.putfield 13, 3) := by decide +kernel
theorem dX7_init_20 : decode cX7_init 20 = .ok (.aload_n 0, 1) := by decide +kernel
theorem dX7_init_21 : decode cX7_init 21 = .ok (.bipush 55, 2) := by decide +kernel
theorem dX7_init_23 : decode cX7_init 23 = .ok (.newarray .int, 2) := by decide +kernel
theorem dX7_init_25 : decode cX7_init 25 = .ok (.putfield 16, 3) := by decide +kernel
theorem dX7_init_28 : decode cX7_init 28 = .ok (.aload_n 0, 1) := by decide +kernel
theorem dX7_init_29 : decode cX7_init 29 = .ok (.bipush 55, 2) := by decide +kernel
theorem dX7_init_31 : decode cX7_init 31 = .ok (.newarray .int, 2) := by decide +kernel
theorem dX7_init_33 : decode cX7_init 33 = .ok (.putfield 19, 3) := by decide +kernel
theorem dX7_init_36 : decode cX7_init 36 = .ok (.aload_n 0, 1) := by decide +kernel
theorem dX7_init_37 : decode cX7_init 37 = .ok (.bipush 55, 2) := by decide +kernel
theorem dX7_init_39 : decode cX7_init 39 = .ok (.newarray .int, 2) := by decide +kernel
theorem dX7_init_41 : decode cX7_init 41 = .ok (.putfield 22, 3) := by decide +kernel
theorem dX7_init_44 : decode cX7_init 44 = .ok (.aload_n 0, 1) := by decide +kernel
theorem dX7_init_45 : decode cX7_init 45 = .ok (.bipush 96, 2) := by decide +kernel
theorem dX7_init_47 : decode cX7_init 47 = .ok (.newarray .int, 2) := by decide +kernel
theorem dX7_init_49 : decode cX7_init 49 = .ok (.putfield 25, 3) := by decide +kernel
theorem dX7_init_52 : decode cX7_init 52 = .ok (.aload_n 0, 1) := by decide +kernel
theorem dX7_init_53 : decode cX7_init 53 = .ok (.iconst 5, 1) := by decide +kernel
theorem dX7_init_54 : decode cX7_init 54 = .ok (.newarray .int, 2) := by decide +kernel
theorem dX7_init_56 : decode cX7_init 56 = .ok (.putfield 28, 3) := by decide +kernel
theorem dX7_init_59 : decode cX7_init 59 = .ok (.aload_n 0, 1) := by decide +kernel
theorem dX7_init_60 : decode cX7_init 60 = .ok (.iconst 4, 1) := by decide +kernel
theorem dX7_init_61 : decode cX7_init 61 = .ok (.newarray .int, 2) := by decide +kernel
theorem dX7_init_63 : decode cX7_init 63 = .ok (.putfield 31, 3) := by decide +kernel
theorem dX7_init_66 : decode cX7_init 66 = .ok (.aload_n 0, 1) := by decide +kernel
theorem dX7_init_67 : decode cX7_init 67 = .ok (.iconst 4, 1) := by decide +kernel
theorem dX7_init_68 : decode cX7_init 68 = .ok (.newarray .int, 2) := by decide +kernel
theorem dX7_init_70 : decode cX7_init 70 = .ok (.putfield 34, 3) := by decide +kernel
theorem dX7_init_73 : decode cX7_init 73 = .ok (.aload_n 0, 1) := by decide +kernel
theorem dX7_init_74 : decode cX7_init 74 = .ok (.bipush 8, 2) := by decide +kernel
theorem dX7_init_76 : decode cX7_init 76 = .ok (.newarray .int, 2) := by decide +kernel
theorem dX7_init_78 : decode cX7_init 78 = .ok (.putfield 37, 3) := by decide +kernel
theorem dX7_init_81 : decode cX7_init 81 = .ok (.aload_n 0, 1) := by decide +kernel
theorem dX7_init_82 : decode cX7_init 82 = .ok (.getfield 13, 3) := by decide +kernel
theorem dX7_init_85 : decode cX7_init 85 = .ok (.iconst 3, 1) := by decide +kernel
theorem dX7_init_86 : decode cX7_init 86 = .ok (.sipush 200, 3) := by decide +kernel
theorem dX7_init_89 : decode cX7_init 89 = .ok (.iastore, 1) := by decide +kernel
theorem dX7_init_90 : decode cX7_init 90 = .ok (.aload_n 0, 1) := by decide +kernel
theorem dX7_init_91 : decode cX7_init 91 = .ok (.getfield 13, 3) := by decide +kernel
theorem dX7_init_94 : decode cX7_init 94 = .ok (.iconst 4, 1) := by decide +kernel
theorem dX7_init_95 : decode cX7_init 95 = .ok (.bipush 30, 2) := by decide +kernel
theorem dX7_init_97 : decode cX7_init 97 = .ok (.iastore, 1) := by decide +kernel
theorem dX7_init_98 : decode cX7_init 98 = .ok (.return_, 1) := by decide +kernel
set_option maxHeartbeats 4000000 in
set_option maxRecDepth 100000 in
theorem c_X0_init : cn_T yX0_init cX0_init 1 0 [.int 0, .int 0, .int 0, .int 0, .int 0] { frames := 1, cells := 0, slots := 0, locals := 12 } 0 0 cn_o0 := by
  refine cn_T_of (by decide) rfl rfl (by decide) ?_
  intro p l e s m args below meth c Q A D tA h0 cx hin hend
  refine cn_aload cx 0 dX0_init_0 rfl ?_
  refine cn_obj cx wq_o0 dX0_init_1 (Nat.le_of_ble_eq_true rfl) (Nat.le_of_ble_eq_true rfl) ?_
  refine cn_aload cx 0 dX0_init_4 rfl ?_
  refine cn_iconst cx 0 dX0_init_5 (by decide) ?_
  refine cn_put cx (idx := 9) (j := 0) (v := .int 0) ([(h0, .inr (0, [.int 0, .int 0, .int 0, .int 0, .int 0]))]) (by decide) (by decide +kernel) (by decide +kernel) (by first | exact Or.inl (by decide +kernel) | exact Or.inr ⟨by decide +kernel, hin⟩) rfl rfl 0 rfl (Nat.le_of_ble_eq_true rfl) rfl dX0_init_6 ?_
  refine cn_aload cx 0 dX0_init_9 rfl ?_
  refine cn_iconst cx 0 dX0_init_10 (by decide) ?_
  refine cn_put cx (idx := 15) (j := 1) (v := .int 0) ([(h0, .inr (0, [.int 0, .int 0, .int 0, .int 0, .int 0]))]) (by decide) (by decide +kernel) (by decide +kernel) (by first | exact Or.inl (by decide +kernel) | exact Or.inr ⟨by decide +kernel, hin⟩) rfl rfl 0 rfl (Nat.le_of_ble_eq_true rfl) rfl dX0_init_11 ?_
  refine cn_aload cx 0 dX0_init_14 rfl ?_
  refine cn_iconst cx 0 dX0_init_15 (by decide) ?_
  refine cn_put cx (idx := 18) (j := 2) (v := .int 0) ([(h0, .inr (0, [.int 0, .int 0, .int 0, .int 0, .int 0]))]) (by decide) (by decide +kernel) (by decide +kernel) (by first | exact Or.inl (by decide +kernel) | exact Or.inr ⟨by decide +kernel, hin⟩) rfl rfl 0 rfl (Nat.le_of_ble_eq_true rfl) rfl dX0_init_16 ?_
  refine cn_aload cx 0 dX0_init_19 rfl ?_
  refine cn_iconst cx 1 dX0_init_20 (by decide) ?_
  refine cn_put cx (idx := 21) (j := 3) (v := .int 1) ([(h0, .inr (0, [.int 0, .int 0, .int 0, .int 1, .int 0]))]) (by decide) (by decide +kernel) (by decide +kernel) (by first | exact Or.inl (by decide +kernel) | exact Or.inr ⟨by decide +kernel, hin⟩) rfl rfl 0 rfl (Nat.le_of_ble_eq_true rfl) rfl dX0_init_21 ?_
  refine cn_aload cx 0 dX0_init_24 rfl ?_
  refine cn_iconst cx 0 dX0_init_25 (by decide) ?_
  refine cn_put cx (idx := 24) (j := 4) (v := .int 0) ([(h0, .inr (0, [.int 0, .int 0, .int 0, .int 1, .int 0]))]) (by decide) (by decide +kernel) (by decide +kernel) (by first | exact Or.inl (by decide +kernel) | exact Or.inr ⟨by decide +kernel, hin⟩) rfl rfl 0 rfl (Nat.le_of_ble_eq_true rfl) rfl dX0_init_26 ?_
  exact hend _ _ _ dX0_init_29 rfl
set_option maxHeartbeats 4000000 in
set_option maxRecDepth 100000 in
theorem c_X3_init : cn_T yX3_init cX3_init 1 3 [.int 0, .int 0, .int 0, .int 0] { frames := 1, cells := 0, slots := 0, locals := 12 } 0 0 cn_o3 := by
  refine cn_T_of (by decide) rfl rfl (by decide) ?_
  intro p l e s m args below meth c Q A D tA h0 cx hin hend
  refine cn_aload cx 0 dX3_init_0 rfl ?_
  refine cn_obj cx wq_o3 dX3_init_1 (Nat.le_of_ble_eq_true rfl) (Nat.le_of_ble_eq_true rfl) ?_
  refine cn_aload cx 0 dX3_init_4 rfl ?_
  refine cn_iconst cx 0 dX3_init_5 (by decide) ?_
  refine cn_put cx (idx := 9) (j := 0) (v := .int 0) ([(h0, .inr (3, [.int 0, .int 0, .int 0, .int 0]))]) (by decide) (by decide +kernel) (by decide +kernel) (by first | exact Or.inl (by decide +kernel) | exact Or.inr ⟨by decide +kernel, hin⟩) rfl rfl 0 rfl (Nat.le_of_ble_eq_true rfl) rfl dX3_init_6 ?_
  refine cn_aload cx 0 dX3_init_9 rfl ?_
  refine cn_iconst cx 0 dX3_init_10 (by decide) ?_
  refine cn_put cx (idx := 15) (j := 1) (v := .int 0) ([(h0, .inr (3, [.int 0, .int 0, .int 0, .int 0]))]) (by decide) (by decide +kernel) (by decide +kernel) (by first | exact Or.inl (by decide +kernel) | exact Or.inr ⟨by decide +kernel, hin⟩) rfl rfl 0 rfl (Nat.le_of_ble_eq_true rfl) rfl dX3_init_11 ?_
  refine cn_aload cx 0 dX3_init_14 rfl ?_
  refine cn_iconst cx 0 dX3_init_15 (by decide) ?_
  refine cn_put cx (idx := 18) (j := 2) (v := .int 0) ([(h0, .inr (3, [.int 0, .int 0, .int 0, .int 0]))]) (by decide) (by decide +kernel) (by decide +kernel) (by first | exact Or.inl (by decide +kernel) | exact Or.inr ⟨by decide +kernel, hin⟩) rfl rfl 0 rfl (Nat.le_of_ble_eq_true rfl) rfl dX3_init_16 ?_
  refine cn_aload cx 0 dX3_init_19 rfl ?_
  refine cn_iconst cx 0 dX3_init_20 (by decide) ?_
  refine cn_put cx (idx := 21) (j := 3) (v := .int 0) ([(h0, .inr (3, [.int 0, .int 0, .int 0, .int 0]))]) (by decide) (by decide +kernel) (by decide +kernel) (by first | exact Or.inl (by decide +kernel) | exact Or.inr ⟨by decide +kernel, hin⟩) rfl rfl 0 rfl (Nat.le_of_ble_eq_true rfl) rfl dX3_init_21 ?_
  exact hend _ _ _ dX3_init_24 rfl
set_option maxHeartbeats 4000000 in
set_option maxRecDepth 100000 in
theorem c_X4_init : cn_T yX4_init cX4_init 1 4 [.int 0, .int 0] { frames := 1, cells := 0, slots := 0, locals := 12 } 0 0 cn_o4 := by
  refine cn_T_of (by decide) rfl rfl (by decide) ?_
  intro p l e s m args below meth c Q A D tA h0 cx hin hend
  refine cn_aload cx 0 dX4_init_0 rfl ?_
  refine cn_obj cx wq_o4 dX4_init_1 (Nat.le_of_ble_eq_true rfl) (Nat.le_of_ble_eq_true rfl) ?_
  refine cn_aload cx 0 dX4_init_4 rfl ?_
  refine cn_iconst cx 0 dX4_init_5 (by decide) ?_
  refine cn_put cx (idx := 9) (j := 0) (v := .int 0) ([(h0, .inr (4, [.int 0, .int 0]))]) (by decide) (by decide +kernel) (by decide +kernel) (by first | exact Or.inl (by decide +kernel) | exact Or.inr ⟨by decide +kernel, hin⟩) rfl rfl 0 rfl (Nat.le_of_ble_eq_true rfl) rfl dX4_init_6 ?_
  refine cn_aload cx 0 dX4_init_9 rfl ?_
  refine cn_iconst cx 0 dX4_init_10 (by decide) ?_
  refine cn_put cx (idx := 15) (j := 1) (v := .int 0) ([(h0, .inr (4, [.int 0, .int 0]))]) (by decide) (by decide +kernel) (by decide +kernel) (by first | exact Or.inl (by decide +kernel) | exact Or.inr ⟨by decide +kernel, hin⟩) rfl rfl 0 rfl (Nat.le_of_ble_eq_true rfl) rfl dX4_init_11 ?_
  exact hend _ _ _ dX4_init_14 rfl
set_option maxHeartbeats 4000000 in
set_option maxRecDepth 100000 in
theorem c_X1_init : cn_T yX1_init cX1_init 1 1 [.null, .null, .int 0, .int 0, .int 0, .int 0, .int 0] { frames := 1, cells := 2, slots := 8, locals := 12 } 2 8 cn_o1 := by
  refine cn_T_of (by decide) rfl rfl (by decide) ?_
  intro p l e s m args below meth c Q A D tA h0 cx hin hend
  refine cn_aload cx 0 dX1_init_0 rfl ?_
  refine cn_obj cx wq_o1 dX1_init_1 (Nat.le_of_ble_eq_true rfl) (Nat.le_of_ble_eq_true rfl) ?_
  refine cn_aload cx 0 dX1_init_4 rfl ?_
  refine cn_iconst cx 4 dX1_init_5 (by decide) ?_
  refine cn_newi cx (N' := 4) wq_ai (by decide) (by decide) (by decide) (Nat.le_of_ble_eq_true rfl) (Nat.le_of_ble_eq_true rfl) dX1_init_6 (fun q1 => ?_)
  refine cn_put cx (idx := 9) (j := 0) (v := .ref q1) ([(h0, .inr (1, [.ref q1, .null, .int 0, .int 0, .int 0, .int 0, .int 0])), (q1, .inl (tA 0, 4, .inl (fun _ => 0)))]) (by decide) (by decide +kernel) (by decide +kernel) (by first | exact Or.inl (by decide +kernel) | exact Or.inr ⟨by decide +kernel, hin⟩) rfl rfl 0 rfl (Nat.le_of_ble_eq_true rfl) rfl dX1_init_8 ?_
  refine cn_aload cx 0 dX1_init_11 rfl ?_
  refine cn_iconst cx 4 dX1_init_12 (by decide) ?_
  refine cn_newi cx (N' := 4) wq_ai (by decide) (by decide) (by decide) (Nat.le_of_ble_eq_true rfl) (Nat.le_of_ble_eq_true rfl) dX1_init_13 (fun q2 => ?_)
  refine cn_put cx (idx := 15) (j := 1) (v := .ref q2) ([(h0, .inr (1, [.ref q1, .ref q2, .int 0, .int 0, .int 0, .int 0, .int 0])), (q1, .inl (tA 0, 4, .inl (fun _ => 0))), (q2, .inl (tA 0, 4, .inl (fun _ => 0)))]) (by decide) (by decide +kernel) (by decide +kernel) (by first | exact Or.inl (by decide +kernel) | exact Or.inr ⟨by decide +kernel, hin⟩) rfl rfl 0 rfl (Nat.le_of_ble_eq_true rfl) rfl dX1_init_15 ?_
  refine cn_aload cx 0 dX1_init_18 rfl ?_
  refine cn_iconst cx 0 dX1_init_19 (by decide) ?_
  refine cn_put cx (idx := 18) (j := 2) (v := .int 0) ([(h0, .inr (1, [.ref q1, .ref q2, .int 0, .int 0, .int 0, .int 0, .int 0])), (q1, .inl (tA 0, 4, .inl (fun _ => 0))), (q2, .inl (tA 0, 4, .inl (fun _ => 0)))]) (by decide) (by decide +kernel) (by decide +kernel) (by first | exact Or.inl (by decide +kernel) | exact Or.inr ⟨by decide +kernel, hin⟩) rfl rfl 0 rfl (Nat.le_of_ble_eq_true rfl) rfl dX1_init_20 ?_
  refine cn_aload cx 0 dX1_init_23 rfl ?_
  refine cn_sipush cx 300 dX1_init_24 (by decide) ?_
  refine cn_put cx (idx := 22) (j := 3) (v := .int 300) ([(h0, .inr (1, [.ref q1, .ref q2, .int 0, .int 300, .int 0, .int 0, .int 0])), (q1, .inl (tA 0, 4, .inl (fun _ => 0))), (q2, .inl (tA 0, 4, .inl (fun _ => 0)))]) (by decide) (by decide +kernel) (by decide +kernel) (by first | exact Or.inl (by decide +kernel) | exact Or.inr ⟨by decide +kernel, hin⟩) rfl rfl 0 rfl (Nat.le_of_ble_eq_true rfl) rfl dX1_init_27 ?_
  refine cn_aload cx 0 dX1_init_30 rfl ?_
  refine cn_iconst cx 0 dX1_init_31 (by decide) ?_
  refine cn_put cx (idx := 25) (j := 4) (v := .int 0) ([(h0, .inr (1, [.ref q1, .ref q2, .int 0, .int 300, .int 0, .int 0, .int 0])), (q1, .inl (tA 0, 4, .inl (fun _ => 0))), (q2, .inl (tA 0, 4, .inl (fun _ => 0)))]) (by decide) (by decide +kernel) (by decide +kernel) (by first | exact Or.inl (by decide +kernel) | exact Or.inr ⟨by decide +kernel, hin⟩) rfl rfl 0 rfl (Nat.le_of_ble_eq_true rfl) rfl dX1_init_32 ?_
  refine cn_aload cx 0 dX1_init_35 rfl ?_
  refine cn_iconst cx 0 dX1_init_36 (by decide) ?_
  refine cn_put cx (idx := 28) (j := 5) (v := .int 0) ([(h0, .inr (1, [.ref q1, .ref q2, .int 0, .int 300, .int 0, .int 0, .int 0])), (q1, .inl (tA 0, 4, .inl (fun _ => 0))), (q2, .inl (tA 0, 4, .inl (fun _ => 0)))]) (by decide) (by decide +kernel) (by decide +kernel) (by first | exact Or.inl (by decide +kernel) | exact Or.inr ⟨by decide +kernel, hin⟩) rfl rfl 0 rfl (Nat.le_of_ble_eq_true rfl) rfl dX1_init_37 ?_
  refine cn_aload cx 0 dX1_init_40 rfl ?_
  refine cn_iconst cx 0 dX1_init_41 (by decide) ?_
  refine cn_put cx (idx := 31) (j := 6) (v := .int 0) ([(h0, .inr (1, [.ref q1, .ref q2, .int 0, .int 300, .int 0, .int 0, .int 0])), (q1, .inl (tA 0, 4, .inl (fun _ => 0))), (q2, .inl (tA 0, 4, .inl (fun _ => 0)))]) (by decide) (by decide +kernel) (by decide +kernel) (by first | exact Or.inl (by decide +kernel) | exact Or.inr ⟨by decide +kernel, hin⟩) rfl rfl 0 rfl (Nat.le_of_ble_eq_true rfl) rfl dX1_init_42 ?_
  exact hend _ _ _ dX1_init_45 ⟨fun k => match k with | 0 => h0 | 1 => q1 | _ => q2, rfl, rfl⟩
set_option maxHeartbeats 4000000 in
set_option maxRecDepth 100000 in
theorem c_X5_init : cn_T yX5_init cX5_init 1 5 [.null, .int 0, .int 0, .null, .int 0] { frames := 1, cells := 2, slots := 101, locals := 12 } 2 101 cn_o5 := by
  refine cn_T_of (by decide) rfl rfl (by decide) ?_
  intro p l e s m args below meth c Q A D tA h0 cx hin hend
  refine cn_aload cx 0 dX5_init_0 rfl ?_
  refine cn_obj cx wq_o5 dX5_init_1 (Nat.le_of_ble_eq_true rfl) (Nat.le_of_ble_eq_true rfl) ?_
  refine cn_aload cx 0 dX5_init_4 rfl ?_
  refine cn_bipush cx 96 dX5_init_5 (by decide) ?_
  refine cn_newc cx (N' := 96) wq_ac (by decide) (by decide) (by decide) (Nat.le_of_ble_eq_true rfl) (Nat.le_of_ble_eq_true rfl) dX5_init_7 (fun q1 => ?_)
  refine cn_put cx (idx := 9) (j := 0) (v := .ref q1) ([(h0, .inr (5, [.ref q1, .int 0, .int 0, .null, .int 0])), (q1, .inl (tA 1, 96, .inl (fun _ => 0)))]) (by decide) (by decide +kernel) (by decide +kernel) (by first | exact Or.inl (by decide +kernel) | exact Or.inr ⟨by decide +kernel, hin⟩) rfl rfl 0 rfl (Nat.le_of_ble_eq_true rfl) rfl dX5_init_9 ?_
  refine cn_aload cx 0 dX5_init_12 rfl ?_
  refine cn_iconst cx 0 dX5_init_13 (by decide) ?_
  refine cn_put cx (idx := 15) (j := 1) (v := .int 0) ([(h0, .inr (5, [.ref q1, .int 0, .int 0, .null, .int 0])), (q1, .inl (tA 1, 96, .inl (fun _ => 0)))]) (by decide) (by decide +kernel) (by decide +kernel) (by first | exact Or.inl (by decide +kernel) | exact Or.inr ⟨by decide +kernel, hin⟩) rfl rfl 0 rfl (Nat.le_of_ble_eq_true rfl) rfl dX5_init_14 ?_
  refine cn_aload cx 0 dX5_init_17 rfl ?_
  refine cn_iconst cx 0 dX5_init_18 (by decide) ?_
  refine cn_put cx (idx := 19) (j := 2) (v := .int 0) ([(h0, .inr (5, [.ref q1, .int 0, .int 0, .null, .int 0])), (q1, .inl (tA 1, 96, .inl (fun _ => 0)))]) (by decide) (by decide +kernel) (by decide +kernel) (by first | exact Or.inl (by decide +kernel) | exact Or.inr ⟨by decide +kernel, hin⟩) rfl rfl 0 rfl (Nat.le_of_ble_eq_true rfl) rfl dX5_init_19 ?_
  refine cn_aload cx 0 dX5_init_22 rfl ?_
  refine cn_iconst cx 5 dX5_init_23 (by decide) ?_
  refine cn_newi cx (N' := 5) wq_ai (by decide) (by decide) (by decide) (Nat.le_of_ble_eq_true rfl) (Nat.le_of_ble_eq_true rfl) dX5_init_24 (fun q2 => ?_)
  refine cn_put cx (idx := 22) (j := 3) (v := .ref q2) ([(h0, .inr (5, [.ref q1, .int 0, .int 0, .ref q2, .int 0])), (q1, .inl (tA 1, 96, .inl (fun _ => 0))), (q2, .inl (tA 0, 5, .inl (fun _ => 0)))]) (by decide) (by decide +kernel) (by decide +kernel) (by first | exact Or.inl (by decide +kernel) | exact Or.inr ⟨by decide +kernel, hin⟩) rfl rfl 0 rfl (Nat.le_of_ble_eq_true rfl) rfl dX5_init_26 ?_
  refine cn_aload cx 0 dX5_init_29 rfl ?_
  refine cn_iconst cx 0 dX5_init_30 (by decide) ?_
  refine cn_put cx (idx := 26) (j := 4) (v := .int 0) ([(h0, .inr (5, [.ref q1, .int 0, .int 0, .ref q2, .int 0])), (q1, .inl (tA 1, 96, .inl (fun _ => 0))), (q2, .inl (tA 0, 5, .inl (fun _ => 0)))]) (by decide) (by decide +kernel) (by decide +kernel) (by first | exact Or.inl (by decide +kernel) | exact Or.inr ⟨by decide +kernel, hin⟩) rfl rfl 0 rfl (Nat.le_of_ble_eq_true rfl) rfl dX5_init_31 ?_
  exact hend _ _ _ dX5_init_34 ⟨fun k => match k with | 0 => h0 | 1 => q1 | _ => q2, rfl, rfl⟩
set_option maxHeartbeats 4000000 in
set_option maxRecDepth 100000 in
theorem c_X2_init : cn_T yX2_init cX2_init 2 2 [.null, .null, .null, .int 0, .int 0, .int 0, .int 0, .int 0, .int 0, .int 0] { frames := 2, cells := 17, slots := 62, locals := 60 } 17 62 cn_o2 := by
  refine cn_T_of (by decide) rfl rfl (by decide) ?_
  intro p l e s m args below meth c Q A D tA h0 cx hin hend
  refine cn_aload cx 0 dX2_init_0 rfl ?_
  refine cn_obj cx wq_o2 dX2_init_1 (Nat.le_of_ble_eq_true rfl) (Nat.le_of_ble_eq_true rfl) ?_
  refine cn_aload cx 0 dX2_init_4 rfl ?_
  refine cn_iconst cx 4 dX2_init_5 (by decide) ?_
  refine cn_newq cx (N' := 4) (C := (mj_cC 3).1) 2 rfl cx.2.2.2.2.2.1.2.2.1 wq_c2_9 (by decide) (by decide) (by decide) (Nat.le_of_ble_eq_true rfl) (Nat.le_of_ble_eq_true rfl) dX2_init_6 (fun q1 => ?_)
  refine cn_put cx (idx := 11) (j := 0) (v := .ref q1) ([(h0, .inr (2, [.ref q1, .null, .null, .int 0, .int 0, .int 0, .int 0, .int 0, .int 0, .int 0])), (q1, .inl (tA 2, 4, .inr (.inr (.inr (.inr (fun _ => none))))))]) (by decide) (by decide +kernel) (by decide +kernel) (by first | exact Or.inl (by decide +kernel) | exact Or.inr ⟨by decide +kernel, hin⟩) rfl rfl 0 rfl (Nat.le_of_ble_eq_true rfl) rfl dX2_init_9 ?_
  refine cn_aload cx 0 dX2_init_12 rfl ?_
  refine cn_iconst cx 4 dX2_init_13 (by decide) ?_
  refine cn_newq cx (N' := 4) (C := (mj_cC 0).1) 3 rfl cx.2.2.2.2.2.1.2.2.2.1 wq_c2_17 (by decide) (by decide) (by decide) (Nat.le_of_ble_eq_true rfl) (Nat.le_of_ble_eq_true rfl) dX2_init_14 (fun q2 => ?_)
  refine cn_put cx (idx := 19) (j := 1) (v := .ref q2) ([(h0, .inr (2, [.ref q1, .ref q2, .null, .int 0, .int 0, .int 0, .int 0, .int 0, .int 0, .int 0])), (q1, .inl (tA 2, 4, .inr (.inr (.inr (.inr (fun _ => none)))))), (q2, .inl (tA 3, 4, .inr (.inr (.inr (.inr (fun _ => none))))))]) (by decide) (by decide +kernel) (by decide +kernel) (by first | exact Or.inl (by decide +kernel) | exact Or.inr ⟨by decide +kernel, hin⟩) rfl rfl 0 rfl (Nat.le_of_ble_eq_true rfl) rfl dX2_init_17 ?_
  refine cn_aload cx 0 dX2_init_20 rfl ?_
  refine cn_bipush cx 6 dX2_init_21 (by decide) ?_
  refine cn_newq cx (N' := 6) (C := (mj_cC 4).1) 4 rfl cx.2.2.2.2.2.1.2.2.2.2 wq_c2_23 (by decide) (by decide) (by decide) (Nat.le_of_ble_eq_true rfl) (Nat.le_of_ble_eq_true rfl) dX2_init_23 (fun q3 => ?_)
  refine cn_put cx (idx := 25) (j := 2) (v := .ref q3) ([(h0, .inr (2, [.ref q1, .ref q2, .ref q3, .int 0, .int 0, .int 0, .int 0, .int 0, .int 0, .int 0])), (q1, .inl (tA 2, 4, .inr (.inr (.inr (.inr (fun _ => none)))))), (q2, .inl (tA 3, 4, .inr (.inr (.inr (.inr (fun _ => none)))))), (q3, .inl (tA 4, 6, .inr (.inr (.inr (.inr (fun _ => none))))))]) (by decide) (by decide +kernel) (by decide +kernel) (by first | exact Or.inl (by decide +kernel) | exact Or.inr ⟨by decide +kernel, hin⟩) rfl rfl 0 rfl (Nat.le_of_ble_eq_true rfl) rfl dX2_init_26 ?_
  refine cn_aload cx 0 dX2_init_29 rfl ?_
  refine cn_iconst cx 0 dX2_init_30 (by decide) ?_
  refine cn_put cx (idx := 29) (j := 3) (v := .int 0) ([(h0, .inr (2, [.ref q1, .ref q2, .ref q3, .int 0, .int 0, .int 0, .int 0, .int 0, .int 0, .int 0])), (q1, .inl (tA 2, 4, .inr (.inr (.inr (.inr (fun _ => none)))))), (q2, .inl (tA 3, 4, .inr (.inr (.inr (.inr (fun _ => none)))))), (q3, .inl (tA 4, 6, .inr (.inr (.inr (.inr (fun _ => none))))))]) (by decide) (by decide +kernel) (by decide +kernel) (by first | exact Or.inl (by decide +kernel) | exact Or.inr ⟨by decide +kernel, hin⟩) rfl rfl 0 rfl (Nat.le_of_ble_eq_true rfl) rfl dX2_init_31 ?_
  refine cn_aload cx 0 dX2_init_34 rfl ?_
  refine cn_iconst cx 0 dX2_init_35 (by decide) ?_
  refine cn_put cx (idx := 33) (j := 4) (v := .int 0) ([(h0, .inr (2, [.ref q1, .ref q2, .ref q3, .int 0, .int 0, .int 0, .int 0, .int 0, .int 0, .int 0])), (q1, .inl (tA 2, 4, .inr (.inr (.inr (.inr (fun _ => none)))))), (q2, .inl (tA 3, 4, .inr (.inr (.inr (.inr (fun _ => none)))))), (q3, .inl (tA 4, 6, .inr (.inr (.inr (.inr (fun _ => none))))))]) (by decide) (by decide +kernel) (by decide +kernel) (by first | exact Or.inl (by decide +kernel) | exact Or.inr ⟨by decide +kernel, hin⟩) rfl rfl 0 rfl (Nat.le_of_ble_eq_true rfl) rfl dX2_init_36 ?_
  refine cn_aload cx 0 dX2_init_39 rfl ?_
  refine cn_iconst cx 0 dX2_init_40 (by decide) ?_
  refine cn_put cx (idx := 36) (j := 5) (v := .int 0) ([(h0, .inr (2, [.ref q1, .ref q2, .ref q3, .int 0, .int 0, .int 0, .int 0, .int 0, .int 0, .int 0])), (q1, .inl (tA 2, 4, .inr (.inr (.inr (.inr (fun _ => none)))))), (q2, .inl (tA 3, 4, .inr (.inr (.inr (.inr (fun _ => none)))))), (q3, .inl (tA 4, 6, .inr (.inr (.inr (.inr (fun _ => none))))))]) (by decide) (by decide +kernel) (by decide +kernel) (by first | exact Or.inl (by decide +kernel) | exact Or.inr ⟨by decide +kernel, hin⟩) rfl rfl 0 rfl (Nat.le_of_ble_eq_true rfl) rfl dX2_init_41 ?_
  refine cn_aload cx 0 dX2_init_44 rfl ?_
  refine cn_sipush cx 200 dX2_init_45 (by decide) ?_
  refine cn_put cx (idx := 39) (j := 6) (v := .int 200) ([(h0, .inr (2, [.ref q1, .ref q2, .ref q3, .int 0, .int 0, .int 0, .int 200, .int 0, .int 0, .int 0])), (q1, .inl (tA 2, 4, .inr (.inr (.inr (.inr (fun _ => none)))))), (q2, .inl (tA 3, 4, .inr (.inr (.inr (.inr (fun _ => none)))))), (q3, .inl (tA 4, 6, .inr (.inr (.inr (.inr (fun _ => none))))))]) (by decide) (by decide +kernel) (by decide +kernel) (by first | exact Or.inl (by decide +kernel) | exact Or.inr ⟨by decide +kernel, hin⟩) rfl rfl 0 rfl (Nat.le_of_ble_eq_true rfl) rfl dX2_init_48 ?_
  refine cn_aload cx 0 dX2_init_51 rfl ?_
  refine cn_bipush cx 30 dX2_init_52 (by decide) ?_
  refine cn_put cx (idx := 42) (j := 7) (v := .int 30) ([(h0, .inr (2, [.ref q1, .ref q2, .ref q3, .int 0, .int 0, .int 0, .int 200, .int 30, .int 0, .int 0])), (q1, .inl (tA 2, 4, .inr (.inr (.inr (.inr (fun _ => none)))))), (q2, .inl (tA 3, 4, .inr (.inr (.inr (.inr (fun _ => none)))))), (q3, .inl (tA 4, 6, .inr (.inr (.inr (.inr (fun _ => none))))))]) (by decide) (by decide +kernel) (by decide +kernel) (by first | exact Or.inl (by decide +kernel) | exact Or.inr ⟨by decide +kernel, hin⟩) rfl rfl 0 rfl (Nat.le_of_ble_eq_true rfl) rfl dX2_init_54 ?_
  refine cn_aload cx 0 dX2_init_57 rfl ?_
  refine cn_iconst cx 0 dX2_init_58 (by decide) ?_
  refine cn_put cx (idx := 45) (j := 8) (v := .int 0) ([(h0, .inr (2, [.ref q1, .ref q2, .ref q3, .int 0, .int 0, .int 0, .int 200, .int 30, .int 0, .int 0])), (q1, .inl (tA 2, 4, .inr (.inr (.inr (.inr (fun _ => none)))))), (q2, .inl (tA 3, 4, .inr (.inr (.inr (.inr (fun _ => none)))))), (q3, .inl (tA 4, 6, .inr (.inr (.inr (.inr (fun _ => none))))))]) (by decide) (by decide +kernel) (by decide +kernel) (by first | exact Or.inl (by decide +kernel) | exact Or.inr ⟨by decide +kernel, hin⟩) rfl rfl 0 rfl (Nat.le_of_ble_eq_true rfl) rfl dX2_init_59 ?_
  refine cn_aload cx 0 dX2_init_62 rfl ?_
  refine cn_iconst cx 0 dX2_init_63 (by decide) ?_
  refine cn_put cx (idx := 48) (j := 9) (v := .int 0) ([(h0, .inr (2, [.ref q1, .ref q2, .ref q3, .int 0, .int 0, .int 0, .int 200, .int 30, .int 0, .int 0])), (q1, .inl (tA 2, 4, .inr (.inr (.inr (.inr (fun _ => none)))))), (q2, .inl (tA 3, 4, .inr (.inr (.inr (.inr (fun _ => none)))))), (q3, .inl (tA 4, 6, .inr (.inr (.inr (.inr (fun _ => none))))))]) (by decide) (by decide +kernel) (by decide +kernel) (by first | exact Or.inl (by decide +kernel) | exact Or.inr ⟨by decide +kernel, hin⟩) rfl rfl 0 rfl (Nat.le_of_ble_eq_true rfl) rfl dX2_init_64 ?_
  refine cn_iconst cx 0 dX2_init_67 (by decide) ?_
  refine cn_istore cx ([(1, .int 0), (0, .ref h0)]) dX2_init_68 (by decide) rfl ?_
  refine cn_iload cx 0 dX2_init_69 rfl ?_
  refine cn_aload cx 1 dX2_init_70 rfl ?_
  refine cn_get cx (idx := 11) (j := 0) (by decide) (by decide +kernel) (by decide +kernel) 0 rfl rfl dX2_init_71 ?_
  refine cn_alen cx (t := 2) 4 rfl 1 rfl (by decide) dX2_init_74 ?_
  refine cn_ge0 cx 97 dX2_init_75 (by decide) (by decide) ?_
  refine cn_aload cx 1 dX2_init_78 rfl ?_
  refine cn_get cx (idx := 11) (j := 0) (by decide) (by decide +kernel) (by decide +kernel) 0 rfl rfl dX2_init_79 ?_
  refine cn_iload cx 0 dX2_init_82 rfl ?_
  refine cn_make cx true c_X3_init (by decide) rfl rfl (by decide +kernel) wq_c2_9 wq_t2_9 wi_X3 wq_b2_9 wq_m2_9 wq_l2_9 cn_df3 ⟨rfl, rfl, (Nat.le_of_ble_eq_true rfl), (Nat.le_of_ble_eq_true rfl)⟩ (Nat.le_of_ble_eq_true rfl) (Nat.le_of_ble_eq_true rfl) (Nat.le_of_ble_eq_true rfl) dX2_init_83 dX2_init_86 dX2_init_87 (fun n1 w1 ho1 => ?_)
  subst ho1
  refine cn_astq cx (t := 2) (ci := 3) ([(h0, .inr (2, [.ref q1, .ref q2, .ref q3, .int 0, .int 0, .int 0, .int 200, .int 30, .int 0, .int 0])), (q1, .inl (tA 2, 4, .inr (.inr (.inr (.inr (va_up (fun _ => none) 0 (some n1))))))), (q2, .inl (tA 3, 4, .inr (.inr (.inr (.inr (fun _ => none)))))), (q3, .inl (tA 4, 6, .inr (.inr (.inr (.inr (fun _ => none)))))), (n1, .inr (3, [.int 0, .int 0, .int 0, .int 0]))]) (by decide) rfl 1 4 rfl rfl (by unfold vp_in; decide) rfl dX2_init_90 ?_
  refine cn_iinc cx (k := 0) 1 ([(1, .int 1), (0, .ref h0)]) dX2_init_91 rfl (by decide) (by decide) rfl ?_
  refine cn_goto cx 69 dX2_init_94 (by decide) ?_
  refine cn_iload cx 0 dX2_init_69 rfl ?_
  refine cn_aload cx 1 dX2_init_70 rfl ?_
  refine cn_get cx (idx := 11) (j := 0) (by decide) (by decide +kernel) (by decide +kernel) 0 rfl rfl dX2_init_71 ?_
  refine cn_alen cx (t := 2) 4 rfl 1 rfl (by decide) dX2_init_74 ?_
  refine cn_ge0 cx 97 dX2_init_75 (by decide) (by decide) ?_
  refine cn_aload cx 1 dX2_init_78 rfl ?_
  refine cn_get cx (idx := 11) (j := 0) (by decide) (by decide +kernel) (by decide +kernel) 0 rfl rfl dX2_init_79 ?_
  refine cn_iload cx 0 dX2_init_82 rfl ?_
  refine cn_make cx true c_X3_init (by decide) rfl rfl (by decide +kernel) wq_c2_9 wq_t2_9 wi_X3 wq_b2_9 wq_m2_9 wq_l2_9 cn_df3 ⟨rfl, rfl, (Nat.le_of_ble_eq_true rfl), (Nat.le_of_ble_eq_true rfl)⟩ (Nat.le_of_ble_eq_true rfl) (Nat.le_of_ble_eq_true rfl) (Nat.le_of_ble_eq_true rfl) dX2_init_83 dX2_init_86 dX2_init_87 (fun n2 w2 ho2 => ?_)
  subst ho2
  refine cn_astq cx (t := 2) (ci := 3) ([(h0, .inr (2, [.ref q1, .ref q2, .ref q3, .int 0, .int 0, .int 0, .int 200, .int 30, .int 0, .int 0])), (q1, .inl (tA 2, 4, .inr (.inr (.inr (.inr (va_up (va_up (fun _ => none) 0 (some n1)) 1 (some n2))))))), (q2, .inl (tA 3, 4, .inr (.inr (.inr (.inr (fun _ => none)))))), (q3, .inl (tA 4, 6, .inr (.inr (.inr (.inr (fun _ => none)))))), (n1, .inr (3, [.int 0, .int 0, .int 0, .int 0])), (n2, .inr (3, [.int 0, .int 0, .int 0, .int 0]))]) (by decide) rfl 1 5 rfl rfl (by unfold vp_in; decide) rfl dX2_init_90 ?_
  refine cn_iinc cx (k := 0) 2 ([(1, .int 2), (0, .ref h0)]) dX2_init_91 rfl (by decide) (by decide) rfl ?_
  refine cn_goto cx 69 dX2_init_94 (by decide) ?_
  refine cn_iload cx 0 dX2_init_69 rfl ?_
  refine cn_aload cx 1 dX2_init_70 rfl ?_
  refine cn_get cx (idx := 11) (j := 0) (by decide) (by decide +kernel) (by decide +kernel) 0 rfl rfl dX2_init_71 ?_
  refine cn_alen cx (t := 2) 4 rfl 1 rfl (by decide) dX2_init_74 ?_
  refine cn_ge0 cx 97 dX2_init_75 (by decide) (by decide) ?_
  refine cn_aload cx 1 dX2_init_78 rfl ?_
  refine cn_get cx (idx := 11) (j := 0) (by decide) (by decide +kernel) (by decide +kernel) 0 rfl rfl dX2_init_79 ?_
  refine cn_iload cx 0 dX2_init_82 rfl ?_
  refine cn_make cx true c_X3_init (by decide) rfl rfl (by decide +kernel) wq_c2_9 wq_t2_9 wi_X3 wq_b2_9 wq_m2_9 wq_l2_9 cn_df3 ⟨rfl, rfl, (Nat.le_of_ble_eq_true rfl), (Nat.le_of_ble_eq_true rfl)⟩ (Nat.le_of_ble_eq_true rfl) (Nat.le_of_ble_eq_true rfl) (Nat.le_of_ble_eq_true rfl) dX2_init_83 dX2_init_86 dX2_init_87 (fun n3 w3 ho3 => ?_)
  subst ho3
  refine cn_astq cx (t := 2) (ci := 3) ([(h0, .inr (2, [.ref q1, .ref q2, .ref q3, .int 0, .int 0, .int 0, .int 200, .int 30, .int 0, .int 0])), (q1, .inl (tA 2, 4, .inr (.inr (.inr (.inr (va_up (va_up (va_up (fun _ => none) 0 (some n1)) 1 (some n2)) 2 (some n3))))))), (q2, .inl (tA 3, 4, .inr (.inr (.inr (.inr (fun _ => none)))))), (q3, .inl (tA 4, 6, .inr (.inr (.inr (.inr (fun _ => none)))))), (n1, .inr (3, [.int 0, .int 0, .int 0, .int 0])), (n2, .inr (3, [.int 0, .int 0, .int 0, .int 0])), (n3, .inr (3, [.int 0, .int 0, .int 0, .int 0]))]) (by decide) rfl 1 6 rfl rfl (by unfold vp_in; decide) rfl dX2_init_90 ?_
  refine cn_iinc cx (k := 0) 3 ([(1, .int 3), (0, .ref h0)]) dX2_init_91 rfl (by decide) (by decide) rfl ?_
  refine cn_goto cx 69 dX2_init_94 (by decide) ?_
  refine cn_iload cx 0 dX2_init_69 rfl ?_
  refine cn_aload cx 1 dX2_init_70 rfl ?_
  refine cn_get cx (idx := 11) (j := 0) (by decide) (by decide +kernel) (by decide +kernel) 0 rfl rfl dX2_init_71 ?_
  refine cn_alen cx (t := 2) 4 rfl 1 rfl (by decide) dX2_init_74 ?_
  refine cn_ge0 cx 97 dX2_init_75 (by decide) (by decide) ?_
  refine cn_aload cx 1 dX2_init_78 rfl ?_
  refine cn_get cx (idx := 11) (j := 0) (by decide) (by decide +kernel) (by decide +kernel) 0 rfl rfl dX2_init_79 ?_
  refine cn_iload cx 0 dX2_init_82 rfl ?_
  refine cn_make cx true c_X3_init (by decide) rfl rfl (by decide +kernel) wq_c2_9 wq_t2_9 wi_X3 wq_b2_9 wq_m2_9 wq_l2_9 cn_df3 ⟨rfl, rfl, (Nat.le_of_ble_eq_true rfl), (Nat.le_of_ble_eq_true rfl)⟩ (Nat.le_of_ble_eq_true rfl) (Nat.le_of_ble_eq_true rfl) (Nat.le_of_ble_eq_true rfl) dX2_init_83 dX2_init_86 dX2_init_87 (fun n4 w4 ho4 => ?_)
  subst ho4
  refine cn_astq cx (t := 2) (ci := 3) ([(h0, .inr (2, [.ref q1, .ref q2, .ref q3, .int 0, .int 0, .int 0, .int 200, .int 30, .int 0, .int 0])), (q1, .inl (tA 2, 4, .inr (.inr (.inr (.inr (va_up (va_up (va_up (va_up (fun _ => none) 0 (some n1)) 1 (some n2)) 2 (some n3)) 3 (some n4))))))), (q2, .inl (tA 3, 4, .inr (.inr (.inr (.inr (fun _ => none)))))), (q3, .inl (tA 4, 6, .inr (.inr (.inr (.inr (fun _ => none)))))), (n1, .inr (3, [.int 0, .int 0, .int 0, .int 0])), (n2, .inr (3, [.int 0, .int 0, .int 0, .int 0])), (n3, .inr (3, [.int 0, .int 0, .int 0, .int 0])), (n4, .inr (3, [.int 0, .int 0, .int 0, .int 0]))]) (by decide) rfl 1 7 rfl rfl (by unfold vp_in; decide) rfl dX2_init_90 ?_
  refine cn_iinc cx (k := 0) 4 ([(1, .int 4), (0, .ref h0)]) dX2_init_91 rfl (by decide) (by decide) rfl ?_
  refine cn_goto cx 69 dX2_init_94 (by decide) ?_
  refine cn_iload cx 0 dX2_init_69 rfl ?_
  refine cn_aload cx 1 dX2_init_70 rfl ?_
  refine cn_get cx (idx := 11) (j := 0) (by decide) (by decide +kernel) (by decide +kernel) 0 rfl rfl dX2_init_71 ?_
  refine cn_alen cx (t := 2) 4 rfl 1 rfl (by decide) dX2_init_74 ?_
  refine cn_ge1 cx 97 dX2_init_75 (by decide) (by decide) ?_
  refine cn_iconst cx 0 dX2_init_97 (by decide) ?_
  refine cn_istore cx ([(1, .int 0), (0, .ref h0)]) dX2_init_98 (by decide) rfl ?_
  refine cn_iload cx 0 dX2_init_99 rfl ?_
  refine cn_aload cx 1 dX2_init_100 rfl ?_
  refine cn_get cx (idx := 19) (j := 1) (by decide) (by decide +kernel) (by decide +kernel) 0 rfl rfl dX2_init_101 ?_
  refine cn_alen cx (t := 3) 4 rfl 2 rfl (by decide) dX2_init_104 ?_
  refine cn_ge0 cx 127 dX2_init_105 (by decide) (by decide) ?_
  refine cn_aload cx 1 dX2_init_108 rfl ?_
  refine cn_get cx (idx := 19) (j := 1) (by decide) (by decide +kernel) (by decide +kernel) 0 rfl rfl dX2_init_109 ?_
  refine cn_iload cx 0 dX2_init_112 rfl ?_
  refine cn_make cx true c_X0_init (by decide) rfl rfl (by decide +kernel) wq_c2_17 wq_t2_17 wi_X0 wq_b2_17 wq_m2_17 wq_l2_17 cn_df0 ⟨rfl, rfl, (Nat.le_of_ble_eq_true rfl), (Nat.le_of_ble_eq_true rfl)⟩ (Nat.le_of_ble_eq_true rfl) (Nat.le_of_ble_eq_true rfl) (Nat.le_of_ble_eq_true rfl) dX2_init_113 dX2_init_116 dX2_init_117 (fun n5 w5 ho5 => ?_)
  subst ho5
  refine cn_astq cx (t := 3) (ci := 0) ([(h0, .inr (2, [.ref q1, .ref q2, .ref q3, .int 0, .int 0, .int 0, .int 200, .int 30, .int 0, .int 0])), (q1, .inl (tA 2, 4, .inr (.inr (.inr (.inr (va_up (va_up (va_up (va_up (fun _ => none) 0 (some n1)) 1 (some n2)) 2 (some n3)) 3 (some n4))))))), (q2, .inl (tA 3, 4, .inr (.inr (.inr (.inr (va_up (fun _ => none) 0 (some n5))))))), (q3, .inl (tA 4, 6, .inr (.inr (.inr (.inr (fun _ => none)))))), (n1, .inr (3, [.int 0, .int 0, .int 0, .int 0])), (n2, .inr (3, [.int 0, .int 0, .int 0, .int 0])), (n3, .inr (3, [.int 0, .int 0, .int 0, .int 0])), (n4, .inr (3, [.int 0, .int 0, .int 0, .int 0])), (n5, .inr (0, [.int 0, .int 0, .int 0, .int 1, .int 0]))]) (by decide) rfl 2 8 rfl rfl (by unfold vp_in; decide) rfl dX2_init_120 ?_
  refine cn_iinc cx (k := 0) 1 ([(1, .int 1), (0, .ref h0)]) dX2_init_121 rfl (by decide) (by decide) rfl ?_
  refine cn_goto cx 99 dX2_init_124 (by decide) ?_
  refine cn_iload cx 0 dX2_init_99 rfl ?_
  refine cn_aload cx 1 dX2_init_100 rfl ?_
  refine cn_get cx (idx := 19) (j := 1) (by decide) (by decide +kernel) (by decide +kernel) 0 rfl rfl dX2_init_101 ?_
  refine cn_alen cx (t := 3) 4 rfl 2 rfl (by decide) dX2_init_104 ?_
  refine cn_ge0 cx 127 dX2_init_105 (by decide) (by decide) ?_
  refine cn_aload cx 1 dX2_init_108 rfl ?_
  refine cn_get cx (idx := 19) (j := 1) (by decide) (by decide +kernel) (by decide +kernel) 0 rfl rfl dX2_init_109 ?_
  refine cn_iload cx 0 dX2_init_112 rfl ?_
  refine cn_make cx true c_X0_init (by decide) rfl rfl (by decide +kernel) wq_c2_17 wq_t2_17 wi_X0 wq_b2_17 wq_m2_17 wq_l2_17 cn_df0 ⟨rfl, rfl, (Nat.le_of_ble_eq_true rfl), (Nat.le_of_ble_eq_true rfl)⟩ (Nat.le_of_ble_eq_true rfl) (Nat.le_of_ble_eq_true rfl) (Nat.le_of_ble_eq_true rfl) dX2_init_113 dX2_init_116 dX2_init_117 (fun n6 w6 ho6 => ?_)
  subst ho6
  refine cn_astq cx (t := 3) (ci := 0) ([(h0, .inr (2, [.ref q1, .ref q2, .ref q3, .int 0, .int 0, .int 0, .int 200, .int 30, .int 0, .int 0])), (q1, .inl (tA 2, 4, .inr (.inr (.inr (.inr (va_up (va_up (va_up (va_up (fun _ => none) 0 (some n1)) 1 (some n2)) 2 (some n3)) 3 (some n4))))))), (q2, .inl (tA 3, 4, .inr (.inr (.inr (.inr (va_up (va_up (fun _ => none) 0 (some n5)) 1 (some n6))))))), (q3, .inl (tA 4, 6, .inr (.inr (.inr (.inr (fun _ => none)))))), (n1, .inr (3, [.int 0, .int 0, .int 0, .int 0])), (n2, .inr (3, [.int 0, .int 0, .int 0, .int 0])), (n3, .inr (3, [.int 0, .int 0, .int 0, .int 0])), (n4, .inr (3, [.int 0, .int 0, .int 0, .int 0])), (n5, .inr (0, [.int 0, .int 0, .int 0, .int 1, .int 0])), (n6, .inr (0, [.int 0, .int 0, .int 0, .int 1, .int 0]))]) (by decide) rfl 2 9 rfl rfl (by unfold vp_in; decide) rfl dX2_init_120 ?_
  refine cn_iinc cx (k := 0) 2 ([(1, .int 2), (0, .ref h0)]) dX2_init_121 rfl (by decide) (by decide) rfl ?_
  refine cn_goto cx 99 dX2_init_124 (by decide) ?_
  refine cn_iload cx 0 dX2_init_99 rfl ?_
  refine cn_aload cx 1 dX2_init_100 rfl ?_
  refine cn_get cx (idx := 19) (j := 1) (by decide) (by decide +kernel) (by decide +kernel) 0 rfl rfl dX2_init_101 ?_
  refine cn_alen cx (t := 3) 4 rfl 2 rfl (by decide) dX2_init_104 ?_
  refine cn_ge0 cx 127 dX2_init_105 (by decide) (by decide) ?_
  refine cn_aload cx 1 dX2_init_108 rfl ?_
  refine cn_get cx (idx := 19) (j := 1) (by decide) (by decide +kernel) (by decide +kernel) 0 rfl rfl dX2_init_109 ?_
  refine cn_iload cx 0 dX2_init_112 rfl ?_
  refine cn_make cx true c_X0_init (by decide) rfl rfl (by decide +kernel) wq_c2_17 wq_t2_17 wi_X0 wq_b2_17 wq_m2_17 wq_l2_17 cn_df0 ⟨rfl, rfl, (Nat.le_of_ble_eq_true rfl), (Nat.le_of_ble_eq_true rfl)⟩ (Nat.le_of_ble_eq_true rfl) (Nat.le_of_ble_eq_true rfl) (Nat.le_of_ble_eq_true rfl) dX2_init_113 dX2_init_116 dX2_init_117 (fun n7 w7 ho7 => ?_)
  subst ho7
  refine cn_astq cx (t := 3) (ci := 0) ([(h0, .inr (2, [.ref q1, .ref q2, .ref q3, .int 0, .int 0, .int 0, .int 200, .int 30, .int 0, .int 0])), (q1, .inl (tA 2, 4, .inr (.inr (.inr (.inr (va_up (va_up (va_up (va_up (fun _ => none) 0 (some n1)) 1 (some n2)) 2 (some n3)) 3 (some n4))))))), (q2, .inl (tA 3, 4, .inr (.inr (.inr (.inr (va_up (va_up (va_up (fun _ => none) 0 (some n5)) 1 (some n6)) 2 (some n7))))))), (q3, .inl (tA 4, 6, .inr (.inr (.inr (.inr (fun _ => none)))))), (n1, .inr (3, [.int 0, .int 0, .int 0, .int 0])), (n2, .inr (3, [.int 0, .int 0, .int 0, .int 0])), (n3, .inr (3, [.int 0, .int 0, .int 0, .int 0])), (n4, .inr (3, [.int 0, .int 0, .int 0, .int 0])), (n5, .inr (0, [.int 0, .int 0, .int 0, .int 1, .int 0])), (n6, .inr (0, [.int 0, .int 0, .int 0, .int 1, .int 0])), (n7, .inr (0, [.int 0, .int 0, .int 0, .int 1, .int 0]))]) (by decide) rfl 2 10 rfl rfl (by unfold vp_in; decide) rfl dX2_init_120 ?_
  refine cn_iinc cx (k := 0) 3 ([(1, .int 3), (0, .ref h0)]) dX2_init_121 rfl (by decide) (by decide) rfl ?_
  refine cn_goto cx 99 dX2_init_124 (by decide) ?_
  refine cn_iload cx 0 dX2_init_99 rfl ?_
  refine cn_aload cx 1 dX2_init_100 rfl ?_
  refine cn_get cx (idx := 19) (j := 1) (by decide) (by decide +kernel) (by decide +kernel) 0 rfl rfl dX2_init_101 ?_
  refine cn_alen cx (t := 3) 4 rfl 2 rfl (by decide) dX2_init_104 ?_
  refine cn_ge0 cx 127 dX2_init_105 (by decide) (by decide) ?_
  refine cn_aload cx 1 dX2_init_108 rfl ?_
  refine cn_get cx (idx := 19) (j := 1) (by decide) (by decide +kernel) (by decide +kernel) 0 rfl rfl dX2_init_109 ?_
  refine cn_iload cx 0 dX2_init_112 rfl ?_
  refine cn_make cx true c_X0_init (by decide) rfl rfl (by decide +kernel) wq_c2_17 wq_t2_17 wi_X0 wq_b2_17 wq_m2_17 wq_l2_17 cn_df0 ⟨rfl, rfl, (Nat.le_of_ble_eq_true rfl), (Nat.le_of_ble_eq_true rfl)⟩ (Nat.le_of_ble_eq_true rfl) (Nat.le_of_ble_eq_true rfl) (Nat.le_of_ble_eq_true rfl) dX2_init_113 dX2_init_116 dX2_init_117 (fun n8 w8 ho8 => ?_)
  subst ho8
  refine cn_astq cx (t := 3) (ci := 0) ([(h0, .inr (2, [.ref q1, .ref q2, .ref q3, .int 0, .int 0, .int 0, .int 200, .int 30, .int 0, .int 0])), (q1, .inl (tA 2, 4, .inr (.inr (.inr (.inr (va_up (va_up (va_up (va_up (fun _ => none) 0 (some n1)) 1 (some n2)) 2 (some n3)) 3 (some n4))))))), (q2, .inl (tA 3, 4, .inr (.inr (.inr (.inr (va_up (va_up (va_up (va_up (fun _ => none) 0 (some n5)) 1 (some n6)) 2 (some n7)) 3 (some n8))))))), (q3, .inl (tA 4, 6, .inr (.inr (.inr (.inr (fun _ => none)))))), (n1, .inr (3, [.int 0, .int 0, .int 0, .int 0])), (n2, .inr (3, [.int 0, .int 0, .int 0, .int 0])), (n3, .inr (3, [.int 0, .int 0, .int 0, .int 0])), (n4, .inr (3, [.int 0, .int 0, .int 0, .int 0])), (n5, .inr (0, [.int 0, .int 0, .int 0, .int 1, .int 0])), (n6, .inr (0, [.int 0, .int 0, .int 0, .int 1, .int 0])), (n7, .inr (0, [.int 0, .int 0, .int 0, .int 1, .int 0])), (n8, .inr (0, [.int 0, .int 0, .int 0, .int 1, .int 0]))]) (by decide) rfl 2 11 rfl rfl (by unfold vp_in; decide) rfl dX2_init_120 ?_
  refine cn_iinc cx (k := 0) 4 ([(1, .int 4), (0, .ref h0)]) dX2_init_121 rfl (by decide) (by decide) rfl ?_
  refine cn_goto cx 99 dX2_init_124 (by decide) ?_
  refine cn_iload cx 0 dX2_init_99 rfl ?_
  refine cn_aload cx 1 dX2_init_100 rfl ?_
  refine cn_get cx (idx := 19) (j := 1) (by decide) (by decide +kernel) (by decide +kernel) 0 rfl rfl dX2_init_101 ?_
  refine cn_alen cx (t := 3) 4 rfl 2 rfl (by decide) dX2_init_104 ?_
  refine cn_ge1 cx 127 dX2_init_105 (by decide) (by decide) ?_
  refine cn_iconst cx 0 dX2_init_127 (by decide) ?_
  refine cn_istore cx ([(1, .int 0), (0, .ref h0)]) dX2_init_128 (by decide) rfl ?_
  refine cn_iload cx 0 dX2_init_129 rfl ?_
  refine cn_aload cx 1 dX2_init_130 rfl ?_
  refine cn_get cx (idx := 25) (j := 2) (by decide) (by decide +kernel) (by decide +kernel) 0 rfl rfl dX2_init_131 ?_
  refine cn_alen cx (t := 4) 6 rfl 3 rfl (by decide) dX2_init_134 ?_
  refine cn_ge0 cx 157 dX2_init_135 (by decide) (by decide) ?_
  refine cn_aload cx 1 dX2_init_138 rfl ?_
  refine cn_get cx (idx := 25) (j := 2) (by decide) (by decide +kernel) (by decide +kernel) 0 rfl rfl dX2_init_139 ?_
  refine cn_iload cx 0 dX2_init_142 rfl ?_
  refine cn_make cx true c_X4_init (by decide) rfl rfl (by decide +kernel) wq_c2_23 wq_t2_23 wi_X4 wq_b2_23 wq_m2_23 wq_l2_23 cn_df4 ⟨rfl, rfl, (Nat.le_of_ble_eq_true rfl), (Nat.le_of_ble_eq_true rfl)⟩ (Nat.le_of_ble_eq_true rfl) (Nat.le_of_ble_eq_true rfl) (Nat.le_of_ble_eq_true rfl) dX2_init_143 dX2_init_146 dX2_init_147 (fun n9 w9 ho9 => ?_)
  subst ho9
  refine cn_astq cx (t := 4) (ci := 4) ([(h0, .inr (2, [.ref q1, .ref q2, .ref q3, .int 0, .int 0, .int 0, .int 200, .int 30, .int 0, .int 0])), (q1, .inl (tA 2, 4, .inr (.inr (.inr (.inr (va_up (va_up (va_up (va_up (fun _ => none) 0 (some n1)) 1 (some n2)) 2 (some n3)) 3 (some n4))))))), (q2, .inl (tA 3, 4, .inr (.inr (.inr (.inr (va_up (va_up (va_up (va_up (fun _ => none) 0 (some n5)) 1 (some n6)) 2 (some n7)) 3 (some n8))))))), (q3, .inl (tA 4, 6, .inr (.inr (.inr (.inr (va_up (fun _ => none) 0 (some n9))))))), (n1, .inr (3, [.int 0, .int 0, .int 0, .int 0])), (n2, .inr (3, [.int 0, .int 0, .int 0, .int 0])), (n3, .inr (3, [.int 0, .int 0, .int 0, .int 0])), (n4, .inr (3, [.int 0, .int 0, .int 0, .int 0])), (n5, .inr (0, [.int 0, .int 0, .int 0, .int 1, .int 0])), (n6, .inr (0, [.int 0, .int 0, .int 0, .int 1, .int 0])), (n7, .inr (0, [.int 0, .int 0, .int 0, .int 1, .int 0])), (n8, .inr (0, [.int 0, .int 0, .int 0, .int 1, .int 0])), (n9, .inr (4, [.int 0, .int 0]))]) (by decide) rfl 3 12 rfl rfl (by unfold vp_in; decide) rfl dX2_init_150 ?_
  refine cn_iinc cx (k := 0) 1 ([(1, .int 1), (0, .ref h0)]) dX2_init_151 rfl (by decide) (by decide) rfl ?_
  refine cn_goto cx 129 dX2_init_154 (by decide) ?_
  refine cn_iload cx 0 dX2_init_129 rfl ?_
  refine cn_aload cx 1 dX2_init_130 rfl ?_
  refine cn_get cx (idx := 25) (j := 2) (by decide) (by decide +kernel) (by decide +kernel) 0 rfl rfl dX2_init_131 ?_
  refine cn_alen cx (t := 4) 6 rfl 3 rfl (by decide) dX2_init_134 ?_
  refine cn_ge0 cx 157 dX2_init_135 (by decide) (by decide) ?_
  refine cn_aload cx 1 dX2_init_138 rfl ?_
  refine cn_get cx (idx := 25) (j := 2) (by decide) (by decide +kernel) (by decide +kernel) 0 rfl rfl dX2_init_139 ?_
  refine cn_iload cx 0 dX2_init_142 rfl ?_
  refine cn_make cx true c_X4_init (by decide) rfl rfl (by decide +kernel) wq_c2_23 wq_t2_23 wi_X4 wq_b2_23 wq_m2_23 wq_l2_23 cn_df4 ⟨rfl, rfl, (Nat.le_of_ble_eq_true rfl), (Nat.le_of_ble_eq_true rfl)⟩ (Nat.le_of_ble_eq_true rfl) (Nat.le_of_ble_eq_true rfl) (Nat.le_of_ble_eq_true rfl) dX2_init_143 dX2_init_146 dX2_init_147 (fun n10 w10 ho10 => ?_)
  subst ho10
  refine cn_astq cx (t := 4) (ci := 4) ([(h0, .inr (2, [.ref q1, .ref q2, .ref q3, .int 0, .int 0, .int 0, .int 200, .int 30, .int 0, .int 0])), (q1, .inl (tA 2, 4, .inr (.inr (.inr (.inr (va_up (va_up (va_up (va_up (fun _ => none) 0 (some n1)) 1 (some n2)) 2 (some n3)) 3 (some n4))))))), (q2, .inl (tA 3, 4, .inr (.inr (.inr (.inr (va_up (va_up (va_up (va_up (fun _ => none) 0 (some n5)) 1 (some n6)) 2 (some n7)) 3 (some n8))))))), (q3, .inl (tA 4, 6, .inr (.inr (.inr (.inr (va_up (va_up (fun _ => none) 0 (some n9)) 1 (some n10))))))), (n1, .inr (3, [.int 0, .int 0, .int 0, .int 0])), (n2, .inr (3, [.int 0, .int 0, .int 0, .int 0])), (n3, .inr (3, [.int 0, .int 0, .int 0, .int 0])), (n4, .inr (3, [.int 0, .int 0, .int 0, .int 0])), (n5, .inr (0, [.int 0, .int 0, .int 0, .int 1, .int 0])), (n6, .inr (0, [.int 0, .int 0, .int 0, .int 1, .int 0])), (n7, .inr (0, [.int 0, .int 0, .int 0, .int 1, .int 0])), (n8, .inr (0, [.int 0, .int 0, .int 0, .int 1, .int 0])), (n9, .inr (4, [.int 0, .int 0])), (n10, .inr (4, [.int 0, .int 0]))]) (by decide) rfl 3 13 rfl rfl (by unfold vp_in; decide) rfl dX2_init_150 ?_
  refine cn_iinc cx (k := 0) 2 ([(1, .int 2), (0, .ref h0)]) dX2_init_151 rfl (by decide) (by decide) rfl ?_
  refine cn_goto cx 129 dX2_init_154 (by decide) ?_
  refine cn_iload cx 0 dX2_init_129 rfl ?_
  refine cn_aload cx 1 dX2_init_130 rfl ?_
  refine cn_get cx (idx := 25) (j := 2) (by decide) (by decide +kernel) (by decide +kernel) 0 rfl rfl dX2_init_131 ?_
  refine cn_alen cx (t := 4) 6 rfl 3 rfl (by decide) dX2_init_134 ?_
  refine cn_ge0 cx 157 dX2_init_135 (by decide) (by decide) ?_
  refine cn_aload cx 1 dX2_init_138 rfl ?_
  refine cn_get cx (idx := 25) (j := 2) (by decide) (by decide +kernel) (by decide +kernel) 0 rfl rfl dX2_init_139 ?_
  refine cn_iload cx 0 dX2_init_142 rfl ?_
  refine cn_make cx true c_X4_init (by decide) rfl rfl (by decide +kernel) wq_c2_23 wq_t2_23 wi_X4 wq_b2_23 wq_m2_23 wq_l2_23 cn_df4 ⟨rfl, rfl, (Nat.le_of_ble_eq_true rfl), (Nat.le_of_ble_eq_true rfl)⟩ (Nat.le_of_ble_eq_true rfl) (Nat.le_of_ble_eq_true rfl) (Nat.le_of_ble_eq_true rfl) dX2_init_143 dX2_init_146 dX2_init_147 (fun n11 w11 ho11 => ?_)
  subst ho11
  refine cn_astq cx (t := 4) (ci := 4) ([(h0, .inr (2, [.ref q1, .ref q2, .ref q3, .int 0, .int 0, .int 0, .int 200, .int 30, .int 0, .int 0])), (q1, .inl (tA 2, 4, .inr (.inr (.inr (.inr (va_up (va_up (va_up (va_up (fun _ => none) 0 (some n1)) 1 (some n2)) 2 (some n3)) 3 (some n4))))))), (q2, .inl (tA 3, 4, .inr (.inr (.inr (.inr (va_up (va_up (va_up (va_up (fun _ => none) 0 (some n5)) 1 (some n6)) 2 (some n7)) 3 (some n8))))))), (q3, .inl (tA 4, 6, .inr (.inr (.inr (.inr (va_up (va_up (va_up (fun _ => none) 0 (some n9)) 1 (some n10)) 2 (some n11))))))), (n1, .inr (3, [.int 0, .int 0, .int 0, .int 0])), (n2, .inr (3, [.int 0, .int 0, .int 0, .int 0])), (n3, .inr (3, [.int 0, .int 0, .int 0, .int 0])), (n4, .inr (3, [.int 0, .int 0, .int 0, .int 0])), (n5, .inr (0, [.int 0, .int 0, .int 0, .int 1, .int 0])), (n6, .inr (0, [.int 0, .int 0, .int 0, .int 1, .int 0])), (n7, .inr (0, [.int 0, .int 0, .int 0, .int 1, .int 0])), (n8, .inr (0, [.int 0, .int 0, .int 0, .int 1, .int 0])), (n9, .inr (4, [.int 0, .int 0])), (n10, .inr (4, [.int 0, .int 0])), (n11, .inr (4, [.int 0, .int 0]))]) (by decide) rfl 3 14 rfl rfl (by unfold vp_in; decide) rfl dX2_init_150 ?_
  refine cn_iinc cx (k := 0) 3 ([(1, .int 3), (0, .ref h0)]) dX2_init_151 rfl (by decide) (by decide) rfl ?_
  refine cn_goto cx 129 dX2_init_154 (by decide) ?_
  refine cn_iload cx 0 dX2_init_129 rfl ?_
  refine cn_aload cx 1 dX2_init_130 rfl ?_
  refine cn_get cx (idx := 25) (j := 2) (by decide) (by decide +kernel) (by decide +kernel) 0 rfl rfl dX2_init_131 ?_
  refine cn_alen cx (t := 4) 6 rfl 3 rfl (by decide) dX2_init_134 ?_
  refine cn_ge0 cx 157 dX2_init_135 (by decide) (by decide) ?_
  refine cn_aload cx 1 dX2_init_138 rfl ?_
  refine cn_get cx (idx := 25) (j := 2) (by decide) (by decide +kernel) (by decide +kernel) 0 rfl rfl dX2_init_139 ?_
  refine cn_iload cx 0 dX2_init_142 rfl ?_
  refine cn_make cx true c_X4_init (by decide) rfl rfl (by decide +kernel) wq_c2_23 wq_t2_23 wi_X4 wq_b2_23 wq_m2_23 wq_l2_23 cn_df4 ⟨rfl, rfl, (Nat.le_of_ble_eq_true rfl), (Nat.le_of_ble_eq_true rfl)⟩ (Nat.le_of_ble_eq_true rfl) (Nat.le_of_ble_eq_true rfl) (Nat.le_of_ble_eq_true rfl) dX2_init_143 dX2_init_146 dX2_init_147 (fun n12 w12 ho12 => ?_)
  subst ho12
  refine cn_astq cx (t := 4) (ci := 4) ([(h0, .inr (2, [.ref q1, .ref q2, .ref q3, .int 0, .int 0, .int 0, .int 200, .int 30, .int 0, .int 0])), (q1, .inl (tA 2, 4, .inr (.inr (.inr (.inr (va_up (va_up (va_up (va_up (fun _ => none) 0 (some n1)) 1 (some n2)) 2 (some n3)) 3 (some n4))))))), (q2, .inl (tA 3, 4, .inr (.inr (.inr (.inr (va_up (va_up (va_up (va_up (fun _ => none) 0 (some n5)) 1 (some n6)) 2 (some n7)) 3 (some n8))))))), (q3, .inl (tA 4, 6, .inr (.inr (.inr (.inr (va_up (va_up (va_up (va_up (fun _ => none) 0 (some n9)) 1 (some n10)) 2 (some n11)) 3 (some n12))))))), (n1, .inr (3, [.int 0, .int 0, .int 0, .int 0])), (n2, .inr (3, [.int 0, .int 0, .int 0, .int 0])), (n3, .inr (3, [.int 0, .int 0, .int 0, .int 0])), (n4, .inr (3, [.int 0, .int 0, .int 0, .int 0])), (n5, .inr (0, [.int 0, .int 0, .int 0, .int 1, .int 0])), (n6, .inr (0, [.int 0, .int 0, .int 0, .int 1, .int 0])), (n7, .inr (0, [.int 0, .int 0, .int 0, .int 1, .int 0])), (n8, .inr (0, [.int 0, .int 0, .int 0, .int 1, .int 0])), (n9, .inr (4, [.int 0, .int 0])), (n10, .inr (4, [.int 0, .int 0])), (n11, .inr (4, [.int 0, .int 0])), (n12, .inr (4, [.int 0, .int 0]))]) (by decide) rfl 3 15 rfl rfl (by unfold vp_in; decide) rfl dX2_init_150 ?_
  refine cn_iinc cx (k := 0) 4 ([(1, .int 4), (0, .ref h0)]) dX2_init_151 rfl (by decide) (by decide) rfl ?_
  refine cn_goto cx 129 dX2_init_154 (by decide) ?_
  refine cn_iload cx 0 dX2_init_129 rfl ?_
  refine cn_aload cx 1 dX2_init_130 rfl ?_
  refine cn_get cx (idx := 25) (j := 2) (by decide) (by decide +kernel) (by decide +kernel) 0 rfl rfl dX2_init_131 ?_
  refine cn_alen cx (t := 4) 6 rfl 3 rfl (by decide) dX2_init_134 ?_
  refine cn_ge0 cx 157 dX2_init_135 (by decide) (by decide) ?_
  refine cn_aload cx 1 dX2_init_138 rfl ?_
  refine cn_get cx (idx := 25) (j := 2) (by decide) (by decide +kernel) (by decide +kernel) 0 rfl rfl dX2_init_139 ?_
  refine cn_iload cx 0 dX2_init_142 rfl ?_
  refine cn_make cx true c_X4_init (by decide) rfl rfl (by decide +kernel) wq_c2_23 wq_t2_23 wi_X4 wq_b2_23 wq_m2_23 wq_l2_23 cn_df4 ⟨rfl, rfl, (Nat.le_of_ble_eq_true rfl), (Nat.le_of_ble_eq_true rfl)⟩ (Nat.le_of_ble_eq_true rfl) (Nat.le_of_ble_eq_true rfl) (Nat.le_of_ble_eq_true rfl) dX2_init_143 dX2_init_146 dX2_init_147 (fun n13 w13 ho13 => ?_)
  subst ho13
  refine cn_astq cx (t := 4) (ci := 4) ([(h0, .inr (2, [.ref q1, .ref q2, .ref q3, .int 0, .int 0, .int 0, .int 200, .int 30, .int 0, .int 0])), (q1, .inl (tA 2, 4, .inr (.inr (.inr (.inr (va_up (va_up (va_up (va_up (fun _ => none) 0 (some n1)) 1 (some n2)) 2 (some n3)) 3 (some n4))))))), (q2, .inl (tA 3, 4, .inr (.inr (.inr (.inr (va_up (va_up (va_up (va_up (fun _ => none) 0 (some n5)) 1 (some n6)) 2 (some n7)) 3 (some n8))))))), (q3, .inl (tA 4, 6, .inr (.inr (.inr (.inr (va_up (va_up (va_up (va_up (va_up (fun _ => none) 0 (some n9)) 1 (some n10)) 2 (some n11)) 3 (some n12)) 4 (some n13))))))), (n1, .inr (3, [.int 0, .int 0, .int 0, .int 0])), (n2, .inr (3, [.int 0, .int 0, .int 0, .int 0])), (n3, .inr (3, [.int 0, .int 0, .int 0, .int 0])), (n4, .inr (3, [.int 0, .int 0, .int 0, .int 0])), (n5, .inr (0, [.int 0, .int 0, .int 0, .int 1, .int 0])), (n6, .inr (0, [.int 0, .int 0, .int 0, .int 1, .int 0])), (n7, .inr (0, [.int 0, .int 0, .int 0, .int 1, .int 0])), (n8, .inr (0, [.int 0, .int 0, .int 0, .int 1, .int 0])), (n9, .inr (4, [.int 0, .int 0])), (n10, .inr (4, [.int 0, .int 0])), (n11, .inr (4, [.int 0, .int 0])), (n12, .inr (4, [.int 0, .int 0])), (n13, .inr (4, [.int 0, .int 0]))]) (by decide) rfl 3 16 rfl rfl (by unfold vp_in; decide) rfl dX2_init_150 ?_
  refine cn_iinc cx (k := 0) 5 ([(1, .int 5), (0, .ref h0)]) dX2_init_151 rfl (by decide) (by decide) rfl ?_
  refine cn_goto cx 129 dX2_init_154 (by decide) ?_
  refine cn_iload cx 0 dX2_init_129 rfl ?_
  refine cn_aload cx 1 dX2_init_130 rfl ?_
  refine cn_get cx (idx := 25) (j := 2) (by decide) (by decide +kernel) (by decide +kernel) 0 rfl rfl dX2_init_131 ?_
  refine cn_alen cx (t := 4) 6 rfl 3 rfl (by decide) dX2_init_134 ?_
  refine cn_ge0 cx 157 dX2_init_135 (by decide) (by decide) ?_
  refine cn_aload cx 1 dX2_init_138 rfl ?_
  refine cn_get cx (idx := 25) (j := 2) (by decide) (by decide +kernel) (by decide +kernel) 0 rfl rfl dX2_init_139 ?_
  refine cn_iload cx 0 dX2_init_142 rfl ?_
  refine cn_make cx true c_X4_init (by decide) rfl rfl (by decide +kernel) wq_c2_23 wq_t2_23 wi_X4 wq_b2_23 wq_m2_23 wq_l2_23 cn_df4 ⟨rfl, rfl, (Nat.le_of_ble_eq_true rfl), (Nat.le_of_ble_eq_true rfl)⟩ (Nat.le_of_ble_eq_true rfl) (Nat.le_of_ble_eq_true rfl) (Nat.le_of_ble_eq_true rfl) dX2_init_143 dX2_init_146 dX2_init_147 (fun n14 w14 ho14 => ?_)
  subst ho14
  refine cn_astq cx (t := 4) (ci := 4) ([(h0, .inr (2, [.ref q1, .ref q2, .ref q3, .int 0, .int 0, .int 0, .int 200, .int 30, .int 0, .int 0])), (q1, .inl (tA 2, 4, .inr (.inr (.inr (.inr (va_up (va_up (va_up (va_up (fun _ => none) 0 (some n1)) 1 (some n2)) 2 (some n3)) 3 (some n4))))))), (q2, .inl (tA 3, 4, .inr (.inr (.inr (.inr (va_up (va_up (va_up (va_up (fun _ => none) 0 (some n5)) 1 (some n6)) 2 (some n7)) 3 (some n8))))))), (q3, .inl (tA 4, 6, .inr (.inr (.inr (.inr (va_up (va_up (va_up (va_up (va_up (va_up (fun _ => none) 0 (some n9)) 1 (some n10)) 2 (some n11)) 3 (some n12)) 4 (some n13)) 5 (some n14))))))), (n1, .inr (3, [.int 0, .int 0, .int 0, .int 0])), (n2, .inr (3, [.int 0, .int 0, .int 0, .int 0])), (n3, .inr (3, [.int 0, .int 0, .int 0, .int 0])), (n4, .inr (3, [.int 0, .int 0, .int 0, .int 0])), (n5, .inr (0, [.int 0, .int 0, .int 0, .int 1, .int 0])), (n6, .inr (0, [.int 0, .int 0, .int 0, .int 1, .int 0])), (n7, .inr (0, [.int 0, .int 0, .int 0, .int 1, .int 0])), (n8, .inr (0, [.int 0, .int 0, .int 0, .int 1, .int 0])), (n9, .inr (4, [.int 0, .int 0])), (n10, .inr (4, [.int 0, .int 0])), (n11, .inr (4, [.int 0, .int 0])), (n12, .inr (4, [.int 0, .int 0])), (n13, .inr (4, [.int 0, .int 0])), (n14, .inr (4, [.int 0, .int 0]))]) (by decide) rfl 3 17 rfl rfl (by unfold vp_in; decide) rfl dX2_init_150 ?_
  refine cn_iinc cx (k := 0) 6 ([(1, .int 6), (0, .ref h0)]) dX2_init_151 rfl (by decide) (by decide) rfl ?_
  refine cn_goto cx 129 dX2_init_154 (by decide) ?_
  refine cn_iload cx 0 dX2_init_129 rfl ?_
  refine cn_aload cx 1 dX2_init_130 rfl ?_
  refine cn_get cx (idx := 25) (j := 2) (by decide) (by decide +kernel) (by decide +kernel) 0 rfl rfl dX2_init_131 ?_
  refine cn_alen cx (t := 4) 6 rfl 3 rfl (by decide) dX2_init_134 ?_
  refine cn_ge1 cx 157 dX2_init_135 (by decide) (by decide) ?_
  exact hend _ _ _ dX2_init_157 ⟨fun k => match k with | 0 => h0 | 1 => q1 | 2 => q2 | 3 => q3 | 4 => n1 | 5 => n2 | 6 => n3 | 7 => n4 | 8 => n5 | 9 => n6 | 10 => n7 | 11 => n8 | 12 => n9 | 13 => n10 | 14 => n11 | 15 => n12 | 16 => n13 | _ => n14, rfl, rfl⟩
set_option maxHeartbeats 4000000 in
set_option maxRecDepth 100000 in
theorem c_X7_init : cn_T yX7_init cX7_init 1 7 [.null, .null, .null, .null, .null, .int 0, .null, .null, .int 0, .int 0, .null, .null, .int 0, .int 0, .int 0, .int 0, .int 0, .null, .int 0] { frames := 1, cells := 10, slots := 344, locals := 12 } 10 344 cn_o7 := by
  refine cn_T_of (by decide) rfl rfl (by decide) ?_
  intro p l e s m args below meth c Q A D tA h0 cx hin hend
  refine cn_aload cx 0 dX7_init_0 rfl ?_
  refine cn_obj cx wq_o7 dX7_init_1 (Nat.le_of_ble_eq_true rfl) (Nat.le_of_ble_eq_true rfl) ?_
  refine cn_aload cx 0 dX7_init_4 rfl ?_
  refine cn_bipush cx 7 dX7_init_5 (by decide) ?_
  refine cn_newi cx (N' := 7) wq_ai (by decide) (by decide) (by decide) (Nat.le_of_ble_eq_true rfl) (Nat.le_of_ble_eq_true rfl) dX7_init_7 (fun q1 => ?_)
  refine cn_put cx (idx := 7) (j := 0) (v := .ref q1) ([(h0, .inr (7, [.ref q1, .null, .null, .null, .null, .int 0, .null, .null, .int 0, .int 0, .null, .null, .int 0, .int 0, .int 0, .int 0, .int 0, .null, .int 0])), (q1, .inl (tA 0, 7, .inl (fun _ => 0)))]) (by decide) (by decide +kernel) (by decide +kernel) (by first | exact Or.inl (by decide +kernel) | exact Or.inr ⟨by decide +kernel, hin⟩) rfl rfl 0 rfl (Nat.le_of_ble_eq_true rfl) rfl dX7_init_9 ?_
  refine cn_aload cx 0 dX7_init_12 rfl ?_
  refine cn_bipush cx 55 dX7_init_13 (by decide) ?_
  refine cn_newi cx (N' := 55) wq_ai (by decide) (by decide) (by decide) (Nat.le_of_ble_eq_true rfl) (Nat.le_of_ble_eq_true rfl) dX7_init_15 (fun q2 => ?_)
  refine cn_put cx (idx := 13) (j := 1) (v := .ref q2) ([(h0, .inr (7, [.ref q1, .ref q2, .null, .null, .null, .int 0, .null, .null, .int 0, .int 0, .null, .null, .int 0, .int 0, .int 0, .int 0, .int 0, .null, .int 0])), (q1, .inl (tA 0, 7, .inl (fun _ => 0))), (q2, .inl (tA 0, 55, .inl (fun _ => 0)))]) (by decide) (by decide +kernel) (by decide +kernel) (by first | exact Or.inl (by decide +kernel) | exact Or.inr ⟨by decide +kernel, hin⟩) rfl rfl 0 rfl (Nat.le_of_ble_eq_true rfl) rfl dX7_init_17 ?_
  refine cn_aload cx 0 dX7_init_20 rfl ?_
  refine cn_bipush cx 55 dX7_init_21 (by decide) ?_
  refine cn_newi cx (N' := 55) wq_ai (by decide) (by decide) (by decide) (Nat.le_of_ble_eq_true rfl) (Nat.le_of_ble_eq_true rfl) dX7_init_23 (fun q3 => ?_)
  refine cn_put cx (idx := 16) (j := 2) (v := .ref q3) ([(h0, .inr (7, [.ref q1, .ref q2, .ref q3, .null, .null, .int 0, .null, .null, .int 0, .int 0, .null, .null, .int 0, .int 0, .int 0, .int 0, .int 0, .null, .int 0])), (q1, .inl (tA 0, 7, .inl (fun _ => 0))), (q2, .inl (tA 0, 55, .inl (fun _ => 0))), (q3, .inl (tA 0, 55, .inl (fun _ => 0)))]) (by decide) (by decide +kernel) (by decide +kernel) (by first | exact Or.inl (by decide +kernel) | exact Or.inr ⟨by decide +kernel, hin⟩) rfl rfl 0 rfl (Nat.le_of_ble_eq_true rfl) rfl dX7_init_25 ?_
  refine cn_aload cx 0 dX7_init_28 rfl ?_
  refine cn_bipush cx 55 dX7_init_29 (by decide) ?_
  refine cn_newi cx (N' := 55) wq_ai (by decide) (by decide) (by decide) (Nat.le_of_ble_eq_true rfl) (Nat.le_of_ble_eq_true rfl) dX7_init_31 (fun q4 => ?_)
  refine cn_put cx (idx := 19) (j := 3) (v := .ref q4) ([(h0, .inr (7, [.ref q1, .ref q2, .ref q3, .ref q4, .null, .int 0, .null, .null, .int 0, .int 0, .null, .null, .int 0, .int 0, .int 0, .int 0, .int 0, .null, .int 0])), (q1, .inl (tA 0, 7, .inl (fun _ => 0))), (q2, .inl (tA 0, 55, .inl (fun _ => 0))), (q3, .inl (tA 0, 55, .inl (fun _ => 0))), (q4, .inl (tA 0, 55, .inl (fun _ => 0)))]) (by decide) (by decide +kernel) (by decide +kernel) (by first | exact Or.inl (by decide +kernel) | exact Or.inr ⟨by decide +kernel, hin⟩) rfl rfl 0 rfl (Nat.le_of_ble_eq_true rfl) rfl dX7_init_33 ?_
  refine cn_aload cx 0 dX7_init_36 rfl ?_
  refine cn_bipush cx 55 dX7_init_37 (by decide) ?_
  refine cn_newi cx (N' := 55) wq_ai (by decide) (by decide) (by decide) (Nat.le_of_ble_eq_true rfl) (Nat.le_of_ble_eq_true rfl) dX7_init_39 (fun q5 => ?_)
  refine cn_put cx (idx := 22) (j := 4) (v := .ref q5) ([(h0, .inr (7, [.ref q1, .ref q2, .ref q3, .ref q4, .ref q5, .int 0, .null, .null, .int 0, .int 0, .null, .null, .int 0, .int 0, .int 0, .int 0, .int 0, .null, .int 0])), (q1, .inl (tA 0, 7, .inl (fun _ => 0))), (q2, .inl (tA 0, 55, .inl (fun _ => 0))), (q3, .inl (tA 0, 55, .inl (fun _ => 0))), (q4, .inl (tA 0, 55, .inl (fun _ => 0))), (q5, .inl (tA 0, 55, .inl (fun _ => 0)))]) (by decide) (by decide +kernel) (by decide +kernel) (by first | exact Or.inl (by decide +kernel) | exact Or.inr ⟨by decide +kernel, hin⟩) rfl rfl 0 rfl (Nat.le_of_ble_eq_true rfl) rfl dX7_init_41 ?_
  refine cn_aload cx 0 dX7_init_44 rfl ?_
  refine cn_bipush cx 96 dX7_init_45 (by decide) ?_
  refine cn_newi cx (N' := 96) wq_ai (by decide) (by decide) (by decide) (Nat.le_of_ble_eq_true rfl) (Nat.le_of_ble_eq_true rfl) dX7_init_47 (fun q6 => ?_)
  refine cn_put cx (idx := 25) (j := 6) (v := .ref q6) ([(h0, .inr (7, [.ref q1, .ref q2, .ref q3, .ref q4, .ref q5, .int 0, .ref q6, .null, .int 0, .int 0, .null, .null, .int 0, .int 0, .int 0, .int 0, .int 0, .null, .int 0])), (q1, .inl (tA 0, 7, .inl (fun _ => 0))), (q2, .inl (tA 0, 55, .inl (fun _ => 0))), (q3, .inl (tA 0, 55, .inl (fun _ => 0))), (q4, .inl (tA 0, 55, .inl (fun _ => 0))), (q5, .inl (tA 0, 55, .inl (fun _ => 0))), (q6, .inl (tA 0, 96, .inl (fun _ => 0)))]) (by decide) (by decide +kernel) (by decide +kernel) (by first | exact Or.inl (by decide +kernel) | exact Or.inr ⟨by decide +kernel, hin⟩) rfl rfl 0 rfl (Nat.le_of_ble_eq_true rfl) rfl dX7_init_49 ?_
  refine cn_aload cx 0 dX7_init_52 rfl ?_
  refine cn_iconst cx 5 dX7_init_53 (by decide) ?_
  refine cn_newi cx (N' := 5) wq_ai (by decide) (by decide) (by decide) (Nat.le_of_ble_eq_true rfl) (Nat.le_of_ble_eq_true rfl) dX7_init_54 (fun q7 => ?_)
  refine cn_put cx (idx := 28) (j := 7) (v := .ref q7) ([(h0, .inr (7, [.ref q1, .ref q2, .ref q3, .ref q4, .ref q5, .int 0, .ref q6, .ref q7, .int 0, .int 0, .null, .null, .int 0, .int 0, .int 0, .int 0, .int 0, .null, .int 0])), (q1, .inl (tA 0, 7, .inl (fun _ => 0))), (q2, .inl (tA 0, 55, .inl (fun _ => 0))), (q3, .inl (tA 0, 55, .inl (fun _ => 0))), (q4, .inl (tA 0, 55, .inl (fun _ => 0))), (q5, .inl (tA 0, 55, .inl (fun _ => 0))), (q6, .inl (tA 0, 96, .inl (fun _ => 0))), (q7, .inl (tA 0, 5, .inl (fun _ => 0)))]) (by decide) (by decide +kernel) (by decide +kernel) (by first | exact Or.inl (by decide +kernel) | exact Or.inr ⟨by decide +kernel, hin⟩) rfl rfl 0 rfl (Nat.le_of_ble_eq_true rfl) rfl dX7_init_56 ?_
  refine cn_aload cx 0 dX7_init_59 rfl ?_
  refine cn_iconst cx 4 dX7_init_60 (by decide) ?_
  refine cn_newi cx (N' := 4) wq_ai (by decide) (by decide) (by decide) (Nat.le_of_ble_eq_true rfl) (Nat.le_of_ble_eq_true rfl) dX7_init_61 (fun q8 => ?_)
  refine cn_put cx (idx := 31) (j := 10) (v := .ref q8) ([(h0, .inr (7, [.ref q1, .ref q2, .ref q3, .ref q4, .ref q5, .int 0, .ref q6, .ref q7, .int 0, .int 0, .ref q8, .null, .int 0, .int 0, .int 0, .int 0, .int 0, .null, .int 0])), (q1, .inl (tA 0, 7, .inl (fun _ => 0))), (q2, .inl (tA 0, 55, .inl (fun _ => 0))), (q3, .inl (tA 0, 55, .inl (fun _ => 0))), (q4, .inl (tA 0, 55, .inl (fun _ => 0))), (q5, .inl (tA 0, 55, .inl (fun _ => 0))), (q6, .inl (tA 0, 96, .inl (fun _ => 0))), (q7, .inl (tA 0, 5, .inl (fun _ => 0))), (q8, .inl (tA 0, 4, .inl (fun _ => 0)))]) (by decide) (by decide +kernel) (by decide +kernel) (by first | exact Or.inl (by decide +kernel) | exact Or.inr ⟨by decide +kernel, hin⟩) rfl rfl 0 rfl (Nat.le_of_ble_eq_true rfl) rfl dX7_init_63 ?_
  refine cn_aload cx 0 dX7_init_66 rfl ?_
  refine cn_iconst cx 4 dX7_init_67 (by decide) ?_
  refine cn_newi cx (N' := 4) wq_ai (by decide) (by decide) (by decide) (Nat.le_of_ble_eq_true rfl) (Nat.le_of_ble_eq_true rfl) dX7_init_68 (fun q9 => ?_)
  refine cn_put cx (idx := 34) (j := 11) (v := .ref q9) ([(h0, .inr (7, [.ref q1, .ref q2, .ref q3, .ref q4, .ref q5, .int 0, .ref q6, .ref q7, .int 0, .int 0, .ref q8, .ref q9, .int 0, .int 0, .int 0, .int 0, .int 0, .null, .int 0])), (q1, .inl (tA 0, 7, .inl (fun _ => 0))), (q2, .inl (tA 0, 55, .inl (fun _ => 0))), (q3, .inl (tA 0, 55, .inl (fun _ => 0))), (q4, .inl (tA 0, 55, .inl (fun _ => 0))), (q5, .inl (tA 0, 55, .inl (fun _ => 0))), (q6, .inl (tA 0, 96, .inl (fun _ => 0))), (q7, .inl (tA 0, 5, .inl (fun _ => 0))), (q8, .inl (tA 0, 4, .inl (fun _ => 0))), (q9, .inl (tA 0, 4, .inl (fun _ => 0)))]) (by decide) (by decide +kernel) (by decide +kernel) (by first | exact Or.inl (by decide +kernel) | exact Or.inr ⟨by decide +kernel, hin⟩) rfl rfl 0 rfl (Nat.le_of_ble_eq_true rfl) rfl dX7_init_70 ?_
  refine cn_aload cx 0 dX7_init_73 rfl ?_
  refine cn_bipush cx 8 dX7_init_74 (by decide) ?_
  refine cn_newi cx (N' := 8) wq_ai (by decide) (by decide) (by decide) (Nat.le_of_ble_eq_true rfl) (Nat.le_of_ble_eq_true rfl) dX7_init_76 (fun q10 => ?_)
  refine cn_put cx (idx := 37) (j := 17) (v := .ref q10) ([(h0, .inr (7, [.ref q1, .ref q2, .ref q3, .ref q4, .ref q5, .int 0, .ref q6, .ref q7, .int 0, .int 0, .ref q8, .ref q9, .int 0, .int 0, .int 0, .int 0, .int 0, .ref q10, .int 0])), (q1, .inl (tA 0, 7, .inl (fun _ => 0))), (q2, .inl (tA 0, 55, .inl (fun _ => 0))), (q3, .inl (tA 0, 55, .inl (fun _ => 0))), (q4, .inl (tA 0, 55, .inl (fun _ => 0))), (q5, .inl (tA 0, 55, .inl (fun _ => 0))), (q6, .inl (tA 0, 96, .inl (fun _ => 0))), (q7, .inl (tA 0, 5, .inl (fun _ => 0))), (q8, .inl (tA 0, 4, .inl (fun _ => 0))), (q9, .inl (tA 0, 4, .inl (fun _ => 0))), (q10, .inl (tA 0, 8, .inl (fun _ => 0)))]) (by decide) (by decide +kernel) (by decide +kernel) (by first | exact Or.inl (by decide +kernel) | exact Or.inr ⟨by decide +kernel, hin⟩) rfl rfl 0 rfl (Nat.le_of_ble_eq_true rfl) rfl dX7_init_78 ?_
  refine cn_aload cx 0 dX7_init_81 rfl ?_
  refine cn_get cx (idx := 13) (j := 1) (by decide) (by decide +kernel) (by decide +kernel) 0 rfl rfl dX7_init_82 ?_
  refine cn_iconst cx 3 dX7_init_85 (by decide) ?_
  refine cn_sipush cx 200 dX7_init_86 (by decide) ?_
  refine cn_iast cx ([(h0, .inr (7, [.ref q1, .ref q2, .ref q3, .ref q4, .ref q5, .int 0, .ref q6, .ref q7, .int 0, .int 0, .ref q8, .ref q9, .int 0, .int 0, .int 0, .int 0, .int 0, .ref q10, .int 0])), (q1, .inl (tA 0, 7, .inl (fun _ => 0))), (q2, .inl (tA 0, 55, .inl (upd (fun _ => 0) 3 200))), (q3, .inl (tA 0, 55, .inl (fun _ => 0))), (q4, .inl (tA 0, 55, .inl (fun _ => 0))), (q5, .inl (tA 0, 55, .inl (fun _ => 0))), (q6, .inl (tA 0, 96, .inl (fun _ => 0))), (q7, .inl (tA 0, 5, .inl (fun _ => 0))), (q8, .inl (tA 0, 4, .inl (fun _ => 0))), (q9, .inl (tA 0, 4, .inl (fun _ => 0))), (q10, .inl (tA 0, 8, .inl (fun _ => 0)))]) 2 rfl (by unfold vp_in; decide) rfl dX7_init_89 ?_
  refine cn_aload cx 0 dX7_init_90 rfl ?_
  refine cn_get cx (idx := 13) (j := 1) (by decide) (by decide +kernel) (by decide +kernel) 0 rfl rfl dX7_init_91 ?_
  refine cn_iconst cx 4 dX7_init_94 (by decide) ?_
  refine cn_bipush cx 30 dX7_init_95 (by decide) ?_
  refine cn_iast cx ([(h0, .inr (7, [.ref q1, .ref q2, .ref q3, .ref q4, .ref q5, .int 0, .ref q6, .ref q7, .int 0, .int 0, .ref q8, .ref q9, .int 0, .int 0, .int 0, .int 0, .int 0, .ref q10, .int 0])), (q1, .inl (tA 0, 7, .inl (fun _ => 0))), (q2, .inl (tA 0, 55, .inl (upd (upd (fun _ => 0) 3 200) 4 30))), (q3, .inl (tA 0, 55, .inl (fun _ => 0))), (q4, .inl (tA 0, 55, .inl (fun _ => 0))), (q5, .inl (tA 0, 55, .inl (fun _ => 0))), (q6, .inl (tA 0, 96, .inl (fun _ => 0))), (q7, .inl (tA 0, 5, .inl (fun _ => 0))), (q8, .inl (tA 0, 4, .inl (fun _ => 0))), (q9, .inl (tA 0, 4, .inl (fun _ => 0))), (q10, .inl (tA 0, 8, .inl (fun _ => 0)))]) 2 rfl (by unfold vp_in; decide) rfl dX7_init_97 ?_
  exact hend _ _ _ dX7_init_98 ⟨fun k => match k with | 0 => h0 | 1 => q1 | 2 => q2 | 3 => q3 | 4 => q4 | 5 => q5 | 6 => q6 | 7 => q7 | 8 => q8 | 9 => q9 | _ => q10, rfl, rfl⟩
set_option maxHeartbeats 4000000 in
set_option maxRecDepth 100000 in
theorem c_X6_init : cn_T yX6_init cX6_init 1 6 [.null, .null, .null, .int 0, .null, .null, .null, .int 0, .null] { frames := 3, cells := 62, slots := 352, locals := 120 } 62 352 cn_o6 := by
  refine cn_T_of (by decide) rfl rfl (by decide) ?_
  intro p l e s m args below meth c Q A D tA h0 cx hin hend
  refine cn_aload cx 0 dX6_init_0 rfl ?_
  refine cn_obj cx wq_o6 dX6_init_1 (Nat.le_of_ble_eq_true rfl) (Nat.le_of_ble_eq_true rfl) ?_
  refine cn_aload cx 0 dX6_init_4 rfl ?_
  refine cn_make cx true c_X2_init (by decide) rfl rfl (by decide +kernel) wq_c6_9 wq_t6_9 wi_X2 wq_b6_9 wq_m6_9 wq_l6_9 cn_df2 ⟨rfl, rfl, (Nat.le_of_ble_eq_true rfl), (Nat.le_of_ble_eq_true rfl)⟩ (Nat.le_of_ble_eq_true rfl) (Nat.le_of_ble_eq_true rfl) (Nat.le_of_ble_eq_true rfl) dX6_init_5 dX6_init_8 dX6_init_9 (fun n1 w1 ho1 => ?_)
  obtain ⟨f1, e1, ho1⟩ := ho1
  subst e1
  have ho1 : w1 = cn_rw tA f1 := ho1
  subst ho1
  refine cn_put cx (idx := 12) (j := 0) (v := .ref (f1 0)) ([(h0, .inr (6, [.ref (f1 0), .null, .null, .int 0, .null, .null, .null, .int 0, .null]))] ++ cn_rw tA f1) (by decide) (by decide +kernel) (by decide +kernel) (by first | exact Or.inl (by decide +kernel) | exact Or.inr ⟨by decide +kernel, hin⟩) rfl rfl 0 rfl (Nat.le_of_ble_eq_true rfl) rfl dX6_init_12 ?_
  refine cn_aload cx 0 dX6_init_15 rfl ?_
  refine cn_make cx true c_X2_init (by decide) rfl rfl (by decide +kernel) wq_c6_9 wq_t6_9 wi_X2 wq_b6_9 wq_m6_9 wq_l6_9 cn_df2 ⟨rfl, rfl, (Nat.le_of_ble_eq_true rfl), (Nat.le_of_ble_eq_true rfl)⟩ (Nat.le_of_ble_eq_true rfl) (Nat.le_of_ble_eq_true rfl) (Nat.le_of_ble_eq_true rfl) dX6_init_16 dX6_init_19 dX6_init_20 (fun n2 w2 ho2 => ?_)
  obtain ⟨f2, e2, ho2⟩ := ho2
  subst e2
  have ho2 : w2 = cn_rw tA f2 := ho2
  subst ho2
  refine cn_put cx (idx := 16) (j := 1) (v := .ref (f2 0)) ([(h0, .inr (6, [.ref (f1 0), .ref (f2 0), .null, .int 0, .null, .null, .null, .int 0, .null]))] ++ cn_rw tA f1 ++ cn_rw tA f2) (by decide) (by decide +kernel) (by decide +kernel) (by first | exact Or.inl (by decide +kernel) | exact Or.inr ⟨by decide +kernel, hin⟩) rfl rfl 0 rfl (Nat.le_of_ble_eq_true rfl) rfl dX6_init_23 ?_
  refine cn_aload cx 0 dX6_init_26 rfl ?_
  refine cn_make cx true c_X2_init (by decide) rfl rfl (by decide +kernel) wq_c6_9 wq_t6_9 wi_X2 wq_b6_9 wq_m6_9 wq_l6_9 cn_df2 ⟨rfl, rfl, (Nat.le_of_ble_eq_true rfl), (Nat.le_of_ble_eq_true rfl)⟩ (Nat.le_of_ble_eq_true rfl) (Nat.le_of_ble_eq_true rfl) (Nat.le_of_ble_eq_true rfl) dX6_init_27 dX6_init_30 dX6_init_31 (fun n3 w3 ho3 => ?_)
  obtain ⟨f3, e3, ho3⟩ := ho3
  subst e3
  have ho3 : w3 = cn_rw tA f3 := ho3
  subst ho3
  refine cn_put cx (idx := 19) (j := 2) (v := .ref (f3 0)) ([(h0, .inr (6, [.ref (f1 0), .ref (f2 0), .ref (f3 0), .int 0, .null, .null, .null, .int 0, .null]))] ++ cn_rw tA f1 ++ cn_rw tA f2 ++ cn_rw tA f3) (by decide) (by decide +kernel) (by decide +kernel) (by first | exact Or.inl (by decide +kernel) | exact Or.inr ⟨by decide +kernel, hin⟩) rfl rfl 0 rfl (Nat.le_of_ble_eq_true rfl) rfl dX6_init_34 ?_
  refine cn_aload cx 0 dX6_init_37 rfl ?_
  refine cn_iconst cx 0 dX6_init_38 (by decide) ?_
  refine cn_put cx (idx := 22) (j := 3) (v := .int 0) ([(h0, .inr (6, [.ref (f1 0), .ref (f2 0), .ref (f3 0), .int 0, .null, .null, .null, .int 0, .null]))] ++ cn_rw tA f1 ++ cn_rw tA f2 ++ cn_rw tA f3) (by decide) (by decide +kernel) (by decide +kernel) (by first | exact Or.inl (by decide +kernel) | exact Or.inr ⟨by decide +kernel, hin⟩) rfl rfl 0 rfl (Nat.le_of_ble_eq_true rfl) rfl dX6_init_39 ?_
  refine cn_aload cx 0 dX6_init_42 rfl ?_
  refine cn_make cx true c_X1_init (by decide) rfl rfl (by decide +kernel) wq_c6_26 wq_t6_26 wi_X1 wq_b6_26 wq_m6_26 wq_l6_26 cn_df1 ⟨rfl, rfl, (Nat.le_of_ble_eq_true rfl), (Nat.le_of_ble_eq_true rfl)⟩ (Nat.le_of_ble_eq_true rfl) (Nat.le_of_ble_eq_true rfl) (Nat.le_of_ble_eq_true rfl) dX6_init_43 dX6_init_46 dX6_init_47 (fun n4 w4 ho4 => ?_)
  obtain ⟨f4, e4, ho4⟩ := ho4
  subst e4
  have ho4 : w4 = cn_w1 tA f4 := ho4
  subst ho4
  refine cn_put cx (idx := 29) (j := 4) (v := .ref (f4 0)) ([(h0, .inr (6, [.ref (f1 0), .ref (f2 0), .ref (f3 0), .int 0, .ref (f4 0), .null, .null, .int 0, .null]))] ++ cn_rw tA f1 ++ cn_rw tA f2 ++ cn_rw tA f3 ++ cn_w1 tA f4) (by decide) (by decide +kernel) (by decide +kernel) (by first | exact Or.inl (by decide +kernel) | exact Or.inr ⟨by decide +kernel, hin⟩) rfl rfl 0 rfl (Nat.le_of_ble_eq_true rfl) rfl dX6_init_50 ?_
  refine cn_aload cx 0 dX6_init_53 rfl ?_
  refine cn_make cx true c_X5_init (by decide) rfl rfl (by decide +kernel) wq_c6_33 wq_t6_33 wi_X5 wq_b6_33 wq_m6_33 wq_l6_33 cn_df5 ⟨rfl, rfl, (Nat.le_of_ble_eq_true rfl), (Nat.le_of_ble_eq_true rfl)⟩ (Nat.le_of_ble_eq_true rfl) (Nat.le_of_ble_eq_true rfl) (Nat.le_of_ble_eq_true rfl) dX6_init_54 dX6_init_57 dX6_init_58 (fun n5 w5 ho5 => ?_)
  obtain ⟨f5, e5, ho5⟩ := ho5
  subst e5
  have ho5 : w5 = cn_w5 tA f5 := ho5
  subst ho5
  refine cn_put cx (idx := 36) (j := 5) (v := .ref (f5 0)) ([(h0, .inr (6, [.ref (f1 0), .ref (f2 0), .ref (f3 0), .int 0, .ref (f4 0), .ref (f5 0), .null, .int 0, .null]))] ++ cn_rw tA f1 ++ cn_rw tA f2 ++ cn_rw tA f3 ++ cn_w1 tA f4 ++ cn_w5 tA f5) (by decide) (by decide +kernel) (by decide +kernel) (by first | exact Or.inl (by decide +kernel) | exact Or.inr ⟨by decide +kernel, hin⟩) rfl rfl 0 rfl (Nat.le_of_ble_eq_true rfl) rfl dX6_init_61 ?_
  refine cn_aload cx 0 dX6_init_64 rfl ?_
  refine cn_bipush cx 8 dX6_init_65 (by decide) ?_
  refine cn_newi cx (N' := 8) wq_ai (by decide) (by decide) (by decide) (Nat.le_of_ble_eq_true rfl) (Nat.le_of_ble_eq_true rfl) dX6_init_67 (fun q1 => ?_)
  refine cn_put cx (idx := 40) (j := 6) (v := .ref q1) ([(h0, .inr (6, [.ref (f1 0), .ref (f2 0), .ref (f3 0), .int 0, .ref (f4 0), .ref (f5 0), .ref q1, .int 0, .null]))] ++ cn_rw tA f1 ++ cn_rw tA f2 ++ cn_rw tA f3 ++ cn_w1 tA f4 ++ cn_w5 tA f5 ++ [(q1, .inl (tA 0, 8, .inl (fun _ => 0)))]) (by decide) (by decide +kernel) (by decide +kernel) (by first | exact Or.inl (by decide +kernel) | exact Or.inr ⟨by decide +kernel, hin⟩) rfl rfl 0 rfl (Nat.le_of_ble_eq_true rfl) rfl dX6_init_69 ?_
  refine cn_aload cx 0 dX6_init_72 rfl ?_
  refine cn_iconst cx 0 dX6_init_73 (by decide) ?_
  refine cn_put cx (idx := 44) (j := 7) (v := .int 0) ([(h0, .inr (6, [.ref (f1 0), .ref (f2 0), .ref (f3 0), .int 0, .ref (f4 0), .ref (f5 0), .ref q1, .int 0, .null]))] ++ cn_rw tA f1 ++ cn_rw tA f2 ++ cn_rw tA f3 ++ cn_w1 tA f4 ++ cn_w5 tA f5 ++ [(q1, .inl (tA 0, 8, .inl (fun _ => 0)))]) (by decide) (by decide +kernel) (by decide +kernel) (by first | exact Or.inl (by decide +kernel) | exact Or.inr ⟨by decide +kernel, hin⟩) rfl rfl 0 rfl (Nat.le_of_ble_eq_true rfl) rfl dX6_init_74 ?_
  refine cn_aload cx 0 dX6_init_77 rfl ?_
  refine cn_bipush cx 7 dX6_init_78 (by decide) ?_
  refine cn_newi cx (N' := 7) wq_ai (by decide) (by decide) (by decide) (Nat.le_of_ble_eq_true rfl) (Nat.le_of_ble_eq_true rfl) dX6_init_80 (fun q2 => ?_)
  refine cn_put cx (idx := 48) (j := 8) (v := .ref q2) ([(h0, .inr (6, [.ref (f1 0), .ref (f2 0), .ref (f3 0), .int 0, .ref (f4 0), .ref (f5 0), .ref q1, .int 0, .ref q2]))] ++ cn_rw tA f1 ++ cn_rw tA f2 ++ cn_rw tA f3 ++ cn_w1 tA f4 ++ cn_w5 tA f5 ++ [(q1, .inl (tA 0, 8, .inl (fun _ => 0)))] ++ [(q2, .inl (tA 0, 7, .inl (fun _ => 0)))]) (by decide) (by decide +kernel) (by decide +kernel) (by first | exact Or.inl (by decide +kernel) | exact Or.inr ⟨by decide +kernel, hin⟩) rfl rfl 0 rfl (Nat.le_of_ble_eq_true rfl) rfl dX6_init_82 ?_
  exact hend _ _ _ dX6_init_85 ⟨f1, f2, f3, f4, f5, q1, q2, rfl⟩
