/-! the formulas, evaluated -/
section VC
variable {it : List (Nat × mj_C)} {rk : Nat} {sx : mj_Sx} {J : Nat → mj_L → mj_S → mj_M → Prop} {Rt : mj_V → mj_M → Prop} {k : mj_L → mj_S → mj_M → Prop} {L : mj_L} {st : mj_S} {M : mj_M} {n0 n1 : Nat} {z0 : Int32} {ps0 : List (Int32 × Nat)}
theorem xp_1 : mj_X it rk sx J Rt (1, n0, n1, z0, ps0) k L st M = (k L (.inl z0 :: st) M) := rfl
theorem xp_2 : mj_X it rk sx J Rt (2, n0, n1, z0, ps0) k L st M = (k L (.inr n0 :: st) M) := rfl
theorem xp_3 : mj_X it rk sx J Rt (3, n0, n1, z0, ps0) k L st M = (mj_li (mj_g L n0) fun x => k L (.inl x :: st) M) := rfl
theorem xp_4 : mj_X it rk sx J Rt (4, n0, n1, z0, ps0) k L st M = (mj_lr (mj_g L n0) fun a => k L (.inr a :: st) M) := rfl
theorem xp_5 : mj_X it rk sx J Rt (5, n0, n1, z0, ps0) k L st M = (mj_pi st fun x r => mj_so L n0 (.inl x) fun L' => k L' r M) := rfl
theorem xp_6 : mj_X it rk sx J Rt (6, n0, n1, z0, ps0) k L st M = (mj_pr st fun a r => mj_so L n0 (.inr a) fun L' => k L' r M) := rfl
theorem xp_7 : mj_X it rk sx J Rt (7, n0, n1, z0, ps0) k L st M = (mj_li (mj_g L n0) fun x => mj_so L n0 (.inl (x + z0)) fun L' => k L' st M) := rfl
theorem xp_10 : mj_X it rk sx J Rt (10, n0, n1, z0, ps0) k L st M = (mj_pi st fun y r => mj_pi r fun x r => k L (.inl (x + y) :: r) M) := rfl
theorem xp_11 : mj_X it rk sx J Rt (11, n0, n1, z0, ps0) k L st M = (mj_pi st fun y r => mj_pi r fun x r => k L (.inl (x - y) :: r) M) := rfl
theorem xp_12 : mj_X it rk sx J Rt (12, n0, n1, z0, ps0) k L st M = (mj_pi st fun y r => mj_pi r fun x r => k L (.inl (x * y) :: r) M) := rfl
theorem xp_13 : mj_X it rk sx J Rt (13, n0, n1, z0, ps0) k L st M = (mj_pi st fun y r => mj_pi r fun x r => ¬ y = 0 ∧ k L (.inl (x / y) :: r) M) := rfl
theorem xp_14 : mj_X it rk sx J Rt (14, n0, n1, z0, ps0) k L st M = (mj_pi st fun y r => mj_pi r fun x r => ¬ y = 0 ∧ k L (.inl (x - x / y * y) :: r) M) := rfl
theorem xp_15 : mj_X it rk sx J Rt (15, n0, n1, z0, ps0) k L st M = (mj_pi st fun x r => k L (.inl (-x) :: r) M) := rfl
theorem xp_16 : mj_X it rk sx J Rt (16, n0, n1, z0, ps0) k L st M = (mj_pi st fun y r => mj_pi r fun x r => k L (.inl (x <<< (y &&& 31)) :: r) M) := rfl
theorem xp_17 : mj_X it rk sx J Rt (17, n0, n1, z0, ps0) k L st M = (mj_pi st fun y r => mj_pi r fun x r => k L (.inl (x >>> (y &&& 31)) :: r) M) := rfl
theorem xp_18 : mj_X it rk sx J Rt (18, n0, n1, z0, ps0) k L st M = (mj_pi st fun y r => mj_pi r fun x r => k L (.inl (x &&& y) :: r) M) := rfl
theorem xp_19 : mj_X it rk sx J Rt (19, n0, n1, z0, ps0) k L st M = (mj_pi st fun y r => mj_pi r fun x r => k L (.inl (x ||| y) :: r) M) := rfl
theorem xp_20 : mj_X it rk sx J Rt (20, n0, n1, z0, ps0) k L st M = (mj_pi st fun x r => k L (.inl (x.toUInt32 % 65536).toInt32 :: r) M) := rfl
theorem xp_21 : mj_X it rk sx J Rt (21, n0, n1, z0, ps0) k L st M = (mj_pv st fun v r => k L (v :: v :: r) M) := rfl
theorem xp_22 : mj_X it rk sx J Rt (22, n0, n1, z0, ps0) k L st M = (mj_pv st fun v r => mj_pv r fun w r => k L (v :: w :: v :: w :: r) M) := rfl
theorem xp_23 : mj_X it rk sx J Rt (23, n0, n1, z0, ps0) k L st M = (mj_pv st fun _ r => k L r M) := rfl
theorem xp_30 : mj_X it rk sx J Rt (30, n0, n1, z0, ps0) k L st M = (mj_pi st fun x r => (x = 0 → J n0 L r M) ∧ (¬ x = 0 → k L r M)) := rfl
theorem xp_31 : mj_X it rk sx J Rt (31, n0, n1, z0, ps0) k L st M = (mj_pi st fun x r => (¬ x = 0 → J n0 L r M) ∧ (x = 0 → k L r M)) := rfl
theorem xp_32 : mj_X it rk sx J Rt (32, n0, n1, z0, ps0) k L st M = (mj_pi st fun x r => (x < 0 → J n0 L r M) ∧ (¬ x < 0 → k L r M)) := rfl
theorem xp_33 : mj_X it rk sx J Rt (33, n0, n1, z0, ps0) k L st M = (mj_pi st fun x r => (¬ x < 0 → J n0 L r M) ∧ (x < 0 → k L r M)) := rfl
theorem xp_34 : mj_X it rk sx J Rt (34, n0, n1, z0, ps0) k L st M = (mj_pi st fun x r => (0 < x → J n0 L r M) ∧ (¬ 0 < x → k L r M)) := rfl
theorem xp_35 : mj_X it rk sx J Rt (35, n0, n1, z0, ps0) k L st M = (mj_pi st fun x r => (¬ 0 < x → J n0 L r M) ∧ (0 < x → k L r M)) := rfl
theorem xp_36 : mj_X it rk sx J Rt (36, n0, n1, z0, ps0) k L st M = (mj_pi st fun y r => mj_pi r fun x r => (x = y → J n0 L r M) ∧ (¬ x = y → k L r M)) := rfl
theorem xp_37 : mj_X it rk sx J Rt (37, n0, n1, z0, ps0) k L st M = (mj_pi st fun y r => mj_pi r fun x r => (¬ x = y → J n0 L r M) ∧ (x = y → k L r M)) := rfl
theorem xp_38 : mj_X it rk sx J Rt (38, n0, n1, z0, ps0) k L st M = (mj_pi st fun y r => mj_pi r fun x r => (x < y → J n0 L r M) ∧ (¬ x < y → k L r M)) := rfl
theorem xp_39 : mj_X it rk sx J Rt (39, n0, n1, z0, ps0) k L st M = (mj_pi st fun y r => mj_pi r fun x r => (¬ x < y → J n0 L r M) ∧ (x < y → k L r M)) := rfl
theorem xp_40 : mj_X it rk sx J Rt (40, n0, n1, z0, ps0) k L st M = (mj_pi st fun y r => mj_pi r fun x r => (y < x → J n0 L r M) ∧ (¬ y < x → k L r M)) := rfl
theorem xp_41 : mj_X it rk sx J Rt (41, n0, n1, z0, ps0) k L st M = (mj_pi st fun y r => mj_pi r fun x r => (¬ y < x → J n0 L r M) ∧ (y < x → k L r M)) := rfl
theorem xp_42 : mj_X it rk sx J Rt (42, n0, n1, z0, ps0) k L st M = (J n0 L st M) := rfl
theorem xp_43 : mj_X it rk sx J Rt (43, n0, n1, z0, ps0) k L st M = (mj_pi st fun x r => mj_sw ps0 n0 x fun t => J t L r M) := rfl
theorem xp_50 : mj_X it rk sx J Rt (50, n0, n1, z0, ps0) k L st M = (mj_pr st fun a r => mj_ob a = n0 ∧ k L (.inl (M a n1) :: r) M) := rfl
theorem xp_51 : mj_X it rk sx J Rt (51, n0, n1, z0, ps0) k L st M = (mj_pr st fun a r => mj_ob a = n0 ∧ k L (.inr (mj_pt a n1) :: r) M) := rfl
theorem xp_52 : mj_X it rk sx J Rt (52, n0, n1, z0, ps0) k L st M = (mj_pi st fun x r => mj_pr r fun a r => mj_ob a = n0 ∧ k L r (mj_up M a n1 x)) := rfl
theorem xp_53 : mj_X it rk sx J Rt (53, n0, n1, z0, ps0) k L st M = (mj_pi st fun x r => mj_pr r fun a r => mj_ob a = n0 ∧ (x = 0 ∨ x = 1) ∧ k L r (mj_up M a n1 x)) := rfl
theorem xp_60 : mj_X it rk sx J Rt (60, n0, n1, z0, ps0) k L st M = (mj_pi st fun i r => mj_pr r fun a r => (mj_ak a = 0 ∨ mj_ak a = 3 ∨ (mj_ak a = 4 ∧ sx.1 = true)) ∧ vp_in i (mj_ln sx a) ∧ k L (.inl (mj_cq sx M a i.toNatClampNeg) :: r) M) := rfl
theorem xp_61 : mj_X it rk sx J Rt (61, n0, n1, z0, ps0) k L st M = (mj_pi st fun x r => mj_pi r fun i r => mj_pr r fun a r => mj_ak a = 0 ∧ vp_in i (mj_ln sx a) ∧ k L r (mj_up M a i.toNatClampNeg x)) := rfl
theorem xp_62 : mj_X it rk sx J Rt (62, n0, n1, z0, ps0) k L st M = (mj_pi st fun i r => mj_pr r fun a r => mj_ak a = 1 ∧ vp_in i (mj_ln sx a) ∧ k L (.inl (M a i.toNatClampNeg) :: r) M) := rfl
theorem xp_63 : mj_X it rk sx J Rt (63, n0, n1, z0, ps0) k L st M = (mj_pi st fun x r => mj_pi r fun i r => mj_pr r fun a r => mj_ak a = 1 ∧ vp_in i (mj_ln sx a) ∧ k L r (mj_up M a i.toNatClampNeg (vp_nar .char x))) := rfl
theorem xp_64 : mj_X it rk sx J Rt (64, n0, n1, z0, ps0) k L st M = (mj_pi st fun i r => mj_pr r fun a r => mj_ak a = 2 ∧ vp_in i (mj_ln sx a) ∧ k L (.inr (mj_pt a i.toNatClampNeg) :: r) M) := rfl
theorem xp_65 : mj_X it rk sx J Rt (65, n0, n1, z0, ps0) k L st M = (mj_pr st fun a r => mj_ak a ≠ 9 ∧ (mj_ak a = 4 → sx.1 = true) ∧ k L (.inl (nI (mj_ln sx a)) :: r) M) := rfl
theorem xp_70 : mj_X it rk sx J Rt (70, n0, n1, z0, ps0) k L st M = ((match it.lookup n0 with
    | some cl => mj_ta cl.1 st [] fun avs r => r.length ≤ 8 ∧ cl.2.2.1 avs M ∧ mj_rt cl.2.1 (cl.2.2.2 avs M) r fun r' M' => k L r' M'
    | none => False)) := rfl
theorem xp_80 : mj_X it rk sx J Rt (80, n0, n1, z0, ps0) k L st M = (mj_pi st fun x r => r = [] ∧ (rk = 1 ∨ rk = 3) ∧ (rk = 3 → x = 0 ∨ x = 1) ∧ Rt (.inl x) M) := rfl
theorem xp_81 : mj_X it rk sx J Rt (81, n0, n1, z0, ps0) k L st M = (mj_pr st fun a r => r = [] ∧ rk = 2 ∧ Rt (.inr a) M) := rfl
theorem xp_82 : mj_X it rk sx J Rt (82, n0, n1, z0, ps0) k L st M = (st = [] ∧ rk = 0 ∧ Rt (.inl 0) M) := rfl
theorem xw_0 {e : Nat} : mj_W it rk sx J Rt [] e L st M = J e L st M := rfl
theorem xw_1 {e : Nat} {q : mj_O} {t : List mj_O} : mj_W it rk sx J Rt (q :: t) e L st M = mj_X it rk sx J Rt q (mj_W it rk sx J Rt t e) L st M := rfl
theorem xg_0 {v : Option mj_V} {t : mj_L} : mj_g (v :: t) 0 = v := rfl
theorem xg_1 {v : Option mj_V} {t : mj_L} {n : Nat} : mj_g (v :: t) (n + 1) = mj_g t n := rfl
theorem xl_i {x : Int32} {f : Int32 → Prop} : mj_li (some (.inl x)) f = f x := rfl
theorem xl_r {x : Nat} {f : Nat → Prop} : mj_lr (some (.inr x)) f = f x := rfl
theorem xs_0 {a : Option mj_V} {t : mj_L} {v : mj_V} {f : mj_L → Prop} : mj_so (a :: t) 0 v f = f (some v :: t) := rfl
theorem xs_1 {a : Option mj_V} {t : mj_L} {n : Nat} {v : mj_V} {f : mj_L → Prop} : mj_so (a :: t) (n + 1) v f = mj_so t n v (fun t' => f (a :: t')) := rfl
theorem xq_i {x : Int32} {r : mj_S} {f : Int32 → mj_S → Prop} : mj_pi (.inl x :: r) f = f x r := rfl
theorem xq_r {x : Nat} {r : mj_S} {f : Nat → mj_S → Prop} : mj_pr (.inr x :: r) f = f x r := rfl
theorem xq_v {x : mj_V} {r : mj_S} {f : mj_V → mj_S → Prop} : mj_pv (x :: r) f = f x r := rfl
theorem xc_0 {d : Nat} {x : Int32} {f : Nat → Prop} : mj_sw [] d x f = f d := rfl
theorem xc_1 {q : Int32 × Nat} {t : List (Int32 × Nat)} {d : Nat} {x : Int32} {f : Nat → Prop} : mj_sw (q :: t) d x f = ((x = q.1 → f q.2) ∧ (¬ x = q.1 → mj_sw t d x f)) := rfl
theorem xt_0 {st : mj_S} {acc : List mj_V} {f : List mj_V → mj_S → Prop} : mj_ta 0 st acc f = f acc st := rfl
theorem xt_1 {n : Nat} {v : mj_V} {st : mj_S} {acc : List mj_V} {f : List mj_V → mj_S → Prop} : mj_ta (n + 1) (v :: st) acc f = mj_ta n st (v :: acc) f := rfl
def rk0 : Nat := 0
def rk1 : Nat := 1
def rk2 : Nat := 2
theorem xr_0 {post : mj_V → mj_M → Prop} {r : mj_S} {k : mj_S → mj_M → Prop} : mj_rt rk0 post r k = (∀ M' : mj_M, post (.inl 0) M' → k r M') := rfl
theorem xr_1 {post : mj_V → mj_M → Prop} {r : mj_S} {k : mj_S → mj_M → Prop} : mj_rt rk1 post r k = (∀ (x : Int32) (M' : mj_M), post (.inl x) M' → k (.inl x :: r) M') := rfl
theorem xr_2 {post : mj_V → mj_M → Prop} {r : mj_S} {k : mj_S → mj_M → Prop} : mj_rt rk2 post r k = (∀ (a : Nat) (M' : mj_M), post (.inr a) M' → k (.inr a :: r) M') := rfl
theorem xe_0 {i : Nat} {c : mj_C} {t : List (Nat × mj_C)} : List.lookup i ((i, c) :: t) = some c := by simp [List.lookup_cons]
theorem xe_1 {i j : Nat} {c : mj_C} {t : List (Nat × mj_C)} (h : i ≠ j) : List.lookup i ((j, c) :: t) = List.lookup i t := by
  rw [List.lookup_cons]
  have : (i == j) = false := by simpa using h
  rw [this]
theorem up_ne {M : mj_M} {a j b : Nat} {x : Int32} (h : b ≠ a) : mj_up M a j x b = M b := mj_up_o h
theorem up_s {M : mj_M} {a j : Nat} {x : Int32} : mj_up M a j x a = upd (M a) j x := mj_up_s
theorem ud_s {f : Nat → Int32} {k : Nat} {x : Int32} : upd f k x k = x := by simp [upd]
theorem ud_o {f : Nat → Int32} {k j : Nat} {x : Int32} (h : j ≠ k) : upd f k x j = f j := by simp [upd, h]
end VC
theorem ob_0 : mj_ob 0 = 2 := rfl
theorem ob_18 : mj_ob 18 = 2 := rfl
theorem ob_36 : mj_ob 36 = 2 := rfl
theorem ob_54 : mj_ob 54 = 1 := rfl
theorem ak_55 : mj_ak 55 = 0 := rfl
theorem ln_55 {sx : mj_Sx} : mj_ln sx 55 = 4 := rfl
theorem cq_55 {sx : mj_Sx} {M : mj_M} {j : Nat} : mj_cq sx M 55 j = M 55 j := rfl
theorem ak_56 : mj_ak 56 = 0 := rfl
theorem ln_56 {sx : mj_Sx} : mj_ln sx 56 = 4 := rfl
theorem cq_56 {sx : mj_Sx} {M : mj_M} {j : Nat} : mj_cq sx M 56 j = M 56 j := rfl
theorem ob_57 : mj_ob 57 = 5 := rfl
theorem ak_58 : mj_ak 58 = 1 := rfl
theorem ln_58 {sx : mj_Sx} : mj_ln sx 58 = 96 := rfl
theorem cq_58 {sx : mj_Sx} {M : mj_M} {j : Nat} : mj_cq sx M 58 j = M 58 j := rfl
theorem ak_59 : mj_ak 59 = 0 := rfl
theorem ln_59 {sx : mj_Sx} : mj_ln sx 59 = 5 := rfl
theorem cq_59 {sx : mj_Sx} {M : mj_M} {j : Nat} : mj_cq sx M 59 j = M 59 j := rfl
theorem ob_60 : mj_ob 60 = 6 := rfl
theorem ak_61 : mj_ak 61 = 0 := rfl
theorem ln_61 {sx : mj_Sx} : mj_ln sx 61 = 8 := rfl
theorem cq_61 {sx : mj_Sx} {M : mj_M} {j : Nat} : mj_cq sx M 61 j = M 61 j := rfl
theorem ak_62 : mj_ak 62 = 0 := rfl
theorem ln_62 {sx : mj_Sx} : mj_ln sx 62 = 7 := rfl
theorem cq_62 {sx : mj_Sx} {M : mj_M} {j : Nat} : mj_cq sx M 62 j = M 62 j := rfl
theorem ob_63 : mj_ob 63 = 7 := rfl
theorem ak_64 : mj_ak 64 = 0 := rfl
theorem ln_64 {sx : mj_Sx} : mj_ln sx 64 = 7 := rfl
theorem cq_64 {sx : mj_Sx} {M : mj_M} {j : Nat} : mj_cq sx M 64 j = M 64 j := rfl
theorem ak_65 : mj_ak 65 = 0 := rfl
theorem ln_65 {sx : mj_Sx} : mj_ln sx 65 = 55 := rfl
theorem cq_65 {sx : mj_Sx} {M : mj_M} {j : Nat} : mj_cq sx M 65 j = M 65 j := rfl
theorem ak_66 : mj_ak 66 = 0 := rfl
theorem ln_66 {sx : mj_Sx} : mj_ln sx 66 = 55 := rfl
theorem cq_66 {sx : mj_Sx} {M : mj_M} {j : Nat} : mj_cq sx M 66 j = M 66 j := rfl
theorem ak_67 : mj_ak 67 = 0 := rfl
theorem ln_67 {sx : mj_Sx} : mj_ln sx 67 = 55 := rfl
theorem cq_67 {sx : mj_Sx} {M : mj_M} {j : Nat} : mj_cq sx M 67 j = M 67 j := rfl
theorem ak_68 : mj_ak 68 = 0 := rfl
theorem ln_68 {sx : mj_Sx} : mj_ln sx 68 = 55 := rfl
theorem cq_68 {sx : mj_Sx} {M : mj_M} {j : Nat} : mj_cq sx M 68 j = M 68 j := rfl
theorem ak_69 : mj_ak 69 = 0 := rfl
theorem ln_69 {sx : mj_Sx} : mj_ln sx 69 = 96 := rfl
theorem cq_69 {sx : mj_Sx} {M : mj_M} {j : Nat} : mj_cq sx M 69 j = M 69 j := rfl
theorem ak_70 : mj_ak 70 = 0 := rfl
theorem ln_70 {sx : mj_Sx} : mj_ln sx 70 = 5 := rfl
theorem cq_70 {sx : mj_Sx} {M : mj_M} {j : Nat} : mj_cq sx M 70 j = M 70 j := rfl
theorem ak_71 : mj_ak 71 = 0 := rfl
theorem ln_71 {sx : mj_Sx} : mj_ln sx 71 = 4 := rfl
theorem cq_71 {sx : mj_Sx} {M : mj_M} {j : Nat} : mj_cq sx M 71 j = M 71 j := rfl
theorem ak_72 : mj_ak 72 = 0 := rfl
theorem ln_72 {sx : mj_Sx} : mj_ln sx 72 = 4 := rfl
theorem cq_72 {sx : mj_Sx} {M : mj_M} {j : Nat} : mj_cq sx M 72 j = M 72 j := rfl
theorem ak_73 : mj_ak 73 = 0 := rfl
theorem ln_73 {sx : mj_Sx} : mj_ln sx 73 = 8 := rfl
theorem cq_73 {sx : mj_Sx} {M : mj_M} {j : Nat} : mj_cq sx M 73 j = M 73 j := rfl
theorem pt_54_0 : mj_pt 54 0 = 55 := rfl
theorem pt_54_1 : mj_pt 54 1 = 56 := rfl
theorem pt_57_0 : mj_pt 57 0 = 58 := rfl
theorem pt_57_3 : mj_pt 57 3 = 59 := rfl
theorem pt_60_0 : mj_pt 60 0 = 0 := rfl
theorem pt_60_1 : mj_pt 60 1 = 18 := rfl
theorem pt_60_2 : mj_pt 60 2 = 36 := rfl
theorem pt_60_4 : mj_pt 60 4 = 54 := rfl
theorem pt_60_5 : mj_pt 60 5 = 57 := rfl
theorem pt_60_6 : mj_pt 60 6 = 61 := rfl
theorem pt_60_8 : mj_pt 60 8 = 62 := rfl
theorem pt_63_0 : mj_pt 63 0 = 64 := rfl
theorem pt_63_1 : mj_pt 63 1 = 65 := rfl
theorem pt_63_2 : mj_pt 63 2 = 66 := rfl
theorem pt_63_3 : mj_pt 63 3 = 67 := rfl
theorem pt_63_4 : mj_pt 63 4 = 68 := rfl
theorem pt_63_6 : mj_pt 63 6 = 69 := rfl
theorem pt_63_7 : mj_pt 63 7 = 70 := rfl
theorem pt_63_10 : mj_pt 63 10 = 71 := rfl
theorem pt_63_11 : mj_pt 63 11 = 72 := rfl
theorem pt_63_17 : mj_pt 63 17 = 73 := rfl
/-! argument patterns -/
def ma_i (avs : List mj_V) (f : Int32 → Prop) : Prop := match avs with
  | [.inl x0] => f x0
  | _ => False
theorem mb_i {x0 : Int32} {f : Int32 → Prop} : ma_i [.inl x0] f = f x0 := rfl
theorem mc_i {avs : List mj_V} {f : Int32 → Prop} (h : ma_i avs f) : ∃ x0, avs = [.inl x0] ∧ f x0 := by
  unfold ma_i at h
  split at h
  · exact ⟨_, rfl, h⟩
  · exact False.elim h
def ma_ii (avs : List mj_V) (f : Int32 → Int32 → Prop) : Prop := match avs with
  | [.inl x0, .inl x1] => f x0 x1
  | _ => False
theorem mb_ii {x0 : Int32} {x1 : Int32} {f : Int32 → Int32 → Prop} : ma_ii [.inl x0, .inl x1] f = f x0 x1 := rfl
theorem mc_ii {avs : List mj_V} {f : Int32 → Int32 → Prop} (h : ma_ii avs f) : ∃ x0 x1, avs = [.inl x0, .inl x1] ∧ f x0 x1 := by
  unfold ma_ii at h
  split at h
  · exact ⟨_, _, rfl, h⟩
  · exact False.elim h
def ma_iii (avs : List mj_V) (f : Int32 → Int32 → Int32 → Prop) : Prop := match avs with
  | [.inl x0, .inl x1, .inl x2] => f x0 x1 x2
  | _ => False
theorem mb_iii {x0 : Int32} {x1 : Int32} {x2 : Int32} {f : Int32 → Int32 → Int32 → Prop} : ma_iii [.inl x0, .inl x1, .inl x2] f = f x0 x1 x2 := rfl
theorem mc_iii {avs : List mj_V} {f : Int32 → Int32 → Int32 → Prop} (h : ma_iii avs f) : ∃ x0 x1 x2, avs = [.inl x0, .inl x1, .inl x2] ∧ f x0 x1 x2 := by
  unfold ma_iii at h
  split at h
  · exact ⟨_, _, _, rfl, h⟩
  · exact False.elim h
def ma_r (avs : List mj_V) (f : Nat → Prop) : Prop := match avs with
  | [.inr x0] => f x0
  | _ => False
theorem mb_r {x0 : Nat} {f : Nat → Prop} : ma_r [.inr x0] f = f x0 := rfl
theorem mc_r {avs : List mj_V} {f : Nat → Prop} (h : ma_r avs f) : ∃ x0, avs = [.inr x0] ∧ f x0 := by
  unfold ma_r at h
  split at h
  · exact ⟨_, rfl, h⟩
  · exact False.elim h
def ma_ri (avs : List mj_V) (f : Nat → Int32 → Prop) : Prop := match avs with
  | [.inr x0, .inl x1] => f x0 x1
  | _ => False
theorem mb_ri {x0 : Nat} {x1 : Int32} {f : Nat → Int32 → Prop} : ma_ri [.inr x0, .inl x1] f = f x0 x1 := rfl
theorem mc_ri {avs : List mj_V} {f : Nat → Int32 → Prop} (h : ma_ri avs f) : ∃ x0 x1, avs = [.inr x0, .inl x1] ∧ f x0 x1 := by
  unfold ma_ri at h
  split at h
  · exact ⟨_, _, rfl, h⟩
  · exact False.elim h
def ma_rii (avs : List mj_V) (f : Nat → Int32 → Int32 → Prop) : Prop := match avs with
  | [.inr x0, .inl x1, .inl x2] => f x0 x1 x2
  | _ => False
theorem mb_rii {x0 : Nat} {x1 : Int32} {x2 : Int32} {f : Nat → Int32 → Int32 → Prop} : ma_rii [.inr x0, .inl x1, .inl x2] f = f x0 x1 x2 := rfl
theorem mc_rii {avs : List mj_V} {f : Nat → Int32 → Int32 → Prop} (h : ma_rii avs f) : ∃ x0 x1 x2, avs = [.inr x0, .inl x1, .inl x2] ∧ f x0 x1 x2 := by
  unfold ma_rii at h
  split at h
  · exact ⟨_, _, _, rfl, h⟩
  · exact False.elim h
def ma_riii (avs : List mj_V) (f : Nat → Int32 → Int32 → Int32 → Prop) : Prop := match avs with
  | [.inr x0, .inl x1, .inl x2, .inl x3] => f x0 x1 x2 x3
  | _ => False
theorem mb_riii {x0 : Nat} {x1 : Int32} {x2 : Int32} {x3 : Int32} {f : Nat → Int32 → Int32 → Int32 → Prop} : ma_riii [.inr x0, .inl x1, .inl x2, .inl x3] f = f x0 x1 x2 x3 := rfl
theorem mc_riii {avs : List mj_V} {f : Nat → Int32 → Int32 → Int32 → Prop} (h : ma_riii avs f) : ∃ x0 x1 x2 x3, avs = [.inr x0, .inl x1, .inl x2, .inl x3] ∧ f x0 x1 x2 x3 := by
  unfold ma_riii at h
  split at h
  · exact ⟨_, _, _, _, rfl, h⟩
  · exact False.elim h
def ma_rr (avs : List mj_V) (f : Nat → Nat → Prop) : Prop := match avs with
  | [.inr x0, .inr x1] => f x0 x1
  | _ => False
theorem mb_rr {x0 : Nat} {x1 : Nat} {f : Nat → Nat → Prop} : ma_rr [.inr x0, .inr x1] f = f x0 x1 := rfl
theorem mc_rr {avs : List mj_V} {f : Nat → Nat → Prop} (h : ma_rr avs f) : ∃ x0 x1, avs = [.inr x0, .inr x1] ∧ f x0 x1 := by
  unfold ma_rr at h
  split at h
  · exact ⟨_, _, rfl, h⟩
  · exact False.elim h
def ma_rri (avs : List mj_V) (f : Nat → Nat → Int32 → Prop) : Prop := match avs with
  | [.inr x0, .inr x1, .inl x2] => f x0 x1 x2
  | _ => False
theorem mb_rri {x0 : Nat} {x1 : Nat} {x2 : Int32} {f : Nat → Nat → Int32 → Prop} : ma_rri [.inr x0, .inr x1, .inl x2] f = f x0 x1 x2 := rfl
theorem mc_rri {avs : List mj_V} {f : Nat → Nat → Int32 → Prop} (h : ma_rri avs f) : ∃ x0 x1 x2, avs = [.inr x0, .inr x1, .inl x2] ∧ f x0 x1 x2 := by
  unfold ma_rri at h
  split at h
  · exact ⟨_, _, _, rfl, h⟩
  · exact False.elim h
def ma_rrii (avs : List mj_V) (f : Nat → Nat → Int32 → Int32 → Prop) : Prop := match avs with
  | [.inr x0, .inr x1, .inl x2, .inl x3] => f x0 x1 x2 x3
  | _ => False
theorem mb_rrii {x0 : Nat} {x1 : Nat} {x2 : Int32} {x3 : Int32} {f : Nat → Nat → Int32 → Int32 → Prop} : ma_rrii [.inr x0, .inr x1, .inl x2, .inl x3] f = f x0 x1 x2 x3 := rfl
theorem mc_rrii {avs : List mj_V} {f : Nat → Nat → Int32 → Int32 → Prop} (h : ma_rrii avs f) : ∃ x0 x1 x2 x3, avs = [.inr x0, .inr x1, .inl x2, .inl x3] ∧ f x0 x1 x2 x3 := by
  unfold ma_rrii at h
  split at h
  · exact ⟨_, _, _, _, rfl, h⟩
  · exact False.elim h
def ma_rriii (avs : List mj_V) (f : Nat → Nat → Int32 → Int32 → Int32 → Prop) : Prop := match avs with
  | [.inr x0, .inr x1, .inl x2, .inl x3, .inl x4] => f x0 x1 x2 x3 x4
  | _ => False
theorem mb_rriii {x0 : Nat} {x1 : Nat} {x2 : Int32} {x3 : Int32} {x4 : Int32} {f : Nat → Nat → Int32 → Int32 → Int32 → Prop} : ma_rriii [.inr x0, .inr x1, .inl x2, .inl x3, .inl x4] f = f x0 x1 x2 x3 x4 := rfl
theorem mc_rriii {avs : List mj_V} {f : Nat → Nat → Int32 → Int32 → Int32 → Prop} (h : ma_rriii avs f) : ∃ x0 x1 x2 x3 x4, avs = [.inr x0, .inr x1, .inl x2, .inl x3, .inl x4] ∧ f x0 x1 x2 x3 x4 := by
  unfold ma_rriii at h
  split at h
  · exact ⟨_, _, _, _, _, rfl, h⟩
  · exact False.elim h
def ma_riiiii (avs : List mj_V) (f : Nat → Int32 → Int32 → Int32 → Int32 → Int32 → Prop) : Prop := match avs with
  | [.inr x0, .inl x1, .inl x2, .inl x3, .inl x4, .inl x5] => f x0 x1 x2 x3 x4 x5
  | _ => False
theorem mb_riiiii {x0 : Nat} {x1 : Int32} {x2 : Int32} {x3 : Int32} {x4 : Int32} {x5 : Int32} {f : Nat → Int32 → Int32 → Int32 → Int32 → Int32 → Prop} : ma_riiiii [.inr x0, .inl x1, .inl x2, .inl x3, .inl x4, .inl x5] f = f x0 x1 x2 x3 x4 x5 := rfl
theorem mc_riiiii {avs : List mj_V} {f : Nat → Int32 → Int32 → Int32 → Int32 → Int32 → Prop} (h : ma_riiiii avs f) : ∃ x0 x1 x2 x3 x4 x5, avs = [.inr x0, .inl x1, .inl x2, .inl x3, .inl x4, .inl x5] ∧ f x0 x1 x2 x3 x4 x5 := by
  unfold ma_riiiii at h
  split at h
  · exact ⟨_, _, _, _, _, _, rfl, h⟩
  · exact False.elim h
def ma_rrr (avs : List mj_V) (f : Nat → Nat → Nat → Prop) : Prop := match avs with
  | [.inr x0, .inr x1, .inr x2] => f x0 x1 x2
  | _ => False
theorem mb_rrr {x0 : Nat} {x1 : Nat} {x2 : Nat} {f : Nat → Nat → Nat → Prop} : ma_rrr [.inr x0, .inr x1, .inr x2] f = f x0 x1 x2 := rfl
theorem mc_rrr {avs : List mj_V} {f : Nat → Nat → Nat → Prop} (h : ma_rrr avs f) : ∃ x0 x1 x2, avs = [.inr x0, .inr x1, .inr x2] ∧ f x0 x1 x2 := by
  unfold ma_rrr at h
  split at h
  · exact ⟨_, _, _, rfl, h⟩
  · exact False.elim h
def ma_rir (avs : List mj_V) (f : Nat → Int32 → Nat → Prop) : Prop := match avs with
  | [.inr x0, .inl x1, .inr x2] => f x0 x1 x2
  | _ => False
theorem mb_rir {x0 : Nat} {x1 : Int32} {x2 : Nat} {f : Nat → Int32 → Nat → Prop} : ma_rir [.inr x0, .inl x1, .inr x2] f = f x0 x1 x2 := rfl
theorem mc_rir {avs : List mj_V} {f : Nat → Int32 → Nat → Prop} (h : ma_rir avs f) : ∃ x0 x1 x2, avs = [.inr x0, .inl x1, .inr x2] ∧ f x0 x1 x2 := by
  unfold ma_rir at h
  split at h
  · exact ⟨_, _, _, rfl, h⟩
  · exact False.elim h
def ma_iiii (avs : List mj_V) (f : Int32 → Int32 → Int32 → Int32 → Prop) : Prop := match avs with
  | [.inl x0, .inl x1, .inl x2, .inl x3] => f x0 x1 x2 x3
  | _ => False
theorem mb_iiii {x0 : Int32} {x1 : Int32} {x2 : Int32} {x3 : Int32} {f : Int32 → Int32 → Int32 → Int32 → Prop} : ma_iiii [.inl x0, .inl x1, .inl x2, .inl x3] f = f x0 x1 x2 x3 := rfl
theorem mc_iiii {avs : List mj_V} {f : Int32 → Int32 → Int32 → Int32 → Prop} (h : ma_iiii avs f) : ∃ x0 x1 x2 x3, avs = [.inl x0, .inl x1, .inl x2, .inl x3] ∧ f x0 x1 x2 x3 := by
  unfold ma_iiii at h
  split at h
  · exact ⟨_, _, _, _, rfl, h⟩
  · exact False.elim h
def ma_riiii (avs : List mj_V) (f : Nat → Int32 → Int32 → Int32 → Int32 → Prop) : Prop := match avs with
  | [.inr x0, .inl x1, .inl x2, .inl x3, .inl x4] => f x0 x1 x2 x3 x4
  | _ => False
theorem mb_riiii {x0 : Nat} {x1 : Int32} {x2 : Int32} {x3 : Int32} {x4 : Int32} {f : Nat → Int32 → Int32 → Int32 → Int32 → Prop} : ma_riiii [.inr x0, .inl x1, .inl x2, .inl x3, .inl x4] f = f x0 x1 x2 x3 x4 := rfl
theorem mc_riiii {avs : List mj_V} {f : Nat → Int32 → Int32 → Int32 → Int32 → Prop} (h : ma_riiii avs f) : ∃ x0 x1 x2 x3 x4, avs = [.inr x0, .inl x1, .inl x2, .inl x3, .inl x4] ∧ f x0 x1 x2 x3 x4 := by
  unfold ma_riiii at h
  split at h
  · exact ⟨_, _, _, _, _, rfl, h⟩
  · exact False.elim h
theorem xf_0 {M0 : mj_M} {r : mj_S} {k : mj_S → mj_M → Prop} : mj_rt 0 (fun _ M' => M' = M0) r k = k r M0 := propext ⟨fun h => h _ rfl, fun h M' e => by rw [e]; exact h⟩
theorem xf_1 {M0 : mj_M} {x : Int32} {r : mj_S} {k : mj_S → mj_M → Prop} : mj_rt 1 (fun v M' => v = .inl x ∧ M' = M0) r k = k (.inl x :: r) M0 := propext ⟨fun h => h x _ ⟨rfl, rfl⟩, fun h y M' e => by
  obtain ⟨e1, e2⟩ := e
  cases e1
  rw [e2]
  exact h⟩
theorem xf_2 {M0 : mj_M} {x : Nat} {r : mj_S} {k : mj_S → mj_M → Prop} : mj_rt 2 (fun v M' => v = .inr x ∧ M' = M0) r k = k (.inr x :: r) M0 := propext ⟨fun h => h x _ ⟨rfl, rfl⟩, fun h y M' e => by
  obtain ⟨e1, e2⟩ := e
  cases e1
  rw [e2]
  exact h⟩
