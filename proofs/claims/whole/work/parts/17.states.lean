/-! what a whole object holds: 0 the room, 1 the image, 2 letters, 3 the ROW, 4 refusals, 5 numbers (an image is there, how many letters, how many in the ROW) -/
def mS (M : mj_M) : mj_M := fun c => match c with
  | 0 => M 65
  | 1 => M 66
  | 2 => M 69
  | 3 => M 73
  | 4 => M 64
  | 5 => fun j => match j with
    | 0 => M 63 5
    | 1 => M 63 8
    | 2 => M 63 18
    | _ => 0
  | _ => fun _ => 0
theorem mS_0 {M : mj_M} : mS M 0 = M 65 := rfl
theorem mS_1 {M : mj_M} : mS M 1 = M 66 := rfl
theorem mS_2 {M : mj_M} : mS M 2 = M 69 := rfl
theorem mS_3 {M : mj_M} : mS M 3 = M 73 := rfl
theorem mS_4 {M : mj_M} : mS M 4 = M 64 := rfl
theorem mS_50 {M : mj_M} : mS M 5 0 = M 63 5 := rfl
theorem mS_51 {M : mj_M} : mS M 5 1 = M 63 8 := rfl
theorem mS_52 {M : mj_M} : mS M 5 2 = M 63 18 := rfl
/-- two states are the same -/
theorem mS_eq {M M' : mj_M} (h0 : M' 65 = M 65) (h1 : M' 66 = M 66) (h2 : M' 69 = M 69) (h3 : M' 73 = M 73) (h4 : M' 64 = M 64) (h5 : M' 63 5 = M 63 5) (h6 : M' 63 8 = M 63 8) (h7 : M' 63 18 = M 63 18) : mS M' = mS M := by
  funext c j
  unfold mS
  rw [h0, h1, h2, h3, h4]
  rcases (show c = 0 ∨ c = 1 ∨ c = 2 ∨ c = 3 ∨ c = 4 ∨ c = 5 ∨ 6 ≤ c by omega) with rfl | rfl | rfl | rfl | rfl | rfl | hc
  · rfl
  · rfl
  · rfl
  · rfl
  · rfl
  · rcases (show j = 0 ∨ j = 1 ∨ j = 2 ∨ 3 ≤ j by omega) with rfl | rfl | rfl | hj
    · exact h5
    · exact h6
    · exact h7
    · obtain ⟨k, rfl⟩ : ∃ k, j = k + 3 := ⟨j - 3, by omega⟩
      rfl
  · obtain ⟨k, rfl⟩ : ∃ k, c = k + 6 := ⟨c - 6, by omega⟩
    rfl
theorem mS_fM {M M' : mj_M} (h : fM M M') : mS M' = mS M := mS_eq (h.1 _ (by decide) (by decide) (by decide)) (h.1 _ (by decide) (by decide) (by decide)) (h.1 _ (by decide) (by decide) (by decide)) (h.1 _ (by decide) (by decide) (by decide)) (h.1 _ (by decide) (by decide) (by decide)) (h.2 _ (by decide) (by decide) (by decide) (by decide)) (h.2 _ (by decide) (by decide) (by decide) (by decide)) (h.2 _ (by decide) (by decide) (by decide) (by decide))
/-- an update of a state, part by part -/
theorem mS_ext {M : mj_M} {σ : mj_M} (h0 : M 65 = σ 0) (h1 : M 66 = σ 1) (h2 : M 69 = σ 2) (h3 : M 73 = σ 3) (h4 : M 64 = σ 4) (h5 : M 63 5 = σ 5 0) (h6 : M 63 8 = σ 5 1) (h7 : M 63 18 = σ 5 2) (h8 : ∀ j, σ 5 (j + 3) = 0) (h9 : ∀ c j, σ (c + 6) j = 0) : mS M = σ := by
  funext c j
  rcases (show c = 0 ∨ c = 1 ∨ c = 2 ∨ c = 3 ∨ c = 4 ∨ c = 5 ∨ 6 ≤ c by omega) with rfl | rfl | rfl | rfl | rfl | rfl | hc
  · exact congrFun h0 j
  · exact congrFun h1 j
  · exact congrFun h2 j
  · exact congrFun h3 j
  · exact congrFun h4 j
  · rcases (show j = 0 ∨ j = 1 ∨ j = 2 ∨ 3 ≤ j by omega) with rfl | rfl | rfl | hj
    · exact h5
    · exact h6
    · exact h7
    · obtain ⟨k, rfl⟩ : ∃ k, j = k + 3 := ⟨j - 3, by omega⟩
      exact (h8 k).symm
  · obtain ⟨k, rfl⟩ : ∃ k, c = k + 6 := ⟨c - 6, by omega⟩
    exact (h9 k j).symm
theorem mS_z {M : mj_M} (j : Nat) : mS M 5 (j + 3) = 0 := rfl
theorem mS_y {M : mj_M} (c j : Nat) : mS M (c + 6) j = 0 := rfl
theorem mS_bp {M : mj_M} {code : Int32} : mS (s_bp M 64 code) = s_bp (mS M) 4 code := by
  refine mS_ext ?_ ?_ ?_ ?_ ?_ ?_ ?_ ?_ (fun j => ?_) (fun c j => ?_) <;> unfold s_bp <;> simp [up_ne, up_s, mS_0, mS_1, mS_2, mS_3, mS_4, mS_50, mS_51, mS_52, mS_z, mS_y]
theorem mS_u0 {M : mj_M} {j : Nat} {x : Int32} : mS (mj_up M 65 j x) = mj_up (mS M) 0 j x := by
  refine mS_ext ?_ ?_ ?_ ?_ ?_ ?_ ?_ ?_ (fun j => ?_) (fun c j => ?_) <;> simp [up_ne, up_s, mS_0, mS_1, mS_2, mS_3, mS_4, mS_50, mS_51, mS_52, mS_z, mS_y]
theorem mS_u2 {M : mj_M} {j : Nat} {x : Int32} : mS (mj_up M 69 j x) = mj_up (mS M) 2 j x := by
  refine mS_ext ?_ ?_ ?_ ?_ ?_ ?_ ?_ ?_ (fun j => ?_) (fun c j => ?_) <;> simp [up_ne, up_s, mS_0, mS_1, mS_2, mS_3, mS_4, mS_50, mS_51, mS_52, mS_z, mS_y]
theorem mS_u3 {M : mj_M} {j : Nat} {x : Int32} : mS (mj_up M 73 j x) = mj_up (mS M) 3 j x := by
  refine mS_ext ?_ ?_ ?_ ?_ ?_ ?_ ?_ ?_ (fun j => ?_) (fun c j => ?_) <;> simp [up_ne, up_s, mS_0, mS_1, mS_2, mS_3, mS_4, mS_50, mS_51, mS_52, mS_z, mS_y]
theorem mS_n0 {M : mj_M} {x : Int32} : mS (mj_up M 63 5 x) = mj_up (mS M) 5 0 x := by
  refine mS_ext ?_ ?_ ?_ ?_ ?_ ?_ ?_ ?_ (fun j => ?_) (fun c j => ?_) <;> simp [up_ne, up_s, ud_s, ud_o, mS_0, mS_1, mS_2, mS_3, mS_4, mS_50, mS_51, mS_52, mS_z, mS_y]
theorem mS_n1 {M : mj_M} {x : Int32} : mS (mj_up M 63 8 x) = mj_up (mS M) 5 1 x := by
  refine mS_ext ?_ ?_ ?_ ?_ ?_ ?_ ?_ ?_ (fun j => ?_) (fun c j => ?_) <;> simp [up_ne, up_s, ud_s, ud_o, mS_0, mS_1, mS_2, mS_3, mS_4, mS_50, mS_51, mS_52, mS_z, mS_y]
theorem mS_n2 {M : mj_M} {x : Int32} : mS (mj_up M 63 18 x) = mj_up (mS M) 5 2 x := by
  refine mS_ext ?_ ?_ ?_ ?_ ?_ ?_ ?_ ?_ (fun j => ?_) (fun c j => ?_) <;> simp [up_ne, up_s, ud_s, ud_o, mS_0, mS_1, mS_2, mS_3, mS_4, mS_50, mS_51, mS_52, mS_z, mS_y]
theorem mS_db {M : mj_M} {x : Int32} : mS (mj_up M 63 16 x) = mS M := by
  refine mS_eq ?_ ?_ ?_ ?_ ?_ ?_ ?_ ?_ <;> simp [up_ne, up_s, ud_s, ud_o]
/-- the numbers of a state are as they must be -/
def dS (σ : mj_M) : Prop := dR (σ 0) ∧ (σ 5 0 = 0 ∨ σ 5 0 = 1) ∧ (σ 5 0 = 1 → dR (σ 1)) ∧ bd (σ 5 1) 0 96 ∧ (∀ j, bd (σ 2 j) 0 255) ∧ bd (σ 5 2) 0 8 ∧ ∀ j, 55 ≤ j → σ 1 j = 0
/-- the machine's other cells stay: the class's under the reference's hands -/
def fr1 (M M' : mj_M) : Prop := ∀ k, k < 63 → M' k = M k
theorem fr1_r (M : mj_M) : fr1 M M := fun _ _ => rfl
theorem fr1_u {M M' : mj_M} (h : fr1 M M') {k j : Nat} {x : Int32} (hk : 63 ≤ k) : fr1 M (mj_up M' k j x) := fun b hb => (up_ne (by omega)).trans (h b hb)
theorem fr1_b {M M' : mj_M} (h : fr1 M M') {k : Nat} {x : Int32} (hk : 63 ≤ k) : fr1 M (s_bp M' k x) := fr1_u h hk
theorem fr1_M {M M' : mj_M} (h : fM M M') : fr1 M M' := fun b hb => h.1 b (by omega) (by omega) (by omega)
theorem fr1_t {M M1 M2 : mj_M} (h : fr1 M M1) (h2 : fr1 M1 M2) : fr1 M M2 := fun b hb => (h2 b hb).trans (h b hb)
/-! what each call answers, and what is then -/
def qF (σ : mj_M) (no val : Int32) : Int32 × mj_M := if no = 0 then (val, σ) else (no, s_bp σ 4 no)
def qV (σ : mj_M) (no val : Int32) : Int32 × mj_M := if no = 0 then (val, σ) else (1000000000 - no, s_bp σ 4 no)
def s_ft (a b : Int32) : Int32 := if a = 0 then b else a
def s_ot (w n : Int32) : Int32 := if s_in w n = 0 then -2 else 0
def nB (i n : Int32) : Int32 := if s_in i n = 0 then -1 else 0
def cF (σ : mj_M) (no : Int32) (p : Nat) (v : Int32) : Int32 × mj_M := if no = 0 then (σ 0 p, mj_up σ 0 p v) else (no, s_bp σ 4 no)
def F_letter (σ : mj_M) (c : Int32) : Int32 × mj_M := if s_wi c 0 255 = 0 then (if σ 5 1 = 96 then (-6, s_bp σ 4 (-6)) else (σ 5 1 + 1, mj_up (mj_up σ 2 (tn (σ 5 1)) c) 5 1 (σ 5 1 + 1))) else (s_wi c 0 255, s_bp σ 4 (s_wi c 0 255))
def F_sleeper (σ : mj_M) (i w : Int32) : Int32 × mj_M := qF σ (s_ft (nB i (σ 0 0)) (s_ot w 4)) (σ 0 (7 + 4 * tn i + tn w))
def F_clock (σ : mj_M) (i w : Int32) : Int32 × mj_M := qF σ (s_ft (nB i (σ 0 1)) (s_ot w 5)) (σ 0 (23 + 5 * tn i + tn w))
def F_task (σ : mj_M) (i w : Int32) : Int32 × mj_M := qF σ (s_ft (nB i (σ 0 2)) (s_ot w 2)) (σ 0 (43 + 2 * tn i + tn w))
def F_set (σ : mj_M) (c v : Int32) : Int32 × mj_M := cF σ (s_ft (nB c (σ 0 1)) (s_wi v 0 299)) (23 + 5 * tn c + 2) v
def F_every (σ : mj_M) (c v : Int32) : Int32 × mj_M := cF σ (s_ft (nB c (σ 0 1)) (s_wi v 1 20)) (23 + 5 * tn c + 3) v
def F_firm (σ : mj_M) (v : Int32) : Int32 × mj_M := cF σ (s_wi v 0 99) 4 v
def F_bus (σ : mj_M) (v : Int32) : Int32 × mj_M := cF σ (s_wi v 0 299) 3 v
def F_tired (σ : mj_M) (v : Int32) : Int32 × mj_M := cF σ (s_wi v 0 9) 5 v
def F_night (σ : mj_M) : Int32 × mj_M := if σ 0 0 = 0 then (-3, s_bp σ 4 (-3)) else (s_dy (σ 0 6), mj_up (mj_up σ 0 5 (s_ti (σ 0 5) (s_m (σ 0) 0).2.1)) 0 6 (s_dy (σ 0 6)))
def F_depth (σ : mj_M) (i m : Int32) : Int32 × mj_M := qF σ (s_ft (nB i (σ 0 0)) (s_wi m 0 299)) (s_D (σ 0) i m)
def F_up (σ : mj_M) (i : Int32) : Int32 × mj_M := qF σ (nB i (σ 0 0)) (s_m (σ 0) i).1
def F_presses (σ : mj_M) (i : Int32) : Int32 × mj_M := qF σ (nB i (σ 0 0)) (s_m (σ 0) i).2.1
def F_slept (σ : mj_M) (i : Int32) : Int32 × mj_M := qF σ (nB i (σ 0 0)) (s_m (σ 0) i).2.2.1
def F_done (σ : mj_M) (m w : Int32) : Int32 × mj_M := qF σ (s_ft (s_wi m 0 300) (s_ot w 2)) (if w = 0 then (s_do (σ 0) m).2 else (s_do (σ 0) m).1)
def F_value (σ : mj_M) (i : Int32) : Int32 × mj_M := qV σ (nB i (σ 0 0)) (s_V (σ 0) i)
def F_cost (σ : mj_M) (m : Int32) : Int32 × mj_M := qV σ (s_wi m 0 299) ((s_do (σ 0) m).1 - (s_do (σ 0) (m + 1)).1)
def s_own (r : Nat → Int32) (c : Int32) : Int32 := r (23 + 5 * tn c + 1)
def s_even (r : Nat → Int32) (c w : Int32) : Int32 × Int32 := if w < 2 then s_ev r (23 + 5 * tn c + 2) (s_own r c) 0 299 else s_ev r (23 + 5 * tn c + 3) (s_own r c) 1 19
def F_evening (σ : mj_M) (c w : Int32) : Int32 × mj_M := qV σ (s_ft (nB c (σ 0 1)) (s_ot w 4)) (if s_rm w 2 = 0 then (s_even (σ 0) c w).1 else (s_even (σ 0) c w).2)
def F_often (σ : mj_M) (c n : Int32) : Int32 × mj_M := qF σ (s_ft (nB c (σ 0 1)) (s_wi n 0 9)) (s_of (σ 0) (23 + 5 * tn c + 2) (s_own (σ 0) c) n 300)
def F_hears (σ : mj_M) (i : Int32) : Int32 × mj_M := qF σ (nB i (σ 0 0)) (s_H (σ 0) i (-9))
def F_silent (σ : mj_M) (i : Int32) : Int32 × mj_M := qF σ (nB i (σ 0 0)) (s_si (σ 0) i (tn (σ 0 1))).1
def F_bet (σ : mj_M) (i : Int32) : Int32 × mj_M := qF σ (nB i (σ 0 0)) (s_be (σ 0) i 100 0)
def F_leans (σ : mj_M) (i m : Int32) : Int32 × mj_M := qF σ (s_ft (nB i (σ 0 0)) (s_wi m 0 300)) (s_le (σ 0) i m 31)
def F_back (σ : mj_M) (c m : Int32) : Int32 × mj_M := qF σ (s_ft (nB c (σ 0 1)) (s_wi m 0 300)) (s_ba (σ 0) c (s_own (σ 0) c) (σ 0 (23 + 5 * tn c + 2)) m 61 0)
def s_mn (from_ n : Int32) : Int32 := if from_ < 0 then -4 else if n < 1 then -4 else if 30 < n then -6 else if 300 - n < from_ then -6 else 0
def F_moment (σ : mj_M) (i from_ n : Int32) : Int32 × mj_M := qF σ (s_ft (nB i (σ 0 0)) (s_mn from_ n)) (s_mt (σ 0) i from_ (tn (n - 1)))
def s_wn (r : Nat → Int32) (i d w : Int32) : Int32 := if s_in i (r 0) = 0 then -1 else if d < r 6 then -1 else if d < 7 then s_ot w 3 else -1
def F_week (σ : mj_M) (i d w : Int32) : Int32 × mj_M := qF σ (s_wn (σ 0) i d w) (if w = 0 then (s_m (s_gn (σ 0) i (tn (d - σ 0 6))) i).2.1 else if w = 1 then s_wa (σ 0) i (tn (d - σ 0 6) + 1) else s_gn (σ 0) i (tn (d - σ 0 6) + 1) 5)
def F_row (σ : mj_M) (v : Int32) : Int32 × mj_M := if s_wi v 0 300 = 0 then (if σ 5 2 = 8 then (-6, s_bp σ 4 (-6)) else (σ 5 2 + 1, mj_up (mj_up σ 3 (tn (σ 5 2)) v) 5 2 (σ 5 2 + 1))) else (s_wi v 0 300, s_bp σ 4 (s_wi v 0 300))
def F_judge (σ : mj_M) (i : Int32) : Int32 × mj_M := qF σ (nB i (σ 0 0)) (s_ju (σ 0) i (σ 3) (tn (σ 5 2)) 0)
def F_firms (σ : mj_M) (i w : Int32) : Int32 × mj_M := qF σ (s_ft (nB i (σ 0 0)) (s_ot w 2)) (if w = 0 then (s_fi (σ 0) i (σ 3) (tn (σ 5 2)) 100).1 else (s_fi (σ 0) i (σ 3) (tn (σ 5 2)) 100).2)
def F_clear (σ : mj_M) : Int32 × mj_M := (σ 5 2, mj_up σ 5 2 0)
def F_lots (σ : mj_M) (i n z : Int32) : Int32 × mj_M := qF σ (s_ft (nB i (σ 0 0)) (s_wi n 1 30)) (s_lo (σ 0) i z (tn n)).2.2
def s_cy (σ : mj_M) (f t : Nat) : mj_M := fun c => if c = t then σ f else σ c
def F_image (σ : mj_M) : Int32 × mj_M := (σ 0 6, mj_up (s_cy σ 0 1) 5 0 1)
def F_on (σ : mj_M) : Int32 × mj_M := if σ 5 0 = 0 then (-3, s_bp σ 4 (-3)) else (σ 1 6, s_cy σ 1 0)
def s_ct (σ : mj_M) (w : Int32) : Int32 :=
  if 10 < w ∧ w < 17 then σ 4 (tn (w - 10)) else
  if w = 0 then σ 0 0 else if w = 1 then σ 0 1 else if w = 2 then σ 0 2 else if w = 3 then s_tl (σ 0) (tn (σ 0 2)) else
  if w = 4 then σ 0 3 else if w = 5 then σ 0 4 else if w = 6 then σ 0 5 else if w = 7 then σ 0 6 else
  if w = 8 then σ 5 2 else if w = 9 then σ 5 1 else -9
def F_count (σ : mj_M) (w : Int32) : Int32 × mj_M := (s_ct σ w, σ)
