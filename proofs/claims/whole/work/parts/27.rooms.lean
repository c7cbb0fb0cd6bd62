/-! the class's rooms as rows: b the cell of a room (0, 18, 36) -/
def rv (M : mj_M) (b : Nat) : Nat → Int32 := fun j =>
  if j < 7 then M b (j + 3)
  else if j < 23 then (if (j - 7) / 4 < tn (M b 3) then M (b + 4 + (j - 7) / 4) ((j - 7) % 4) else 0)
  else if j < 43 then (if (j - 23) / 5 < tn (M b 4) then M (b + 8 + (j - 23) / 5) ((j - 23) % 5) else 0)
  else if j < 55 then (if (j - 43) / 2 < tn (M b 5) then M (b + 12 + (j - 43) / 2) ((j - 43) % 2) else 0)
  else 0
theorem rv_7 {M : mj_M} {b j : Nat} (h : j < 7) : rv M b j = M b (j + 3) := if_pos h
theorem rv_0 {M : mj_M} {b : Nat} : rv M b 0 = M b 3 := rfl
theorem rv_1 {M : mj_M} {b : Nat} : rv M b 1 = M b 4 := rfl
theorem rv_2 {M : mj_M} {b : Nat} : rv M b 2 = M b 5 := rfl
theorem rv_3 {M : mj_M} {b : Nat} : rv M b 3 = M b 6 := rfl
theorem rv_4 {M : mj_M} {b : Nat} : rv M b 4 = M b 7 := rfl
theorem rv_5 {M : mj_M} {b : Nat} : rv M b 5 = M b 8 := rfl
theorem rv_6 {M : mj_M} {b : Nat} : rv M b 6 = M b 9 := rfl
theorem rv_s {M : mj_M} {b i w : Nat} (hi : i < 4) (hw : w < 4) (h : i < tn (M b 3)) : rv M b (7 + 4 * i + w) = M (b + 4 + i) w := by
  unfold rv
  rw [if_neg (by omega), if_pos (by omega), show (7 + 4 * i + w - 7) / 4 = i by omega, show (7 + 4 * i + w - 7) % 4 = w by omega, if_pos h]
theorem rv_c {M : mj_M} {b i w : Nat} (hi : i < 4) (hw : w < 5) (h : i < tn (M b 4)) : rv M b (23 + 5 * i + w) = M (b + 8 + i) w := by
  unfold rv
  rw [if_neg (by omega), if_neg (by omega), if_pos (by omega), show (23 + 5 * i + w - 23) / 5 = i by omega, show (23 + 5 * i + w - 23) % 5 = w by omega, if_pos h]
theorem rv_t {M : mj_M} {b i w : Nat} (hi : i < 6) (hw : w < 2) (h : i < tn (M b 5)) : rv M b (43 + 2 * i + w) = M (b + 12 + i) w := by
  unfold rv
  rw [if_neg (by omega), if_neg (by omega), if_neg (by omega), if_pos (by omega), show (43 + 2 * i + w - 43) / 2 = i by omega, show (43 + 2 * i + w - 43) % 2 = w by omega, if_pos h]
theorem rv_55 {M : mj_M} {b j : Nat} (h : 55 ≤ j) : rv M b j = 0 := by
  unfold rv
  rw [if_neg (by omega), if_neg (by omega), if_neg (by omega), if_neg (by omega)]
/-- rooms that hold the same -/
theorem rv_cg {M M' : mj_M} {b b' : Nat} (h0 : ∀ j, 3 ≤ j → j < 10 → M' b' j = M b j) (h1 : ∀ i w, i < 4 → w < 4 → i < tn (M b 3) → M' (b' + 4 + i) w = M (b + 4 + i) w) (h2 : ∀ i w, i < 4 → w < 5 → i < tn (M b 4) → M' (b' + 8 + i) w = M (b + 8 + i) w) (h3 : ∀ i w, i < 6 → w < 2 → i < tn (M b 5) → M' (b' + 12 + i) w = M (b + 12 + i) w) : rv M' b' = rv M b := by
  funext j
  unfold rv
  rw [h0 3 (by omega) (by omega), h0 4 (by omega) (by omega), h0 5 (by omega) (by omega)]
  split
  · exact h0 _ (by omega) (by omega)
  · split
    · split
      · exact h1 _ _ (by omega) (by omega) (by assumption)
      · rfl
    · split
      · split
        · exact h2 _ _ (by omega) (by omega) (by assumption)
        · rfl
      · split
        · split
          · exact h3 _ _ (by omega) (by omega) (by assumption)
          · rfl
        · rfl
theorem rv_e {M M' : mj_M} {b : Nat} (h : ∀ k, k = b ∨ (b + 4 ≤ k ∧ k < b + 18) → M' k = M k) : rv M' b = rv M b :=
  rv_cg (fun j _ _ => by rw [h b (Or.inl rfl)]) (fun i w _ _ _ => by rw [h _ (Or.inr ⟨by omega, by omega⟩)]) (fun i w _ _ _ => by rw [h _ (Or.inr ⟨by omega, by omega⟩)]) (fun i w _ _ _ => by rw [h _ (Or.inr ⟨by omega, by omega⟩)])
theorem rv_uo {M : mj_M} {b k j : Nat} {x : Int32} (h : k ≠ b ∧ ¬ (b + 4 ≤ k ∧ k < b + 18)) : rv (mj_up M k j x) b = rv M b :=
  rv_e fun c hc => up_ne (by omega)
theorem rv_u7 {M : mj_M} {b j : Nat} {x : Int32} (h : 3 ≤ j ∧ j < 7) : rv (mj_up M b (j + 3) x) b = upd (rv M b) j x := by
  obtain ⟨h3, h7⟩ := h
  funext i
  by_cases e : i = j
  · subst e
    rw [ud_s, rv_7 h7, up_s, ud_s]
  · rw [ud_o e]
    unfold rv
    rw [up_s, ud_o (show (3 : Nat) ≠ j + 3 by omega), ud_o (show (4 : Nat) ≠ j + 3 by omega), ud_o (show (5 : Nat) ≠ j + 3 by omega)]
    split
    · rw [ud_o (by omega)]
    · split
      · rw [up_ne (by omega)]
      · split
        · rw [up_ne (by omega)]
        · split
          · rw [up_ne (by omega)]
          · rfl
theorem rv_us {M : mj_M} {b i w : Nat} {x : Int32} (hi : i < 4) (hw : w < 4) (h : i < tn (M b 3)) : rv (mj_up M (b + 4 + i) w x) b = upd (rv M b) (7 + 4 * i + w) x := by
  funext j
  by_cases e : j = 7 + 4 * i + w
  · subst e
    rw [ud_s, rv_s hi hw (by rw [up_ne (by omega)]; exact h), up_s, ud_s]
  · rw [ud_o e]
    unfold rv
    rw [up_ne (show b ≠ b + 4 + i by omega)]
    split
    · rfl
    · split
      · by_cases e2 : (j - 7) / 4 = i
        · rw [e2, up_s, ud_o (by omega)]
        · rw [up_ne (by omega)]
      · split
        · rw [up_ne (by omega)]
        · split
          · rw [up_ne (by omega)]
          · rfl
theorem rv_uc {M : mj_M} {b i w : Nat} {x : Int32} (hi : i < 4) (hw : w < 5) (h : i < tn (M b 4)) : rv (mj_up M (b + 8 + i) w x) b = upd (rv M b) (23 + 5 * i + w) x := by
  funext j
  by_cases e : j = 23 + 5 * i + w
  · subst e
    rw [ud_s, rv_c hi hw (by rw [up_ne (by omega)]; exact h), up_s, ud_s]
  · rw [ud_o e]
    unfold rv
    rw [up_ne (show b ≠ b + 8 + i by omega)]
    split
    · rfl
    · split
      · rw [up_ne (by omega)]
      · split
        · by_cases e2 : (j - 23) / 5 = i
          · rw [e2, up_s, ud_o (by omega)]
          · rw [up_ne (by omega)]
        · split
          · rw [up_ne (by omega)]
          · rfl
/-- what the class holds, in the shape of what the reference holds -/
def cS (M : mj_M) : mj_M := fun c => match c with
  | 0 => rv M 0
  | 1 => if M 60 3 = 0 then fun _ => 0 else rv M 36
  | 2 => M 58
  | 3 => M 61
  | 4 => M 62
  | 5 => fun j => match j with
    | 0 => M 60 3
    | 1 => M 57 1
    | 2 => M 60 7
    | _ => 0
  | _ => fun _ => 0
theorem cS_0 {M : mj_M} : cS M 0 = rv M 0 := rfl
theorem cS_2 {M : mj_M} : cS M 2 = M 58 := rfl
theorem cS_3 {M : mj_M} : cS M 3 = M 61 := rfl
theorem cS_4 {M : mj_M} : cS M 4 = M 62 := rfl
theorem cS_50 {M : mj_M} : cS M 5 0 = M 60 3 := rfl
theorem cS_51 {M : mj_M} : cS M 5 1 = M 57 1 := rfl
theorem cS_52 {M : mj_M} : cS M 5 2 = M 60 7 := rfl
theorem cS_1 {M : mj_M} : cS M 1 = if M 60 3 = 0 then fun _ => 0 else rv M 36 := rfl
theorem cS_ext {M : mj_M} {σ : mj_M} (h0 : rv M 0 = σ 0) (h1 : (if M 60 3 = 0 then fun _ => 0 else rv M 36) = σ 1) (h2 : M 58 = σ 2) (h3 : M 61 = σ 3) (h4 : M 62 = σ 4) (h5 : M 60 3 = σ 5 0) (h6 : M 57 1 = σ 5 1) (h7 : M 60 7 = σ 5 2) (h8 : ∀ j, σ 5 (j + 3) = 0) (h9 : ∀ c j, σ (c + 6) j = 0) : cS M = σ := by
  funext c j
  rcases (show c = 0 ∨ c = 1 ∨ c = 2 ∨ c = 3 ∨ c = 4 ∨ c = 5 ∨ 6 ≤ c by omega) with rfl | rfl | rfl | rfl | rfl | rfl | hc
  · exact congrFun h0 j
  · exact congrFun h1 j
  · exact congrFun h2 j
  · exact congrFun h3 j
  · exact congrFun h4 j
  · rcases (show j = 0 ∨ j = 1 ∨ j = 2 ∨ 3 ≤ j by omega) with rfl | rfl | rfl | hj
    · exact h5
    · exact h6
    · exact h7
    · obtain ⟨k, rfl⟩ : ∃ k, j = k + 3 := ⟨j - 3, by omega⟩
      exact (h8 k).symm
  · obtain ⟨k, rfl⟩ : ∃ k, c = k + 6 := ⟨c - 6, by omega⟩
    exact (h9 k j).symm
/-- the class's own: all but what it only thinks with: now, kept, text, told, refusals stay -/
def fC (M M' : mj_M) : Prop := (∀ k, k < 18 ∨ (36 ≤ k ∧ k < 54) ∨ 57 ≤ k → M' k = M k)
theorem fC_r (M : mj_M) : fC M M := fun _ _ => rfl
theorem fC_t {M M1 M2 : mj_M} (h : fC M M1) (h2 : fC M1 M2) : fC M M2 := fun k hk => (h2 k hk).trans (h k hk)
theorem cS_fC {M M' : mj_M} (h : fC M M') : cS M' = cS M := by
  have e0 : rv M' 0 = rv M 0 := rv_e fun k hk => h k (by omega)
  have e1 : rv M' 36 = rv M 36 := rv_e fun k hk => h k (by omega)
  have e60 := h 60 (by omega)
  refine cS_ext ?_ ?_ (h 58 (by omega)) (h 61 (by omega)) (h 62 (by omega)) ?_ ?_ ?_ (fun _ => rfl) (fun _ _ => rfl)
  · exact e0
  · rw [e60, e1]; rfl
  · rw [e60]; rfl
  · rw [h 57 (by omega)]; rfl
  · rw [e60]; rfl
/-- the reference's cells stay -/
def fr2 (M M' : mj_M) : Prop := ∀ k, 63 ≤ k → M' k = M k
theorem fr2_r (M : mj_M) : fr2 M M := fun _ _ => rfl
theorem fr2_C {M M' : mj_M} (h : fC M M') : fr2 M M' := fun k hk => h k (by omega)
theorem fr2_u {M M' : mj_M} (h : fr2 M M') {k j : Nat} {x : Int32} (hk : k < 63) : fr2 M (mj_up M' k j x) := fun b hb => (up_ne (by omega)).trans (h b hb)
theorem fr2_t {M M1 M2 : mj_M} (h : fr2 M M1) (h2 : fr2 M1 M2) : fr2 M M2 := fun k hk => (h2 k hk).trans (h k hk)
theorem cS_bp {M : mj_M} {code : Int32} : cS (s_bp M 62 code) = s_bp (cS M) 4 code := by
  refine cS_ext ?_ ?_ ?_ ?_ ?_ ?_ ?_ ?_ (fun j => ?_) (fun c j => ?_) <;> unfold s_bp <;> simp [up_ne, up_s, rv_uo, cS_0, cS_1, cS_2, cS_3, cS_4, cS_50, cS_51, cS_52]
  all_goals rfl
