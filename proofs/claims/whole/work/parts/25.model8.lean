/-! the reference's room() -/
/-- two readings that differ in what was told before alone -/
def eQ (m : Nat) (x y : Int32 × Int32 × (Nat → Int32)) : Prop := x.1 = y.1 ∧ x.2.1 = y.2.1 ∧ (¬ x.1 = 0 → ∀ j, j < m → x.2.2 j = y.2.2 j)
theorem eQ_n {T : Nat → Int32} {n least p : Int32} {most k : Nat} {q q' : Nat → Int32} (h : ∀ j, j < k → q j = q' j) : eQ (k + 1) (s_pn T n least most p k q) (s_pn T n least most p k q') := by
  refine ⟨rfl, rfl, fun _ j hj => ?_⟩
  show upd q k _ j = upd q' k _ j
  by_cases e : j = k
  · rw [e, ud_s, ud_s]
  · rw [ud_o e, ud_o e]
    exact h j (by omega)
theorem eQ_s {T : Nat → Int32} {n c p : Int32} {k : Nat} {q q' : Nat → Int32} (h : ∀ j, j < k → q j = q' j) : eQ k (s_ps T n c p q) (s_ps T n c p q') := by
  unfold s_ps
  split
  · exact ⟨rfl, rfl, fun _ => h⟩
  · exact ⟨rfl, rfl, fun _ => h⟩
theorem eQ_k {kind p : Int32} {q q' : Nat → Int32} : eQ 1 (s_pk kind p 0 q) (s_pk kind p 0 q') := by
  have key : ∀ j, j < 1 → upd q 0 kind j = upd q' 0 kind j := fun j hj => by
    rw [show j = 0 by omega, ud_s, ud_s]
  unfold s_pk
  split
  · exact ⟨rfl, rfl, fun _ => key⟩
  · exact ⟨rfl, rfl, fun _ => key⟩
theorem eQ_t {k m : Nat} {a b : Int32 × Int32 × (Nat → Int32)} {f : Int32 → (Nat → Int32) → Int32 × Int32 × (Nat → Int32)} (h : eQ k a b) (hf : ∀ p q q', (∀ j, j < k → q j = q' j) → eQ m (f p q) (f p q')) : eQ m (s_th a f) (s_th b f) := by
  obtain ⟨h1, h2, h3⟩ := h
  unfold s_th
  by_cases e : a.1 = 0
  · rw [if_pos e, if_pos (h1 ▸ e)]
    exact ⟨h1, h2, fun z => absurd e z⟩
  · rw [if_neg e, if_neg (h1 ▸ e), ← h2]
    exact hf _ _ _ (h3 e)
/-- how many numbers a statement tells -/
def s_nc (c : Int32) : Nat := if c = 115 then 4 else if c = 99 then 5 else if c = 116 then 2 else 1
theorem eQ_st {T : Nat → Int32} {n p : Int32} {q q' : Nat → Int32} : eQ (s_nc (s_sg T n p)) (s_st T n p q) (s_st T n p q') := by
  unfold s_st
  split
  · refine eQ_t (k := s_nc (s_sg T n p)) ?_ (fun p q q' h => eQ_s h)
    unfold s_xa s_nc
    split
    · exact eQ_t eQ_k fun p q q' h => eQ_t (eQ_n h) fun p q q' h => eQ_t (eQ_s h) fun p q q' h => eQ_t (eQ_n h) fun p q q' h => eQ_t (eQ_s h) fun p q q' h => eQ_n h
    · split
      · exact eQ_t eQ_k fun p q q' h => eQ_t (eQ_n h) fun p q q' h => eQ_t (eQ_s h) fun p q q' h => eQ_t (eQ_n h) fun p q q' h => eQ_t (eQ_s h) fun p q q' h => eQ_t (eQ_n h) fun p q q' h => eQ_t (eQ_s h) fun p q q' h => eQ_n h
      · split
        · exact eQ_t (eQ_n (fun j hj => absurd hj (by omega))) fun p q q' h => eQ_t (eQ_s h) fun p q q' h => eQ_n h
        · split
          · exact eQ_n (fun j hj => absurd hj (by omega))
          · exact eQ_n (fun j hj => absurd hj (by omega))
  · exact ⟨rfl, rfl, fun h => absurd rfl h⟩
theorem tk_cg {r : Nat → Int32} {c : Int32} {q q' : Nat → Int32} (h : ∀ j, j < s_nc c → q j = q' j) : s_tk r c q = s_tk r c q' := by
  unfold s_tk s_nc at *
  split
  · rename_i e
    rw [if_pos e] at h
    rw [h 0 (by omega), h 1 (by omega), h 2 (by omega), h 3 (by omega)]
  · rename_i e
    rw [if_neg e] at h
    split
    · rename_i e2
      rw [if_pos e2] at h
      rw [h 0 (by omega), h 1 (by omega), h 2 (by omega), h 3 (by omega), h 4 (by omega)]
    · rename_i e2
      rw [if_neg e2] at h
      split
      · rename_i e3
        rw [if_pos e3] at h
        rw [h 0 (by omega), h 1 (by omega)]
      · rename_i e3
        rw [if_neg e3] at h
        rw [h 0 (by omega)]
/-- the counts of a row -/
def cB (r : Nat → Int32) : Prop := bd (r 0) 0 4 ∧ bd (r 1) 0 4 ∧ bd (r 2) 0 6
theorem cp_e {r q : Nat → Int32} {b : Nat} : ∀ {n j : Nat}, b + n ≤ j → s_cp r b q n j = r j := by
  intro n
  induction n with
  | zero => intro j _; rfl
  | succ n ih =>
    intro j hj
    show upd _ _ _ j = r j
    rw [ud_o (by omega)]
    exact ih (by omega)
theorem tk_ok {r : Nat → Int32} {c : Int32} {q : Nat → Int32} (h : cB r) : cB (s_tk r c q).2 ∧ ∀ j, 55 ≤ j → (s_tk r c q).2 j = r j := by
  obtain ⟨h0, h1, h2⟩ := h
  have e1 : (1 : Int32).toInt = 1 := rfl
  have e4 : (4 : Int32).toInt = 4 := rfl
  have e6 : (6 : Int32).toInt = 6 := rfl
  have t0 := tn_of h0.1
  have t1 := tn_of h1.1
  have t2 := tn_of h2.1
  have b02 := h0.2
  have b12 := h1.2
  have b22 := h2.2
  have b01 := h0.1
  have b11 := h1.1
  have b21 := h2.1
  have same : cB r ∧ ∀ j, 55 ≤ j → r j = r j := ⟨⟨h0, h1, h2⟩, fun _ _ => rfl⟩
  unfold s_tk
  split
  · split
    · exact same
    · split
      · exact same
      · split
        · exact same
        · split
          · exact same
          · rename_i z
            have z2 : ¬ (r 0).toInt = (4 : Int32).toInt := fun w => z (ti_eq.mpr w)
            show cB (upd (s_cp r (7 + 4 * tn (r 0)) q 4) 0 (r 0 + 1)) ∧ ∀ j, 55 ≤ j → upd (s_cp r (7 + 4 * tn (r 0)) q 4) 0 (r 0 + 1) j = r j
            refine ⟨⟨?_, ?_, ?_⟩, fun j hj => ?_⟩
            · rw [ud_s]; exact ⟨by rw [ti_add (by omega) (by omega)]; omega, by rw [ti_add (by omega) (by omega)]; omega⟩
            · rw [ud_o (by decide), cp_o (by omega)]; exact h1
            · rw [ud_o (by decide), cp_o (by omega)]; exact h2
            · rw [ud_o (by omega)]; exact cp_e (by omega)
  · split
    · split
      · exact same
      · split
        · split
          · exact same
          · split
            · exact same
            · split
              · exact same
              · split
                · exact same
                · rename_i z
                  have z2 : ¬ (r 1).toInt = (4 : Int32).toInt := fun w => z (ti_eq.mpr w)
                  show cB (upd (s_cp r (23 + 5 * tn (r 1)) q 5) 1 (r 1 + 1)) ∧ ∀ j, 55 ≤ j → upd (s_cp r (23 + 5 * tn (r 1)) q 5) 1 (r 1 + 1) j = r j
                  refine ⟨⟨?_, ?_, ?_⟩, fun j hj => ?_⟩
                  · rw [ud_o (by decide), cp_o (by omega)]; exact h0
                  · rw [ud_s]; exact ⟨by rw [ti_add (by omega) (by omega)]; omega, by rw [ti_add (by omega) (by omega)]; omega⟩
                  · rw [ud_o (by decide), cp_o (by omega)]; exact h2
                  · rw [ud_o (by omega)]; exact cp_e (by omega)
        · exact same
    · split
      · split
        · exact same
        · split
          · exact same
          · split
            · exact same
            · rename_i z
              have z2 : ¬ (r 2).toInt = (6 : Int32).toInt := fun w => z (ti_eq.mpr w)
              show cB (upd (s_cp r (43 + 2 * tn (r 2)) q 2) 2 (r 2 + 1)) ∧ ∀ j, 55 ≤ j → upd (s_cp r (43 + 2 * tn (r 2)) q 2) 2 (r 2 + 1) j = r j
              refine ⟨⟨?_, ?_, ?_⟩, fun j hj => ?_⟩
              · rw [ud_o (by decide), cp_o (by omega)]; exact h0
              · rw [ud_o (by decide), cp_o (by omega)]; exact h1
              · rw [ud_s]; exact ⟨by rw [ti_add (by omega) (by omega)]; omega, by rw [ti_add (by omega) (by omega)]; omega⟩
              · rw [ud_o (by omega)]; exact cp_e (by omega)
      · split
        · exact ⟨⟨by show bd (upd _ _ _ 0) _ _; rw [ud_o (by decide)]; exact h0, by show bd (upd _ _ _ 1) _ _; rw [ud_o (by decide)]; exact h1, by show bd (upd _ _ _ 2) _ _; rw [ud_o (by decide)]; exact h2⟩, fun j hj => by show upd _ _ _ j = _; rw [ud_o (by omega)]⟩
        · exact ⟨⟨by show bd (upd _ _ _ 0) _ _; rw [ud_o (by decide)]; exact h0, by show bd (upd _ _ _ 1) _ _; rw [ud_o (by decide)]; exact h1, by show bd (upd _ _ _ 2) _ _; rw [ud_o (by decide)]; exact h2⟩, fun j hj => by show upd _ _ _ j = _; rw [ud_o (by omega)]⟩
/-- the rest of a text is as statements are -/
def okT (T : Nat → Int32) (n p : Int32) : Prop := ∃ (f : Nat) (k : Int32), n.toInt - p.toInt < f ∧ (s_r1 T n f p k).1 = 1
theorem okT_st {T : Nat → Int32} {n p : Int32} (h : okT T n p) (hp : p < n) : ¬ (s_st T n p (fun _ => 0)).1 = 0 ∧ ((s_st T n p (fun _ => 0)).2.1 < n → okT T n (s_st T n p (fun _ => 0)).2.1) := by
  obtain ⟨f, k, h1, h2⟩ := h
  sorry
