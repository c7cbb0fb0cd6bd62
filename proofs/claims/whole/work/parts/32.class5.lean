/-! bounds, and a morning gone through by the class -/
theorem sb_63 {r : Nat → Int32} : ∀ n, n ≤ 6 → s_sb r 0 63 n = s_tl r n := by
  intro n
  induction n with
  | zero => intro _; rfl
  | succ n ih =>
    intro h
    have e : ¬ ((63 : Int32) >>> (nI n &&& 31)) &&& 1 = 0 := by
      rcases (show n = 0 ∨ n = 1 ∨ n = 2 ∨ n = 3 ∨ n = 4 ∨ n = 5 by omega) with rfl | rfl | rfl | rfl | rfl | rfl <;> decide
    rw [s_sb, s_tl, ih (by omega), if_neg e]
    rfl
theorem tl_bd {r : Nat → Int32} (hr : dR r) {n : Nat} (h : n ≤ tn (r 2)) (h6 : n ≤ 6) : bd (s_tl r n) 0 600 := by
  rw [← sb_63 n h6]
  have := sb_bd hr (bits := 63) (k := 0) (by omega) n h
  exact ⟨this.1, by have := this.2; omega⟩
theorem ti_div {a b : Int32} (ha : 0 ≤ a.toInt) (hb : 0 < b.toInt) : (a / b).toInt = a.toInt / b.toInt := by
  have h1 := ti_le2 (a := a)
  rw [Int32.toInt_div, Int.tdiv_eq_ediv_of_nonneg ha]
  have u1 : a.toInt / b.toInt ≤ a.toInt := Int.ediv_le_self _ ha
  have u2 : 0 ≤ a.toInt / b.toInt := Int.ediv_nonneg ha (by omega)
  exact Int.bmod_eq_of_le (by simp; omega) (by simp; omega)
theorem dv_bd {a b : Int32} {hi : Int} (ha : bd a 0 hi) (hb : 0 < b.toInt) : bd (a / b) 0 hi := by
  unfold bd
  rw [ti_div ha.1 hb]
  have u1 : a.toInt / b.toInt ≤ a.toInt := Int.ediv_le_self _ ha.1
  have u2 : 0 ≤ a.toInt / b.toInt := Int.ediv_nonneg ha.1 (by omega)
  exact ⟨u2, by have := ha.2; omega⟩
theorem rm_bd {a b : Int32} (ha : 0 ≤ a.toInt) (hb : 0 < b.toInt) : 0 ≤ (s_rm a b).toInt ∧ (s_rm a b).toInt < b.toInt := by
  have h1 := ti_le2 (a := a)
  have h2 := ti_le2 (a := b)
  have e := ti_div ha hb
  have w := Int.mul_ediv_add_emod a.toInt b.toInt
  have w1 := Int.emod_nonneg a.toInt (show b.toInt ≠ 0 by omega)
  have w5 := Int.emod_lt_of_pos a.toInt hb
  have w2 : 0 ≤ a.toInt / b.toInt := Int.ediv_nonneg ha (by omega)
  have w3 : 0 ≤ a.toInt / b.toInt * b.toInt := Int.mul_nonneg w2 (by omega)
  have w4 : a.toInt / b.toInt * b.toInt = b.toInt * (a.toInt / b.toInt) := Int.mul_comm _ _
  have e2 : (a / b * b).toInt = a.toInt / b.toInt * b.toInt := by
    rw [ti_mul (by rw [e]; omega) (by rw [e]; omega), e]
  unfold s_rm
  rw [ti_sub (by rw [e2]; omega) (by rw [e2]; omega), e2]
  omega
theorem nr_bd {m b : Int32} (hm : 0 ≤ m.toInt) (hb : bd b 1 99) : bd (s_nr m b) 0 99 := by
  obtain ⟨h1, h2⟩ := hb
  have := rm_bd hm (b := b) (by omega)
  unfold bd s_nr
  split
  · omega
  · rw [ti_sub (by omega) (by omega)]
    omega
theorem pl_bd {round deep m t : Int32} (hm : 0 ≤ m.toInt) (hr : bd round 1 99) (hd : bd deep 0 20) (ht : bd t 0 9) : bd (s_pl round deep m t) 0 3969 := by
  obtain ⟨a1, a2⟩ := nr_bd hm hr
  obtain ⟨b1, b2⟩ := hd
  obtain ⟨c1, c2⟩ := ht
  have hr1 := hr.1
  have z2 : (2 : Int32).toInt = 2 := rfl
  have u1 : 0 ≤ (s_nr m round).toInt * deep.toInt := Int.mul_nonneg a1 b1
  have u2 : (s_nr m round).toInt * deep.toInt ≤ 99 * 20 := Int.mul_le_mul a2 b2 b1 (by omega)
  have e1 : (s_nr m round * deep).toInt = (s_nr m round).toInt * deep.toInt := ti_mul (by omega) (by omega)
  have e2 : (s_nr m round * deep * 2).toInt = (s_nr m round).toInt * deep.toInt * 2 := by
    rw [ti_mul (by rw [e1, z2]; omega) (by rw [e1, z2]; omega), e1, z2]
  obtain ⟨d1, d2⟩ := dv_bd (a := s_nr m round * deep * 2) (b := round) (hi := 3960) ⟨by omega, by omega⟩ (by omega)
  unfold bd s_pl
  rw [ti_add (by omega) (by omega)]
  omega
theorem D_bd {r : Nat → Int32} (hr : dR r) {i m : Int32} (hi : tn i < tn (r 0)) (hm : bd m 0 300) : bd (s_D r i m) 0 4300 := by
  have h := hr.2.2.2.2.2.2.2.1 (tn i) hi
  obtain ⟨p1, p2⟩ := pl_bd (m := m) hm.1 (round := r (7 + 4 * tn i + 1)) ⟨by have := h.2.1.1; omega, h.2.1.2⟩ h.2.2.1 hr.2.2.2.2.2.1
  obtain ⟨q1, q2⟩ := dv_bd (b := 2) ⟨p1, p2⟩ (by decide)
  have z4 : (4 : Int32).toInt = 4 := rfl
  have z0 : (0 : Int32).toInt = 0 := rfl
  have z300 : (300 : Int32).toInt = 300 := rfl
  have hm1 := hm.1
  have hm2 := hm.2
  have s1 : (300 - m).toInt = 300 - m.toInt := by rw [ti_sub (by omega) (by omega), z300]
  obtain ⟨s2, s3⟩ := dv_bd (a := 300 - m) (b := 30) (hi := 300) ⟨by omega, by omega⟩ (by decide)
  unfold bd s_D s_dep
  have a4 : (s_pl (r (7 + 4 * tn i + 1)) (r (7 + 4 * tn i + 2)) m (r 5) + 4).toInt = (s_pl (r (7 + 4 * tn i + 1)) (r (7 + 4 * tn i + 2)) m (r 5)).toInt + 4 := by rw [ti_add (by omega) (by omega), z4]
  split
  · omega
  · split
    · omega
    · split
      · rw [ti_add (by omega) (by omega)]
        omega
      · split
        · split
          · omega
          · omega
        · split
          · split
            · omega
            · omega
          · omega
