/-! ints and their values -/
theorem ti_add {a b : Int32} (h1 : -2147483648 ≤ a.toInt + b.toInt) (h2 : a.toInt + b.toInt < 2147483648) : (a + b).toInt = a.toInt + b.toInt := by
  rw [Int32.toInt_add]
  exact Int.bmod_eq_of_le (by simpa using h1) (by simpa using h2)
theorem ti_sub {a b : Int32} (h1 : -2147483648 ≤ a.toInt - b.toInt) (h2 : a.toInt - b.toInt < 2147483648) : (a - b).toInt = a.toInt - b.toInt := by
  rw [Int32.toInt_sub]
  exact Int.bmod_eq_of_le (by simpa using h1) (by simpa using h2)
theorem ti_mul {a b : Int32} (h1 : -2147483648 ≤ a.toInt * b.toInt) (h2 : a.toInt * b.toInt < 2147483648) : (a * b).toInt = a.toInt * b.toInt := by
  rw [Int32.toInt_mul]
  exact Int.bmod_eq_of_le (by simpa using h1) (by simpa using h2)
theorem ti_lt {a b : Int32} : a < b ↔ a.toInt < b.toInt := Int32.lt_iff_toInt_lt
theorem ti_le {a b : Int32} : a ≤ b ↔ a.toInt ≤ b.toInt := Int32.le_iff_toInt_le
theorem ti_eq {a b : Int32} : a = b ↔ a.toInt = b.toInt := Int32.toInt_inj.symm
theorem ti_ge {a : Int32} : -2147483648 ≤ a.toInt := Int32.le_toInt a
theorem ti_le2 {a : Int32} : a.toInt < 2147483648 := Int32.toInt_lt a
theorem tn_of {x : Int32} (h : 0 ≤ x.toInt) : (tn x : Int) = x.toInt := Int.toNat_of_nonneg h
theorem tn_i {x : Int32} : tn x = x.toInt.toNat := rfl
theorem ti_nI {n : Nat} (h : n < 2147483648) : (nI n).toInt = (n : Int) := nI_toInt h
theorem tn_nI {n : Nat} (h : n < 2147483648) : tn (nI n) = n := nI_clamp h
def bd (x : Int32) (lo hi : Int) : Prop := lo ≤ x.toInt ∧ x.toInt ≤ hi
theorem bd_nI {x : Int32} {hi : Int} (h : bd x 0 hi) : x = nI (tn x) := by
  rw [ti_eq, ti_nI]
  · exact (tn_of h.1).symm
  · have := tn_of h.1
    have := ti_le2 (a := x)
    omega
theorem tn_0 : tn 0 = 0 := rfl
theorem tn_1 : tn 1 = 1 := rfl
theorem tn_2 : tn 2 = 2 := rfl
theorem tn_3 : tn 3 = 3 := rfl
theorem tn_4 : tn 4 = 4 := rfl
theorem tn_5 : tn 5 = 5 := rfl
theorem tn_6 : tn 6 = 6 := rfl
theorem tc_0 : (0 : Int32).toNatClampNeg = 0 := rfl
theorem tc_1 : (1 : Int32).toNatClampNeg = 1 := rfl
theorem tc_2 : (2 : Int32).toNatClampNeg = 2 := rfl
theorem tc_3 : (3 : Int32).toNatClampNeg = 3 := rfl
theorem tc_4 : (4 : Int32).toNatClampNeg = 4 := rfl
theorem tc_5 : (5 : Int32).toNatClampNeg = 5 := rfl
theorem tc_6 : (6 : Int32).toNatClampNeg = 6 := rfl
theorem vi_l {n k : Nat} (h : k < n) (h2 : k < 2147483648) : vp_in (nI k) n := by
  rw [vp_in_iff, ti_nI h2]
  omega
theorem vi_0 {n : Nat} : vp_in 0 (n + 1) := vi_l (k := 0) (by omega) (by omega)
theorem vi_1 {n : Nat} : vp_in 1 (n + 2) := vi_l (k := 1) (by omega) (by omega)
theorem vi_2 {n : Nat} : vp_in 2 (n + 3) := vi_l (k := 2) (by omega) (by omega)
theorem vi_3 {n : Nat} : vp_in 3 (n + 4) := vi_l (k := 3) (by omega) (by omega)
theorem vi_4 {n : Nat} : vp_in 4 (n + 5) := vi_l (k := 4) (by omega) (by omega)
theorem vi_5 {n : Nat} : vp_in 5 (n + 6) := vi_l (k := 5) (by omega) (by omega)
theorem vi_6 {n : Nat} : vp_in 6 (n + 7) := vi_l (k := 6) (by omega) (by omega)
theorem vi_x {x : Int32} {n : Nat} (h1 : 0 ≤ x.toInt) (h2 : x.toInt < n) : vp_in x n := vp_in_iff.mpr ⟨h1, h2⟩
/-- a place in the row: base + step * i + k -/
theorem ix_t {b s i k : Int32} (hb : bd b 0 100) (hs : bd s 0 5) (hi : bd i 0 5) (hk : bd k 0 5) : (b + s * i + k).toInt = b.toInt + s.toInt * i.toInt + k.toInt := by
  obtain ⟨hb1, hb2⟩ := hb
  obtain ⟨hs1, hs2⟩ := hs
  obtain ⟨hi1, hi2⟩ := hi
  obtain ⟨hk1, hk2⟩ := hk
  have h0 : 0 ≤ s.toInt * i.toInt := Int.mul_nonneg hs1 hi1
  have h1 : s.toInt * i.toInt ≤ 5 * 5 := Int.mul_le_mul hs2 hi2 hi1 (by omega)
  rw [ti_add (by rw [ti_add (by rw [ti_mul] <;> omega) (by rw [ti_mul] <;> omega), ti_mul] <;> omega) (by rw [ti_add (by rw [ti_mul] <;> omega) (by rw [ti_mul] <;> omega), ti_mul] <;> omega), ti_add (by rw [ti_mul] <;> omega) (by rw [ti_mul] <;> omega), ti_mul (by omega) (by omega)]
theorem ix_g {i k : Int32} (hi : bd i 0 3) (hk : bd k 0 3) : vp_in (7 + 4 * i + k) 55 ∧ (7 + 4 * i + k).toNatClampNeg = 7 + 4 * tn i + tn k := by
  have h := ix_t (b := 7) (s := 4) (i := i) (k := k) ⟨by decide, by decide⟩ ⟨by decide, by decide⟩ ⟨hi.1, by have := hi.2; omega⟩ ⟨hk.1, by have := hk.2; omega⟩
  have e1 : (7 : Int32).toInt = 7 := rfl
  have e2 : (4 : Int32).toInt = 4 := rfl
  rw [e1, e2] at h
  obtain ⟨hi1, hi2⟩ := hi
  obtain ⟨hk1, hk2⟩ := hk
  refine ⟨vi_x (by omega) (by omega), ?_⟩
  show (7 + 4 * i + k).toInt.toNat = 7 + 4 * i.toInt.toNat + k.toInt.toNat
  omega
theorem ix_a {i k : Int32} (hi : bd i 0 3) (hk : bd k 0 4) : vp_in (23 + 5 * i + k) 55 ∧ (23 + 5 * i + k).toNatClampNeg = 23 + 5 * tn i + tn k := by
  have h := ix_t (b := 23) (s := 5) (i := i) (k := k) ⟨by decide, by decide⟩ ⟨by decide, by decide⟩ ⟨hi.1, by have := hi.2; omega⟩ ⟨hk.1, by have := hk.2; omega⟩
  have e1 : (23 : Int32).toInt = 23 := rfl
  have e2 : (5 : Int32).toInt = 5 := rfl
  rw [e1, e2] at h
  obtain ⟨hi1, hi2⟩ := hi
  obtain ⟨hk1, hk2⟩ := hk
  refine ⟨vi_x (by omega) (by omega), ?_⟩
  show (23 + 5 * i + k).toInt.toNat = 23 + 5 * i.toInt.toNat + k.toInt.toNat
  omega
theorem ix_o {i k : Int32} (hi : bd i 0 5) (hk : bd k 0 1) : vp_in (43 + 2 * i + k) 55 ∧ (43 + 2 * i + k).toNatClampNeg = 43 + 2 * tn i + tn k := by
  have h := ix_t (b := 43) (s := 2) (i := i) (k := k) ⟨by decide, by decide⟩ ⟨by decide, by decide⟩ hi ⟨hk.1, by have := hk.2; omega⟩
  have e1 : (43 : Int32).toInt = 43 := rfl
  have e2 : (2 : Int32).toInt = 2 := rfl
  rw [e1, e2] at h
  obtain ⟨hi1, hi2⟩ := hi
  obtain ⟨hk1, hk2⟩ := hk
  refine ⟨vi_x (by omega) (by omega), ?_⟩
  show (43 + 2 * i + k).toInt.toNat = 43 + 2 * i.toInt.toNat + k.toInt.toNat
  omega
/-- the numbers of a room are as they must be -/
def dR (r : Nat → Int32) : Prop :=
  bd (r 0) 0 4 ∧ bd (r 1) 0 4 ∧ bd (r 2) 0 6 ∧ bd (r 3) 0 299 ∧ bd (r 4) 0 99 ∧ bd (r 5) 0 9 ∧ bd (r 6) 0 6 ∧
  (∀ i : Nat, i < tn (r 0) → bd (r (7 + 4 * i)) 0 5 ∧ bd (r (7 + 4 * i + 1)) 20 99 ∧ bd (r (7 + 4 * i + 2)) 0 20 ∧ bd (r (7 + 4 * i + 3)) 0 30) ∧
  (∀ c : Nat, c < tn (r 1) → bd (r (23 + 5 * c)) 0 5 ∧ bd (r (23 + 5 * c + 1)) 0 3 ∧ (r (23 + 5 * c + 1)).toInt < (r 0).toInt ∧ bd (r (23 + 5 * c + 2)) 0 300 ∧ bd (r (23 + 5 * c + 3)) 1 20 ∧ bd (r (23 + 5 * c + 4)) 0 30) ∧
  (∀ t : Nat, t < tn (r 2) → bd (r (43 + 2 * t)) 1 60 ∧ bd (r (43 + 2 * t + 1)) 0 99) ∧
  (∀ j : Nat, (7 + 4 * tn (r 0) ≤ j ∧ j < 23) ∨ (23 + 5 * tn (r 1) ≤ j ∧ j < 43) ∨ 43 + 2 * tn (r 2) ≤ j → r j = 0)

/-! a morning comes to its end -/
def s_mu (g : Nat → Int32) : Nat := (300 - (g 0).toInt).toNat + (300 - (g 1).toInt).toNat + (300 - (g 2).toInt).toNat + (300 - (g 3).toInt).toNat
def s_J (r : Nat → Int32) (n : Nat) (g p : Nat → Int32) : Prop := s_mu g < n ∧ n ≤ 1201 ∧ ∀ c : Nat, c < 4 → bd (g c) 0 320 ∧ bd (p c) 0 (1201 - n) ∧ ((g c).toInt < 300 → c < tn (r 1))
theorem s_mu_up {g : Nat → Int32} {c : Nat} {v : Int32} (hc : c < 4) (h : (g c).toInt < 300) (hv : (g c).toInt < v.toInt) : s_mu (upd g c v) < s_mu g := by
  unfold s_mu
  rcases (show c = 0 ∨ c = 1 ∨ c = 2 ∨ c = 3 by omega) with rfl | rfl | rfl | rfl
  · rw [ud_s, ud_o (by decide), ud_o (by decide), ud_o (by decide)]; omega
  · rw [ud_s, ud_o (by decide), ud_o (by decide), ud_o (by decide)]; omega
  · rw [ud_s, ud_o (by decide), ud_o (by decide), ud_o (by decide)]; omega
  · rw [ud_s, ud_o (by decide), ud_o (by decide), ud_o (by decide)]; omega
theorem s_f3_lt (g : Nat → Int32) : s_f3 g < 4 := by
  unfold s_f3 s_f2 s_f1
  repeat' split
  all_goals omega
theorem s_f3_le (g : Nat → Int32) : ∀ c, c < 4 → (g (s_f3 g)).toInt ≤ (g c).toInt := by
  have key : (g (s_f3 g)).toInt ≤ (g 0).toInt ∧ (g (s_f3 g)).toInt ≤ (g 1).toInt ∧ (g (s_f3 g)).toInt ≤ (g 2).toInt ∧ (g (s_f3 g)).toInt ≤ (g 3).toInt := by
    have h1 : (g (s_f1 g)).toInt ≤ (g 0).toInt ∧ (g (s_f1 g)).toInt ≤ (g 1).toInt := by
      unfold s_f1
      split
      · rename_i h; rw [ti_lt] at h; omega
      · rename_i h; rw [ti_lt] at h; omega
    have h2 : (g (s_f2 g)).toInt ≤ (g (s_f1 g)).toInt ∧ (g (s_f2 g)).toInt ≤ (g 2).toInt := by
      unfold s_f2
      split
      · rename_i h; rw [ti_lt] at h; omega
      · rename_i h; rw [ti_lt] at h; omega
    have h3 : (g (s_f3 g)).toInt ≤ (g (s_f2 g)).toInt ∧ (g (s_f3 g)).toInt ≤ (g 3).toInt := by
      unfold s_f3
      split
      · rename_i h; rw [ti_lt] at h; omega
      · rename_i h; rw [ti_lt] at h; omega
    omega
  intro c hc
  rcases (show c = 0 ∨ c = 1 ∨ c = 2 ∨ c = 3 by omega) with rfl | rfl | rfl | rfl
  · exact key.1
  · exact key.2.1
  · exact key.2.2.1
  · exact key.2.2.2
theorem s_lt_bd {kind every k : Int32} (he : bd every 1 20) (hk : bd k 0 1201) : bd (s_lt kind every k) 1 20 := by
  obtain ⟨he1, he2⟩ := he
  obtain ⟨hk1, hk2⟩ := hk
  unfold s_lt
  split
  · exact ⟨by decide, by decide⟩
  · split
    · split
      · rename_i h
        have e1 : (1 : Int32).toInt = 1 := rfl
        rw [ti_lt, ti_add (by omega) (by omega), e1] at h
        exact ⟨by rw [ti_sub (by omega) (by omega)]; omega, by rw [ti_sub (by omega) (by omega)]; omega⟩
      · exact ⟨by decide, by decide⟩
    · exact ⟨he1, he2⟩
theorem s_J_step {r : Nat → Int32} {n : Nat} {g p p' : Nat → Int32} (hr : dR r) (h : s_J r (n + 1) g p) (hm : g (s_f3 g) < 300) (hp : ∀ c, c < 4 → p' c = p c ∨ p' c = p c + 1) :
    s_J r n (upd g (s_f3 g) (g (s_f3 g) + s_lt (r (23 + 5 * s_f3 g)) (r (23 + 5 * s_f3 g + 3)) (p (s_f3 g)))) p' ∧ s_f3 g < tn (r 1) := by
  obtain ⟨h1, h2, h3⟩ := h
  have hc := s_f3_lt g
  obtain ⟨a1, a2, a3⟩ := h3 _ hc
  have e300 : (300 : Int32).toInt = 300 := rfl
  have e1 : (1 : Int32).toInt = 1 := rfl
  rw [ti_lt, e300] at hm
  have hcl := a3 hm
  obtain ⟨-, -, -, -, -, -, -, -, hcc, -, -⟩ := hr
  obtain ⟨-, -, -, -, hev, -⟩ := hcc _ hcl
  have hl := s_lt_bd (kind := r (23 + 5 * s_f3 g)) hev ⟨a2.1, by have := a2.2; omega⟩
  obtain ⟨l1, l2⟩ := hl
  obtain ⟨a11, a12⟩ := a1
  have hadd : (g (s_f3 g) + s_lt (r (23 + 5 * s_f3 g)) (r (23 + 5 * s_f3 g + 3)) (p (s_f3 g))).toInt = (g (s_f3 g)).toInt + (s_lt (r (23 + 5 * s_f3 g)) (r (23 + 5 * s_f3 g + 3)) (p (s_f3 g))).toInt := ti_add (by omega) (by omega)
  refine ⟨⟨?_, by omega, fun c hc4 => ⟨?_, ?_, ?_⟩⟩, hcl⟩
  · have := s_mu_up hc hm (v := g (s_f3 g) + s_lt (r (23 + 5 * s_f3 g)) (r (23 + 5 * s_f3 g + 3)) (p (s_f3 g))) (by omega)
    omega
  · by_cases e : c = s_f3 g
    · rw [e, ud_s]
      exact ⟨by omega, by omega⟩
    · rw [ud_o e]
      exact (h3 c hc4).1
  · obtain ⟨b1, b2⟩ := (h3 c hc4).2.1
    rcases hp c hc4 with e | e
    · rw [e]; exact ⟨b1, by omega⟩
    · rw [e]; exact ⟨by rw [ti_add (by omega) (by omega)]; omega, by rw [ti_add (by omega) (by omega)]; omega⟩
  · intro hlt
    by_cases e : c = s_f3 g
    · rw [e]; exact hcl
    · rw [ud_o e] at hlt
      exact (h3 c hc4).2.2 hlt
theorem s_f3_cg {g g' : Nat → Int32} (hg : ∀ c, c < 4 → g c = g' c) : s_f3 g = s_f3 g' := by
  have h1 : s_f1 g = s_f1 g' := by unfold s_f1; rw [hg 0 (by omega), hg 1 (by omega)]
  have k1 : s_f1 g' < 4 := by unfold s_f1; split <;> omega
  have h2 : s_f2 g = s_f2 g' := by unfold s_f2; rw [h1, hg 2 (by omega), hg _ k1]
  have k2 : s_f2 g' < 4 := by unfold s_f2; split <;> omega
  unfold s_f3; rw [h2, hg 3 (by omega), hg _ k2]
theorem s_up_cg {g g' : Nat → Int32} (hg : ∀ c, c < 4 → g c = g' c) (k : Nat) (v : Int32) : ∀ c, c < 4 → upd g k v c = upd g' k v c := by
  intro c hc
  by_cases e : c = k
  · rw [e, ud_s, ud_s]
  · rw [ud_o e, ud_o e, hg c hc]
theorem s_mo_cg {r : Nat → Int32} {i b : Int32} : ∀ (n : Nat) {g g' p p' : Nat → Int32} {pr sl he : Int32}, (∀ c, c < 4 → g c = g' c) → (∀ c, c < 4 → p c = p' c) → s_mo r i b n g p pr sl he = s_mo r i b n g' p' pr sl he := by
  intro n
  induction n with
  | zero => intros; rfl
  | succ n ih =>
    intro g g' p p' pr sl he hg hp
    have e := s_f3_cg hg
    have hc := s_f3_lt g'
    unfold s_mo
    rw [e, hg _ hc, hp _ hc]
    rw [ih (s_up_cg hg _ _) hp, ih (s_up_cg hg _ _) (s_up_cg hp _ _)]
theorem s_g0_bd {r : Nat → Int32} (hr : dR r) {i but : Int32} {k : Nat} (hk : k < 4) : bd (s_g0 r i but k) 0 300 ∧ ((s_g0 r i but k).toInt < 300 → k < tn (r 1)) := by
  obtain ⟨-, r1, -, -, -, -, -, -, rc, -, -⟩ := hr
  have h3 : (300 : Int32).toInt = 300 := rfl
  unfold s_g0
  split
  · rename_i h
    rw [ti_lt, ti_nI (by omega)] at h
    have hk2 : k < tn (r 1) := by have := tn_of r1.1; omega
    refine ⟨?_, fun _ => hk2⟩
    split
    · split
      · exact ⟨by decide, by decide⟩
      · exact (rc k hk2).2.2.2.1
    · exact ⟨by decide, by decide⟩
  · exact ⟨⟨by decide, by decide⟩, fun h => by omega⟩
theorem s_J_0 {r : Nat → Int32} (hr : dR r) {i but : Int32} {g p : Nat → Int32} (hg : ∀ k, k < 4 → g k = s_g0 r i but k) (hp : ∀ k, k < 4 → p k = 0) : s_J r 1201 g p := by
  refine ⟨?_, by omega, fun c hc => ⟨?_, ?_, ?_⟩⟩
  · unfold s_mu
    have h0 := (s_g0_bd hr (i := i) (but := but) (k := 0) (by omega)).1.1
    have h1 := (s_g0_bd hr (i := i) (but := but) (k := 1) (by omega)).1.1
    have h2 := (s_g0_bd hr (i := i) (but := but) (k := 2) (by omega)).1.1
    have h3 := (s_g0_bd hr (i := i) (but := but) (k := 3) (by omega)).1.1
    rw [hg 0 (by omega), hg 1 (by omega), hg 2 (by omega), hg 3 (by omega)]
    omega
  · rw [hg c hc]
    have := (s_g0_bd hr (i := i) (but := but) hc).1
    exact ⟨this.1, by have := this.2; omega⟩
  · rw [hp c hc]
    exact ⟨by decide, by decide⟩
  · rw [hg c hc]
    exact (s_g0_bd hr (i := i) (but := but) hc).2
theorem s_mo_he {r : Nat → Int32} {i b : Int32} : ∀ (n : Nat) {g p : Nat → Int32} {pr sl he : Int32}, (s_mo r i b n g p pr sl he).1 = (s_mo r i b n g p pr sl 0).1 ∧ (s_mo r i b n g p pr sl he).2.1 = (s_mo r i b n g p pr sl 0).2.1 ∧ (s_mo r i b n g p pr sl he).2.2.1 = (s_mo r i b n g p pr sl 0).2.2.1 ∧ (s_mo r i b n g p pr sl he).2.2.2 = he + (s_mo r i b n g p pr sl 0).2.2.2 := by
  intro n
  induction n with
  | zero => intro g p pr sl he; exact ⟨rfl, rfl, rfl, (Int32.add_zero he).symm⟩
  | succ n ih =>
    intro g p pr sl he
    unfold s_mo
    rw [Int32.zero_add]
    generalize (if b < 0 then (0 : Int32) else s_W r (nI (s_f3 g)) b (g (s_f3 g))) = z
    split
    · split
      · obtain ⟨h1, h2, h3, h4⟩ := ih (g := upd g (s_f3 g) (g (s_f3 g) + s_lt (r (23 + 5 * s_f3 g)) (r (23 + 5 * s_f3 g + 3)) (p (s_f3 g)))) (p := p) (pr := pr) (sl := sl + 1) (he := he + z)
        obtain ⟨k1, k2, k3, k4⟩ := ih (g := upd g (s_f3 g) (g (s_f3 g) + s_lt (r (23 + 5 * s_f3 g)) (r (23 + 5 * s_f3 g + 3)) (p (s_f3 g)))) (p := p) (pr := pr) (sl := sl + 1) (he := z)
        exact ⟨h1.trans k1.symm, h2.trans k2.symm, h3.trans k3.symm, by rw [h4, k4, Int32.add_assoc]⟩
      · split
        · exact ⟨rfl, rfl, rfl, rfl⟩
        · split
          · obtain ⟨h1, h2, h3, h4⟩ := ih (g := upd g (s_f3 g) (g (s_f3 g) + s_lt (r (23 + 5 * s_f3 g)) (r (23 + 5 * s_f3 g + 3)) (p (s_f3 g)))) (p := upd p (s_f3 g) (p (s_f3 g) + 1)) (pr := pr + 1) (sl := sl) (he := he + z)
            obtain ⟨k1, k2, k3, k4⟩ := ih (g := upd g (s_f3 g) (g (s_f3 g) + s_lt (r (23 + 5 * s_f3 g)) (r (23 + 5 * s_f3 g + 3)) (p (s_f3 g)))) (p := upd p (s_f3 g) (p (s_f3 g) + 1)) (pr := pr + 1) (sl := sl) (he := z)
            exact ⟨h1.trans k1.symm, h2.trans k2.symm, h3.trans k3.symm, by rw [h4, k4, Int32.add_assoc]⟩
          · exact ⟨rfl, rfl, rfl, rfl⟩
    · exact ⟨rfl, rfl, rfl, (Int32.add_zero he).symm⟩
