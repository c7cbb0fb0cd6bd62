/-! HOW LETTERS ARE READ: T the letters, n how many, p a place, q the numbers told -/
def s_sg (T : Nat → Int32) (n p : Int32) : Int32 := if p < n then T (tn p) else -1
def s_nv (T : Nat → Int32) (n : Int32) : Nat → Int32 → Int32 → Nat → Int32 × Int32 × Nat
  | 0, p, v, c => (p, v, c)
  | f + 1, p, v, c => if s_in (s_sg T n p - 48) 10 = 0 then (p, v, c) else s_nv T n f (p + 1) (10 * v + s_sg T n p - 48) (c + 1)
def s_ks (c : Int32) : Int32 := if c = 115 then 0 else if c = 108 then 1 else if c = 100 then 2 else if c = 111 then 3 else if c = 98 then 4 else if c = 110 then 5 else -9
def s_kc (c : Int32) : Int32 := if c = 99 then 0 else if c = 102 then 1 else if c = 112 then 2 else if c = 114 then 3 else if c = 113 then 4 else if c = 119 then 5 else -9
/-- a kind, if there is one: whether, the place, the numbers -/
def s_pk (kind p : Int32) (k : Nat) (q : Nat → Int32) : Int32 × Int32 × (Nat → Int32) := if kind < 0 then (0, p, upd q k kind) else (1, p + 1, upd q k kind)
def s_pn (T : Nat → Int32) (n : Int32) (least : Int32) (most : Nat) (p : Int32) (k : Nat) (q : Nat → Int32) : Int32 × Int32 × (Nat → Int32) := (if nI (s_nv T n most p 0 0).2.2 < least then 0 else 1, (s_nv T n most p 0 0).1, upd q k (s_nv T n most p 0 0).2.1)
def s_ps (T : Nat → Int32) (n c p : Int32) (q : Nat → Int32) : Int32 × Int32 × (Nat → Int32) := if s_sg T n p = c then (1, p + 1, q) else (0, p, q)
/-- one behind the other -/
def s_th (a : Int32 × Int32 × (Nat → Int32)) (f : Int32 → (Nat → Int32) → Int32 × Int32 × (Nat → Int32)) : Int32 × Int32 × (Nat → Int32) := if a.1 = 0 then a else f a.2.1 a.2.2
def s_xs (T : Nat → Int32) (n p : Int32) (q : Nat → Int32) : Int32 × Int32 × (Nat → Int32) :=
  s_th (s_pk (s_ks (s_sg T n p)) p 0 q) fun p q => s_th (s_pn T n 2 2 p 1 q) fun p q => s_th (s_ps T n 44 p q) fun p q => s_th (s_pn T n 1 2 p 2 q) fun p q => s_th (s_ps T n 44 p q) fun p q => s_pn T n 1 2 p 3 q
def s_xc (T : Nat → Int32) (n p : Int32) (q : Nat → Int32) : Int32 × Int32 × (Nat → Int32) :=
  s_th (s_pk (s_kc (s_sg T n p)) p 0 q) fun p q => s_th (s_pn T n 1 1 p 1 q) fun p q => s_th (s_ps T n 44 p q) fun p q => s_th (s_pn T n 1 3 p 2 q) fun p q => s_th (s_ps T n 44 p q) fun p q => s_th (s_pn T n 1 3 p 3 q) fun p q => s_th (s_ps T n 44 p q) fun p q => s_pn T n 1 3 p 4 q
def s_xt (T : Nat → Int32) (n p : Int32) (q : Nat → Int32) : Int32 × Int32 × (Nat → Int32) :=
  s_th (s_pn T n 1 2 p 0 q) fun p q => s_th (s_ps T n 44 p q) fun p q => s_pn T n 1 2 p 1 q
/-- what is behind the first letter -/
def s_xa (T : Nat → Int32) (n c p : Int32) (q : Nat → Int32) : Int32 × Int32 × (Nat → Int32) :=
  if c = 115 then s_xs T n p q else if c = 99 then s_xc T n p q else if c = 116 then s_xt T n p q else if c = 98 then s_pn T n 1 3 p 0 q else s_pn T n 1 2 p 0 q
def s_x1 (c : Int32) : Prop := c = 115 ∨ c = 99 ∨ c = 116 ∨ c = 98 ∨ c = 102
def s_st (T : Nat → Int32) (n p : Int32) (q : Nat → Int32) : Int32 × Int32 × (Nat → Int32) :=
  if s_sg T n p = 115 ∨ s_sg T n p = 99 ∨ s_sg T n p = 116 ∨ s_sg T n p = 98 ∨ s_sg T n p = 102 then s_th (s_xa T n (s_sg T n p) (p + 1) q) fun p q => s_ps T n 59 p q else (0, p, q)
/-- a statement comes to the row: whether it did, the row -/
def s_tk (r : Nat → Int32) (c : Int32) (q : Nat → Int32) : Int32 × (Nat → Int32) :=
  if c = 115 then (if q 1 < 20 then (0, r) else if 20 < q 2 then (0, r) else if 30 < q 3 then (0, r) else if r 0 = 4 then (0, r) else
    (1, upd (upd (upd (upd (upd r (7 + 4 * tn (r 0)) (q 0)) (7 + 4 * tn (r 0) + 1) (q 1)) (7 + 4 * tn (r 0) + 2) (q 2)) (7 + 4 * tn (r 0) + 3) (q 3)) 0 (r 0 + 1)))
  else if c = 99 then (if s_in (q 1) (r 0) = 0 then (0, r) else if q 2 < 300 then (if q 3 < 1 then (0, r) else if 20 < q 3 then (0, r) else if 30 < q 4 then (0, r) else if r 1 = 4 then (0, r) else
    (1, upd (upd (upd (upd (upd (upd r (23 + 5 * tn (r 1)) (q 0)) (23 + 5 * tn (r 1) + 1) (q 1)) (23 + 5 * tn (r 1) + 2) (q 2)) (23 + 5 * tn (r 1) + 3) (q 3)) (23 + 5 * tn (r 1) + 4) (q 4)) 1 (r 1 + 1))) else (0, r))
  else if c = 116 then (if q 0 < 1 then (0, r) else if 60 < q 0 then (0, r) else if r 2 = 6 then (0, r) else
    (1, upd (upd (upd r (43 + 2 * tn (r 2)) (q 0)) (43 + 2 * tn (r 2) + 1) (q 1)) 2 (r 2 + 1)))
  else if c = 98 then (if q 0 < 300 then 1 else 0, upd r 3 (q 0))
  else (1, upd r 4 (q 0))
/-- the first reading: whether all is as statements are, how many or the fault -/
def s_r1 (T : Nat → Int32) (n : Int32) : Nat → Int32 → Int32 → Int32 × Int32
  | 0, _, _ => (0, 0)
  | f + 1, p, k => if (s_st T n p (fun _ => 0)).1 = 0 then (0, -1000 - (s_st T n p (fun _ => 0)).2.1) else if (s_st T n p (fun _ => 0)).2.1 < n then s_r1 T n f (s_st T n p (fun _ => 0)).2.1 (k + 1) else (1, k + 1)
/-- the second: whether all is as it must be, the fault, the row -/
def s_r2 (T : Nat → Int32) (n : Int32) : Nat → Int32 → (Nat → Int32) → Int32 × Int32 × (Nat → Int32)
  | 0, _, r => (1, 0, r)
  | f + 1, p, r => if p < n then (if (s_tk r (s_sg T n p) (s_st T n p (fun _ => 0)).2.2).1 = 0 then (0, -2000 - p, r) else s_r2 T n f (s_st T n p (fun _ => 0)).2.1 (s_tk r (s_sg T n p) (s_st T n p (fun _ => 0)).2.2).2) else (1, 0, r)
/-- what room() answers, and the row behind it -/
def s_rd (T : Nat → Int32) (n : Int32) (r : Nat → Int32) : Int32 × (Nat → Int32) :=
  if (s_r1 T n 97 0 0).1 = 0 then ((s_r1 T n 97 0 0).2, r) else if (s_r2 T n 97 0 r).1 = 0 then ((s_r2 T n 97 0 r).2.1, r) else ((s_r1 T n 97 0 0).2, (s_r2 T n 97 0 r).2.2)
def F_room (σ : mj_M) : Int32 × mj_M := ((s_rd (σ 2) (σ 5 1) (σ 0)).1, fun c => if c = 0 then (s_rd (σ 2) (σ 5 1) (σ 0)).2 else mj_up σ 5 1 0 c)
/-- letters are letters -/
def dT (T : Nat → Int32) (n : Int32) : Prop := bd n 0 96 ∧ ∀ j, bd (T j) 0 255
theorem sg_bd {T : Nat → Int32} {n p : Int32} (h : dT T n) : bd (s_sg T n p) (-1) 255 := by
  unfold s_sg
  split
  · exact ⟨by have := (h.2 (tn p)).1; omega, (h.2 (tn p)).2⟩
  · exact ⟨by decide, by decide⟩
theorem sg_lt {T : Nat → Int32} {n p : Int32} (h : ¬ s_sg T n p = -1) : p < n := by
  unfold s_sg at h
  split at h
  · assumption
  · exact absurd rfl h
theorem nv_p {T : Nat → Int32} {n : Int32} (h : dT T n) : ∀ (f : Nat) (p v : Int32) (c : Nat), 0 ≤ p.toInt → p.toInt ≤ n.toInt → p.toInt ≤ (s_nv T n f p v c).1.toInt ∧ (s_nv T n f p v c).1.toInt ≤ n.toInt := by
  intro f
  have hn := h.1.2
  have e1 : (1 : Int32).toInt = 1 := rfl
  induction f with
  | zero => intro p v c h0 hp; exact ⟨Int.le_refl _, hp⟩
  | succ f ih =>
    intro p v c h0 hp
    rw [s_nv]
    split
    · exact ⟨Int.le_refl _, hp⟩
    · rename_i hd
      have hlt : p < n := sg_lt (fun e => hd (by rw [e]; decide))
      rw [ti_lt] at hlt
      have e : (p + 1).toInt = p.toInt + 1 := by rw [ti_add (by omega) (by omega), e1]
      have := ih (p + 1) (10 * v + s_sg T n p - 48) (c + 1) (by omega) (by omega)
      omega
/-- places stay within -/
def oP (n p : Int32) (x : Int32 × Int32 × (Nat → Int32)) : Prop := p.toInt ≤ x.2.1.toInt ∧ x.2.1.toInt ≤ n.toInt
theorem oP_n {T : Nat → Int32} {n p least : Int32} {most k : Nat} {q : Nat → Int32} (h : dT T n) (h0 : 0 ≤ p.toInt) (hp : p.toInt ≤ n.toInt) : oP n p (s_pn T n least most p k q) := nv_p h most p 0 0 h0 hp
theorem oP_s {T : Nat → Int32} {n c p : Int32} {q : Nat → Int32} (h : dT T n) (h0 : 0 ≤ p.toInt) (hp : p.toInt ≤ n.toInt) (hc : ¬ c = -1) : oP n p (s_ps T n c p q) := by
  have hn := h.1.2
  have e1 : (1 : Int32).toInt = 1 := rfl
  unfold s_ps
  split
  · rename_i e
    have hlt : p < n := sg_lt (by rw [e]; exact hc)
    rw [ti_lt] at hlt
    have e : (p + 1).toInt = p.toInt + 1 := by rw [ti_add (by omega) (by omega), e1]
    exact ⟨by show p.toInt ≤ (p + 1).toInt; omega, by show (p + 1).toInt ≤ _; omega⟩
  · exact ⟨Int.le_refl _, hp⟩
theorem oP_k {T : Nat → Int32} {n kind p : Int32} {k : Nat} {q : Nat → Int32} (h : dT T n) (h0 : 0 ≤ p.toInt) (hp : p.toInt ≤ n.toInt) (hk : ¬ kind < 0 → p < n) : oP n p (s_pk kind p k q) := by
  have hn := h.1.2
  have e1 : (1 : Int32).toInt = 1 := rfl
  unfold s_pk
  split
  · exact ⟨Int.le_refl _, hp⟩
  · rename_i e
    have hlt := hk e
    rw [ti_lt] at hlt
    have e : (p + 1).toInt = p.toInt + 1 := by rw [ti_add (by omega) (by omega), e1]
    exact ⟨by show p.toInt ≤ (p + 1).toInt; omega, by show (p + 1).toInt ≤ _; omega⟩
theorem oP_t {n p : Int32} {a : Int32 × Int32 × (Nat → Int32)} {f : Int32 → (Nat → Int32) → Int32 × Int32 × (Nat → Int32)} (h0 : 0 ≤ p.toInt) (ha : oP n p a) (hf : ∀ p' q', 0 ≤ p'.toInt → p'.toInt ≤ n.toInt → oP n p' (f p' q')) : oP n p (s_th a f) := by
  unfold s_th
  split
  · exact ha
  · have := hf a.2.1 a.2.2 (by have := ha.1; omega) ha.2
    exact ⟨Int.le_trans ha.1 this.1, this.2⟩
theorem ks_sg {T : Nat → Int32} {n p : Int32} (h : ¬ s_ks (s_sg T n p) < 0) : p < n := sg_lt (fun e => h (by rw [e]; decide))
theorem kc_sg {T : Nat → Int32} {n p : Int32} (h : ¬ s_kc (s_sg T n p) < 0) : p < n := sg_lt (fun e => h (by rw [e]; decide))
theorem oP_xa {T : Nat → Int32} {n c p : Int32} {q : Nat → Int32} (h : dT T n) (h0 : 0 ≤ p.toInt) (hp : p.toInt ≤ n.toInt) : oP n p (s_xa T n c p q) := by
  unfold s_xa
  split
  · exact oP_t h0 (oP_k h h0 hp ks_sg) fun p q h0 hp => oP_t h0 (oP_n h h0 hp) fun p q h0 hp => oP_t h0 (oP_s h h0 hp (by decide)) fun p q h0 hp => oP_t h0 (oP_n h h0 hp) fun p q h0 hp => oP_t h0 (oP_s h h0 hp (by decide)) fun p q h0 hp => oP_n h h0 hp
  · split
    · exact oP_t h0 (oP_k h h0 hp kc_sg) fun p q h0 hp => oP_t h0 (oP_n h h0 hp) fun p q h0 hp => oP_t h0 (oP_s h h0 hp (by decide)) fun p q h0 hp => oP_t h0 (oP_n h h0 hp) fun p q h0 hp => oP_t h0 (oP_s h h0 hp (by decide)) fun p q h0 hp => oP_t h0 (oP_n h h0 hp) fun p q h0 hp => oP_t h0 (oP_s h h0 hp (by decide)) fun p q h0 hp => oP_n h h0 hp
    · split
      · exact oP_t h0 (oP_n h h0 hp) fun p q h0 hp => oP_t h0 (oP_s h h0 hp (by decide)) fun p q h0 hp => oP_n h h0 hp
      · split
        · exact oP_n h h0 hp
        · exact oP_n h h0 hp
theorem st_p {T : Nat → Int32} {n p : Int32} {q : Nat → Int32} (h : dT T n) (h0 : 0 ≤ p.toInt) (hp : p.toInt ≤ n.toInt) : oP n p (s_st T n p q) ∧ ((s_st T n p q).1 = 0 ∨ p.toInt < (s_st T n p q).2.1.toInt) := by
  have hn := h.1.2
  have e1 : (1 : Int32).toInt = 1 := rfl
  unfold s_st
  split
  · rename_i e
    have hlt : p < n := sg_lt (by rcases e with e | e | e | e | e <;> (rw [e]; decide))
    rw [ti_lt] at hlt
    have ep : (p + 1).toInt = p.toInt + 1 := by rw [ti_add (by omega) (by omega), e1]
    have := oP_t (n := n) (by omega) (oP_xa (c := s_sg T n p) (q := q) h (p := p + 1) (by omega) (by omega)) (fun p' q' h0 hp => oP_s (c := 59) (q := q') h h0 hp (by decide))
    exact ⟨⟨by have := this.1; omega, this.2⟩, Or.inr (by have := this.1; omega)⟩
  · exact ⟨⟨Int.le_refl _, hp⟩, Or.inl rfl⟩
