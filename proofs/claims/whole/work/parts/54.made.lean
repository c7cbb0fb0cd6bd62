/-! the world as it is made -/
def cn_M : mj_M := fun a => if a < 54 then (if a % 18 = 0 then (fun j => if j = 6 then 200 else if j = 7 then 30 else 0) else if a % 18 < 8 then (fun _ => 0) else if a % 18 < 12 then (fun j => if j = 3 then 1 else 0) else fun _ => 0) else if a = 54 then (fun j => if j = 3 then 300 else 0) else if a = 65 then upd (upd (fun _ => 0) 3 200) 4 30 else fun _ => 0
def cn_ad (h : Nat) (f1 f2 f3 f4 f5 : Nat → Nat) (q1 q2 : Nat) (f7 g : Nat → Nat) : Nat → Nat := fun k => if k < 18 then f1 k else if k < 36 then f2 (k - 18) else if k < 54 then f3 (k - 36) else if k < 57 then f4 (k - 54) else if k < 60 then f5 (k - 57) else if k = 60 then h else if k = 61 then q1 else if k = 62 then q2 else if k < 74 then f7 (k - 63) else g k
def cn_W (tA : Nat → ClassId) (h : Nat) (f1 f2 f3 f4 f5 : Nat → Nat) (q1 q2 : Nat) (f7 : Nat → Nat) : va_W := cn_w6 tA h f1 f2 f3 f4 f5 q1 q2 ++ cn_w7 tA f7
def cn_pos (k : Nat) : Nat := if k < 60 then k + 1 else if k = 60 then 0 else k
theorem cn_cell {cA : ClassId} {n : Nat} {f g : Nat → Option Nat} (h : ∀ j, j < n → f j = g j) : vp_cell cA (n, .inr (.inr (.inr (.inr f)))) = vp_cell cA (n, .inr (.inr (.inr (.inr g)))) := by
  show arrV cA n (fun j => va_rf (f j)) = arrV cA n (fun j => va_rf (g j))
  unfold arrV
  congr 2
  funext j
  show va_rf (f j.val) = va_rf (g j.val)
  rw [h j.val j.isLt]
theorem cn_qc {D : va_G} {a : Nat} {cA : ClassId} {n : Nat} {f g : Nat → Option Nat} {H : Heap} (h : ∀ j, j < n → f j = g j) (hx : va_at D mj_cl (a, .inl (cA, n, .inr (.inr (.inr (.inr f))))) H) : va_at D mj_cl (a, .inl (cA, n, .inr (.inr (.inr (.inr g))))) H := by
  have h1 : H[a]? = some (vp_cell cA (n, .inr (.inr (.inr (.inr f))))) := hx
  rw [cn_cell h] at h1
  exact h1
def cn_ok (D : va_G) (tA : Nat → ClassId) (h : Nat) (f1 f2 f3 f4 f5 : Nat → Nat) (q1 q2 : Nat) (f7 g : Nat → Nat) (k : Nat) : Prop := ∃ e : va_E, (cn_W tA h f1 f2 f3 f4 f5 q1 q2 f7)[cn_pos k]? = some (cn_ad h f1 f2 f3 f4 f5 q1 q2 f7 g k, e) ∧ ∀ H : Heap, va_at D mj_cl (cn_ad h f1 f2 f3 f4 f5 q1 q2 f7 g k, e) H → va_at D mj_cl (cn_ad h f1 f2 f3 f4 f5 q1 q2 f7 g k, mj_ce (cn_ad h f1 f2 f3 f4 f5 q1 q2 f7 g) tA cn_M k) H
section CW
variable {D : va_G} {tA : Nat → ClassId} {h : Nat} {f1 f2 f3 f4 f5 : Nat → Nat} {q1 q2 : Nat} {f7 g : Nat → Nat} {A : Nat → Prop} {H : Heap}
set_option maxRecDepth 20000
theorem cn_k0 : cn_ok D tA h f1 f2 f3 f4 f5 q1 q2 f7 g 0 := ⟨mj_ce (cn_ad h f1 f2 f3 f4 f5 q1 q2 f7 g) tA cn_M 0, rfl, fun _ hx => hx⟩
theorem cn_k1 : cn_ok D tA h f1 f2 f3 f4 f5 q1 q2 f7 g 1 := ⟨.inl (tA 2, 4, .inr (.inr (.inr (.inr (va_up (va_up (va_up (va_up (fun _ => none) 0 (some (f1 4))) 1 (some (f1 5))) 2 (some (f1 6))) 3 (some (f1 7))))))), rfl, fun _ hx => cn_qc (fun j hj => by
  rcases (show j = 0 ∨ j = 1 ∨ j = 2 ∨ j = 3 by omega) with rfl | rfl | rfl | rfl <;> rfl) hx⟩
theorem cn_k2 : cn_ok D tA h f1 f2 f3 f4 f5 q1 q2 f7 g 2 := ⟨.inl (tA 3, 4, .inr (.inr (.inr (.inr (va_up (va_up (va_up (va_up (fun _ => none) 0 (some (f1 8))) 1 (some (f1 9))) 2 (some (f1 10))) 3 (some (f1 11))))))), rfl, fun _ hx => cn_qc (fun j hj => by
  rcases (show j = 0 ∨ j = 1 ∨ j = 2 ∨ j = 3 by omega) with rfl | rfl | rfl | rfl <;> rfl) hx⟩
theorem cn_k3 : cn_ok D tA h f1 f2 f3 f4 f5 q1 q2 f7 g 3 := ⟨.inl (tA 4, 6, .inr (.inr (.inr (.inr (va_up (va_up (va_up (va_up (va_up (va_up (fun _ => none) 0 (some (f1 12))) 1 (some (f1 13))) 2 (some (f1 14))) 3 (some (f1 15))) 4 (some (f1 16))) 5 (some (f1 17))))))), rfl, fun _ hx => cn_qc (fun j hj => by
  rcases (show j = 0 ∨ j = 1 ∨ j = 2 ∨ j = 3 ∨ j = 4 ∨ j = 5 by omega) with rfl | rfl | rfl | rfl | rfl | rfl <;> rfl) hx⟩
theorem cn_k4 : cn_ok D tA h f1 f2 f3 f4 f5 q1 q2 f7 g 4 := ⟨mj_ce (cn_ad h f1 f2 f3 f4 f5 q1 q2 f7 g) tA cn_M 4, rfl, fun _ hx => hx⟩
theorem cn_k5 : cn_ok D tA h f1 f2 f3 f4 f5 q1 q2 f7 g 5 := ⟨mj_ce (cn_ad h f1 f2 f3 f4 f5 q1 q2 f7 g) tA cn_M 5, rfl, fun _ hx => hx⟩
theorem cn_k6 : cn_ok D tA h f1 f2 f3 f4 f5 q1 q2 f7 g 6 := ⟨mj_ce (cn_ad h f1 f2 f3 f4 f5 q1 q2 f7 g) tA cn_M 6, rfl, fun _ hx => hx⟩
theorem cn_k7 : cn_ok D tA h f1 f2 f3 f4 f5 q1 q2 f7 g 7 := ⟨mj_ce (cn_ad h f1 f2 f3 f4 f5 q1 q2 f7 g) tA cn_M 7, rfl, fun _ hx => hx⟩
theorem cn_k8 : cn_ok D tA h f1 f2 f3 f4 f5 q1 q2 f7 g 8 := ⟨mj_ce (cn_ad h f1 f2 f3 f4 f5 q1 q2 f7 g) tA cn_M 8, rfl, fun _ hx => hx⟩
theorem cn_k9 : cn_ok D tA h f1 f2 f3 f4 f5 q1 q2 f7 g 9 := ⟨mj_ce (cn_ad h f1 f2 f3 f4 f5 q1 q2 f7 g) tA cn_M 9, rfl, fun _ hx => hx⟩
theorem cn_k10 : cn_ok D tA h f1 f2 f3 f4 f5 q1 q2 f7 g 10 := ⟨mj_ce (cn_ad h f1 f2 f3 f4 f5 q1 q2 f7 g) tA cn_M 10, rfl, fun _ hx => hx⟩
theorem cn_k11 : cn_ok D tA h f1 f2 f3 f4 f5 q1 q2 f7 g 11 := ⟨mj_ce (cn_ad h f1 f2 f3 f4 f5 q1 q2 f7 g) tA cn_M 11, rfl, fun _ hx => hx⟩
theorem cn_k12 : cn_ok D tA h f1 f2 f3 f4 f5 q1 q2 f7 g 12 := ⟨mj_ce (cn_ad h f1 f2 f3 f4 f5 q1 q2 f7 g) tA cn_M 12, rfl, fun _ hx => hx⟩
theorem cn_k13 : cn_ok D tA h f1 f2 f3 f4 f5 q1 q2 f7 g 13 := ⟨mj_ce (cn_ad h f1 f2 f3 f4 f5 q1 q2 f7 g) tA cn_M 13, rfl, fun _ hx => hx⟩
theorem cn_k14 : cn_ok D tA h f1 f2 f3 f4 f5 q1 q2 f7 g 14 := ⟨mj_ce (cn_ad h f1 f2 f3 f4 f5 q1 q2 f7 g) tA cn_M 14, rfl, fun _ hx => hx⟩
theorem cn_k15 : cn_ok D tA h f1 f2 f3 f4 f5 q1 q2 f7 g 15 := ⟨mj_ce (cn_ad h f1 f2 f3 f4 f5 q1 q2 f7 g) tA cn_M 15, rfl, fun _ hx => hx⟩
theorem cn_k16 : cn_ok D tA h f1 f2 f3 f4 f5 q1 q2 f7 g 16 := ⟨mj_ce (cn_ad h f1 f2 f3 f4 f5 q1 q2 f7 g) tA cn_M 16, rfl, fun _ hx => hx⟩
theorem cn_k17 : cn_ok D tA h f1 f2 f3 f4 f5 q1 q2 f7 g 17 := ⟨mj_ce (cn_ad h f1 f2 f3 f4 f5 q1 q2 f7 g) tA cn_M 17, rfl, fun _ hx => hx⟩
theorem cn_k18 : cn_ok D tA h f1 f2 f3 f4 f5 q1 q2 f7 g 18 := ⟨mj_ce (cn_ad h f1 f2 f3 f4 f5 q1 q2 f7 g) tA cn_M 18, rfl, fun _ hx => hx⟩
theorem cn_k19 : cn_ok D tA h f1 f2 f3 f4 f5 q1 q2 f7 g 19 := ⟨.inl (tA 2, 4, .inr (.inr (.inr (.inr (va_up (va_up (va_up (va_up (fun _ => none) 0 (some (f2 4))) 1 (some (f2 5))) 2 (some (f2 6))) 3 (some (f2 7))))))), rfl, fun _ hx => cn_qc (fun j hj => by
  rcases (show j = 0 ∨ j = 1 ∨ j = 2 ∨ j = 3 by omega) with rfl | rfl | rfl | rfl <;> rfl) hx⟩
theorem cn_k20 : cn_ok D tA h f1 f2 f3 f4 f5 q1 q2 f7 g 20 := ⟨.inl (tA 3, 4, .inr (.inr (.inr (.inr (va_up (va_up (va_up (va_up (fun _ => none) 0 (some (f2 8))) 1 (some (f2 9))) 2 (some (f2 10))) 3 (some (f2 11))))))), rfl, fun _ hx => cn_qc (fun j hj => by
  rcases (show j = 0 ∨ j = 1 ∨ j = 2 ∨ j = 3 by omega) with rfl | rfl | rfl | rfl <;> rfl) hx⟩
theorem cn_k21 : cn_ok D tA h f1 f2 f3 f4 f5 q1 q2 f7 g 21 := ⟨.inl (tA 4, 6, .inr (.inr (.inr (.inr (va_up (va_up (va_up (va_up (va_up (va_up (fun _ => none) 0 (some (f2 12))) 1 (some (f2 13))) 2 (some (f2 14))) 3 (some (f2 15))) 4 (some (f2 16))) 5 (some (f2 17))))))), rfl, fun _ hx => cn_qc (fun j hj => by
  rcases (show j = 0 ∨ j = 1 ∨ j = 2 ∨ j = 3 ∨ j = 4 ∨ j = 5 by omega) with rfl | rfl | rfl | rfl | rfl | rfl <;> rfl) hx⟩
theorem cn_k22 : cn_ok D tA h f1 f2 f3 f4 f5 q1 q2 f7 g 22 := ⟨mj_ce (cn_ad h f1 f2 f3 f4 f5 q1 q2 f7 g) tA cn_M 22, rfl, fun _ hx => hx⟩
theorem cn_k23 : cn_ok D tA h f1 f2 f3 f4 f5 q1 q2 f7 g 23 := ⟨mj_ce (cn_ad h f1 f2 f3 f4 f5 q1 q2 f7 g) tA cn_M 23, rfl, fun _ hx => hx⟩
theorem cn_k24 : cn_ok D tA h f1 f2 f3 f4 f5 q1 q2 f7 g 24 := ⟨mj_ce (cn_ad h f1 f2 f3 f4 f5 q1 q2 f7 g) tA cn_M 24, rfl, fun _ hx => hx⟩
theorem cn_k25 : cn_ok D tA h f1 f2 f3 f4 f5 q1 q2 f7 g 25 := ⟨mj_ce (cn_ad h f1 f2 f3 f4 f5 q1 q2 f7 g) tA cn_M 25, rfl, fun _ hx => hx⟩
theorem cn_k26 : cn_ok D tA h f1 f2 f3 f4 f5 q1 q2 f7 g 26 := ⟨mj_ce (cn_ad h f1 f2 f3 f4 f5 q1 q2 f7 g) tA cn_M 26, rfl, fun _ hx => hx⟩
theorem cn_k27 : cn_ok D tA h f1 f2 f3 f4 f5 q1 q2 f7 g 27 := ⟨mj_ce (cn_ad h f1 f2 f3 f4 f5 q1 q2 f7 g) tA cn_M 27, rfl, fun _ hx => hx⟩
theorem cn_k28 : cn_ok D tA h f1 f2 f3 f4 f5 q1 q2 f7 g 28 := ⟨mj_ce (cn_ad h f1 f2 f3 f4 f5 q1 q2 f7 g) tA cn_M 28, rfl, fun _ hx => hx⟩
theorem cn_k29 : cn_ok D tA h f1 f2 f3 f4 f5 q1 q2 f7 g 29 := ⟨mj_ce (cn_ad h f1 f2 f3 f4 f5 q1 q2 f7 g) tA cn_M 29, rfl, fun _ hx => hx⟩
theorem cn_k30 : cn_ok D tA h f1 f2 f3 f4 f5 q1 q2 f7 g 30 := ⟨mj_ce (cn_ad h f1 f2 f3 f4 f5 q1 q2 f7 g) tA cn_M 30, rfl, fun _ hx => hx⟩
theorem cn_k31 : cn_ok D tA h f1 f2 f3 f4 f5 q1 q2 f7 g 31 := ⟨mj_ce (cn_ad h f1 f2 f3 f4 f5 q1 q2 f7 g) tA cn_M 31, rfl, fun _ hx => hx⟩
theorem cn_k32 : cn_ok D tA h f1 f2 f3 f4 f5 q1 q2 f7 g 32 := ⟨mj_ce (cn_ad h f1 f2 f3 f4 f5 q1 q2 f7 g) tA cn_M 32, rfl, fun _ hx => hx⟩
theorem cn_k33 : cn_ok D tA h f1 f2 f3 f4 f5 q1 q2 f7 g 33 := ⟨mj_ce (cn_ad h f1 f2 f3 f4 f5 q1 q2 f7 g) tA cn_M 33, rfl, fun _ hx => hx⟩
theorem cn_k34 : cn_ok D tA h f1 f2 f3 f4 f5 q1 q2 f7 g 34 := ⟨mj_ce (cn_ad h f1 f2 f3 f4 f5 q1 q2 f7 g) tA cn_M 34, rfl, fun _ hx => hx⟩
theorem cn_k35 : cn_ok D tA h f1 f2 f3 f4 f5 q1 q2 f7 g 35 := ⟨mj_ce (cn_ad h f1 f2 f3 f4 f5 q1 q2 f7 g) tA cn_M 35, rfl, fun _ hx => hx⟩
theorem cn_k36 : cn_ok D tA h f1 f2 f3 f4 f5 q1 q2 f7 g 36 := ⟨mj_ce (cn_ad h f1 f2 f3 f4 f5 q1 q2 f7 g) tA cn_M 36, rfl, fun _ hx => hx⟩
theorem cn_k37 : cn_ok D tA h f1 f2 f3 f4 f5 q1 q2 f7 g 37 := ⟨.inl (tA 2, 4, .inr (.inr (.inr (.inr (va_up (va_up (va_up (va_up (fun _ => none) 0 (some (f3 4))) 1 (some (f3 5))) 2 (some (f3 6))) 3 (some (f3 7))))))), rfl, fun _ hx => cn_qc (fun j hj => by
  rcases (show j = 0 ∨ j = 1 ∨ j = 2 ∨ j = 3 by omega) with rfl | rfl | rfl | rfl <;> rfl) hx⟩
theorem cn_k38 : cn_ok D tA h f1 f2 f3 f4 f5 q1 q2 f7 g 38 := ⟨.inl (tA 3, 4, .inr (.inr (.inr (.inr (va_up (va_up (va_up (va_up (fun _ => none) 0 (some (f3 8))) 1 (some (f3 9))) 2 (some (f3 10))) 3 (some (f3 11))))))), rfl, fun _ hx => cn_qc (fun j hj => by
  rcases (show j = 0 ∨ j = 1 ∨ j = 2 ∨ j = 3 by omega) with rfl | rfl | rfl | rfl <;> rfl) hx⟩
theorem cn_k39 : cn_ok D tA h f1 f2 f3 f4 f5 q1 q2 f7 g 39 := ⟨.inl (tA 4, 6, .inr (.inr (.inr (.inr (va_up (va_up (va_up (va_up (va_up (va_up (fun _ => none) 0 (some (f3 12))) 1 (some (f3 13))) 2 (some (f3 14))) 3 (some (f3 15))) 4 (some (f3 16))) 5 (some (f3 17))))))), rfl, fun _ hx => cn_qc (fun j hj => by
  rcases (show j = 0 ∨ j = 1 ∨ j = 2 ∨ j = 3 ∨ j = 4 ∨ j = 5 by omega) with rfl | rfl | rfl | rfl | rfl | rfl <;> rfl) hx⟩
theorem cn_k40 : cn_ok D tA h f1 f2 f3 f4 f5 q1 q2 f7 g 40 := ⟨mj_ce (cn_ad h f1 f2 f3 f4 f5 q1 q2 f7 g) tA cn_M 40, rfl, fun _ hx => hx⟩
theorem cn_k41 : cn_ok D tA h f1 f2 f3 f4 f5 q1 q2 f7 g 41 := ⟨mj_ce (cn_ad h f1 f2 f3 f4 f5 q1 q2 f7 g) tA cn_M 41, rfl, fun _ hx => hx⟩
theorem cn_k42 : cn_ok D tA h f1 f2 f3 f4 f5 q1 q2 f7 g 42 := ⟨mj_ce (cn_ad h f1 f2 f3 f4 f5 q1 q2 f7 g) tA cn_M 42, rfl, fun _ hx => hx⟩
theorem cn_k43 : cn_ok D tA h f1 f2 f3 f4 f5 q1 q2 f7 g 43 := ⟨mj_ce (cn_ad h f1 f2 f3 f4 f5 q1 q2 f7 g) tA cn_M 43, rfl, fun _ hx => hx⟩
theorem cn_k44 : cn_ok D tA h f1 f2 f3 f4 f5 q1 q2 f7 g 44 := ⟨mj_ce (cn_ad h f1 f2 f3 f4 f5 q1 q2 f7 g) tA cn_M 44, rfl, fun _ hx => hx⟩
theorem cn_k45 : cn_ok D tA h f1 f2 f3 f4 f5 q1 q2 f7 g 45 := ⟨mj_ce (cn_ad h f1 f2 f3 f4 f5 q1 q2 f7 g) tA cn_M 45, rfl, fun _ hx => hx⟩
theorem cn_k46 : cn_ok D tA h f1 f2 f3 f4 f5 q1 q2 f7 g 46 := ⟨mj_ce (cn_ad h f1 f2 f3 f4 f5 q1 q2 f7 g) tA cn_M 46, rfl, fun _ hx => hx⟩
theorem cn_k47 : cn_ok D tA h f1 f2 f3 f4 f5 q1 q2 f7 g 47 := ⟨mj_ce (cn_ad h f1 f2 f3 f4 f5 q1 q2 f7 g) tA cn_M 47, rfl, fun _ hx => hx⟩
theorem cn_k48 : cn_ok D tA h f1 f2 f3 f4 f5 q1 q2 f7 g 48 := ⟨mj_ce (cn_ad h f1 f2 f3 f4 f5 q1 q2 f7 g) tA cn_M 48, rfl, fun _ hx => hx⟩
theorem cn_k49 : cn_ok D tA h f1 f2 f3 f4 f5 q1 q2 f7 g 49 := ⟨mj_ce (cn_ad h f1 f2 f3 f4 f5 q1 q2 f7 g) tA cn_M 49, rfl, fun _ hx => hx⟩
theorem cn_k50 : cn_ok D tA h f1 f2 f3 f4 f5 q1 q2 f7 g 50 := ⟨mj_ce (cn_ad h f1 f2 f3 f4 f5 q1 q2 f7 g) tA cn_M 50, rfl, fun _ hx => hx⟩
theorem cn_k51 : cn_ok D tA h f1 f2 f3 f4 f5 q1 q2 f7 g 51 := ⟨mj_ce (cn_ad h f1 f2 f3 f4 f5 q1 q2 f7 g) tA cn_M 51, rfl, fun _ hx => hx⟩
theorem cn_k52 : cn_ok D tA h f1 f2 f3 f4 f5 q1 q2 f7 g 52 := ⟨mj_ce (cn_ad h f1 f2 f3 f4 f5 q1 q2 f7 g) tA cn_M 52, rfl, fun _ hx => hx⟩
theorem cn_k53 : cn_ok D tA h f1 f2 f3 f4 f5 q1 q2 f7 g 53 := ⟨mj_ce (cn_ad h f1 f2 f3 f4 f5 q1 q2 f7 g) tA cn_M 53, rfl, fun _ hx => hx⟩
theorem cn_k54 : cn_ok D tA h f1 f2 f3 f4 f5 q1 q2 f7 g 54 := ⟨mj_ce (cn_ad h f1 f2 f3 f4 f5 q1 q2 f7 g) tA cn_M 54, rfl, fun _ hx => hx⟩
theorem cn_k55 : cn_ok D tA h f1 f2 f3 f4 f5 q1 q2 f7 g 55 := ⟨mj_ce (cn_ad h f1 f2 f3 f4 f5 q1 q2 f7 g) tA cn_M 55, rfl, fun _ hx => hx⟩
theorem cn_k56 : cn_ok D tA h f1 f2 f3 f4 f5 q1 q2 f7 g 56 := ⟨mj_ce (cn_ad h f1 f2 f3 f4 f5 q1 q2 f7 g) tA cn_M 56, rfl, fun _ hx => hx⟩
theorem cn_k57 : cn_ok D tA h f1 f2 f3 f4 f5 q1 q2 f7 g 57 := ⟨mj_ce (cn_ad h f1 f2 f3 f4 f5 q1 q2 f7 g) tA cn_M 57, rfl, fun _ hx => hx⟩
theorem cn_k58 : cn_ok D tA h f1 f2 f3 f4 f5 q1 q2 f7 g 58 := ⟨mj_ce (cn_ad h f1 f2 f3 f4 f5 q1 q2 f7 g) tA cn_M 58, rfl, fun _ hx => hx⟩
theorem cn_k59 : cn_ok D tA h f1 f2 f3 f4 f5 q1 q2 f7 g 59 := ⟨mj_ce (cn_ad h f1 f2 f3 f4 f5 q1 q2 f7 g) tA cn_M 59, rfl, fun _ hx => hx⟩
theorem cn_k60 : cn_ok D tA h f1 f2 f3 f4 f5 q1 q2 f7 g 60 := ⟨mj_ce (cn_ad h f1 f2 f3 f4 f5 q1 q2 f7 g) tA cn_M 60, rfl, fun _ hx => hx⟩
theorem cn_k61 : cn_ok D tA h f1 f2 f3 f4 f5 q1 q2 f7 g 61 := ⟨mj_ce (cn_ad h f1 f2 f3 f4 f5 q1 q2 f7 g) tA cn_M 61, rfl, fun _ hx => hx⟩
theorem cn_k62 : cn_ok D tA h f1 f2 f3 f4 f5 q1 q2 f7 g 62 := ⟨mj_ce (cn_ad h f1 f2 f3 f4 f5 q1 q2 f7 g) tA cn_M 62, rfl, fun _ hx => hx⟩
theorem cn_k63 : cn_ok D tA h f1 f2 f3 f4 f5 q1 q2 f7 g 63 := ⟨mj_ce (cn_ad h f1 f2 f3 f4 f5 q1 q2 f7 g) tA cn_M 63, rfl, fun _ hx => hx⟩
theorem cn_k64 : cn_ok D tA h f1 f2 f3 f4 f5 q1 q2 f7 g 64 := ⟨mj_ce (cn_ad h f1 f2 f3 f4 f5 q1 q2 f7 g) tA cn_M 64, rfl, fun _ hx => hx⟩
theorem cn_k65 : cn_ok D tA h f1 f2 f3 f4 f5 q1 q2 f7 g 65 := ⟨mj_ce (cn_ad h f1 f2 f3 f4 f5 q1 q2 f7 g) tA cn_M 65, rfl, fun _ hx => hx⟩
theorem cn_k66 : cn_ok D tA h f1 f2 f3 f4 f5 q1 q2 f7 g 66 := ⟨mj_ce (cn_ad h f1 f2 f3 f4 f5 q1 q2 f7 g) tA cn_M 66, rfl, fun _ hx => hx⟩
theorem cn_k67 : cn_ok D tA h f1 f2 f3 f4 f5 q1 q2 f7 g 67 := ⟨mj_ce (cn_ad h f1 f2 f3 f4 f5 q1 q2 f7 g) tA cn_M 67, rfl, fun _ hx => hx⟩
theorem cn_k68 : cn_ok D tA h f1 f2 f3 f4 f5 q1 q2 f7 g 68 := ⟨mj_ce (cn_ad h f1 f2 f3 f4 f5 q1 q2 f7 g) tA cn_M 68, rfl, fun _ hx => hx⟩
theorem cn_k69 : cn_ok D tA h f1 f2 f3 f4 f5 q1 q2 f7 g 69 := ⟨mj_ce (cn_ad h f1 f2 f3 f4 f5 q1 q2 f7 g) tA cn_M 69, rfl, fun _ hx => hx⟩
theorem cn_k70 : cn_ok D tA h f1 f2 f3 f4 f5 q1 q2 f7 g 70 := ⟨mj_ce (cn_ad h f1 f2 f3 f4 f5 q1 q2 f7 g) tA cn_M 70, rfl, fun _ hx => hx⟩
theorem cn_k71 : cn_ok D tA h f1 f2 f3 f4 f5 q1 q2 f7 g 71 := ⟨mj_ce (cn_ad h f1 f2 f3 f4 f5 q1 q2 f7 g) tA cn_M 71, rfl, fun _ hx => hx⟩
theorem cn_k72 : cn_ok D tA h f1 f2 f3 f4 f5 q1 q2 f7 g 72 := ⟨mj_ce (cn_ad h f1 f2 f3 f4 f5 q1 q2 f7 g) tA cn_M 72, rfl, fun _ hx => hx⟩
theorem cn_k73 : cn_ok D tA h f1 f2 f3 f4 f5 q1 q2 f7 g 73 := ⟨mj_ce (cn_ad h f1 f2 f3 f4 f5 q1 q2 f7 g) tA cn_M 73, rfl, fun _ hx => hx⟩
theorem cn_all : ∀ k, k < 74 → cn_ok D tA h f1 f2 f3 f4 f5 q1 q2 f7 g k := by
  have hx : ∀ k ∈ [0, 1, 2, 3, 4, 5, 6, 7, 8, 9, 10, 11, 12, 13, 14, 15, 16, 17, 18, 19, 20, 21, 22, 23, 24, 25, 26, 27, 28, 29, 30, 31, 32, 33, 34, 35, 36, 37, 38, 39, 40, 41, 42, 43, 44, 45, 46, 47, 48, 49, 50, 51, 52, 53, 54, 55, 56, 57, 58, 59, 60, 61, 62, 63, 64, 65, 66, 67, 68, 69, 70, 71, 72, 73], cn_ok D tA h f1 f2 f3 f4 f5 q1 q2 f7 g k := List.forall_mem_cons.mpr ⟨cn_k0, List.forall_mem_cons.mpr ⟨cn_k1, List.forall_mem_cons.mpr ⟨cn_k2, List.forall_mem_cons.mpr ⟨cn_k3, List.forall_mem_cons.mpr ⟨cn_k4, List.forall_mem_cons.mpr ⟨cn_k5, List.forall_mem_cons.mpr ⟨cn_k6, List.forall_mem_cons.mpr ⟨cn_k7, List.forall_mem_cons.mpr ⟨cn_k8, List.forall_mem_cons.mpr ⟨cn_k9, List.forall_mem_cons.mpr ⟨cn_k10, List.forall_mem_cons.mpr ⟨cn_k11, List.forall_mem_cons.mpr ⟨cn_k12, List.forall_mem_cons.mpr ⟨cn_k13, List.forall_mem_cons.mpr ⟨cn_k14, List.forall_mem_cons.mpr ⟨cn_k15, List.forall_mem_cons.mpr ⟨cn_k16, List.forall_mem_cons.mpr ⟨cn_k17, List.forall_mem_cons.mpr ⟨cn_k18, List.forall_mem_cons.mpr ⟨cn_k19, List.forall_mem_cons.mpr ⟨cn_k20, List.forall_mem_cons.mpr ⟨cn_k21, List.forall_mem_cons.mpr ⟨cn_k22, List.forall_mem_cons.mpr ⟨cn_k23, List.forall_mem_cons.mpr ⟨cn_k24, List.forall_mem_cons.mpr ⟨cn_k25, List.forall_mem_cons.mpr ⟨cn_k26, List.forall_mem_cons.mpr ⟨cn_k27, List.forall_mem_cons.mpr ⟨cn_k28, List.forall_mem_cons.mpr ⟨cn_k29, List.forall_mem_cons.mpr ⟨cn_k30, List.forall_mem_cons.mpr ⟨cn_k31, List.forall_mem_cons.mpr ⟨cn_k32, List.forall_mem_cons.mpr ⟨cn_k33, List.forall_mem_cons.mpr ⟨cn_k34, List.forall_mem_cons.mpr ⟨cn_k35, List.forall_mem_cons.mpr ⟨cn_k36, List.forall_mem_cons.mpr ⟨cn_k37, List.forall_mem_cons.mpr ⟨cn_k38, List.forall_mem_cons.mpr ⟨cn_k39, List.forall_mem_cons.mpr ⟨cn_k40, List.forall_mem_cons.mpr ⟨cn_k41, List.forall_mem_cons.mpr ⟨cn_k42, List.forall_mem_cons.mpr ⟨cn_k43, List.forall_mem_cons.mpr ⟨cn_k44, List.forall_mem_cons.mpr ⟨cn_k45, List.forall_mem_cons.mpr ⟨cn_k46, List.forall_mem_cons.mpr ⟨cn_k47, List.forall_mem_cons.mpr ⟨cn_k48, List.forall_mem_cons.mpr ⟨cn_k49, List.forall_mem_cons.mpr ⟨cn_k50, List.forall_mem_cons.mpr ⟨cn_k51, List.forall_mem_cons.mpr ⟨cn_k52, List.forall_mem_cons.mpr ⟨cn_k53, List.forall_mem_cons.mpr ⟨cn_k54, List.forall_mem_cons.mpr ⟨cn_k55, List.forall_mem_cons.mpr ⟨cn_k56, List.forall_mem_cons.mpr ⟨cn_k57, List.forall_mem_cons.mpr ⟨cn_k58, List.forall_mem_cons.mpr ⟨cn_k59, List.forall_mem_cons.mpr ⟨cn_k60, List.forall_mem_cons.mpr ⟨cn_k61, List.forall_mem_cons.mpr ⟨cn_k62, List.forall_mem_cons.mpr ⟨cn_k63, List.forall_mem_cons.mpr ⟨cn_k64, List.forall_mem_cons.mpr ⟨cn_k65, List.forall_mem_cons.mpr ⟨cn_k66, List.forall_mem_cons.mpr ⟨cn_k67, List.forall_mem_cons.mpr ⟨cn_k68, List.forall_mem_cons.mpr ⟨cn_k69, List.forall_mem_cons.mpr ⟨cn_k70, List.forall_mem_cons.mpr ⟨cn_k71, List.forall_mem_cons.mpr ⟨cn_k72, List.forall_mem_cons.mpr ⟨cn_k73, fun _ hx => absurd hx List.not_mem_nil⟩⟩⟩⟩⟩⟩⟩⟩⟩⟩⟩⟩⟩⟩⟩⟩⟩⟩⟩⟩⟩⟩⟩⟩⟩⟩⟩⟩⟩⟩⟩⟩⟩⟩⟩⟩⟩⟩⟩⟩⟩⟩⟩⟩⟩⟩⟩⟩⟩⟩⟩⟩⟩⟩⟩⟩⟩⟩⟩⟩⟩⟩⟩⟩⟩⟩⟩⟩⟩⟩⟩⟩⟩⟩
  intro k hk
  refine hx k ?_
  have h2 : k ∈ List.range 74 := List.mem_range.mpr hk
  exact h2
theorem cn_pinj {i j : Nat} (hi : i < 74) (hj : j < 74) (e : cn_pos i = cn_pos j) : i = j := by
  unfold cn_pos at e
  split at e <;> split at e <;> (try split at e) <;> (try split at e) <;> omega
theorem cn_fin (hP : va_P D mj_cl (cn_W tA h f1 f2 f3 f4 f5 q1 q2 f7) H) (hD : va_D A (cn_W tA h f1 f2 f3 f4 f5 q1 q2 f7)) : va_P D mj_cl (mj_w (cn_ad h f1 f2 f3 f4 f5 q1 q2 f7 g) tA cn_M) H ∧ mj_in (cn_ad h f1 f2 f3 f4 f5 q1 q2 f7 g) ∧ ∀ k, k < 74 → A (cn_ad h f1 f2 f3 f4 f5 q1 q2 f7 g k) := by
  refine ⟨fun k q hq => ?_, fun i j hi hj e => ?_, fun k hk => ?_⟩
  · have hk : k < 74 := by
      have := (List.getElem?_eq_some_iff.mp hq).1
      simpa [mj_w] using this
    have hq2 : q = (cn_ad h f1 f2 f3 f4 f5 q1 q2 f7 g k, mj_ce (cn_ad h f1 f2 f3 f4 f5 q1 q2 f7 g) tA cn_M k) := by
      have h2 := hq
      unfold mj_w at h2
      rw [List.getElem?_map, List.getElem?_range hk] at h2
      exact (Option.some.inj h2).symm
    obtain ⟨e, h1, h2⟩ := cn_all (D := D) (tA := tA) (h := h) (f1 := f1) (f2 := f2) (f3 := f3) (f4 := f4) (f5 := f5) (q1 := q1) (q2 := q2) (f7 := f7) (g := g) k hk
    rw [hq2]
    exact h2 H (hP _ _ h1)
  · obtain ⟨e1, h1, -⟩ := cn_all (D := D) (tA := tA) (h := h) (f1 := f1) (f2 := f2) (f3 := f3) (f4 := f4) (f5 := f5) (q1 := q1) (q2 := q2) (f7 := f7) (g := g) i hi
    obtain ⟨e2, h2, -⟩ := cn_all (D := D) (tA := tA) (h := h) (f1 := f1) (f2 := f2) (f3 := f3) (f4 := f4) (f5 := f5) (q1 := q1) (q2 := q2) (f7 := f7) (g := g) j hj
    exact cn_pinj hi hj (hD.1 _ _ _ _ h1 h2 e)
  · obtain ⟨e1, h1, -⟩ := cn_all (D := D) (tA := tA) (h := h) (f1 := f1) (f2 := f2) (f3 := f3) (f4 := f4) (f5 := f5) (q1 := q1) (q2 := q2) (f7 := f7) (g := g) k hk
    exact hD.2 _ _ h1
end CW
theorem cn_rv : rv cn_M 0 = cn_M 65 := by
  have e3 : tn (cn_M 0 3) = 0 := rfl
  have e4 : tn (cn_M 0 4) = 0 := rfl
  have e5 : tn (cn_M 0 5) = 0 := rfl
  funext j
  by_cases h : j < 7
  · rw [rv_7 h]
    rcases (show j = 0 ∨ j = 1 ∨ j = 2 ∨ j = 3 ∨ j = 4 ∨ j = 5 ∨ j = 6 by omega) with rfl | rfl | rfl | rfl | rfl | rfl | rfl <;> rfl
  · have e : cn_M 65 j = 0 := by
      show upd (upd (fun _ => 0) 3 200) 4 30 j = 0
      rw [ud_o (by omega), ud_o (by omega)]
    rw [e]
    unfold rv
    rw [if_neg h, Nat.zero_add] at *
    rw [e3, e4, e5]
    simp
theorem cn_cm : cS cn_M = mS cn_M := cS_ext cn_rv (if_pos rfl) rfl rfl rfl rfl rfl rfl (fun _ => rfl) (fun _ _ => rfl)
theorem cn_dR : dR (cn_M 65) := by
  have e0 : tn (cn_M 65 0) = 0 := rfl
  have e1 : tn (cn_M 65 1) = 0 := rfl
  have e2 : tn (cn_M 65 2) = 0 := rfl
  refine ⟨⟨by decide, by decide⟩, ⟨by decide, by decide⟩, ⟨by decide, by decide⟩, ⟨by decide, by decide⟩, ⟨by decide, by decide⟩, ⟨by decide, by decide⟩, ⟨by decide, by decide⟩, fun i hi => ?_, fun i hi => ?_, fun i hi => ?_, fun j hj => ?_⟩
  · rw [e0] at hi; omega
  · rw [e1] at hi; omega
  · rw [e2] at hi; omega
  · show upd (upd (fun _ => 0) 3 200) 4 30 j = 0
    rw [e0, e1, e2] at hj
    rw [ud_o (by omega), ud_o (by omega)]
theorem cn_dS : dS (mS cn_M) := ⟨cn_dR, Or.inl rfl, fun h => absurd h (by decide), ⟨by decide, by decide⟩, fun _ => (show bd 0 0 255 from ⟨by decide, by decide⟩), ⟨by decide, by decide⟩, fun _ _ => rfl⟩
