/-! the law's cases -/
theorem lw_c188 {N : Nat} {i v1 v2 v3 : Int32} {xs : Nat → Int32} {V : Nat → mj_L → mj_S → mj_M → Prop} (b : ∀ (L : mj_L) (st : mj_S) (M : mj_M), mj_W lw_it 3 (true, N, xs) V (fun v _ => v = .inl 1) k_L_law_188 211 L st M → V 188 L st M) {M : mj_M} (a1 : lw_A N xs i 1 v1) (a2 : lw_A N xs i 2 v2) (a3 : lw_A N xs i 3 v3) (hc : cS M = mS M) (hd : dS (mS M)) (nxt : ∀ M2 : mj_M, cS M2 = mS M2 → dS (mS M2) → V 1123 (lw_L i) [] M2) : V 188 (lw_L i) [] M := by
  have hdc : dS (cS M) := by rw [hc]; exact hd
  refine b _ _ _ (lw_o1 (lw_arg a1 (lw_call (avs := [.inr 60, .inl v1]) (r := []) lw_l39 rfl (fun f h => h) (Nat.zero_le 8) (show 60 = 60 ∧ dS (cS M) from ⟨rfl, hdc⟩) (fun x M1 h1 => ?_))))
  have h1 : (Sum.inl x : mj_V) = .inl (F_letter (cS M) v1).1 ∧ cS M1 = (F_letter (cS M) v1).2 ∧ fr2 M M1 := h1
  have hdm : dS (mS M1) := by rw [mS_f2 h1.2.2]; exact hd
  refine lw_o2 (lw_arg a1 (lw_call (avs := [.inr 63, .inl v1]) (r := [.inl x]) lw_l51 rfl (fun f h => h) (show 1 ≤ 8 by decide) (show 63 = 63 ∧ dS (mS M1) from ⟨rfl, hdm⟩) (fun y M2 h2 => ?_)))
  have h2 : (Sum.inl y : mj_V) = .inl (F_letter (mS M1) v1).1 ∧ mS M2 = (F_letter (mS M1) v1).2 ∧ fr1 M1 M2 := h2
  obtain ⟨e1, e2, e3⟩ := lw_two (G := fun σ => F_letter σ v1) hc h1 h2 (k_letter hd _)
  exact lw_end e1 (nxt M2 e2 e3)
theorem lw_c211 {N : Nat} {i v1 v2 v3 : Int32} {xs : Nat → Int32} {V : Nat → mj_L → mj_S → mj_M → Prop} (b : ∀ (L : mj_L) (st : mj_S) (M : mj_M), mj_W lw_it 3 (true, N, xs) V (fun v _ => v = .inl 1) k_L_law_211 224 L st M → V 211 L st M) {M : mj_M} (a1 : lw_A N xs i 1 v1) (a2 : lw_A N xs i 2 v2) (a3 : lw_A N xs i 3 v3) (hc : cS M = mS M) (hd : dS (mS M)) (nxt : ∀ M2 : mj_M, cS M2 = mS M2 → dS (mS M2) → V 1123 (lw_L i) [] M2) : V 211 (lw_L i) [] M := by
  have hdc : dS (cS M) := by rw [hc]; exact hd
  refine b _ _ _ (lw_o1 (lw_call (avs := [.inr 60]) (r := []) lw_l54 rfl (fun f h => h) (Nat.zero_le 8) (show 60 = 60 ∧ dS (cS M) from ⟨rfl, hdc⟩) (fun x M1 h1 => ?_)))
  have h1 : (Sum.inl x : mj_V) = .inl (F_room (cS M)).1 ∧ cS M1 = (F_room (cS M)).2 ∧ fr2 M M1 := h1
  have hdm : dS (mS M1) := by rw [mS_f2 h1.2.2]; exact hd
  refine lw_o2 (lw_call (avs := [.inr 63]) (r := [.inl x]) lw_l66 rfl (fun f h => h) (show 1 ≤ 8 by decide) (show 63 = 63 ∧ dS (mS M1) from ⟨rfl, hdm⟩) (fun y M2 h2 => ?_))
  have h2 : (Sum.inl y : mj_V) = .inl (F_room (mS M1)).1 ∧ mS M2 = (F_room (mS M1)).2 ∧ fr1 M1 M2 := h2
  obtain ⟨e1, e2, e3⟩ := lw_two (G := fun σ => F_room σ ) hc h1 h2 (k_room hd)
  exact lw_end e1 (nxt M2 e2 e3)
theorem lw_c224 {N : Nat} {i v1 v2 v3 : Int32} {xs : Nat → Int32} {V : Nat → mj_L → mj_S → mj_M → Prop} (b : ∀ (L : mj_L) (st : mj_S) (M : mj_M), mj_W lw_it 3 (true, N, xs) V (fun v _ => v = .inl 1) k_L_law_224 257 L st M → V 224 L st M) {M : mj_M} (a1 : lw_A N xs i 1 v1) (a2 : lw_A N xs i 2 v2) (a3 : lw_A N xs i 3 v3) (hc : cS M = mS M) (hd : dS (mS M)) (nxt : ∀ M2 : mj_M, cS M2 = mS M2 → dS (mS M2) → V 1123 (lw_L i) [] M2) : V 224 (lw_L i) [] M := by
  have hdc : dS (cS M) := by rw [hc]; exact hd
  refine b _ _ _ (lw_o1 (lw_arg a1 (lw_arg a2 (lw_call (avs := [.inr 60, .inl v1, .inl v2]) (r := []) lw_l69 rfl (fun f h => h) (Nat.zero_le 8) (show 60 = 60 ∧ dS (cS M) from ⟨rfl, hdc⟩) (fun x M1 h1 => ?_)))))
  have h1 : (Sum.inl x : mj_V) = .inl (F_sleeper (cS M) v1 v2).1 ∧ cS M1 = (F_sleeper (cS M) v1 v2).2 ∧ fr2 M M1 := h1
  have hdm : dS (mS M1) := by rw [mS_f2 h1.2.2]; exact hd
  refine lw_o2 (lw_arg a1 (lw_arg a2 (lw_call (avs := [.inr 63, .inl v1, .inl v2]) (r := [.inl x]) lw_l81 rfl (fun f h => h) (show 1 ≤ 8 by decide) (show 63 = 63 ∧ dS (mS M1) from ⟨rfl, hdm⟩) (fun y M2 h2 => ?_))))
  have h2 : (Sum.inl y : mj_V) = .inl (F_sleeper (mS M1) v1 v2).1 ∧ mS M2 = (F_sleeper (mS M1) v1 v2).2 ∧ fr1 M1 M2 := h2
  obtain ⟨e1, e2, e3⟩ := lw_two (G := fun σ => F_sleeper σ v1 v2) hc h1 h2 (kF hd)
  exact lw_end e1 (nxt M2 e2 e3)
theorem lw_c257 {N : Nat} {i v1 v2 v3 : Int32} {xs : Nat → Int32} {V : Nat → mj_L → mj_S → mj_M → Prop} (b : ∀ (L : mj_L) (st : mj_S) (M : mj_M), mj_W lw_it 3 (true, N, xs) V (fun v _ => v = .inl 1) k_L_law_257 290 L st M → V 257 L st M) {M : mj_M} (a1 : lw_A N xs i 1 v1) (a2 : lw_A N xs i 2 v2) (a3 : lw_A N xs i 3 v3) (hc : cS M = mS M) (hd : dS (mS M)) (nxt : ∀ M2 : mj_M, cS M2 = mS M2 → dS (mS M2) → V 1123 (lw_L i) [] M2) : V 257 (lw_L i) [] M := by
  have hdc : dS (cS M) := by rw [hc]; exact hd
  refine b _ _ _ (lw_o1 (lw_arg a1 (lw_arg a2 (lw_call (avs := [.inr 60, .inl v1, .inl v2]) (r := []) lw_l84 rfl (fun f h => h) (Nat.zero_le 8) (show 60 = 60 ∧ dS (cS M) from ⟨rfl, hdc⟩) (fun x M1 h1 => ?_)))))
  have h1 : (Sum.inl x : mj_V) = .inl (F_clock (cS M) v1 v2).1 ∧ cS M1 = (F_clock (cS M) v1 v2).2 ∧ fr2 M M1 := h1
  have hdm : dS (mS M1) := by rw [mS_f2 h1.2.2]; exact hd
  refine lw_o2 (lw_arg a1 (lw_arg a2 (lw_call (avs := [.inr 63, .inl v1, .inl v2]) (r := [.inl x]) lw_l93 rfl (fun f h => h) (show 1 ≤ 8 by decide) (show 63 = 63 ∧ dS (mS M1) from ⟨rfl, hdm⟩) (fun y M2 h2 => ?_))))
  have h2 : (Sum.inl y : mj_V) = .inl (F_clock (mS M1) v1 v2).1 ∧ mS M2 = (F_clock (mS M1) v1 v2).2 ∧ fr1 M1 M2 := h2
  obtain ⟨e1, e2, e3⟩ := lw_two (G := fun σ => F_clock σ v1 v2) hc h1 h2 (kF hd)
  exact lw_end e1 (nxt M2 e2 e3)
theorem lw_c290 {N : Nat} {i v1 v2 v3 : Int32} {xs : Nat → Int32} {V : Nat → mj_L → mj_S → mj_M → Prop} (b : ∀ (L : mj_L) (st : mj_S) (M : mj_M), mj_W lw_it 3 (true, N, xs) V (fun v _ => v = .inl 1) k_L_law_290 323 L st M → V 290 L st M) {M : mj_M} (a1 : lw_A N xs i 1 v1) (a2 : lw_A N xs i 2 v2) (a3 : lw_A N xs i 3 v3) (hc : cS M = mS M) (hd : dS (mS M)) (nxt : ∀ M2 : mj_M, cS M2 = mS M2 → dS (mS M2) → V 1123 (lw_L i) [] M2) : V 290 (lw_L i) [] M := by
  have hdc : dS (cS M) := by rw [hc]; exact hd
  refine b _ _ _ (lw_o1 (lw_arg a1 (lw_arg a2 (lw_call (avs := [.inr 60, .inl v1, .inl v2]) (r := []) lw_l96 rfl (fun f h => h) (Nat.zero_le 8) (show 60 = 60 ∧ dS (cS M) from ⟨rfl, hdc⟩) (fun x M1 h1 => ?_)))))
  have h1 : (Sum.inl x : mj_V) = .inl (F_task (cS M) v1 v2).1 ∧ cS M1 = (F_task (cS M) v1 v2).2 ∧ fr2 M M1 := h1
  have hdm : dS (mS M1) := by rw [mS_f2 h1.2.2]; exact hd
  refine lw_o2 (lw_arg a1 (lw_arg a2 (lw_call (avs := [.inr 63, .inl v1, .inl v2]) (r := [.inl x]) lw_l105 rfl (fun f h => h) (show 1 ≤ 8 by decide) (show 63 = 63 ∧ dS (mS M1) from ⟨rfl, hdm⟩) (fun y M2 h2 => ?_))))
  have h2 : (Sum.inl y : mj_V) = .inl (F_task (mS M1) v1 v2).1 ∧ mS M2 = (F_task (mS M1) v1 v2).2 ∧ fr1 M1 M2 := h2
  obtain ⟨e1, e2, e3⟩ := lw_two (G := fun σ => F_task σ v1 v2) hc h1 h2 (kF hd)
  exact lw_end e1 (nxt M2 e2 e3)
theorem lw_c323 {N : Nat} {i v1 v2 v3 : Int32} {xs : Nat → Int32} {V : Nat → mj_L → mj_S → mj_M → Prop} (b : ∀ (L : mj_L) (st : mj_S) (M : mj_M), mj_W lw_it 3 (true, N, xs) V (fun v _ => v = .inl 1) k_L_law_323 356 L st M → V 323 L st M) {M : mj_M} (a1 : lw_A N xs i 1 v1) (a2 : lw_A N xs i 2 v2) (a3 : lw_A N xs i 3 v3) (hc : cS M = mS M) (hd : dS (mS M)) (nxt : ∀ M2 : mj_M, cS M2 = mS M2 → dS (mS M2) → V 1123 (lw_L i) [] M2) : V 323 (lw_L i) [] M := by
  have hdc : dS (cS M) := by rw [hc]; exact hd
  refine b _ _ _ (lw_o1 (lw_arg a1 (lw_arg a2 (lw_call (avs := [.inr 60, .inl v1, .inl v2]) (r := []) lw_l108 rfl (fun f h => h) (Nat.zero_le 8) (show 60 = 60 ∧ dS (cS M) from ⟨rfl, hdc⟩) (fun x M1 h1 => ?_)))))
  have h1 : (Sum.inl x : mj_V) = .inl (F_set (cS M) v1 v2).1 ∧ cS M1 = (F_set (cS M) v1 v2).2 ∧ fr2 M M1 := h1
  have hdm : dS (mS M1) := by rw [mS_f2 h1.2.2]; exact hd
  refine lw_o2 (lw_arg a1 (lw_arg a2 (lw_call (avs := [.inr 63, .inl v1, .inl v2]) (r := [.inl x]) lw_l117 rfl (fun f h => h) (show 1 ≤ 8 by decide) (show 63 = 63 ∧ dS (mS M1) from ⟨rfl, hdm⟩) (fun y M2 h2 => ?_))))
  have h2 : (Sum.inl y : mj_V) = .inl (F_set (mS M1) v1 v2).1 ∧ mS M2 = (F_set (mS M1) v1 v2).2 ∧ fr1 M1 M2 := h2
  obtain ⟨e1, e2, e3⟩ := lw_two (G := fun σ => F_set σ v1 v2) hc h1 h2 (k_set hd _ _)
  exact lw_end e1 (nxt M2 e2 e3)
theorem lw_c356 {N : Nat} {i v1 v2 v3 : Int32} {xs : Nat → Int32} {V : Nat → mj_L → mj_S → mj_M → Prop} (b : ∀ (L : mj_L) (st : mj_S) (M : mj_M), mj_W lw_it 3 (true, N, xs) V (fun v _ => v = .inl 1) k_L_law_356 389 L st M → V 356 L st M) {M : mj_M} (a1 : lw_A N xs i 1 v1) (a2 : lw_A N xs i 2 v2) (a3 : lw_A N xs i 3 v3) (hc : cS M = mS M) (hd : dS (mS M)) (nxt : ∀ M2 : mj_M, cS M2 = mS M2 → dS (mS M2) → V 1123 (lw_L i) [] M2) : V 356 (lw_L i) [] M := by
  have hdc : dS (cS M) := by rw [hc]; exact hd
  refine b _ _ _ (lw_o1 (lw_arg a1 (lw_arg a2 (lw_call (avs := [.inr 60, .inl v1, .inl v2]) (r := []) lw_l120 rfl (fun f h => h) (Nat.zero_le 8) (show 60 = 60 ∧ dS (cS M) from ⟨rfl, hdc⟩) (fun x M1 h1 => ?_)))))
  have h1 : (Sum.inl x : mj_V) = .inl (F_every (cS M) v1 v2).1 ∧ cS M1 = (F_every (cS M) v1 v2).2 ∧ fr2 M M1 := h1
  have hdm : dS (mS M1) := by rw [mS_f2 h1.2.2]; exact hd
  refine lw_o2 (lw_arg a1 (lw_arg a2 (lw_call (avs := [.inr 63, .inl v1, .inl v2]) (r := [.inl x]) lw_l129 rfl (fun f h => h) (show 1 ≤ 8 by decide) (show 63 = 63 ∧ dS (mS M1) from ⟨rfl, hdm⟩) (fun y M2 h2 => ?_))))
  have h2 : (Sum.inl y : mj_V) = .inl (F_every (mS M1) v1 v2).1 ∧ mS M2 = (F_every (mS M1) v1 v2).2 ∧ fr1 M1 M2 := h2
  obtain ⟨e1, e2, e3⟩ := lw_two (G := fun σ => F_every σ v1 v2) hc h1 h2 (k_every hd _ _)
  exact lw_end e1 (nxt M2 e2 e3)
theorem lw_c389 {N : Nat} {i v1 v2 v3 : Int32} {xs : Nat → Int32} {V : Nat → mj_L → mj_S → mj_M → Prop} (b : ∀ (L : mj_L) (st : mj_S) (M : mj_M), mj_W lw_it 3 (true, N, xs) V (fun v _ => v = .inl 1) k_L_law_389 412 L st M → V 389 L st M) {M : mj_M} (a1 : lw_A N xs i 1 v1) (a2 : lw_A N xs i 2 v2) (a3 : lw_A N xs i 3 v3) (hc : cS M = mS M) (hd : dS (mS M)) (nxt : ∀ M2 : mj_M, cS M2 = mS M2 → dS (mS M2) → V 1123 (lw_L i) [] M2) : V 389 (lw_L i) [] M := by
  have hdc : dS (cS M) := by rw [hc]; exact hd
  refine b _ _ _ (lw_o1 (lw_arg a1 (lw_call (avs := [.inr 60, .inl v1]) (r := []) lw_l132 rfl (fun f h => h) (Nat.zero_le 8) (show 60 = 60 ∧ dS (cS M) from ⟨rfl, hdc⟩) (fun x M1 h1 => ?_))))
  have h1 : (Sum.inl x : mj_V) = .inl (F_firm (cS M) v1).1 ∧ cS M1 = (F_firm (cS M) v1).2 ∧ fr2 M M1 := h1
  have hdm : dS (mS M1) := by rw [mS_f2 h1.2.2]; exact hd
  refine lw_o2 (lw_arg a1 (lw_call (avs := [.inr 63, .inl v1]) (r := [.inl x]) lw_l141 rfl (fun f h => h) (show 1 ≤ 8 by decide) (show 63 = 63 ∧ dS (mS M1) from ⟨rfl, hdm⟩) (fun y M2 h2 => ?_)))
  have h2 : (Sum.inl y : mj_V) = .inl (F_firm (mS M1) v1).1 ∧ mS M2 = (F_firm (mS M1) v1).2 ∧ fr1 M1 M2 := h2
  obtain ⟨e1, e2, e3⟩ := lw_two (G := fun σ => F_firm σ v1) hc h1 h2 (k_firm hd _)
  exact lw_end e1 (nxt M2 e2 e3)
theorem lw_c412 {N : Nat} {i v1 v2 v3 : Int32} {xs : Nat → Int32} {V : Nat → mj_L → mj_S → mj_M → Prop} (b : ∀ (L : mj_L) (st : mj_S) (M : mj_M), mj_W lw_it 3 (true, N, xs) V (fun v _ => v = .inl 1) k_L_law_412 435 L st M → V 412 L st M) {M : mj_M} (a1 : lw_A N xs i 1 v1) (a2 : lw_A N xs i 2 v2) (a3 : lw_A N xs i 3 v3) (hc : cS M = mS M) (hd : dS (mS M)) (nxt : ∀ M2 : mj_M, cS M2 = mS M2 → dS (mS M2) → V 1123 (lw_L i) [] M2) : V 412 (lw_L i) [] M := by
  have hdc : dS (cS M) := by rw [hc]; exact hd
  refine b _ _ _ (lw_o1 (lw_arg a1 (lw_call (avs := [.inr 60, .inl v1]) (r := []) lw_l144 rfl (fun f h => h) (Nat.zero_le 8) (show 60 = 60 ∧ dS (cS M) from ⟨rfl, hdc⟩) (fun x M1 h1 => ?_))))
  have h1 : (Sum.inl x : mj_V) = .inl (F_bus (cS M) v1).1 ∧ cS M1 = (F_bus (cS M) v1).2 ∧ fr2 M M1 := h1
  have hdm : dS (mS M1) := by rw [mS_f2 h1.2.2]; exact hd
  refine lw_o2 (lw_arg a1 (lw_call (avs := [.inr 63, .inl v1]) (r := [.inl x]) lw_l153 rfl (fun f h => h) (show 1 ≤ 8 by decide) (show 63 = 63 ∧ dS (mS M1) from ⟨rfl, hdm⟩) (fun y M2 h2 => ?_)))
  have h2 : (Sum.inl y : mj_V) = .inl (F_bus (mS M1) v1).1 ∧ mS M2 = (F_bus (mS M1) v1).2 ∧ fr1 M1 M2 := h2
  obtain ⟨e1, e2, e3⟩ := lw_two (G := fun σ => F_bus σ v1) hc h1 h2 (k_bus hd _)
  exact lw_end e1 (nxt M2 e2 e3)
theorem lw_c435 {N : Nat} {i v1 v2 v3 : Int32} {xs : Nat → Int32} {V : Nat → mj_L → mj_S → mj_M → Prop} (b : ∀ (L : mj_L) (st : mj_S) (M : mj_M), mj_W lw_it 3 (true, N, xs) V (fun v _ => v = .inl 1) k_L_law_435 458 L st M → V 435 L st M) {M : mj_M} (a1 : lw_A N xs i 1 v1) (a2 : lw_A N xs i 2 v2) (a3 : lw_A N xs i 3 v3) (hc : cS M = mS M) (hd : dS (mS M)) (nxt : ∀ M2 : mj_M, cS M2 = mS M2 → dS (mS M2) → V 1123 (lw_L i) [] M2) : V 435 (lw_L i) [] M := by
  have hdc : dS (cS M) := by rw [hc]; exact hd
  refine b _ _ _ (lw_o1 (lw_arg a1 (lw_call (avs := [.inr 60, .inl v1]) (r := []) lw_l156 rfl (fun f h => h) (Nat.zero_le 8) (show 60 = 60 ∧ dS (cS M) from ⟨rfl, hdc⟩) (fun x M1 h1 => ?_))))
  have h1 : (Sum.inl x : mj_V) = .inl (F_tired (cS M) v1).1 ∧ cS M1 = (F_tired (cS M) v1).2 ∧ fr2 M M1 := h1
  have hdm : dS (mS M1) := by rw [mS_f2 h1.2.2]; exact hd
  refine lw_o2 (lw_arg a1 (lw_call (avs := [.inr 63, .inl v1]) (r := [.inl x]) lw_l165 rfl (fun f h => h) (show 1 ≤ 8 by decide) (show 63 = 63 ∧ dS (mS M1) from ⟨rfl, hdm⟩) (fun y M2 h2 => ?_)))
  have h2 : (Sum.inl y : mj_V) = .inl (F_tired (mS M1) v1).1 ∧ mS M2 = (F_tired (mS M1) v1).2 ∧ fr1 M1 M2 := h2
  obtain ⟨e1, e2, e3⟩ := lw_two (G := fun σ => F_tired σ v1) hc h1 h2 (k_tired hd _)
  exact lw_end e1 (nxt M2 e2 e3)
theorem lw_c458 {N : Nat} {i v1 v2 v3 : Int32} {xs : Nat → Int32} {V : Nat → mj_L → mj_S → mj_M → Prop} (b : ∀ (L : mj_L) (st : mj_S) (M : mj_M), mj_W lw_it 3 (true, N, xs) V (fun v _ => v = .inl 1) k_L_law_458 471 L st M → V 458 L st M) {M : mj_M} (a1 : lw_A N xs i 1 v1) (a2 : lw_A N xs i 2 v2) (a3 : lw_A N xs i 3 v3) (hc : cS M = mS M) (hd : dS (mS M)) (nxt : ∀ M2 : mj_M, cS M2 = mS M2 → dS (mS M2) → V 1123 (lw_L i) [] M2) : V 458 (lw_L i) [] M := by
  have hdc : dS (cS M) := by rw [hc]; exact hd
  refine b _ _ _ (lw_o1 (lw_call (avs := [.inr 60]) (r := []) lw_l168 rfl (fun f h => h) (Nat.zero_le 8) (show 60 = 60 ∧ dS (cS M) from ⟨rfl, hdc⟩) (fun x M1 h1 => ?_)))
  have h1 : (Sum.inl x : mj_V) = .inl (F_night (cS M)).1 ∧ cS M1 = (F_night (cS M)).2 ∧ fr2 M M1 := h1
  have hdm : dS (mS M1) := by rw [mS_f2 h1.2.2]; exact hd
  refine lw_o2 (lw_call (avs := [.inr 63]) (r := [.inl x]) lw_l177 rfl (fun f h => h) (show 1 ≤ 8 by decide) (show 63 = 63 ∧ dS (mS M1) from ⟨rfl, hdm⟩) (fun y M2 h2 => ?_))
  have h2 : (Sum.inl y : mj_V) = .inl (F_night (mS M1)).1 ∧ mS M2 = (F_night (mS M1)).2 ∧ fr1 M1 M2 := h2
  obtain ⟨e1, e2, e3⟩ := lw_two (G := fun σ => F_night σ ) hc h1 h2 (k_night hd)
  exact lw_end e1 (nxt M2 e2 e3)
theorem lw_c471 {N : Nat} {i v1 v2 v3 : Int32} {xs : Nat → Int32} {V : Nat → mj_L → mj_S → mj_M → Prop} (b : ∀ (L : mj_L) (st : mj_S) (M : mj_M), mj_W lw_it 3 (true, N, xs) V (fun v _ => v = .inl 1) k_L_law_471 504 L st M → V 471 L st M) {M : mj_M} (a1 : lw_A N xs i 1 v1) (a2 : lw_A N xs i 2 v2) (a3 : lw_A N xs i 3 v3) (hc : cS M = mS M) (hd : dS (mS M)) (nxt : ∀ M2 : mj_M, cS M2 = mS M2 → dS (mS M2) → V 1123 (lw_L i) [] M2) : V 471 (lw_L i) [] M := by
  have hdc : dS (cS M) := by rw [hc]; exact hd
  refine b _ _ _ (lw_o1 (lw_arg a1 (lw_arg a2 (lw_call (avs := [.inr 60, .inl v1, .inl v2]) (r := []) lw_l180 rfl (fun f h => h) (Nat.zero_le 8) (show 60 = 60 ∧ dS (cS M) from ⟨rfl, hdc⟩) (fun x M1 h1 => ?_)))))
  have h1 : (Sum.inl x : mj_V) = .inl (F_depth (cS M) v1 v2).1 ∧ cS M1 = (F_depth (cS M) v1 v2).2 ∧ fr2 M M1 := h1
  have hdm : dS (mS M1) := by rw [mS_f2 h1.2.2]; exact hd
  refine lw_o2 (lw_arg a1 (lw_arg a2 (lw_call (avs := [.inr 63, .inl v1, .inl v2]) (r := [.inl x]) lw_l189 rfl (fun f h => h) (show 1 ≤ 8 by decide) (show 63 = 63 ∧ dS (mS M1) from ⟨rfl, hdm⟩) (fun y M2 h2 => ?_))))
  have h2 : (Sum.inl y : mj_V) = .inl (F_depth (mS M1) v1 v2).1 ∧ mS M2 = (F_depth (mS M1) v1 v2).2 ∧ fr1 M1 M2 := h2
  obtain ⟨e1, e2, e3⟩ := lw_two (G := fun σ => F_depth σ v1 v2) hc h1 h2 (kF hd)
  exact lw_end e1 (nxt M2 e2 e3)
theorem lw_c504 {N : Nat} {i v1 v2 v3 : Int32} {xs : Nat → Int32} {V : Nat → mj_L → mj_S → mj_M → Prop} (b : ∀ (L : mj_L) (st : mj_S) (M : mj_M), mj_W lw_it 3 (true, N, xs) V (fun v _ => v = .inl 1) k_L_law_504 527 L st M → V 504 L st M) {M : mj_M} (a1 : lw_A N xs i 1 v1) (a2 : lw_A N xs i 2 v2) (a3 : lw_A N xs i 3 v3) (hc : cS M = mS M) (hd : dS (mS M)) (nxt : ∀ M2 : mj_M, cS M2 = mS M2 → dS (mS M2) → V 1123 (lw_L i) [] M2) : V 504 (lw_L i) [] M := by
  have hdc : dS (cS M) := by rw [hc]; exact hd
  refine b _ _ _ (lw_o1 (lw_arg a1 (lw_call (avs := [.inr 60, .inl v1]) (r := []) lw_l192 rfl (fun f h => h) (Nat.zero_le 8) (show 60 = 60 ∧ dS (cS M) from ⟨rfl, hdc⟩) (fun x M1 h1 => ?_))))
  have h1 : (Sum.inl x : mj_V) = .inl (F_up (cS M) v1).1 ∧ cS M1 = (F_up (cS M) v1).2 ∧ fr2 M M1 := h1
  have hdm : dS (mS M1) := by rw [mS_f2 h1.2.2]; exact hd
  refine lw_o2 (lw_arg a1 (lw_call (avs := [.inr 63, .inl v1]) (r := [.inl x]) lw_l201 rfl (fun f h => h) (show 1 ≤ 8 by decide) (show 63 = 63 ∧ dS (mS M1) from ⟨rfl, hdm⟩) (fun y M2 h2 => ?_)))
  have h2 : (Sum.inl y : mj_V) = .inl (F_up (mS M1) v1).1 ∧ mS M2 = (F_up (mS M1) v1).2 ∧ fr1 M1 M2 := h2
  obtain ⟨e1, e2, e3⟩ := lw_two (G := fun σ => F_up σ v1) hc h1 h2 (kF hd)
  exact lw_end e1 (nxt M2 e2 e3)
theorem lw_c527 {N : Nat} {i v1 v2 v3 : Int32} {xs : Nat → Int32} {V : Nat → mj_L → mj_S → mj_M → Prop} (b : ∀ (L : mj_L) (st : mj_S) (M : mj_M), mj_W lw_it 3 (true, N, xs) V (fun v _ => v = .inl 1) k_L_law_527 550 L st M → V 527 L st M) {M : mj_M} (a1 : lw_A N xs i 1 v1) (a2 : lw_A N xs i 2 v2) (a3 : lw_A N xs i 3 v3) (hc : cS M = mS M) (hd : dS (mS M)) (nxt : ∀ M2 : mj_M, cS M2 = mS M2 → dS (mS M2) → V 1123 (lw_L i) [] M2) : V 527 (lw_L i) [] M := by
  have hdc : dS (cS M) := by rw [hc]; exact hd
  refine b _ _ _ (lw_o1 (lw_arg a1 (lw_call (avs := [.inr 60, .inl v1]) (r := []) lw_l204 rfl (fun f h => h) (Nat.zero_le 8) (show 60 = 60 ∧ dS (cS M) from ⟨rfl, hdc⟩) (fun x M1 h1 => ?_))))
  have h1 : (Sum.inl x : mj_V) = .inl (F_presses (cS M) v1).1 ∧ cS M1 = (F_presses (cS M) v1).2 ∧ fr2 M M1 := h1
  have hdm : dS (mS M1) := by rw [mS_f2 h1.2.2]; exact hd
  refine lw_o2 (lw_arg a1 (lw_call (avs := [.inr 63, .inl v1]) (r := [.inl x]) lw_l213 rfl (fun f h => h) (show 1 ≤ 8 by decide) (show 63 = 63 ∧ dS (mS M1) from ⟨rfl, hdm⟩) (fun y M2 h2 => ?_)))
  have h2 : (Sum.inl y : mj_V) = .inl (F_presses (mS M1) v1).1 ∧ mS M2 = (F_presses (mS M1) v1).2 ∧ fr1 M1 M2 := h2
  obtain ⟨e1, e2, e3⟩ := lw_two (G := fun σ => F_presses σ v1) hc h1 h2 (kF hd)
  exact lw_end e1 (nxt M2 e2 e3)
theorem lw_c550 {N : Nat} {i v1 v2 v3 : Int32} {xs : Nat → Int32} {V : Nat → mj_L → mj_S → mj_M → Prop} (b : ∀ (L : mj_L) (st : mj_S) (M : mj_M), mj_W lw_it 3 (true, N, xs) V (fun v _ => v = .inl 1) k_L_law_550 573 L st M → V 550 L st M) {M : mj_M} (a1 : lw_A N xs i 1 v1) (a2 : lw_A N xs i 2 v2) (a3 : lw_A N xs i 3 v3) (hc : cS M = mS M) (hd : dS (mS M)) (nxt : ∀ M2 : mj_M, cS M2 = mS M2 → dS (mS M2) → V 1123 (lw_L i) [] M2) : V 550 (lw_L i) [] M := by
  have hdc : dS (cS M) := by rw [hc]; exact hd
  refine b _ _ _ (lw_o1 (lw_arg a1 (lw_call (avs := [.inr 60, .inl v1]) (r := []) lw_l216 rfl (fun f h => h) (Nat.zero_le 8) (show 60 = 60 ∧ dS (cS M) from ⟨rfl, hdc⟩) (fun x M1 h1 => ?_))))
  have h1 : (Sum.inl x : mj_V) = .inl (F_slept (cS M) v1).1 ∧ cS M1 = (F_slept (cS M) v1).2 ∧ fr2 M M1 := h1
  have hdm : dS (mS M1) := by rw [mS_f2 h1.2.2]; exact hd
  refine lw_o2 (lw_arg a1 (lw_call (avs := [.inr 63, .inl v1]) (r := [.inl x]) lw_l225 rfl (fun f h => h) (show 1 ≤ 8 by decide) (show 63 = 63 ∧ dS (mS M1) from ⟨rfl, hdm⟩) (fun y M2 h2 => ?_)))
  have h2 : (Sum.inl y : mj_V) = .inl (F_slept (mS M1) v1).1 ∧ mS M2 = (F_slept (mS M1) v1).2 ∧ fr1 M1 M2 := h2
  obtain ⟨e1, e2, e3⟩ := lw_two (G := fun σ => F_slept σ v1) hc h1 h2 (kF hd)
  exact lw_end e1 (nxt M2 e2 e3)
theorem lw_c573 {N : Nat} {i v1 v2 v3 : Int32} {xs : Nat → Int32} {V : Nat → mj_L → mj_S → mj_M → Prop} (b : ∀ (L : mj_L) (st : mj_S) (M : mj_M), mj_W lw_it 3 (true, N, xs) V (fun v _ => v = .inl 1) k_L_law_573 606 L st M → V 573 L st M) {M : mj_M} (a1 : lw_A N xs i 1 v1) (a2 : lw_A N xs i 2 v2) (a3 : lw_A N xs i 3 v3) (hc : cS M = mS M) (hd : dS (mS M)) (nxt : ∀ M2 : mj_M, cS M2 = mS M2 → dS (mS M2) → V 1123 (lw_L i) [] M2) : V 573 (lw_L i) [] M := by
  have hdc : dS (cS M) := by rw [hc]; exact hd
  refine b _ _ _ (lw_o1 (lw_arg a1 (lw_arg a2 (lw_call (avs := [.inr 60, .inl v1, .inl v2]) (r := []) lw_l228 rfl (fun f h => h) (Nat.zero_le 8) (show 60 = 60 ∧ dS (cS M) from ⟨rfl, hdc⟩) (fun x M1 h1 => ?_)))))
  have h1 : (Sum.inl x : mj_V) = .inl (F_done (cS M) v1 v2).1 ∧ cS M1 = (F_done (cS M) v1 v2).2 ∧ fr2 M M1 := h1
  have hdm : dS (mS M1) := by rw [mS_f2 h1.2.2]; exact hd
  refine lw_o2 (lw_arg a1 (lw_arg a2 (lw_call (avs := [.inr 63, .inl v1, .inl v2]) (r := [.inl x]) lw_l237 rfl (fun f h => h) (show 1 ≤ 8 by decide) (show 63 = 63 ∧ dS (mS M1) from ⟨rfl, hdm⟩) (fun y M2 h2 => ?_))))
  have h2 : (Sum.inl y : mj_V) = .inl (F_done (mS M1) v1 v2).1 ∧ mS M2 = (F_done (mS M1) v1 v2).2 ∧ fr1 M1 M2 := h2
  obtain ⟨e1, e2, e3⟩ := lw_two (G := fun σ => F_done σ v1 v2) hc h1 h2 (kF hd)
  exact lw_end e1 (nxt M2 e2 e3)
theorem lw_c606 {N : Nat} {i v1 v2 v3 : Int32} {xs : Nat → Int32} {V : Nat → mj_L → mj_S → mj_M → Prop} (b : ∀ (L : mj_L) (st : mj_S) (M : mj_M), mj_W lw_it 3 (true, N, xs) V (fun v _ => v = .inl 1) k_L_law_606 629 L st M → V 606 L st M) {M : mj_M} (a1 : lw_A N xs i 1 v1) (a2 : lw_A N xs i 2 v2) (a3 : lw_A N xs i 3 v3) (hc : cS M = mS M) (hd : dS (mS M)) (nxt : ∀ M2 : mj_M, cS M2 = mS M2 → dS (mS M2) → V 1123 (lw_L i) [] M2) : V 606 (lw_L i) [] M := by
  have hdc : dS (cS M) := by rw [hc]; exact hd
  refine b _ _ _ (lw_o1 (lw_arg a1 (lw_call (avs := [.inr 60, .inl v1]) (r := []) lw_l240 rfl (fun f h => h) (Nat.zero_le 8) (show 60 = 60 ∧ dS (cS M) from ⟨rfl, hdc⟩) (fun x M1 h1 => ?_))))
  have h1 : (Sum.inl x : mj_V) = .inl (F_value (cS M) v1).1 ∧ cS M1 = (F_value (cS M) v1).2 ∧ fr2 M M1 := h1
  have hdm : dS (mS M1) := by rw [mS_f2 h1.2.2]; exact hd
  refine lw_o2 (lw_arg a1 (lw_call (avs := [.inr 63, .inl v1]) (r := [.inl x]) lw_l249 rfl (fun f h => h) (show 1 ≤ 8 by decide) (show 63 = 63 ∧ dS (mS M1) from ⟨rfl, hdm⟩) (fun y M2 h2 => ?_)))
  have h2 : (Sum.inl y : mj_V) = .inl (F_value (mS M1) v1).1 ∧ mS M2 = (F_value (mS M1) v1).2 ∧ fr1 M1 M2 := h2
  obtain ⟨e1, e2, e3⟩ := lw_two (G := fun σ => F_value σ v1) hc h1 h2 (kV hd)
  exact lw_end e1 (nxt M2 e2 e3)
theorem lw_c629 {N : Nat} {i v1 v2 v3 : Int32} {xs : Nat → Int32} {V : Nat → mj_L → mj_S → mj_M → Prop} (b : ∀ (L : mj_L) (st : mj_S) (M : mj_M), mj_W lw_it 3 (true, N, xs) V (fun v _ => v = .inl 1) k_L_law_629 652 L st M → V 629 L st M) {M : mj_M} (a1 : lw_A N xs i 1 v1) (a2 : lw_A N xs i 2 v2) (a3 : lw_A N xs i 3 v3) (hc : cS M = mS M) (hd : dS (mS M)) (nxt : ∀ M2 : mj_M, cS M2 = mS M2 → dS (mS M2) → V 1123 (lw_L i) [] M2) : V 629 (lw_L i) [] M := by
  have hdc : dS (cS M) := by rw [hc]; exact hd
  refine b _ _ _ (lw_o1 (lw_arg a1 (lw_call (avs := [.inr 60, .inl v1]) (r := []) lw_l252 rfl (fun f h => h) (Nat.zero_le 8) (show 60 = 60 ∧ dS (cS M) from ⟨rfl, hdc⟩) (fun x M1 h1 => ?_))))
  have h1 : (Sum.inl x : mj_V) = .inl (F_cost (cS M) v1).1 ∧ cS M1 = (F_cost (cS M) v1).2 ∧ fr2 M M1 := h1
  have hdm : dS (mS M1) := by rw [mS_f2 h1.2.2]; exact hd
  refine lw_o2 (lw_arg a1 (lw_call (avs := [.inr 63, .inl v1]) (r := [.inl x]) lw_l261 rfl (fun f h => h) (show 1 ≤ 8 by decide) (show 63 = 63 ∧ dS (mS M1) from ⟨rfl, hdm⟩) (fun y M2 h2 => ?_)))
  have h2 : (Sum.inl y : mj_V) = .inl (F_cost (mS M1) v1).1 ∧ mS M2 = (F_cost (mS M1) v1).2 ∧ fr1 M1 M2 := h2
  obtain ⟨e1, e2, e3⟩ := lw_two (G := fun σ => F_cost σ v1) hc h1 h2 (kV hd)
  exact lw_end e1 (nxt M2 e2 e3)
theorem lw_c652 {N : Nat} {i v1 v2 v3 : Int32} {xs : Nat → Int32} {V : Nat → mj_L → mj_S → mj_M → Prop} (b : ∀ (L : mj_L) (st : mj_S) (M : mj_M), mj_W lw_it 3 (true, N, xs) V (fun v _ => v = .inl 1) k_L_law_652 685 L st M → V 652 L st M) {M : mj_M} (a1 : lw_A N xs i 1 v1) (a2 : lw_A N xs i 2 v2) (a3 : lw_A N xs i 3 v3) (hc : cS M = mS M) (hd : dS (mS M)) (nxt : ∀ M2 : mj_M, cS M2 = mS M2 → dS (mS M2) → V 1123 (lw_L i) [] M2) : V 652 (lw_L i) [] M := by
  have hdc : dS (cS M) := by rw [hc]; exact hd
  refine b _ _ _ (lw_o1 (lw_arg a1 (lw_arg a2 (lw_call (avs := [.inr 60, .inl v1, .inl v2]) (r := []) lw_l264 rfl (fun f h => h) (Nat.zero_le 8) (show 60 = 60 ∧ dS (cS M) from ⟨rfl, hdc⟩) (fun x M1 h1 => ?_)))))
  have h1 : (Sum.inl x : mj_V) = .inl (F_evening (cS M) v1 v2).1 ∧ cS M1 = (F_evening (cS M) v1 v2).2 ∧ fr2 M M1 := h1
  have hdm : dS (mS M1) := by rw [mS_f2 h1.2.2]; exact hd
  refine lw_o2 (lw_arg a1 (lw_arg a2 (lw_call (avs := [.inr 63, .inl v1, .inl v2]) (r := [.inl x]) lw_l273 rfl (fun f h => h) (show 1 ≤ 8 by decide) (show 63 = 63 ∧ dS (mS M1) from ⟨rfl, hdm⟩) (fun y M2 h2 => ?_))))
  have h2 : (Sum.inl y : mj_V) = .inl (F_evening (mS M1) v1 v2).1 ∧ mS M2 = (F_evening (mS M1) v1 v2).2 ∧ fr1 M1 M2 := h2
  obtain ⟨e1, e2, e3⟩ := lw_two (G := fun σ => F_evening σ v1 v2) hc h1 h2 (kV hd)
  exact lw_end e1 (nxt M2 e2 e3)
theorem lw_c685 {N : Nat} {i v1 v2 v3 : Int32} {xs : Nat → Int32} {V : Nat → mj_L → mj_S → mj_M → Prop} (b : ∀ (L : mj_L) (st : mj_S) (M : mj_M), mj_W lw_it 3 (true, N, xs) V (fun v _ => v = .inl 1) k_L_law_685 718 L st M → V 685 L st M) {M : mj_M} (a1 : lw_A N xs i 1 v1) (a2 : lw_A N xs i 2 v2) (a3 : lw_A N xs i 3 v3) (hc : cS M = mS M) (hd : dS (mS M)) (nxt : ∀ M2 : mj_M, cS M2 = mS M2 → dS (mS M2) → V 1123 (lw_L i) [] M2) : V 685 (lw_L i) [] M := by
  have hdc : dS (cS M) := by rw [hc]; exact hd
  refine b _ _ _ (lw_o1 (lw_arg a1 (lw_arg a2 (lw_call (avs := [.inr 60, .inl v1, .inl v2]) (r := []) lw_l276 rfl (fun f h => h) (Nat.zero_le 8) (show 60 = 60 ∧ dS (cS M) from ⟨rfl, hdc⟩) (fun x M1 h1 => ?_)))))
  have h1 : (Sum.inl x : mj_V) = .inl (F_often (cS M) v1 v2).1 ∧ cS M1 = (F_often (cS M) v1 v2).2 ∧ fr2 M M1 := h1
  have hdm : dS (mS M1) := by rw [mS_f2 h1.2.2]; exact hd
  refine lw_o2 (lw_arg a1 (lw_arg a2 (lw_call (avs := [.inr 63, .inl v1, .inl v2]) (r := [.inl x]) lw_l285 rfl (fun f h => h) (show 1 ≤ 8 by decide) (show 63 = 63 ∧ dS (mS M1) from ⟨rfl, hdm⟩) (fun y M2 h2 => ?_))))
  have h2 : (Sum.inl y : mj_V) = .inl (F_often (mS M1) v1 v2).1 ∧ mS M2 = (F_often (mS M1) v1 v2).2 ∧ fr1 M1 M2 := h2
  obtain ⟨e1, e2, e3⟩ := lw_two (G := fun σ => F_often σ v1 v2) hc h1 h2 (kF hd)
  exact lw_end e1 (nxt M2 e2 e3)
theorem lw_c718 {N : Nat} {i v1 v2 v3 : Int32} {xs : Nat → Int32} {V : Nat → mj_L → mj_S → mj_M → Prop} (b : ∀ (L : mj_L) (st : mj_S) (M : mj_M), mj_W lw_it 3 (true, N, xs) V (fun v _ => v = .inl 1) k_L_law_718 741 L st M → V 718 L st M) {M : mj_M} (a1 : lw_A N xs i 1 v1) (a2 : lw_A N xs i 2 v2) (a3 : lw_A N xs i 3 v3) (hc : cS M = mS M) (hd : dS (mS M)) (nxt : ∀ M2 : mj_M, cS M2 = mS M2 → dS (mS M2) → V 1123 (lw_L i) [] M2) : V 718 (lw_L i) [] M := by
  have hdc : dS (cS M) := by rw [hc]; exact hd
  refine b _ _ _ (lw_o1 (lw_arg a1 (lw_call (avs := [.inr 60, .inl v1]) (r := []) lw_l288 rfl (fun f h => h) (Nat.zero_le 8) (show 60 = 60 ∧ dS (cS M) from ⟨rfl, hdc⟩) (fun x M1 h1 => ?_))))
  have h1 : (Sum.inl x : mj_V) = .inl (F_hears (cS M) v1).1 ∧ cS M1 = (F_hears (cS M) v1).2 ∧ fr2 M M1 := h1
  have hdm : dS (mS M1) := by rw [mS_f2 h1.2.2]; exact hd
  refine lw_o2 (lw_arg a1 (lw_call (avs := [.inr 63, .inl v1]) (r := [.inl x]) lw_l297 rfl (fun f h => h) (show 1 ≤ 8 by decide) (show 63 = 63 ∧ dS (mS M1) from ⟨rfl, hdm⟩) (fun y M2 h2 => ?_)))
  have h2 : (Sum.inl y : mj_V) = .inl (F_hears (mS M1) v1).1 ∧ mS M2 = (F_hears (mS M1) v1).2 ∧ fr1 M1 M2 := h2
  obtain ⟨e1, e2, e3⟩ := lw_two (G := fun σ => F_hears σ v1) hc h1 h2 (kF hd)
  exact lw_end e1 (nxt M2 e2 e3)
theorem lw_c741 {N : Nat} {i v1 v2 v3 : Int32} {xs : Nat → Int32} {V : Nat → mj_L → mj_S → mj_M → Prop} (b : ∀ (L : mj_L) (st : mj_S) (M : mj_M), mj_W lw_it 3 (true, N, xs) V (fun v _ => v = .inl 1) k_L_law_741 764 L st M → V 741 L st M) {M : mj_M} (a1 : lw_A N xs i 1 v1) (a2 : lw_A N xs i 2 v2) (a3 : lw_A N xs i 3 v3) (hc : cS M = mS M) (hd : dS (mS M)) (nxt : ∀ M2 : mj_M, cS M2 = mS M2 → dS (mS M2) → V 1123 (lw_L i) [] M2) : V 741 (lw_L i) [] M := by
  have hdc : dS (cS M) := by rw [hc]; exact hd
  refine b _ _ _ (lw_o1 (lw_arg a1 (lw_call (avs := [.inr 60, .inl v1]) (r := []) lw_l300 rfl (fun f h => h) (Nat.zero_le 8) (show 60 = 60 ∧ dS (cS M) from ⟨rfl, hdc⟩) (fun x M1 h1 => ?_))))
  have h1 : (Sum.inl x : mj_V) = .inl (F_silent (cS M) v1).1 ∧ cS M1 = (F_silent (cS M) v1).2 ∧ fr2 M M1 := h1
  have hdm : dS (mS M1) := by rw [mS_f2 h1.2.2]; exact hd
  refine lw_o2 (lw_arg a1 (lw_call (avs := [.inr 63, .inl v1]) (r := [.inl x]) lw_l309 rfl (fun f h => h) (show 1 ≤ 8 by decide) (show 63 = 63 ∧ dS (mS M1) from ⟨rfl, hdm⟩) (fun y M2 h2 => ?_)))
  have h2 : (Sum.inl y : mj_V) = .inl (F_silent (mS M1) v1).1 ∧ mS M2 = (F_silent (mS M1) v1).2 ∧ fr1 M1 M2 := h2
  obtain ⟨e1, e2, e3⟩ := lw_two (G := fun σ => F_silent σ v1) hc h1 h2 (kF hd)
  exact lw_end e1 (nxt M2 e2 e3)
theorem lw_c764 {N : Nat} {i v1 v2 v3 : Int32} {xs : Nat → Int32} {V : Nat → mj_L → mj_S → mj_M → Prop} (b : ∀ (L : mj_L) (st : mj_S) (M : mj_M), mj_W lw_it 3 (true, N, xs) V (fun v _ => v = .inl 1) k_L_law_764 787 L st M → V 764 L st M) {M : mj_M} (a1 : lw_A N xs i 1 v1) (a2 : lw_A N xs i 2 v2) (a3 : lw_A N xs i 3 v3) (hc : cS M = mS M) (hd : dS (mS M)) (nxt : ∀ M2 : mj_M, cS M2 = mS M2 → dS (mS M2) → V 1123 (lw_L i) [] M2) : V 764 (lw_L i) [] M := by
  have hdc : dS (cS M) := by rw [hc]; exact hd
  refine b _ _ _ (lw_o1 (lw_arg a1 (lw_call (avs := [.inr 60, .inl v1]) (r := []) lw_l312 rfl (fun f h => h) (Nat.zero_le 8) (show 60 = 60 ∧ dS (cS M) from ⟨rfl, hdc⟩) (fun x M1 h1 => ?_))))
  have h1 : (Sum.inl x : mj_V) = .inl (F_bet (cS M) v1).1 ∧ cS M1 = (F_bet (cS M) v1).2 ∧ fr2 M M1 := h1
  have hdm : dS (mS M1) := by rw [mS_f2 h1.2.2]; exact hd
  refine lw_o2 (lw_arg a1 (lw_call (avs := [.inr 63, .inl v1]) (r := [.inl x]) lw_l321 rfl (fun f h => h) (show 1 ≤ 8 by decide) (show 63 = 63 ∧ dS (mS M1) from ⟨rfl, hdm⟩) (fun y M2 h2 => ?_)))
  have h2 : (Sum.inl y : mj_V) = .inl (F_bet (mS M1) v1).1 ∧ mS M2 = (F_bet (mS M1) v1).2 ∧ fr1 M1 M2 := h2
  obtain ⟨e1, e2, e3⟩ := lw_two (G := fun σ => F_bet σ v1) hc h1 h2 (kF hd)
  exact lw_end e1 (nxt M2 e2 e3)
theorem lw_c787 {N : Nat} {i v1 v2 v3 : Int32} {xs : Nat → Int32} {V : Nat → mj_L → mj_S → mj_M → Prop} (b : ∀ (L : mj_L) (st : mj_S) (M : mj_M), mj_W lw_it 3 (true, N, xs) V (fun v _ => v = .inl 1) k_L_law_787 820 L st M → V 787 L st M) {M : mj_M} (a1 : lw_A N xs i 1 v1) (a2 : lw_A N xs i 2 v2) (a3 : lw_A N xs i 3 v3) (hc : cS M = mS M) (hd : dS (mS M)) (nxt : ∀ M2 : mj_M, cS M2 = mS M2 → dS (mS M2) → V 1123 (lw_L i) [] M2) : V 787 (lw_L i) [] M := by
  have hdc : dS (cS M) := by rw [hc]; exact hd
  refine b _ _ _ (lw_o1 (lw_arg a1 (lw_arg a2 (lw_call (avs := [.inr 60, .inl v1, .inl v2]) (r := []) lw_l324 rfl (fun f h => h) (Nat.zero_le 8) (show 60 = 60 ∧ dS (cS M) from ⟨rfl, hdc⟩) (fun x M1 h1 => ?_)))))
  have h1 : (Sum.inl x : mj_V) = .inl (F_leans (cS M) v1 v2).1 ∧ cS M1 = (F_leans (cS M) v1 v2).2 ∧ fr2 M M1 := h1
  have hdm : dS (mS M1) := by rw [mS_f2 h1.2.2]; exact hd
  refine lw_o2 (lw_arg a1 (lw_arg a2 (lw_call (avs := [.inr 63, .inl v1, .inl v2]) (r := [.inl x]) lw_l333 rfl (fun f h => h) (show 1 ≤ 8 by decide) (show 63 = 63 ∧ dS (mS M1) from ⟨rfl, hdm⟩) (fun y M2 h2 => ?_))))
  have h2 : (Sum.inl y : mj_V) = .inl (F_leans (mS M1) v1 v2).1 ∧ mS M2 = (F_leans (mS M1) v1 v2).2 ∧ fr1 M1 M2 := h2
  obtain ⟨e1, e2, e3⟩ := lw_two (G := fun σ => F_leans σ v1 v2) hc h1 h2 (kF hd)
  exact lw_end e1 (nxt M2 e2 e3)
theorem lw_c820 {N : Nat} {i v1 v2 v3 : Int32} {xs : Nat → Int32} {V : Nat → mj_L → mj_S → mj_M → Prop} (b : ∀ (L : mj_L) (st : mj_S) (M : mj_M), mj_W lw_it 3 (true, N, xs) V (fun v _ => v = .inl 1) k_L_law_820 853 L st M → V 820 L st M) {M : mj_M} (a1 : lw_A N xs i 1 v1) (a2 : lw_A N xs i 2 v2) (a3 : lw_A N xs i 3 v3) (hc : cS M = mS M) (hd : dS (mS M)) (nxt : ∀ M2 : mj_M, cS M2 = mS M2 → dS (mS M2) → V 1123 (lw_L i) [] M2) : V 820 (lw_L i) [] M := by
  have hdc : dS (cS M) := by rw [hc]; exact hd
  refine b _ _ _ (lw_o1 (lw_arg a1 (lw_arg a2 (lw_call (avs := [.inr 60, .inl v1, .inl v2]) (r := []) lw_l336 rfl (fun f h => h) (Nat.zero_le 8) (show 60 = 60 ∧ dS (cS M) from ⟨rfl, hdc⟩) (fun x M1 h1 => ?_)))))
  have h1 : (Sum.inl x : mj_V) = .inl (F_back (cS M) v1 v2).1 ∧ cS M1 = (F_back (cS M) v1 v2).2 ∧ fr2 M M1 := h1
  have hdm : dS (mS M1) := by rw [mS_f2 h1.2.2]; exact hd
  refine lw_o2 (lw_arg a1 (lw_arg a2 (lw_call (avs := [.inr 63, .inl v1, .inl v2]) (r := [.inl x]) lw_l345 rfl (fun f h => h) (show 1 ≤ 8 by decide) (show 63 = 63 ∧ dS (mS M1) from ⟨rfl, hdm⟩) (fun y M2 h2 => ?_))))
  have h2 : (Sum.inl y : mj_V) = .inl (F_back (mS M1) v1 v2).1 ∧ mS M2 = (F_back (mS M1) v1 v2).2 ∧ fr1 M1 M2 := h2
  obtain ⟨e1, e2, e3⟩ := lw_two (G := fun σ => F_back σ v1 v2) hc h1 h2 (kF hd)
  exact lw_end e1 (nxt M2 e2 e3)
theorem lw_c853 {N : Nat} {i v1 v2 v3 : Int32} {xs : Nat → Int32} {V : Nat → mj_L → mj_S → mj_M → Prop} (b : ∀ (L : mj_L) (st : mj_S) (M : mj_M), mj_W lw_it 3 (true, N, xs) V (fun v _ => v = .inl 1) k_L_law_853 896 L st M → V 853 L st M) {M : mj_M} (a1 : lw_A N xs i 1 v1) (a2 : lw_A N xs i 2 v2) (a3 : lw_A N xs i 3 v3) (hc : cS M = mS M) (hd : dS (mS M)) (nxt : ∀ M2 : mj_M, cS M2 = mS M2 → dS (mS M2) → V 1123 (lw_L i) [] M2) : V 853 (lw_L i) [] M := by
  have hdc : dS (cS M) := by rw [hc]; exact hd
  refine b _ _ _ (lw_o1 (lw_arg a1 (lw_arg a2 (lw_arg a3 (lw_call (avs := [.inr 60, .inl v1, .inl v2, .inl v3]) (r := []) lw_l348 rfl (fun f h => h) (Nat.zero_le 8) (show 60 = 60 ∧ dS (cS M) from ⟨rfl, hdc⟩) (fun x M1 h1 => ?_))))))
  have h1 : (Sum.inl x : mj_V) = .inl (F_moment (cS M) v1 v2 v3).1 ∧ cS M1 = (F_moment (cS M) v1 v2 v3).2 ∧ fr2 M M1 := h1
  have hdm : dS (mS M1) := by rw [mS_f2 h1.2.2]; exact hd
  refine lw_o2 (lw_arg a1 (lw_arg a2 (lw_arg a3 (lw_call (avs := [.inr 63, .inl v1, .inl v2, .inl v3]) (r := [.inl x]) lw_l360 rfl (fun f h => h) (show 1 ≤ 8 by decide) (show 63 = 63 ∧ dS (mS M1) from ⟨rfl, hdm⟩) (fun y M2 h2 => ?_)))))
  have h2 : (Sum.inl y : mj_V) = .inl (F_moment (mS M1) v1 v2 v3).1 ∧ mS M2 = (F_moment (mS M1) v1 v2 v3).2 ∧ fr1 M1 M2 := h2
  obtain ⟨e1, e2, e3⟩ := lw_two (G := fun σ => F_moment σ v1 v2 v3) hc h1 h2 (kF hd)
  exact lw_end e1 (nxt M2 e2 e3)
theorem lw_c896 {N : Nat} {i v1 v2 v3 : Int32} {xs : Nat → Int32} {V : Nat → mj_L → mj_S → mj_M → Prop} (b : ∀ (L : mj_L) (st : mj_S) (M : mj_M), mj_W lw_it 3 (true, N, xs) V (fun v _ => v = .inl 1) k_L_law_896 939 L st M → V 896 L st M) {M : mj_M} (a1 : lw_A N xs i 1 v1) (a2 : lw_A N xs i 2 v2) (a3 : lw_A N xs i 3 v3) (hc : cS M = mS M) (hd : dS (mS M)) (nxt : ∀ M2 : mj_M, cS M2 = mS M2 → dS (mS M2) → V 1123 (lw_L i) [] M2) : V 896 (lw_L i) [] M := by
  have hdc : dS (cS M) := by rw [hc]; exact hd
  refine b _ _ _ (lw_o1 (lw_arg a1 (lw_arg a2 (lw_arg a3 (lw_call (avs := [.inr 60, .inl v1, .inl v2, .inl v3]) (r := []) lw_l363 rfl (fun f h => h) (Nat.zero_le 8) (show 60 = 60 ∧ dS (cS M) from ⟨rfl, hdc⟩) (fun x M1 h1 => ?_))))))
  have h1 : (Sum.inl x : mj_V) = .inl (F_week (cS M) v1 v2 v3).1 ∧ cS M1 = (F_week (cS M) v1 v2 v3).2 ∧ fr2 M M1 := h1
  have hdm : dS (mS M1) := by rw [mS_f2 h1.2.2]; exact hd
  refine lw_o2 (lw_arg a1 (lw_arg a2 (lw_arg a3 (lw_call (avs := [.inr 63, .inl v1, .inl v2, .inl v3]) (r := [.inl x]) lw_l372 rfl (fun f h => h) (show 1 ≤ 8 by decide) (show 63 = 63 ∧ dS (mS M1) from ⟨rfl, hdm⟩) (fun y M2 h2 => ?_)))))
  have h2 : (Sum.inl y : mj_V) = .inl (F_week (mS M1) v1 v2 v3).1 ∧ mS M2 = (F_week (mS M1) v1 v2 v3).2 ∧ fr1 M1 M2 := h2
  obtain ⟨e1, e2, e3⟩ := lw_two (G := fun σ => F_week σ v1 v2 v3) hc h1 h2 (kF hd)
  exact lw_end e1 (nxt M2 e2 e3)
theorem lw_c939 {N : Nat} {i v1 v2 v3 : Int32} {xs : Nat → Int32} {V : Nat → mj_L → mj_S → mj_M → Prop} (b : ∀ (L : mj_L) (st : mj_S) (M : mj_M), mj_W lw_it 3 (true, N, xs) V (fun v _ => v = .inl 1) k_L_law_939 962 L st M → V 939 L st M) {M : mj_M} (a1 : lw_A N xs i 1 v1) (a2 : lw_A N xs i 2 v2) (a3 : lw_A N xs i 3 v3) (hc : cS M = mS M) (hd : dS (mS M)) (nxt : ∀ M2 : mj_M, cS M2 = mS M2 → dS (mS M2) → V 1123 (lw_L i) [] M2) : V 939 (lw_L i) [] M := by
  have hdc : dS (cS M) := by rw [hc]; exact hd
  refine b _ _ _ (lw_o1 (lw_arg a1 (lw_call (avs := [.inr 60, .inl v1]) (r := []) lw_l375 rfl (fun f h => h) (Nat.zero_le 8) (show 60 = 60 ∧ dS (cS M) from ⟨rfl, hdc⟩) (fun x M1 h1 => ?_))))
  have h1 : (Sum.inl x : mj_V) = .inl (F_row (cS M) v1).1 ∧ cS M1 = (F_row (cS M) v1).2 ∧ fr2 M M1 := h1
  have hdm : dS (mS M1) := by rw [mS_f2 h1.2.2]; exact hd
  refine lw_o2 (lw_arg a1 (lw_call (avs := [.inr 63, .inl v1]) (r := [.inl x]) lw_l384 rfl (fun f h => h) (show 1 ≤ 8 by decide) (show 63 = 63 ∧ dS (mS M1) from ⟨rfl, hdm⟩) (fun y M2 h2 => ?_)))
  have h2 : (Sum.inl y : mj_V) = .inl (F_row (mS M1) v1).1 ∧ mS M2 = (F_row (mS M1) v1).2 ∧ fr1 M1 M2 := h2
  obtain ⟨e1, e2, e3⟩ := lw_two (G := fun σ => F_row σ v1) hc h1 h2 (k_row hd _)
  exact lw_end e1 (nxt M2 e2 e3)
theorem lw_c962 {N : Nat} {i v1 v2 v3 : Int32} {xs : Nat → Int32} {V : Nat → mj_L → mj_S → mj_M → Prop} (b : ∀ (L : mj_L) (st : mj_S) (M : mj_M), mj_W lw_it 3 (true, N, xs) V (fun v _ => v = .inl 1) k_L_law_962 985 L st M → V 962 L st M) {M : mj_M} (a1 : lw_A N xs i 1 v1) (a2 : lw_A N xs i 2 v2) (a3 : lw_A N xs i 3 v3) (hc : cS M = mS M) (hd : dS (mS M)) (nxt : ∀ M2 : mj_M, cS M2 = mS M2 → dS (mS M2) → V 1123 (lw_L i) [] M2) : V 962 (lw_L i) [] M := by
  have hdc : dS (cS M) := by rw [hc]; exact hd
  refine b _ _ _ (lw_o1 (lw_arg a1 (lw_call (avs := [.inr 60, .inl v1]) (r := []) lw_l387 rfl (fun f h => h) (Nat.zero_le 8) (show 60 = 60 ∧ dS (cS M) from ⟨rfl, hdc⟩) (fun x M1 h1 => ?_))))
  have h1 : (Sum.inl x : mj_V) = .inl (F_judge (cS M) v1).1 ∧ cS M1 = (F_judge (cS M) v1).2 ∧ fr2 M M1 := h1
  have hdm : dS (mS M1) := by rw [mS_f2 h1.2.2]; exact hd
  refine lw_o2 (lw_arg a1 (lw_call (avs := [.inr 63, .inl v1]) (r := [.inl x]) lw_l396 rfl (fun f h => h) (show 1 ≤ 8 by decide) (show 63 = 63 ∧ dS (mS M1) from ⟨rfl, hdm⟩) (fun y M2 h2 => ?_)))
  have h2 : (Sum.inl y : mj_V) = .inl (F_judge (mS M1) v1).1 ∧ mS M2 = (F_judge (mS M1) v1).2 ∧ fr1 M1 M2 := h2
  obtain ⟨e1, e2, e3⟩ := lw_two (G := fun σ => F_judge σ v1) hc h1 h2 (kF hd)
  exact lw_end e1 (nxt M2 e2 e3)
theorem lw_c985 {N : Nat} {i v1 v2 v3 : Int32} {xs : Nat → Int32} {V : Nat → mj_L → mj_S → mj_M → Prop} (b : ∀ (L : mj_L) (st : mj_S) (M : mj_M), mj_W lw_it 3 (true, N, xs) V (fun v _ => v = .inl 1) k_L_law_985 1018 L st M → V 985 L st M) {M : mj_M} (a1 : lw_A N xs i 1 v1) (a2 : lw_A N xs i 2 v2) (a3 : lw_A N xs i 3 v3) (hc : cS M = mS M) (hd : dS (mS M)) (nxt : ∀ M2 : mj_M, cS M2 = mS M2 → dS (mS M2) → V 1123 (lw_L i) [] M2) : V 985 (lw_L i) [] M := by
  have hdc : dS (cS M) := by rw [hc]; exact hd
  refine b _ _ _ (lw_o1 (lw_arg a1 (lw_arg a2 (lw_call (avs := [.inr 60, .inl v1, .inl v2]) (r := []) lw_l399 rfl (fun f h => h) (Nat.zero_le 8) (show 60 = 60 ∧ dS (cS M) from ⟨rfl, hdc⟩) (fun x M1 h1 => ?_)))))
  have h1 : (Sum.inl x : mj_V) = .inl (F_firms (cS M) v1 v2).1 ∧ cS M1 = (F_firms (cS M) v1 v2).2 ∧ fr2 M M1 := h1
  have hdm : dS (mS M1) := by rw [mS_f2 h1.2.2]; exact hd
  refine lw_o2 (lw_arg a1 (lw_arg a2 (lw_call (avs := [.inr 63, .inl v1, .inl v2]) (r := [.inl x]) lw_l408 rfl (fun f h => h) (show 1 ≤ 8 by decide) (show 63 = 63 ∧ dS (mS M1) from ⟨rfl, hdm⟩) (fun y M2 h2 => ?_))))
  have h2 : (Sum.inl y : mj_V) = .inl (F_firms (mS M1) v1 v2).1 ∧ mS M2 = (F_firms (mS M1) v1 v2).2 ∧ fr1 M1 M2 := h2
  obtain ⟨e1, e2, e3⟩ := lw_two (G := fun σ => F_firms σ v1 v2) hc h1 h2 (kF hd)
  exact lw_end e1 (nxt M2 e2 e3)
theorem lw_c1018 {N : Nat} {i v1 v2 v3 : Int32} {xs : Nat → Int32} {V : Nat → mj_L → mj_S → mj_M → Prop} (b : ∀ (L : mj_L) (st : mj_S) (M : mj_M), mj_W lw_it 3 (true, N, xs) V (fun v _ => v = .inl 1) k_L_law_1018 1031 L st M → V 1018 L st M) {M : mj_M} (a1 : lw_A N xs i 1 v1) (a2 : lw_A N xs i 2 v2) (a3 : lw_A N xs i 3 v3) (hc : cS M = mS M) (hd : dS (mS M)) (nxt : ∀ M2 : mj_M, cS M2 = mS M2 → dS (mS M2) → V 1123 (lw_L i) [] M2) : V 1018 (lw_L i) [] M := by
  have hdc : dS (cS M) := by rw [hc]; exact hd
  refine b _ _ _ (lw_o1 (lw_call (avs := [.inr 60]) (r := []) lw_l411 rfl (fun f h => h) (Nat.zero_le 8) (show 60 = 60 ∧ dS (cS M) from ⟨rfl, hdc⟩) (fun x M1 h1 => ?_)))
  have h1 : (Sum.inl x : mj_V) = .inl (F_clear (cS M)).1 ∧ cS M1 = (F_clear (cS M)).2 ∧ fr2 M M1 := h1
  have hdm : dS (mS M1) := by rw [mS_f2 h1.2.2]; exact hd
  refine lw_o2 (lw_call (avs := [.inr 63]) (r := [.inl x]) lw_l420 rfl (fun f h => h) (show 1 ≤ 8 by decide) (show 63 = 63 ∧ dS (mS M1) from ⟨rfl, hdm⟩) (fun y M2 h2 => ?_))
  have h2 : (Sum.inl y : mj_V) = .inl (F_clear (mS M1)).1 ∧ mS M2 = (F_clear (mS M1)).2 ∧ fr1 M1 M2 := h2
  obtain ⟨e1, e2, e3⟩ := lw_two (G := fun σ => F_clear σ ) hc h1 h2 (k_clear hd)
  exact lw_end e1 (nxt M2 e2 e3)
theorem lw_c1031 {N : Nat} {i v1 v2 v3 : Int32} {xs : Nat → Int32} {V : Nat → mj_L → mj_S → mj_M → Prop} (b : ∀ (L : mj_L) (st : mj_S) (M : mj_M), mj_W lw_it 3 (true, N, xs) V (fun v _ => v = .inl 1) k_L_law_1031 1074 L st M → V 1031 L st M) {M : mj_M} (a1 : lw_A N xs i 1 v1) (a2 : lw_A N xs i 2 v2) (a3 : lw_A N xs i 3 v3) (hc : cS M = mS M) (hd : dS (mS M)) (nxt : ∀ M2 : mj_M, cS M2 = mS M2 → dS (mS M2) → V 1123 (lw_L i) [] M2) : V 1031 (lw_L i) [] M := by
  have hdc : dS (cS M) := by rw [hc]; exact hd
  refine b _ _ _ (lw_o1 (lw_arg a1 (lw_arg a2 (lw_arg a3 (lw_call (avs := [.inr 60, .inl v1, .inl v2, .inl v3]) (r := []) lw_l423 rfl (fun f h => h) (Nat.zero_le 8) (show 60 = 60 ∧ dS (cS M) from ⟨rfl, hdc⟩) (fun x M1 h1 => ?_))))))
  have h1 : (Sum.inl x : mj_V) = .inl (F_lots (cS M) v1 v2 v3).1 ∧ cS M1 = (F_lots (cS M) v1 v2 v3).2 ∧ fr2 M M1 := h1
  have hdm : dS (mS M1) := by rw [mS_f2 h1.2.2]; exact hd
  refine lw_o2 (lw_arg a1 (lw_arg a2 (lw_arg a3 (lw_call (avs := [.inr 63, .inl v1, .inl v2, .inl v3]) (r := [.inl x]) lw_l432 rfl (fun f h => h) (show 1 ≤ 8 by decide) (show 63 = 63 ∧ dS (mS M1) from ⟨rfl, hdm⟩) (fun y M2 h2 => ?_)))))
  have h2 : (Sum.inl y : mj_V) = .inl (F_lots (mS M1) v1 v2 v3).1 ∧ mS M2 = (F_lots (mS M1) v1 v2 v3).2 ∧ fr1 M1 M2 := h2
  obtain ⟨e1, e2, e3⟩ := lw_two (G := fun σ => F_lots σ v1 v2 v3) hc h1 h2 (kF hd)
  exact lw_end e1 (nxt M2 e2 e3)
theorem lw_c1074 {N : Nat} {i v1 v2 v3 : Int32} {xs : Nat → Int32} {V : Nat → mj_L → mj_S → mj_M → Prop} (b : ∀ (L : mj_L) (st : mj_S) (M : mj_M), mj_W lw_it 3 (true, N, xs) V (fun v _ => v = .inl 1) k_L_law_1074 1087 L st M → V 1074 L st M) {M : mj_M} (a1 : lw_A N xs i 1 v1) (a2 : lw_A N xs i 2 v2) (a3 : lw_A N xs i 3 v3) (hc : cS M = mS M) (hd : dS (mS M)) (nxt : ∀ M2 : mj_M, cS M2 = mS M2 → dS (mS M2) → V 1123 (lw_L i) [] M2) : V 1074 (lw_L i) [] M := by
  have hdc : dS (cS M) := by rw [hc]; exact hd
  refine b _ _ _ (lw_o1 (lw_call (avs := [.inr 60]) (r := []) lw_l435 rfl (fun f h => h) (Nat.zero_le 8) (show 60 = 60 ∧ dS (cS M) from ⟨rfl, hdc⟩) (fun x M1 h1 => ?_)))
  have h1 : (Sum.inl x : mj_V) = .inl (F_image (cS M)).1 ∧ cS M1 = (F_image (cS M)).2 ∧ fr2 M M1 := h1
  have hdm : dS (mS M1) := by rw [mS_f2 h1.2.2]; exact hd
  refine lw_o2 (lw_call (avs := [.inr 63]) (r := [.inl x]) lw_l444 rfl (fun f h => h) (show 1 ≤ 8 by decide) (show 63 = 63 ∧ dS (mS M1) from ⟨rfl, hdm⟩) (fun y M2 h2 => ?_))
  have h2 : (Sum.inl y : mj_V) = .inl (F_image (mS M1)).1 ∧ mS M2 = (F_image (mS M1)).2 ∧ fr1 M1 M2 := h2
  obtain ⟨e1, e2, e3⟩ := lw_two (G := fun σ => F_image σ ) hc h1 h2 (k_image hd)
  exact lw_end e1 (nxt M2 e2 e3)
theorem lw_c1087 {N : Nat} {i v1 v2 v3 : Int32} {xs : Nat → Int32} {V : Nat → mj_L → mj_S → mj_M → Prop} (b : ∀ (L : mj_L) (st : mj_S) (M : mj_M), mj_W lw_it 3 (true, N, xs) V (fun v _ => v = .inl 1) k_L_law_1087 1100 L st M → V 1087 L st M) {M : mj_M} (a1 : lw_A N xs i 1 v1) (a2 : lw_A N xs i 2 v2) (a3 : lw_A N xs i 3 v3) (hc : cS M = mS M) (hd : dS (mS M)) (nxt : ∀ M2 : mj_M, cS M2 = mS M2 → dS (mS M2) → V 1123 (lw_L i) [] M2) : V 1087 (lw_L i) [] M := by
  have hdc : dS (cS M) := by rw [hc]; exact hd
  refine b _ _ _ (lw_o1 (lw_call (avs := [.inr 60]) (r := []) lw_l447 rfl (fun f h => h) (Nat.zero_le 8) (show 60 = 60 ∧ dS (cS M) from ⟨rfl, hdc⟩) (fun x M1 h1 => ?_)))
  have h1 : (Sum.inl x : mj_V) = .inl (F_on (cS M)).1 ∧ cS M1 = (F_on (cS M)).2 ∧ fr2 M M1 := h1
  have hdm : dS (mS M1) := by rw [mS_f2 h1.2.2]; exact hd
  refine lw_o2 (lw_call (avs := [.inr 63]) (r := [.inl x]) lw_l456 rfl (fun f h => h) (show 1 ≤ 8 by decide) (show 63 = 63 ∧ dS (mS M1) from ⟨rfl, hdm⟩) (fun y M2 h2 => ?_))
  have h2 : (Sum.inl y : mj_V) = .inl (F_on (mS M1)).1 ∧ mS M2 = (F_on (mS M1)).2 ∧ fr1 M1 M2 := h2
  obtain ⟨e1, e2, e3⟩ := lw_two (G := fun σ => F_on σ ) hc h1 h2 (k_on hd)
  exact lw_end e1 (nxt M2 e2 e3)
theorem lw_c1100 {N : Nat} {i v1 v2 v3 : Int32} {xs : Nat → Int32} {V : Nat → mj_L → mj_S → mj_M → Prop} (b : ∀ (L : mj_L) (st : mj_S) (M : mj_M), mj_W lw_it 3 (true, N, xs) V (fun v _ => v = .inl 1) k_L_law_1100 1123 L st M → V 1100 L st M) {M : mj_M} (a1 : lw_A N xs i 1 v1) (a2 : lw_A N xs i 2 v2) (a3 : lw_A N xs i 3 v3) (hc : cS M = mS M) (hd : dS (mS M)) (nxt : ∀ M2 : mj_M, cS M2 = mS M2 → dS (mS M2) → V 1123 (lw_L i) [] M2) : V 1100 (lw_L i) [] M := by
  have hdc : dS (cS M) := by rw [hc]; exact hd
  refine b _ _ _ (lw_o1 (lw_arg a1 (lw_call (avs := [.inr 60, .inl v1]) (r := []) lw_l459 rfl (fun f h => h) (Nat.zero_le 8) (show 60 = 60 ∧ dS (cS M) from ⟨rfl, hdc⟩) (fun x M1 h1 => ?_))))
  have h1 : (Sum.inl x : mj_V) = .inl (F_count (cS M) v1).1 ∧ cS M1 = (F_count (cS M) v1).2 ∧ fr2 M M1 := h1
  have hdm : dS (mS M1) := by rw [mS_f2 h1.2.2]; exact hd
  refine lw_o2 (lw_arg a1 (lw_call (avs := [.inr 63, .inl v1]) (r := [.inl x]) lw_l468 rfl (fun f h => h) (show 1 ≤ 8 by decide) (show 63 = 63 ∧ dS (mS M1) from ⟨rfl, hdm⟩) (fun y M2 h2 => ?_)))
  have h2 : (Sum.inl y : mj_V) = .inl (F_count (mS M1) v1).1 ∧ mS M2 = (F_count (mS M1) v1).2 ∧ fr1 M1 M2 := h2
  obtain ⟨e1, e2, e3⟩ := lw_two (G := fun σ => F_count σ v1) hc h1 h2 (hd)
  exact lw_end e1 (nxt M2 e2 e3)
