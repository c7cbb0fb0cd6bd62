/-- field links: class whose code it is, index, class of the field, its slot, by nest -/
def mj_fl : List (Nat × Nat × Nat × Nat × Bool) := [(3, 9, 3, 0, false), (3, 15, 3, 1, false), (3, 18, 3, 2, false), (3, 21, 3, 3, false), (1, 88, 3, 3, true), (6, 187, 3, 3, true), (0, 9, 0, 0, false), (0, 15, 0, 1, false), (1, 72, 0, 1, true), (2, 84, 0, 1, true), (6, 175, 0, 1, true), (0, 18, 0, 2, false), (1, 75, 0, 2, true), (6, 178, 0, 2, true), (0, 21, 0, 3, false), (0, 24, 0, 4, false), (4, 9, 4, 0, false), (4, 15, 4, 1, false), (2, 11, 2, 0, false), (1, 84, 2, 0, true), (6, 88, 2, 0, true), (2, 19, 2, 1, false), (1, 47, 2, 1, true), (6, 100, 2, 1, true), (2, 25, 2, 2, false), (6, 110, 2, 2, true), (2, 29, 2, 3, false), (1, 34, 2, 3, true), (6, 129, 2, 3, true), (2, 33, 2, 4, false), (1, 69, 2, 4, true), (6, 184, 2, 4, true), (2, 36, 2, 5, false), (6, 196, 2, 5, true), (2, 39, 2, 6, false), (1, 78, 2, 6, true), (6, 123, 2, 6, true), (2, 42, 2, 7, false), (1, 93, 2, 7, true), (6, 120, 2, 7, true), (2, 45, 2, 8, false), (6, 126, 2, 8, true), (2, 48, 2, 9, false), (6, 143, 2, 9, true), (1, 9, 1, 0, false), (1, 15, 1, 1, false), (1, 18, 1, 2, false), (1, 22, 1, 3, false), (6, 149, 1, 3, true), (1, 25, 1, 4, false), (6, 136, 1, 4, true), (1, 28, 1, 5, false), (6, 152, 1, 5, true), (1, 31, 1, 6, false), (6, 206, 1, 6, true), (5, 9, 5, 0, false), (5, 15, 5, 1, false), (6, 199, 5, 1, true), (5, 19, 5, 2, false), (5, 22, 5, 3, false), (5, 26, 5, 4, false), (6, 12, 6, 0, false), (6, 16, 6, 1, false), (6, 19, 6, 2, false), (6, 22, 6, 3, false), (6, 29, 6, 4, false), (6, 36, 6, 5, false), (6, 40, 6, 6, false), (6, 44, 6, 7, false), (6, 48, 6, 8, false), (7, 7, 7, 0, false), (7, 13, 7, 1, false), (7, 16, 7, 2, false), (7, 19, 7, 3, false), (7, 22, 7, 4, false), (7, 182, 7, 5, false), (7, 25, 7, 6, false), (7, 28, 7, 7, false), (7, 57, 7, 8, false), (7, 61, 7, 9, false), (7, 31, 7, 10, false), (7, 34, 7, 11, false), (7, 117, 7, 12, false), (7, 120, 7, 13, false), (7, 123, 7, 14, false), (7, 126, 7, 15, false), (7, 149, 7, 16, false), (7, 37, 7, 17, false), (7, 173, 7, 18, false)]
def mj_flp : List Nat := [121, 122, 123, 124, 125, 126, 141, 142, 143, 144, 145, 146, 147, 148, 149, 150, 167, 168, 174, 175, 176, 177, 178, 179, 180, 181, 182, 183, 184, 185, 186, 187, 188, 189, 190, 191, 192, 193, 194, 195, 196, 197, 198, 199, 227, 228, 229, 230, 231, 232, 233, 234, 235, 236, 237, 260, 261, 262, 263, 264, 265, 278, 279, 280, 281, 282, 283, 284, 285, 286, 836, 837, 838, 839, 840, 841, 842, 843, 844, 845, 846, 847, 848, 849, 850, 851, 852, 853, 854]
/-- links of static rows -/
def mj_gl : List (Nat × Nat × Nat × Bool) := [(3, 24, 0, true), (3, 28, 1, true), (0, 27, 2, true), (0, 31, 3, true), (4, 18, 4, true), (4, 22, 5, true), (2, 88, 6, true), (2, 92, 7, true), (2, 99, 8, true), (2, 102, 9, true)]
def mj_glp : List Nat := [515, 517, 530, 532, 543, 545, 552, 554, 561, 563]
/-- int constants -/
def mj_kl : List (Nat × Nat × Int32) := [(6, 205, 1000000000), (6, 209, 1664525), (6, 210, 1013904223), (6, 211, 2147483647), (7, 40, 1000000000), (7, 179, 1664525), (7, 180, 1013904223), (7, 181, 2147483647)]
def mj_klp : List Nat := [725, 811, 812, 813, 1069, 1154, 1155, 1156]
/-- places of the words on the layout, class by class -/
def mj_lyp : List (List Nat) := [[151, 153, 155, 157, 159], [238, 240, 242, 244, 246, 248, 250], [200, 202, 204, 206, 208, 210, 212, 214, 216, 218], [127, 129, 131, 133], [169, 171], [266, 268, 270, 272, 274], [287, 289, 291, 293, 295, 297, 299, 301, 303], [855, 857, 859, 861, 863, 865, 867, 869, 871, 873, 875, 877, 879, 881, 883, 885, 887, 889, 891]]

def mj_cC (c : Nat) : vw_C := mj_cl.getD c (RX0, TX0, 5)
def mj_on (c : Nat) : String := if c = 8 then RL else (mj_cC c).1
theorem mj_on_lt {c : Nat} (h : c < 8) : mj_on c = (mj_cC c).1 := if_neg (by omega)
def mj_fW (q : Nat × Nat × Nat × Nat × Bool) : Cond := if q.2.2.2.2 = true then .fieldLinkNest (mj_on q.1) q.2.1 (mj_on q.2.2.1) ((mj_cC q.2.2.1).2.1 q.2.2.2.1).2.1 ((mj_cC q.2.2.1).2.1 q.2.2.2.1).2.2.1 RX6 else .fieldLink (mj_on q.1) q.2.1 (mj_on q.2.2.1) ((mj_cC q.2.2.1).2.1 q.2.2.2.1).2.1 ((mj_cC q.2.2.1).2.1 q.2.2.2.1).2.2.1
def mj_gW (q : Nat × Nat × Nat × Bool) : Cond := if q.2.2.2 = true then .fieldLinkNest (mj_on q.1) q.2.1 RX6 (mj_sn.getD q.2.2.1 "") "[I" RX6 else .fieldLink (mj_on q.1) q.2.1 RX6 (mj_sn.getD q.2.2.1 "") "[I"
def mj_kW (q : Nat × Nat × Int32) : Cond := .constant (mj_on q.1) q.2.1 q.2.2
theorem mj_at {ws : List Cond} (ps : List Nat) (h : ws = ps.filterMap (fun i => lw_tbl[i]?)) : ∀ w ∈ ws, w ∈ lw_tbl := by
  intro w hw
  rw [h] at hw
  obtain ⟨i, -, hi⟩ := List.mem_filterMap.mp hw
  exact List.mem_of_getElem? hi
set_option maxRecDepth 100000 in
theorem mj_fl_at : mj_fl.map mj_fW = mj_flp.filterMap (fun i => lw_tbl[i]?) := by decide +kernel
set_option maxRecDepth 100000 in
theorem mj_gl_at : mj_gl.map mj_gW = mj_glp.filterMap (fun i => lw_tbl[i]?) := by decide +kernel
set_option maxRecDepth 100000 in
theorem mj_kl_at : mj_kl.map mj_kW = mj_klp.filterMap (fun i => lw_tbl[i]?) := by decide +kernel
theorem mj_gT_of {w : Cond} (h : w ∈ lw_tbl) (hg : goodWord w = true) : w ∈ mj_gT := List.mem_filter.mpr ⟨h, hg⟩
theorem mj_nw_of {w : Cond} (h : w ∈ lw_tbl) (hg : mj_nest w = true) : w ∈ mj_nw := List.mem_filter.mpr ⟨h, hg⟩
theorem mj_fl_in {own idx c j : Nat} (h : (own, idx, c, j, false) ∈ mj_fl) : Cond.fieldLink (mj_on own) idx (mj_on c) ((mj_cC c).2.1 j).2.1 ((mj_cC c).2.1 j).2.2.1 ∈ mj_gT :=
  mj_gT_of (mj_at _ mj_fl_at _ (List.mem_map.mpr ⟨_, h, rfl⟩)) rfl
theorem mj_fl_nw {own idx c j : Nat} (h : (own, idx, c, j, true) ∈ mj_fl) : Cond.fieldLinkNest (mj_on own) idx (mj_on c) ((mj_cC c).2.1 j).2.1 ((mj_cC c).2.1 j).2.2.1 RX6 ∈ mj_nw :=
  mj_nw_of (mj_at _ mj_fl_at _ (List.mem_map.mpr ⟨_, h, rfl⟩)) rfl
theorem mj_gl_in {own idx t : Nat} (h : (own, idx, t, false) ∈ mj_gl) : Cond.fieldLink (mj_on own) idx RX6 (mj_sn.getD t "") "[I" ∈ mj_gT :=
  mj_gT_of (mj_at _ mj_gl_at _ (List.mem_map.mpr ⟨_, h, rfl⟩)) rfl
theorem mj_gl_nw {own idx t : Nat} (h : (own, idx, t, true) ∈ mj_gl) : Cond.fieldLinkNest (mj_on own) idx RX6 (mj_sn.getD t "") "[I" RX6 ∈ mj_nw :=
  mj_nw_of (mj_at _ mj_gl_at _ (List.mem_map.mpr ⟨_, h, rfl⟩)) rfl
theorem mj_kl_in {own idx : Nat} {z : Int32} (h : (own, idx, z) ∈ mj_kl) : Cond.constant (mj_on own) idx z ∈ mj_gT :=
  mj_gT_of (mj_at _ mj_kl_at _ (List.mem_map.mpr ⟨_, h, rfl⟩)) rfl
set_option maxRecDepth 100000 in
theorem mj_ly_at : ∀ c, c < 8 → u_ws (mj_cC c).1 (mj_cC c).2.1 (mj_cC c).2.2 = (mj_lyp.getD c []).filterMap (fun i => lw_tbl[i]?) := by decide +kernel
set_option maxRecDepth 100000 in
theorem mj_ly_good : ∀ c, c < 8 → (u_ws (mj_cC c).1 (mj_cC c).2.1 (mj_cC c).2.2).all goodWord = true := by decide +kernel
theorem mj_ly {c : Nat} (hc : c < 8) : ∀ w ∈ u_ws (mj_cC c).1 (mj_cC c).2.1 (mj_cC c).2.2, w ∈ mj_gT :=
  fun w hw => mj_gT_of (mj_at _ (mj_ly_at c hc) w hw) (List.all_eq_true.mp (mj_ly_good c hc) w hw)
theorem mj_cl_at {c : Nat} (hc : c < 8) : mj_cl[c]? = some ((mj_cC c).1, (mj_cC c).2.1, (mj_cC c).2.2) := by
  unfold mj_cC
  rw [List.getD_eq_getElem?_getD]
  have : ∃ q, mj_cl[c]? = some q := ⟨_, List.getElem?_eq_getElem hc⟩
  obtain ⟨q, hq⟩ := this
  rw [hq]
  rfl
set_option maxRecDepth 100000 in
theorem mj_sh_ob : ∀ a, a < 74 → (mj_sh a).1 = 0 → (mj_sh a).2.1 < 8 ∧ (mj_sh a).2.2 = (mj_cC (mj_sh a).2.1).2.2 := by decide +kernel
set_option maxRecDepth 100000 in
theorem mj_sh_ar : ∀ a, a < 74 → (mj_sh a).1 = 1 → (mj_sh a).2.1 < 2 ∧ (mj_sh a).2.2 ≤ 96 := by decide +kernel
set_option maxRecDepth 100000 in
theorem mj_sh_ra : ∀ a, a < 74 → (mj_sh a).1 = 2 → (mj_sh a).2.1 = 2 ∨ (mj_sh a).2.1 = 3 ∨ (mj_sh a).2.1 = 4 := by decide +kernel
set_option maxRecDepth 100000 in
theorem mj_sh_tg : ∀ a, a < 74 → (mj_sh a).1 = 0 ∨ (mj_sh a).1 = 1 ∨ (mj_sh a).1 = 2 := by decide +kernel
set_option maxRecDepth 100000 in
theorem mj_fl_ok : ∀ q ∈ mj_fl, q.1 < 8 ∧ q.2.2.1 < 8 ∧ q.2.2.2.1 < (mj_cC q.2.2.1).2.2 := by decide +kernel
set_option maxRecDepth 100000 in
theorem mj_fl_ty : ∀ q ∈ mj_fl, mj_rf q.2.2.1 q.2.2.2.1 = true ∨ (((mj_cC q.2.2.1).2.1 q.2.2.2.1).2.2.2 = false ∧ ((mj_cC q.2.2.1).2.1 q.2.2.2.1).2.2.1 = if mj_bf q.2.2.1 q.2.2.2.1 = true then "Z" else "I") := by decide +kernel
theorem mj_ob_of {a c : Nat} (h : mj_ob a = c) (hc : c < 8) : a < 74 ∧ mj_sh a = (0, c, (mj_cC c).2.2) := by
  unfold mj_ob at h
  split at h
  · rename_i h1
    obtain ⟨h1, h2⟩ := h1
    obtain ⟨-, h4⟩ := mj_sh_ob a h1 h2
    subst h
    exact ⟨h1, Prod.ext h2 (Prod.ext rfl h4)⟩
  · omega
theorem mj_ak_i {a : Nat} (h : mj_ak a = 0) : a < 74 ∧ (mj_sh a).1 = 1 ∧ (mj_sh a).2.1 = 0 ∧ a ≠ 400 := by
  unfold mj_ak at h
  split at h
  · rename_i h1
    split at h
    · exact ⟨h1, by assumption, h, by omega⟩
    · split at h <;> omega
  · split at h
    · omega
    · split at h
      · omega
      · split at h <;> omega
theorem mj_ak_c {a : Nat} (h : mj_ak a = 1) : a < 74 ∧ (mj_sh a).1 = 1 ∧ (mj_sh a).2.1 = 1 ∧ a ≠ 400 := by
  unfold mj_ak at h
  split at h
  · rename_i h1
    split at h
    · exact ⟨h1, by assumption, h, by omega⟩
    · split at h <;> omega
  · split at h
    · omega
    · split at h
      · omega
      · split at h <;> omega
theorem mj_ak_r {a : Nat} (h : mj_ak a = 2) : a < 74 ∧ (mj_sh a).1 = 2 ∧ a ≠ 400 := by
  unfold mj_ak at h
  split at h
  · rename_i h1
    split at h
    · rename_i h2
      have := mj_sh_ar a h1 h2
      omega
    · split at h
      · exact ⟨h1, by assumption, by omega⟩
      · omega
  · split at h
    · omega
    · split at h
      · omega
      · split at h <;> omega
theorem mj_ak_s {a : Nat} (h : mj_ak a = 3) : 100 ≤ a ∧ a < 110 := by
  unfold mj_ak at h
  split at h
  · rename_i h1
    split at h
    · rename_i h2
      have := mj_sh_ar a h1 h2
      omega
    · split at h <;> omega
  · split at h
    · omega
    · split at h
      · omega
      · split at h <;> omega
theorem mj_ak_l {a : Nat} (h : mj_ak a = 4) : a = 400 := by
  unfold mj_ak at h
  split at h
  · rename_i h1
    split at h
    · rename_i h2
      have := mj_sh_ar a h1 h2
      omega
    · split at h <;> omega
  · split at h
    · omega
    · split at h
      · omega
      · split at h
        · assumption
        · omega
/-! the world's cells, one by one -/
theorem mj_wk {ad : Nat → Nat} {tA : Nat → ClassId} {M : mj_M} {k : Nat} (hk : k < 74) : (mj_w ad tA M)[k]? = some (ad k, mj_ce ad tA M k) := by
  simp [mj_w, List.getElem?_map, List.getElem?_range hk]
theorem mj_wl {ad : Nat → Nat} {tA : Nat → ClassId} {M : mj_M} : (mj_w ad tA M).length = 74 := by simp [mj_w]
theorem mj_ws {ad : Nat → Nat} {tA : Nat → ClassId} {M M' : mj_M} {k : Nat} {e : va_E} (h : mj_ce ad tA M' k = e) (ho : ∀ i, i ≠ k → mj_ce ad tA M' i = mj_ce ad tA M i) : (mj_w ad tA M).set k (ad k, e) = mj_w ad tA M' := by
  apply List.ext_getElem?
  intro i
  rw [List.getElem?_set]
  by_cases hi : k = i
  · subst hi
    by_cases hk : k < 74
    · rw [if_pos rfl, if_pos (by rw [mj_wl]; exact hk), mj_wk hk, h]
    · rw [if_pos rfl, if_neg (by rw [mj_wl]; exact hk), List.getElem?_eq_none (by rw [mj_wl]; omega)]
  · rw [if_neg hi]
    by_cases hk : i < 74
    · rw [mj_wk hk, mj_wk hk, ho i (fun q => hi q.symm)]
    · rw [List.getElem?_eq_none (by rw [mj_wl]; omega), List.getElem?_eq_none (by rw [mj_wl]; omega)]
theorem mj_up_o {M : mj_M} {a j b : Nat} {x : Int32} (h : b ≠ a) : mj_up M a j x b = M b := by
  funext i
  simp [mj_up, h]
theorem mj_up_s {M : mj_M} {a j : Nat} {x : Int32} : mj_up M a j x a = upd (M a) j x := by
  funext i
  simp [mj_up, upd]
theorem mj_ce_o {ad : Nat → Nat} {tA : Nat → ClassId} {M M' : mj_M} {i : Nat} (h : M' i = M i) : mj_ce ad tA M' i = mj_ce ad tA M i := by
  unfold mj_ce mj_fv
  rw [h]
theorem mj_wD {ad : Nat → Nat} {tA : Nat → ClassId} {M : mj_M} {A : Nat → Prop} (hI : mj_in ad) (hA : ∀ k, k < 74 → A (ad k)) : va_D A (mj_w ad tA M) := by
  have hlt : ∀ {i : Nat} {q}, (mj_w ad tA M)[i]? = some q → i < 74 := fun {i q} h => by
    have := (List.getElem?_eq_some_iff.mp h).1
    rwa [mj_wl] at this
  refine ⟨fun i j p q hp hq e => ?_, fun k q hk => ?_⟩
  · have hi := hlt hp
    have hj := hlt hq
    rw [mj_wk hi] at hp
    rw [mj_wk hj] at hq
    cases hp; cases hq
    exact hI i j hi hj e
  · have h := hlt hk
    rw [mj_wk h] at hk
    cases hk
    exact hA k h
theorem mj_ce_ob {ad : Nat → Nat} {tA : Nat → ClassId} {M : mj_M} {a c n : Nat} (h : mj_sh a = (0, c, n)) : mj_ce ad tA M a = .inr (c, (List.range n).map (mj_fv ad M a c)) := by
  unfold mj_ce
  rw [h]
  rfl
theorem mj_ce_ar {ad : Nat → Nat} {tA : Nat → ClassId} {M : mj_M} {a t n : Nat} (h : mj_sh a = (1, t, n)) : mj_ce ad tA M a = .inl (tA t, n, .inl (M a)) := by
  unfold mj_ce
  rw [h]
  rfl
theorem mj_ce_ra {ad : Nat → Nat} {tA : Nat → ClassId} {M : mj_M} {a t n : Nat} (h : mj_sh a = (2, t, n)) : mj_ce ad tA M a = .inl (tA t, n, .inr (.inr (.inr (.inr (fun j => some (ad (mj_pt a j))))))) := by
  unfold mj_ce
  rw [h]
  rfl
theorem mj_fs_set {ad : Nat → Nat} {M : mj_M} {a c n j : Nat} {x : Int32} (hr : mj_rf c j = false) : ((List.range n).map (mj_fv ad M a c)).set j (.int x) = (List.range n).map (mj_fv ad (mj_up M a j x) a c) := by
  apply List.ext_getElem?
  intro i
  rw [List.getElem?_set]
  by_cases hi : j = i
  · subst hi
    by_cases hk : j < n
    · rw [if_pos rfl, if_pos (by simpa using hk)]
      simp [List.getElem?_map, List.getElem?_range hk, mj_fv, hr, mj_up]
    · rw [if_pos rfl, if_neg (by simpa using hk), List.getElem?_eq_none (by simpa using hk)]
  · rw [if_neg hi]
    by_cases hk : i < n
    · have hi' : ¬ i = j := fun q => hi q.symm
      simp [List.getElem?_map, List.getElem?_range hk, mj_fv, mj_up, hi']
    · rw [List.getElem?_eq_none (by simpa using hk), List.getElem?_eq_none (by simpa using hk)]
