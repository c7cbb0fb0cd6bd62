/-! THE MINI MACHINE: a frame is a place, a list of locals, a stack; the world is one fixed set of cells with ints in it; a block of instructions is read as a formula -/
abbrev mj_V : Type := Int32 ⊕ Nat
abbrev mj_M : Type := Nat → Nat → Int32
abbrev mj_L : Type := List (Option mj_V)
abbrev mj_S : Type := List mj_V
abbrev mj_I : Type := Nat × Nat × Int32 × List (Int32 × Nat)
abbrev mj_C : Type := Nat × Nat × (List mj_V → mj_M → Prop) × (List mj_V → mj_M → mj_V → mj_M → Prop)
def mj_cv (ad : Nat → Nat) : mj_V → Value
  | .inl x => .int x
  | .inr k => .ref (ad k)
def mj_up (M : mj_M) (a j : Nat) (x : Int32) : mj_M := fun b i => if b = a ∧ i = j then x else M b i
/-- a room's 18 cells: itself, three rows, sleepers, clocks, tasks -/
def mj_rsh : Nat → Nat × Nat × Nat
  | 0 => (0, 2, 10)
  | 1 => (2, 2, 4)
  | 2 => (2, 3, 4)
  | 3 => (2, 4, 6)
  | 4 => (0, 3, 4)
  | 5 => (0, 3, 4)
  | 6 => (0, 3, 4)
  | 7 => (0, 3, 4)
  | 8 => (0, 0, 5)
  | 9 => (0, 0, 5)
  | 10 => (0, 0, 5)
  | 11 => (0, 0, 5)
  | _ => (0, 4, 2)
/-- the shape of a cell: (0, class, fields), (1, type of ints, length), (2, type of references, length), (3, .., length): a row that nobody writes -/
def mj_sh (k : Nat) : Nat × Nat × Nat :=
  if k < 54 then mj_rsh (k % 18) else
  match k with
  | 54 => (0, 1, 7)
  | 55 => (1, 0, 4)
  | 56 => (1, 0, 4)
  | 57 => (0, 5, 5)
  | 58 => (1, 1, 96)
  | 59 => (1, 0, 5)
  | 60 => (0, 6, 9)
  | 61 => (1, 0, 8)
  | 62 => (1, 0, 7)
  | 63 => (0, 7, 19)
  | 64 => (1, 0, 7)
  | 65 => (1, 0, 55)
  | 66 => (1, 0, 55)
  | 67 => (1, 0, 55)
  | 68 => (1, 0, 55)
  | 69 => (1, 0, 96)
  | 70 => (1, 0, 5)
  | 71 => (1, 0, 4)
  | 72 => (1, 0, 4)
  | 73 => (1, 0, 8)
  | 100 => (3, 0, 4)
  | 101 => (3, 0, 4)
  | 102 => (3, 0, 5)
  | 103 => (3, 0, 5)
  | 104 => (3, 0, 2)
  | 105 => (3, 0, 2)
  | 106 => (3, 0, 1)
  | 107 => (3, 0, 1)
  | 108 => (3, 0, 1)
  | 109 => (3, 0, 1)
  | _ => (9, 0, 0)
/-- what a cell's slot points to -/
def mj_pt (k j : Nat) : Nat :=
  if k < 54 then (match k % 18 with
    | 0 => k + 1 + j
    | 1 => k + 3 + j
    | 2 => k + 6 + j
    | _ => k + 9 + j) else
  match k with
  | 54 => 55 + j
  | 57 => if j = 0 then 58 else 59
  | 60 => (match j with
    | 0 => 0
    | 1 => 18
    | 2 => 36
    | 4 => 54
    | 5 => 57
    | 6 => 61
    | _ => 62)
  | _ => (match j with
    | 0 => 64
    | 1 => 65
    | 2 => 66
    | 3 => 67
    | 4 => 68
    | 6 => 69
    | 7 => 70
    | 10 => 71
    | 11 => 72
    | _ => 73)
/-- which slots of a class are references -/
def mj_rf (c j : Nat) : Bool := match c with
  | 1 => j == 0 || j == 1
  | 2 => j == 0 || j == 1 || j == 2
  | 5 => j == 0 || j == 3
  | 6 => j == 0 || j == 1 || j == 2 || j == 4 || j == 5 || j == 6 || j == 8
  | 7 => j == 0 || j == 1 || j == 2 || j == 3 || j == 4 || j == 6 || j == 7 || j == 10 || j == 11 || j == 17
  | _ => false
/-- which slots are booleans -/
def mj_bf (c j : Nat) : Bool := (c == 6 && j == 3) || (c == 7 && j == 5)
/-- the rows that nobody writes -/
def mj_sc (t j : Nat) : Int32 := match t with
  | 100 => [0, 20, 0, 0].getD j 0
  | 101 => [5, 99, 20, 30].getD j 0
  | 102 => [0, 0, 0, 1, 0].getD j 0
  | 103 => [5, 3, 299, 20, 30].getD j 0
  | 104 => [1, 0].getD j 0
  | 105 => [60, 99].getD j 0
  | 106 => 0
  | 107 => 299
  | 108 => 0
  | _ => 99
def mj_fv (ad : Nat → Nat) (M : mj_M) (k c j : Nat) : Value := if mj_rf c j = true then .ref (ad (mj_pt k j)) else .int (M k j)
def mj_ce (ad : Nat → Nat) (tA : Nat → ClassId) (M : mj_M) (k : Nat) : va_E := match mj_sh k with
  | (0, c, n) => .inr (c, (List.range n).map (mj_fv ad M k c))
  | (1, t, n) => .inl (tA t, n, .inl (M k))
  | (_, t, n) => .inl (tA t, n, .inr (.inr (.inr (.inr (fun j => some (ad (mj_pt k j)))))))
def mj_w (ad : Nat → Nat) (tA : Nat → ClassId) (M : mj_M) : va_W := (List.range 74).map (fun k => (ad k, mj_ce ad tA M k))
def mj_A (ad : Nat → Nat) : Nat → Prop := fun q => ∃ k, k < 74 ∧ ad k = q
abbrev mj_cl : List vw_C := [(RX0, TX0, 5), (RX1, TX1, 7), (RX2, TX2, 10), (RX3, TX3, 4), (RX4, TX4, 2), (RX5, TX5, 5), (RX6, TX6, 9), (RX7, TX7, 19)]
def mj_ty (tA : Nat → ClassId) : List (ClassId × FieldType) := [(tA 0, .int), (tA 1, .char), (tA 2, .object RX3), (tA 3, .object RX0), (tA 4, .object RX4)]
/-- the words that stay, and the words on private members of nest mates -/
def mj_nest : Cond → Bool
  | .fieldLinkNest .. => true
  | .methodLinkNest .. => true
  | _ => false
def mj_gT : List Cond := lw_tbl.filter goodWord
def mj_nw : List Cond := lw_tbl.filter mj_nest
/-- names of the static rows, String constants -/
def mj_sn : List String := ["SLEEPER_LEAST", "SLEEPER_MOST", "CLOCK_LEAST", "CLOCK_MOST", "TASK_LEAST", "TASK_MOST", "BUS_LEAST", "BUS_MOST", "FIRM_LEAST", "FIRM_MOST"]
def mj_st : List (Nat × String) := [(66, "S=,2,2;"), (68, "C1,3,3,3;"), (70, "2,2;"), (72, "3;"), (74, "2;"), (76, ""), (78, "sldobn"), (84, "cfprqw")]
def mj_sb : List (List Int32) := [[83, 61, 44, 50, 44, 50, 59], [67, 49, 44, 51, 44, 51, 44, 51, 59], [50, 44, 50, 59], [51, 59], [50, 59], [], [115, 108, 100, 111, 98, 110], [99, 102, 112, 114, 113, 119]]
def mj_sN : List Nat := [7, 9, 4, 2, 2, 0, 6, 6]
/-- statics of the JDK that its texts ask for -/
def mj_ST (A : Nat → Prop) (U : State) (H : Heap) : Prop := va_Z "java/lang/String" "COMPACT_STRINGS" "Z" (.int 1) A U H ∧ va_Zq "jdk/internal/util/Preconditions" "SIOOBE_FORMATTER" "Ljava/util/function/BiFunction;" A U H
/-- what nobody writes: static rows and String constants -/
def mj_RO (ad : Nat → Nat) (A : Nat → Prop) (U : State) (H : Heap) : Prop :=
  (∀ t : Nat, t < 10 → va_Z RX6 (mj_sn.getD t "") "[I" (.ref (ad (100 + t))) A U H ∧ va_T .int (ad (100 + t)) (mj_sh (100 + t)).2.2 (fun j => .int (mj_sc (100 + t) j)) A U H) ∧
  vk_S 8 mj_sN mj_sb (fun i => ad (200 + i)) (fun i => ad (300 + i)) A U H ∧ (∀ i : Nat, i < 8 → vk_R RX5 (mj_st.getD i (0, "")).1 (mj_st.getD i (0, "")).2 (ad (200 + i)) U) ∧ mj_ST A U H
def mj_E (D : va_G) (ad : Nat → Nat) (tA : Nat → ClassId) (A : Nat → Prop) (U : State) (H : Heap) : Prop :=
  va_K D mj_cl (mj_ty tA) U ∧ (∀ w ∈ mj_nw, va_Nw w U) ∧ mj_RO ad A U H
def mj_in (ad : Nat → Nat) : Prop := ∀ i j : Nat, i < 74 → j < 74 → ad i = ad j → i = j
/-- a row of the script, for the law -/
abbrev mj_Sx : Type := Bool × Nat × (Nat → Int32)
def mj_ob (a : Nat) : Nat := if a < 74 ∧ (mj_sh a).1 = 0 then (mj_sh a).2.1 else 99
def mj_ln (sx : mj_Sx) (a : Nat) : Nat := if a = 400 then sx.2.1 else (mj_sh a).2.2
def mj_cq (sx : mj_Sx) (M : mj_M) (a j : Nat) : Int32 := if a = 400 then sx.2.2 j else if 100 ≤ a then mj_sc a j else M a j
/-- kinds of rows: 0 ints, 1 chars, 2 references, 3 ints that nobody writes, 4 the script, 9 none -/
def mj_ak (a : Nat) : Nat := if a < 74 then (if (mj_sh a).1 = 1 then (mj_sh a).2.1 else if (mj_sh a).1 = 2 then 2 else 9) else if a < 100 then 9 else if a < 110 then 3 else if a = 400 then 4 else 9
def mj_g : mj_L → Nat → Option mj_V
  | [], _ => none
  | v :: _, 0 => v
  | _ :: t, n + 1 => mj_g t n
def mj_li (o : Option mj_V) (f : Int32 → Prop) : Prop := match o with
  | some (.inl x) => f x
  | _ => False
def mj_lr (o : Option mj_V) (f : Nat → Prop) : Prop := match o with
  | some (.inr a) => f a
  | _ => False
def mj_so : mj_L → Nat → mj_V → (mj_L → Prop) → Prop
  | [], _, _, _ => False
  | _ :: t, 0, v, f => f (some v :: t)
  | a :: t, n + 1, v, f => mj_so t n v (fun t' => f (a :: t'))
def mj_pi (st : mj_S) (f : Int32 → mj_S → Prop) : Prop := match st with
  | .inl x :: r => f x r
  | _ => False
def mj_pr (st : mj_S) (f : Nat → mj_S → Prop) : Prop := match st with
  | .inr a :: r => f a r
  | _ => False
def mj_pv (st : mj_S) (f : mj_V → mj_S → Prop) : Prop := match st with
  | v :: r => f v r
  | _ => False
def mj_sw : List (Int32 × Nat) → Nat → Int32 → (Nat → Prop) → Prop
  | [], d, _, f => f d
  | q :: t, d, x, f => (x = q.1 → f q.2) ∧ (¬ x = q.1 → mj_sw t d x f)
def mj_ta : Nat → mj_S → List mj_V → (List mj_V → mj_S → Prop) → Prop
  | 0, st, acc, f => f acc st
  | _ + 1, [], _, _ => False
  | n + 1, v :: st, acc, f => mj_ta n st (v :: acc) f
def mj_rt (kind : Nat) (post : mj_V → mj_M → Prop) (r : mj_S) (k : mj_S → mj_M → Prop) : Prop := match kind with
  | 0 => ∀ M' : mj_M, post (.inl 0) M' → k r M'
  | 1 => ∀ (x : Int32) (M' : mj_M), post (.inl x) M' → k (.inl x :: r) M'
  | _ => ∀ (a : Nat) (M' : mj_M), post (.inr a) M' → k (.inr a :: r) M'
abbrev mj_O : Type := Nat × Nat × Nat × Int32 × List (Int32 × Nat)
/-- one instruction, read as a formula -/
def mj_X (it : List (Nat × mj_C)) (rk : Nat) (sx : mj_Sx) (J : Nat → mj_L → mj_S → mj_M → Prop) (Rt : mj_V → mj_M → Prop) (o : mj_O) (k : mj_L → mj_S → mj_M → Prop) (L : mj_L) (st : mj_S) (M : mj_M) : Prop :=
  match o with
  | (1, _, _, z, _) => k L (.inl z :: st) M
  | (2, a, _, _, _) => k L (.inr a :: st) M
  | (3, n, _, _, _) => mj_li (mj_g L n) fun x => k L (.inl x :: st) M
  | (4, n, _, _, _) => mj_lr (mj_g L n) fun a => k L (.inr a :: st) M
  | (5, n, _, _, _) => mj_pi st fun x r => mj_so L n (.inl x) fun L' => k L' r M
  | (6, n, _, _, _) => mj_pr st fun a r => mj_so L n (.inr a) fun L' => k L' r M
  | (7, n, _, z, _) => mj_li (mj_g L n) fun x => mj_so L n (.inl (x + z)) fun L' => k L' st M
  | (10, _, _, _, _) => mj_pi st fun y r => mj_pi r fun x r => k L (.inl (x + y) :: r) M
  | (11, _, _, _, _) => mj_pi st fun y r => mj_pi r fun x r => k L (.inl (x - y) :: r) M
  | (12, _, _, _, _) => mj_pi st fun y r => mj_pi r fun x r => k L (.inl (x * y) :: r) M
  | (13, _, _, _, _) => mj_pi st fun y r => mj_pi r fun x r => ¬ y = 0 ∧ k L (.inl (x / y) :: r) M
  | (14, _, _, _, _) => mj_pi st fun y r => mj_pi r fun x r => ¬ y = 0 ∧ k L (.inl (x - x / y * y) :: r) M
  | (15, _, _, _, _) => mj_pi st fun x r => k L (.inl (-x) :: r) M
  | (16, _, _, _, _) => mj_pi st fun y r => mj_pi r fun x r => k L (.inl (x <<< (y &&& 31)) :: r) M
  | (17, _, _, _, _) => mj_pi st fun y r => mj_pi r fun x r => k L (.inl (x >>> (y &&& 31)) :: r) M
  | (18, _, _, _, _) => mj_pi st fun y r => mj_pi r fun x r => k L (.inl (x &&& y) :: r) M
  | (19, _, _, _, _) => mj_pi st fun y r => mj_pi r fun x r => k L (.inl (x ||| y) :: r) M
  | (20, _, _, _, _) => mj_pi st fun x r => k L (.inl (x.toUInt32 % 65536).toInt32 :: r) M
  | (21, _, _, _, _) => mj_pv st fun v r => k L (v :: v :: r) M
  | (22, _, _, _, _) => mj_pv st fun v r => mj_pv r fun w r => k L (v :: w :: v :: w :: r) M
  | (23, _, _, _, _) => mj_pv st fun _ r => k L r M
  | (30, t, _, _, _) => mj_pi st fun x r => (x = 0 → J t L r M) ∧ (¬ x = 0 → k L r M)
  | (31, t, _, _, _) => mj_pi st fun x r => (¬ x = 0 → J t L r M) ∧ (x = 0 → k L r M)
  | (32, t, _, _, _) => mj_pi st fun x r => (x < 0 → J t L r M) ∧ (¬ x < 0 → k L r M)
  | (33, t, _, _, _) => mj_pi st fun x r => (¬ x < 0 → J t L r M) ∧ (x < 0 → k L r M)
  | (34, t, _, _, _) => mj_pi st fun x r => (0 < x → J t L r M) ∧ (¬ 0 < x → k L r M)
  | (35, t, _, _, _) => mj_pi st fun x r => (¬ 0 < x → J t L r M) ∧ (0 < x → k L r M)
  | (36, t, _, _, _) => mj_pi st fun y r => mj_pi r fun x r => (x = y → J t L r M) ∧ (¬ x = y → k L r M)
  | (37, t, _, _, _) => mj_pi st fun y r => mj_pi r fun x r => (¬ x = y → J t L r M) ∧ (x = y → k L r M)
  | (38, t, _, _, _) => mj_pi st fun y r => mj_pi r fun x r => (x < y → J t L r M) ∧ (¬ x < y → k L r M)
  | (39, t, _, _, _) => mj_pi st fun y r => mj_pi r fun x r => (¬ x < y → J t L r M) ∧ (x < y → k L r M)
  | (40, t, _, _, _) => mj_pi st fun y r => mj_pi r fun x r => (y < x → J t L r M) ∧ (¬ y < x → k L r M)
  | (41, t, _, _, _) => mj_pi st fun y r => mj_pi r fun x r => (¬ y < x → J t L r M) ∧ (y < x → k L r M)
  | (42, t, _, _, _) => J t L st M
  | (43, d, _, _, ps) => mj_pi st fun x r => mj_sw ps d x fun t => J t L r M
  | (50, c, j, _, _) => mj_pr st fun a r => mj_ob a = c ∧ k L (.inl (M a j) :: r) M
  | (51, c, j, _, _) => mj_pr st fun a r => mj_ob a = c ∧ k L (.inr (mj_pt a j) :: r) M
  | (52, c, j, _, _) => mj_pi st fun x r => mj_pr r fun a r => mj_ob a = c ∧ k L r (mj_up M a j x)
  | (53, c, j, _, _) => mj_pi st fun x r => mj_pr r fun a r => mj_ob a = c ∧ (x = 0 ∨ x = 1) ∧ k L r (mj_up M a j x)
  | (60, _, _, _, _) => mj_pi st fun i r => mj_pr r fun a r => (mj_ak a = 0 ∨ mj_ak a = 3 ∨ (mj_ak a = 4 ∧ sx.1 = true)) ∧ vp_in i (mj_ln sx a) ∧ k L (.inl (mj_cq sx M a i.toNatClampNeg) :: r) M
  | (61, _, _, _, _) => mj_pi st fun x r => mj_pi r fun i r => mj_pr r fun a r => mj_ak a = 0 ∧ vp_in i (mj_ln sx a) ∧ k L r (mj_up M a i.toNatClampNeg x)
  | (62, _, _, _, _) => mj_pi st fun i r => mj_pr r fun a r => mj_ak a = 1 ∧ vp_in i (mj_ln sx a) ∧ k L (.inl (M a i.toNatClampNeg) :: r) M
  | (63, _, _, _, _) => mj_pi st fun x r => mj_pi r fun i r => mj_pr r fun a r => mj_ak a = 1 ∧ vp_in i (mj_ln sx a) ∧ k L r (mj_up M a i.toNatClampNeg (vp_nar .char x))
  | (64, _, _, _, _) => mj_pi st fun i r => mj_pr r fun a r => mj_ak a = 2 ∧ vp_in i (mj_ln sx a) ∧ k L (.inr (mj_pt a i.toNatClampNeg) :: r) M
  | (65, _, _, _, _) => mj_pr st fun a r => mj_ak a ≠ 9 ∧ (mj_ak a = 4 → sx.1 = true) ∧ k L (.inl (nI (mj_ln sx a)) :: r) M
  | (70, i, _, _, _) => match it.lookup i with
    | some cl => mj_ta cl.1 st [] fun avs r => r.length ≤ 8 ∧ cl.2.2.1 avs M ∧ mj_rt cl.2.1 (cl.2.2.2 avs M) r fun r' M' => k L r' M'
    | none => False
  | (80, _, _, _, _) => mj_pi st fun x r => r = [] ∧ (rk = 1 ∨ rk = 3) ∧ (rk = 3 → x = 0 ∨ x = 1) ∧ Rt (.inl x) M
  | (81, _, _, _, _) => mj_pr st fun a r => r = [] ∧ rk = 2 ∧ Rt (.inr a) M
  | (82, _, _, _, _) => st = [] ∧ rk = 0 ∧ Rt (.inl 0) M
  | _ => False
def mj_W (it : List (Nat × mj_C)) (rk : Nat) (sx : mj_Sx) (J : Nat → mj_L → mj_S → mj_M → Prop) (Rt : mj_V → mj_M → Prop) : List mj_O → Nat → mj_L → mj_S → mj_M → Prop
  | [], e, L, st, M => J e L st M
  | o :: t, e, L, st, M => mj_X it rk sx J Rt o (mj_W it rk sx J Rt t e) L st M
