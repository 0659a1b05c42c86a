/-! A NEW OBJECT: the first answer, whatever is asked -/
theorem fst_eq {a b : Int32} {σ τ : Mem} {f g : Int32 × Mem} (e1 : (a, σ) = f) (e2 : (b, τ) = g) (h : f.1 = g.1) : a = b := by
  subst e1 e2
  exact h
theorem new_4 (r : Nat) (hr : r ≠ 2) : s0_G r = fun _ => 0 := if_neg hr
theorem new_row (r : Nat) (hr : r ≠ 2) : ∀ (n : Nat) (σ : Mem) (t : Int32), f_X5_init_188 n σ t r = σ r := by
  intro n
  induction n with
  | zero => intro σ t; rfl
  | succ n ih =>
    intro σ t
    unfold f_X5_init_188
    by_cases c : 6 ≤ t
    · rw [if_pos c]
    · rw [if_neg c]
      exact (ih _ _).trans (mset_ne _ _ _ hr)
theorem new_5 (r : Nat) (hr : r ≠ 2) : f_X5_init r = fun _ => 0 := new_row r hr 7 s0_X5 0
theorem new_2 : ∀ j : Nat, j < 6 → s0_G 2 j = f_X5_init 2 j := by
  intro j hj
  rcases (show j = 0 ∨ j = 1 ∨ j = 2 ∨ j = 3 ∨ j = 4 ∨ j = 5 by omega) with rfl | rfl | rfl | rfl | rfl | rfl <;> decide +kernel
theorem in_lt {x z : Int32} {n : Nat} (h : ¬ bI (f_X5_in x 0 z) = 0) (hz : z.toInt < n) : x.toNatClampNeg < n := by
  unfold f_X5_in at h
  by_cases c : x < 0
  · rw [if_pos c] at h; exact absurd rfl h
  · rw [if_neg c] at h
    by_cases d : z < x
    · rw [if_pos d] at h; exact absurd rfl h
    · rw [Int32.lt_iff_toInt_lt] at c d
      have z0 : (0 : Int32).toInt = 0 := by decide
      have e : x.toNatClampNeg = x.toInt.toNat := rfl
      omega
theorem new_show (x1 x2 : Int32) : (f_X4_show s0_G x1 x2).1 = (f_X5_show f_X5_init x1 x2).1 := by
  unfold f_X4_show f_X5_show
  rw [q_sensor]
  by_cases c : bI (f_X5_isSensor x1) = 0
  · rw [if_pos c, if_pos c]; rfl
  · rw [if_neg c, if_neg c]
    show mset s0_G 0 15 0 1 x1.toNatClampNeg = mset f_X5_init 0 24 0 1 x1.toNatClampNeg
    rw [mset_ne _ _ _ (by decide), mset_ne _ _ _ (by decide), new_4 1 (by decide), new_5 1 (by decide)]
theorem new_shown (x1 : Int32) : (f_X4_shown s0_G x1).1 = (f_X5_shown f_X5_init x1).1 := by
  have z (w : Int32) : f_X4_reading (mset s0_G 0 15 w) x1 = 0 := by
    unfold f_X4_reading
    rw [mset_ne _ _ _ (by decide), new_4 1 (by decide)]
    refine ite_i (P := fun a => a = (0 : Int32)) (fun _ => rfl) (fun _ => ?_)
    exact ite_i (P := fun a => a = (0 : Int32)) (fun _ => rfl) (fun _ => rfl)
  unfold f_X4_shown f_X5_shown
  rw [q_sensor]
  by_cases c : bI (f_X5_isSensor x1) = 0
  · rw [if_pos c, if_pos c]; exact z _
  · rw [if_neg c, if_neg c]
    refine (z 0).trans ?_
    show 0 = mset f_X5_init 0 24 0 1 x1.toNatClampNeg
    rw [mset_ne _ _ _ (by decide), new_5 1 (by decide)]
theorem new_fill (x1 x2 : Int32) : (f_X4_fill s0_G x1 x2).1 = (f_X5_fill f_X5_init x1 x2).1 := by
  unfold f_X4_fill f_X5_fill
  rw [q_tank, q_in]
  by_cases c : bI (f_X5_isTank x1) = 0
  · rw [if_pos c, if_pos c]
  · rw [if_neg c, if_neg c]
    by_cases d : bI (f_X5_in x2 0 1000000) = 0
    · rw [if_pos d, if_pos d]
    · rw [if_neg d, if_neg d]
      exact new_2 _ (in_lt (z := 5) c (by decide))
theorem new_tank (x1 : Int32) : f_X4_tank s0_G x1 = f_X5_tank f_X5_init x1 := by
  unfold f_X4_tank f_X5_tank
  rw [q_tank]
  by_cases c : bI (f_X5_isTank x1) = 0
  · rw [if_pos c, if_pos c]
  · rw [if_neg c, if_neg c]
    exact new_2 _ (in_lt (z := 5) c (by decide))
theorem new_none (x : Int32) (α : Type) : (if x < 0 then (none : Option α) else none) = none := by
  exact ite_i (P := fun a => a = (none : Option α)) (fun _ => rfl) (fun _ => rfl)
theorem new_0 {x : Int32} (c : ¬ x < 0) : (0 : Int32) ≤ x := by
  rw [Int32.le_iff_toInt_le]
  rw [Int32.lt_iff_toInt_lt] at c
  omega
theorem new_in (x : Int32) : f_X5_in x 0 (0 - 1) = false := by
  unfold f_X5_in
  by_cases c : x < 0
  · rw [if_pos c]
  · rw [if_neg c, if_pos]
    rw [Int32.lt_iff_toInt_lt] at c ⊢
    have z0 : (0 : Int32).toInt = 0 := by decide
    have z1 : (0 - 1 : Int32).toInt = -1 := by decide
    omega
theorem new_ask (x1 : Int32) : (f_X4_ask s0_G x1).1 = (f_X5_ask f_X5_init x1).1 := by
  have e : f_X4_ruleAt s0_G x1 = none := by
    unfold f_X4_ruleAt
    by_cases c : x1 < 0
    · rw [if_pos c]
    · rw [if_neg c, if_pos (show s0_G 0 7 ≤ x1 from new_0 c)]
  have f : f_X5_isRule f_X5_init x1 = false := by
    unfold f_X5_isRule
    rw [new_5 0 (by decide)]
    exact new_in x1
  unfold f_X4_ask f_X5_ask
  rw [e, f, if_pos (show bI false = 0 from rfl)]
  rfl
theorem new_run (x1 : Int32) : (f_X4_run s0_G x1).1 = (f_X5_run f_X5_init x1).1 := by
  have e : f_X4_actAt s0_G x1 = none := by
    unfold f_X4_actAt
    by_cases c : x1 < 0
    · rw [if_pos c]
    · rw [if_neg c, if_pos (show s0_G 0 8 ≤ x1 from new_0 c)]
  have f : f_X5_isAct f_X5_init x1 = false := by
    unfold f_X5_isAct
    rw [new_5 0 (by decide)]
    exact new_in x1
  unfold f_X4_run f_X5_run
  rw [e, f, if_pos (show bI false = 0 from rfl)]
  rfl
theorem new_amount : f_X4_amount s0_G = f_X5_amount f_X5_init := by
  unfold f_X4_amount f_X5_amount
  rw [new_4 0 (by decide), new_5 0 (by decide)]
theorem new_count (x1 : Int32) : f_X4_count s0_G x1 = f_X5_count f_X5_init x1 := by
  unfold f_X4_count f_X5_count
  rw [new_4 0 (by decide), new_4 6 (by decide), new_4 7 (by decide), new_5 0 (by decide)]
theorem new_has (x : Int32) : f_X1_has s0_G x = false := by
  unfold f_X1_has
  by_cases c : x < 0
  · rw [if_pos c]
  · rw [if_neg c, if_pos (show s0_G 7 3 ≤ x from new_0 c)]
theorem new_failed (x1 x2 : Int32) : f_X4_failed s0_G x1 x2 = f_X5_failed f_X5_init x1 x2 := by
  have e0 : f_X1_actAt s0_G x1 = -1 := by unfold f_X1_actAt; rw [new_has]; rfl
  have e1 : f_X1_failureAt s0_G x1 = -1 := by unfold f_X1_failureAt; rw [new_has]; rfl
  have e2 : f_X1_timeAt s0_G x1 = -1 := by unfold f_X1_timeAt; rw [new_has]; rfl
  unfold f_X4_failed f_X5_failed
  rw [e0, e1, e2, new_5 0 (by decide)]
  dsimp only
  rw [new_in, if_pos (show bI false = 0 from rfl)]
  by_cases c0 : x2 = 0
  · subst c0; rfl
  · rw [if_neg c0]
    by_cases c1 : x2 = 1
    · subst c1; rfl
    · rw [if_neg c1]
      by_cases c2 : x2 = 2
      · subst c2; rfl
      · rw [if_neg c2, if_pos]
        unfold f_X5_in
        by_cases c : x2 < 0
        · rw [if_pos c]; rfl
        · rw [if_neg c]
          by_cases d : 2 < x2
          · rw [if_pos d]; rfl
          · exfalso
            rw [Int32.lt_iff_toInt_lt] at c d
            have z0 : (0 : Int32).toInt = 0 := by decide
            have z2 : (2 : Int32).toInt = 2 := by decide
            rcases (show x2.toInt = 0 ∨ x2.toInt = 1 ∨ x2.toInt = 2 by omega) with h | h | h
            · exact c0 (Int32.toInt_inj.mp (h.trans (by decide)))
            · exact c1 (Int32.toInt_inj.mp (h.trans (by decide)))
            · exact c2 (Int32.toInt_inj.mp (h.trans (by decide)))
theorem due4 {σ : Mem} (h : σ 6 2 = 0) : f_X4_doThoseDue σ = (0, σ) := by
  show f_X4_doThoseDue_2 (100 + 1) σ 0 = (0, σ)
  rw [f_X4_doThoseDue_2, if_neg (show ¬ (100 : Int32) ≤ 0 by decide)]
  refine ite_i (P := fun a => a = ((0 : Int32), σ)) (fun _ => rfl) (fun _ => ?_)
  have e : f_X3_takeFirstFor σ (σ 0 9) = (-1, σ) := by
    show f_X3_takeFirstFor_2 (60 + 1) σ (σ 0 9) 0 = (-1, σ)
    rw [f_X3_takeFirstFor_2, if_pos (show σ 6 2 ≤ 0 by rw [h]; decide)]
  rw [e]
  unfold bnd2
  dsimp only
  rw [if_pos rfl]
theorem due5 {τ : Mem} (h : τ 0 14 = 0) : f_X5_due τ = -1 := by
  unfold f_X5_due
  rw [h]
  show f_X5_due_9 (60 + 1) τ (-1) (0 - 1) = -1
  rw [f_X5_due_9, if_pos (show (0 - 1 : Int32) < 0 by decide)]
theorem tick4 {n : Nat} {σ : Mem} {x a j : Int32} (h : σ 6 2 = 0) (c : ¬ x ≤ j) : f_X4_tick_17 (n + 1) σ x a j = f_X4_tick_17 n (mset σ 0 9 (σ 0 9 + 1)) x (a + 0) (j + 1) := by
  rw [f_X4_tick_17, if_neg c]
  refine bnd_i (P := fun b => b = f_X4_tick_17 n (mset σ 0 9 (σ 0 9 + 1)) x (a + 0) (j + 1)) (fun s1 e1 => ?_)
  rw [due4 (by rw [e1, mset_ne _ _ _ (by decide)]; exact h), e1]
  rfl
theorem tick5 {n : Nat} {τ : Mem} {x a j : Int32} (h : τ 0 14 = 0) (c : ¬ x ≤ j) : f_X5_tick_17 (n + 1) τ x a j = f_X5_tick_17 n (mset τ 0 2 (τ 0 2 + 1)) x (a + 0) (j + 1) := by
  rw [f_X5_tick_17, if_neg c]
  show f_X5_tick_41 (f_X5_tick_17 n) (100 + 1) (mset τ 0 2 (τ 0 2 + 1)) x a j 0 (f_X5_due (mset τ 0 2 (τ 0 2 + 1))) = _
  rw [due5 (by rw [mset_n _ _ _ (by decide)]; exact h), f_X5_tick_41, if_neg (show ¬ (100 : Int32) ≤ 0 by decide), if_pos rfl]
  rfl
theorem tick_new : ∀ (n : Nat) (σ τ : Mem) (x a j : Int32), σ 6 2 = 0 → τ 0 14 = 0 → (f_X4_tick_17 n σ x a j).1 = (f_X5_tick_17 n τ x a j).1 := by
  intro n
  induction n with
  | zero => intro σ τ x a j _ _; rfl
  | succ n ih =>
    intro σ τ x a j h g
    by_cases c : x ≤ j
    · rw [f_X4_tick_17, f_X5_tick_17, if_pos c, if_pos c]
    · rw [tick4 h c, tick5 g c]
      exact ih _ _ _ _ _ (by rw [mset_ne _ _ _ (by decide)]; exact h) (by rw [mset_n _ _ _ (by decide)]; exact g)
theorem new_tick (x1 : Int32) : (f_X4_tick s0_G x1).1 = (f_X5_tick f_X5_init x1).1 := by
  unfold f_X4_tick f_X5_tick
  rw [q_in]
  by_cases c : bI (f_X5_in x1 1 50) = 0
  · rw [if_pos c, if_pos c]
  · rw [if_neg c, if_neg c]
    exact tick_new _ _ _ _ _ _ (by rw [new_4 6 (by decide)]) (by rw [new_5 0 (by decide)])
theorem new_why : f_X4_why s0_G = f_X5_why f_X5_init := by
  unfold f_X4_why f_X5_why
  rw [new_4 0 (by decide), new_5 0 (by decide)]
theorem new_rule (x1 x2 x3 x4 : Int32) : (f_X4_rule s0_G x1 x2 x3 x4).1 = (f_X5_rule f_X5_init x1 x2 x3 x4).1 := (eq_rule (n := 0) (by omega) (by rw [new_4 0 (by decide)]; rfl) (by rw [new_5 0 (by decide)]; rfl) x1 x2 x3 x4).1
theorem new_act (x1 x2 x3 x4 : Int32) : (f_X4_act s0_G x1 x2 x3 x4).1 = (f_X5_act f_X5_init x1 x2 x3 x4).1 := (eq_act (n := 0) (m := 0) (by omega) (by omega) (by rw [new_4 0 (by decide)]; rfl) (by rw [new_5 0 (by decide)]; rfl) (by rw [new_4 0 (by decide)]; rfl) (by rw [new_5 0 (by decide)]; rfl) x1 x2 x3 x4).1
