theorem nI_ij {a b : Nat} (ha : a ≤ 40) (hb : b ≤ 40) (h : nI a = nI b) : a = b := by
  have e := congrArg Int32.toInt h
  rw [nI_toInt (by omega), nI_toInt (by omega)] at e
  omega
/-! RULE AND ACT: the same answer, the same count, where the counts are the same -/
def R7 (i j : Nat) (a b : Int32 × Mem) : Prop := a.1 = b.1 ∧ a.2 0 i = b.2 0 j
theorem q_in (v lo hi : Int32) : f_X4_isWithin v lo hi = f_X5_in v lo hi := rfl
theorem q_up {x y z : Int32} (h : z.toInt = y.toInt - 1) : y ≤ x ↔ z < x := by
  rw [Int32.le_iff_toInt_le, Int32.lt_iff_toInt_lt]
  omega
theorem q_bnd {x y z : Int32} (h : z.toInt = y.toInt - 1) : (if x < 0 then false else if y ≤ x then false else true) = f_X5_in x 0 z := by
  unfold f_X5_in
  by_cases c : x < 0
  · rw [if_pos c, if_pos c]
  · rw [if_neg c, if_neg c]
    by_cases d : y ≤ x
    · rw [if_pos d, if_pos ((q_up h).mp d)]
    · rw [if_neg d, if_neg (fun g => d ((q_up h).mpr g))]
theorem q_sensor (x : Int32) : f_X4_isSensor x = f_X5_isSensor x := q_bnd (x := x) (y := 8) (z := 7) (by decide)
theorem q_tank (x : Int32) : f_X4_isTank x = f_X5_isTank x := q_bnd (x := x) (y := 6) (z := 5) (by decide)
theorem q_at {n : Nat} (hn : n ≤ 40) {y x : Int32} (h : y = nI n) : (optE (if x < 0 then none else if y ≤ x then none else if 40 ≤ x then none else some x.toNatClampNeg) false fun _ => true) = f_X5_in x 0 (y - 1) := by
  have e : (y - 1).toInt = y.toInt - 1 := by
    rw [h, show (1 : Int32) = nI 1 from rfl, pk_sub_toInt (by omega) (by omega), nI_toInt (by omega)]
    rfl
  rw [← q_bnd e]
  by_cases c : x < 0
  · rw [if_pos c, if_pos c]; rfl
  · rw [if_neg c, if_neg c]
    by_cases d : y ≤ x
    · rw [if_pos d, if_pos d]; rfl
    · rw [if_neg d, if_neg d]
      have g : ¬ 40 ≤ x := fun g => d (by
        rw [Int32.le_iff_toInt_le] at g ⊢
        rw [h, nI_toInt (by omega)]
        have : (40 : Int32).toInt = 40 := by decide
        omega)
      rw [if_neg g]; rfl
theorem q_isRule {n : Nat} (hn : n ≤ 40) {σ τ : Mem} (h1 : σ 0 7 = nI n) (h2 : τ 0 3 = nI n) (x : Int32) : f_X4_isRule σ x = f_X5_isRule τ x := by
  unfold f_X5_isRule
  rw [h2, ← h1]
  exact q_at hn h1
theorem q_isAct {n : Nat} (hn : n ≤ 40) {σ τ : Mem} (h1 : σ 0 8 = nI n) (h2 : τ 0 9 = nI n) (x : Int32) : f_X4_isAct σ x = f_X5_isAct τ x := by
  unfold f_X5_isAct
  rw [h2, ← h1]
  exact q_at hn h1
theorem q_isActN {n : Nat} (hn : n ≤ 40) {σ τ : Mem} (h1 : σ 0 8 = nI n) (h2 : τ 0 9 = nI n) (x : Int32) : f_X4_isActOrNone σ x = f_X5_isActOrNone τ x := by
  unfold f_X4_isActOrNone f_X5_isActOrNone
  rw [q_isAct hn h1 h2]
theorem q_parts {n m : Nat} (hn : n ≤ 40) (hm : m ≤ 40) {σ τ : Mem} (h1 : σ 0 7 = nI n) (h2 : τ 0 3 = nI n) (h3 : σ 0 8 = nI m) (h4 : τ 0 9 = nI m) (x1 x2 x3 x4 : Int32) : f_X4_knowsPartsOfAct σ x1 x2 x3 x4 = f_X5_areKnown τ x1 x2 x3 x4 := by
  unfold f_X4_knowsPartsOfAct f_X5_areKnown
  rw [q_tank, q_tank, q_sensor, q_isRule hn h1 h2, q_isAct hm h3 h4, q_isAct hm h3 h4, q_isActN hm h3 h4, q_isActN hm h3 h4]
theorem q_l40 {n : Nat} (hn : n ≤ 40) : nI n < 40 ↔ ¬ nI n = 40 := by
  rw [Int32.lt_iff_toInt_lt, nI_toInt (by omega), show (40 : Int32).toInt = 40 by decide]
  constructor
  · intro h e
    have := congrArg Int32.toInt e
    rw [nI_toInt (by omega), show (40 : Int32).toInt = 40 by decide] at this
    omega
  · intro h
    have : n ≠ 40 := fun e => h (by rw [e]; rfl)
    omega
theorem q_aa (y : Int32) : y + 1 - 1 = y := by
  apply Int32.toBitVec_inj.mp
  simp
theorem q_116 {n : Nat} (hn : n ≤ 40) {σ τ : Mem} (h1 : σ 0 7 = nI n) (h2 : τ 0 3 = nI n) (x1 x2 x3 x4 : Int32) : R7 7 3 (if σ 0 7 < 40 then f_X4_rule_51 σ x1 x2 x3 x4 else ((-4), σ)) (f_X5_rule_116 τ x1 x2 x3 x4) := by
  have e0 : σ 0 7 = τ 0 3 := h1.trans h2.symm
  unfold f_X5_rule_116
  by_cases c : τ 0 3 = 40
  · rw [if_pos c, if_neg (by rw [e0, c]; decide)]
    exact ⟨rfl, e0⟩
  · rw [if_neg c, if_pos (by rw [h1]; exact (q_l40 hn).mpr (by rw [← h2]; exact c))]
    have e1 : (f_X4_rule_51 σ x1 x2 x3 x4).2 0 7 = σ 0 7 + 1 := by unfold f_X4_rule_51 newR; dsimp only; rw [mset_s]
    have e2 : (f_X4_rule_51 σ x1 x2 x3 x4).1 = σ 0 7 := rfl
    refine bnd_i (P := R7 7 3 _) (fun s1 _ => ?_)
    refine bnd_i (P := R7 7 3 _) (fun s2 _ => ?_)
    refine bnd_i (P := R7 7 3 _) (fun s3 _ => ?_)
    refine bnd_i (P := R7 7 3 _) (fun s4 _ => ?_)
    refine ite_i (P := R7 7 3 _) (fun _ => ?_) (fun _ => ?_)
    · refine bnd_i (P := R7 7 3 _) (fun s5 _ => ?_)
      refine bnd_i (P := R7 7 3 _) (fun s6 e6 => ?_)
      exact ⟨by rw [e2, e0]; exact (q_aa _).symm, by rw [e1, e6, e0]; dsimp only; rw [mset_s]⟩
    · refine bnd_i (P := R7 7 3 _) (fun s5 _ => ?_)
      refine bnd_i (P := R7 7 3 _) (fun s6 e6 => ?_)
      exact ⟨by rw [e2, e0]; exact (q_aa _).symm, by rw [e1, e6, e0]; dsimp only; rw [mset_s]⟩
theorem q_93 {n : Nat} (hn : n ≤ 40) {σ τ : Mem} (h1 : σ 0 8 = nI n) (h2 : τ 0 9 = nI n) (x1 x2 x3 x4 : Int32) : R7 8 9 (if σ 0 8 < 40 then (if x1 = 7 then bnd ((σ 0 8) - 1) fun v1 => f_X4_act_71 σ x1 x2 x3 x4 v1 else f_X4_act_71 σ x1 x2 x3 x4 x2) else ((-4), σ)) (f_X5_act_93 τ x1 x2 x3 x4) := by
  have e0 : σ 0 8 = τ 0 9 := h1.trans h2.symm
  unfold f_X5_act_93
  by_cases c : τ 0 9 = 40
  · rw [if_pos c, if_neg (by rw [e0, c]; decide)]
    exact ⟨rfl, e0⟩
  · rw [if_neg c, if_pos (by rw [h1]; exact (q_l40 hn).mpr (by rw [← h2]; exact c))]
    have hL : ∀ Y : Int32 × Mem, Y.1 = τ 0 9 → Y.2 0 9 = τ 0 9 + 1 → R7 8 9 (if x1 = 7 then bnd ((σ 0 8) - 1) fun v1 => f_X4_act_71 σ x1 x2 x3 x4 v1 else f_X4_act_71 σ x1 x2 x3 x4 x2) Y := by
      intro Y y1 y2
      refine ite_i (P := fun a => R7 8 9 a Y) (fun _ => ?_) (fun _ => ?_)
      · refine bnd_i (P := fun a => R7 8 9 a Y) (fun f _ => ?_)
        exact ⟨e0.trans y1.symm, by rw [y2, ← e0]; unfold f_X4_act_71 newX; dsimp only; rw [mset_s]⟩
      · exact ⟨e0.trans y1.symm, by rw [y2, ← e0]; unfold f_X4_act_71 newX; dsimp only; rw [mset_s]⟩
    refine bnd_i (P := R7 8 9 _) (fun s1 _ => ?_)
    refine ite_i (P := R7 8 9 _) (fun _ => ?_) (fun _ => ?_)
    · refine bnd_i (P := R7 8 9 _) (fun s2 _ => ?_)
      refine bnd_i (P := R7 8 9 _) (fun s3 _ => ?_)
      refine bnd_i (P := R7 8 9 _) (fun s4 _ => ?_)
      refine bnd_i (P := R7 8 9 _) (fun s5 e5 => ?_)
      exact hL _ (q_aa _) (by rw [e5]; dsimp only; rw [mset_s])
    · refine bnd_i (P := R7 8 9 _) (fun s2 _ => ?_)
      refine bnd_i (P := R7 8 9 _) (fun s3 _ => ?_)
      refine bnd_i (P := R7 8 9 _) (fun s4 _ => ?_)
      refine bnd_i (P := R7 8 9 _) (fun s5 e5 => ?_)
      exact hL _ (q_aa _) (by rw [e5]; dsimp only; rw [mset_s])
theorem q_rng9 (x : Int32) : bI (f_X5_in x 0 9) = 0 ∨ x = 0 ∨ x = 1 ∨ x = 2 ∨ x = 3 ∨ x = 4 ∨ x = 5 ∨ x = 6 ∨ x = 7 ∨ x = 8 ∨ x = 9 := by
  unfold f_X5_in
  by_cases c : x < 0
  · rw [if_pos c]; exact Or.inl rfl
  · rw [if_neg c]
    by_cases d : 9 < x
    · rw [if_pos d]; exact Or.inl rfl
    · refine Or.inr ?_
      rw [Int32.lt_iff_toInt_lt] at c d
      have z0 : (0 : Int32).toInt = 0 := by decide
      have z9 : (9 : Int32).toInt = 9 := by decide
      have hk : x.toInt = 0 ∨ x.toInt = 1 ∨ x.toInt = 2 ∨ x.toInt = 3 ∨ x.toInt = 4 ∨ x.toInt = 5 ∨ x.toInt = 6 ∨ x.toInt = 7 ∨ x.toInt = 8 ∨ x.toInt = 9 := by omega
      rcases hk with hk | hk | hk | hk | hk | hk | hk | hk | hk | hk
      · exact Or.inl (Int32.toInt_inj.mp (hk.trans (by decide)))
      · exact Or.inr (Or.inl (Int32.toInt_inj.mp (hk.trans (by decide))))
      · exact Or.inr (Or.inr (Or.inl (Int32.toInt_inj.mp (hk.trans (by decide)))))
      · exact Or.inr (Or.inr (Or.inr (Or.inl (Int32.toInt_inj.mp (hk.trans (by decide))))))
      · exact Or.inr (Or.inr (Or.inr (Or.inr (Or.inl (Int32.toInt_inj.mp (hk.trans (by decide)))))))
      · exact Or.inr (Or.inr (Or.inr (Or.inr (Or.inr (Or.inl (Int32.toInt_inj.mp (hk.trans (by decide))))))))
      · exact Or.inr (Or.inr (Or.inr (Or.inr (Or.inr (Or.inr (Or.inl (Int32.toInt_inj.mp (hk.trans (by decide)))))))))
      · exact Or.inr (Or.inr (Or.inr (Or.inr (Or.inr (Or.inr (Or.inr (Or.inl (Int32.toInt_inj.mp (hk.trans (by decide))))))))))
      · exact Or.inr (Or.inr (Or.inr (Or.inr (Or.inr (Or.inr (Or.inr (Or.inr (Or.inl (Int32.toInt_inj.mp (hk.trans (by decide)))))))))))
      · exact Or.inr (Or.inr (Or.inr (Or.inr (Or.inr (Or.inr (Or.inr (Or.inr (Or.inr ((Int32.toInt_inj.mp (hk.trans (by decide))))))))))))
theorem q_rng8 (x : Int32) : bI (f_X5_in x 0 8) = 0 ∨ x = 0 ∨ x = 1 ∨ x = 2 ∨ x = 3 ∨ x = 4 ∨ x = 5 ∨ x = 6 ∨ x = 7 ∨ x = 8 := by
  unfold f_X5_in
  by_cases c : x < 0
  · rw [if_pos c]; exact Or.inl rfl
  · rw [if_neg c]
    by_cases d : 8 < x
    · rw [if_pos d]; exact Or.inl rfl
    · refine Or.inr ?_
      rw [Int32.lt_iff_toInt_lt] at c d
      have z0 : (0 : Int32).toInt = 0 := by decide
      have z9 : (8 : Int32).toInt = 8 := by decide
      have hk : x.toInt = 0 ∨ x.toInt = 1 ∨ x.toInt = 2 ∨ x.toInt = 3 ∨ x.toInt = 4 ∨ x.toInt = 5 ∨ x.toInt = 6 ∨ x.toInt = 7 ∨ x.toInt = 8 := by omega
      rcases hk with hk | hk | hk | hk | hk | hk | hk | hk | hk
      · exact Or.inl (Int32.toInt_inj.mp (hk.trans (by decide)))
      · exact Or.inr (Or.inl (Int32.toInt_inj.mp (hk.trans (by decide))))
      · exact Or.inr (Or.inr (Or.inl (Int32.toInt_inj.mp (hk.trans (by decide)))))
      · exact Or.inr (Or.inr (Or.inr (Or.inl (Int32.toInt_inj.mp (hk.trans (by decide))))))
      · exact Or.inr (Or.inr (Or.inr (Or.inr (Or.inl (Int32.toInt_inj.mp (hk.trans (by decide)))))))
      · exact Or.inr (Or.inr (Or.inr (Or.inr (Or.inr (Or.inl (Int32.toInt_inj.mp (hk.trans (by decide))))))))
      · exact Or.inr (Or.inr (Or.inr (Or.inr (Or.inr (Or.inr (Or.inl (Int32.toInt_inj.mp (hk.trans (by decide)))))))))
      · exact Or.inr (Or.inr (Or.inr (Or.inr (Or.inr (Or.inr (Or.inr (Or.inl (Int32.toInt_inj.mp (hk.trans (by decide))))))))))
      · exact Or.inr (Or.inr (Or.inr (Or.inr (Or.inr (Or.inr (Or.inr (Or.inr ((Int32.toInt_inj.mp (hk.trans (by decide)))))))))))
theorem kp_0 (σ : Mem) (x2 x3 : Int32) : f_X4_knowsPartsOfRule σ 0 x2 x3 = f_X4_isSensor x2 := by
  unfold f_X4_knowsPartsOfRule
  rw [if_neg (show ¬ (0 : Int32) = 3 by decide), if_neg (show ¬ (0 : Int32) = 4 by decide), if_neg (show ¬ (0 : Int32) = 5 by decide), if_neg (show ¬ (0 : Int32) = 6 by decide), if_neg (show ¬ (0 : Int32) = 7 by decide), if_neg (show ¬ (0 : Int32) = 8 by decide), if_neg (show ¬ (0 : Int32) = 9 by decide)]
theorem hn_0 (x3 x4 : Int32) : f_X4_hasNumbersOfRule 0 x3 x4 = true := by
  unfold f_X4_hasNumbersOfRule
  rw [if_neg (show ¬ (0 : Int32) = 1 by decide), if_neg (show ¬ (0 : Int32) = 8 by decide)]
theorem f87_0 (σ : Mem) (x2 x3 x4 : Int32) : f_X5_rule_87 σ 0 x2 x3 x4 = f_X5_rule_116 σ 0 x2 x3 x4 := by
  unfold f_X5_rule_87 f_X5_rule_103
  rw [if_neg (show ¬ (0 : Int32) = 8 by decide), if_neg (show ¬ (0 : Int32) = 1 by decide)]
theorem kp_1 (σ : Mem) (x2 x3 : Int32) : f_X4_knowsPartsOfRule σ 1 x2 x3 = f_X4_isSensor x2 := by
  unfold f_X4_knowsPartsOfRule
  rw [if_neg (show ¬ (1 : Int32) = 3 by decide), if_neg (show ¬ (1 : Int32) = 4 by decide), if_neg (show ¬ (1 : Int32) = 5 by decide), if_neg (show ¬ (1 : Int32) = 6 by decide), if_neg (show ¬ (1 : Int32) = 7 by decide), if_neg (show ¬ (1 : Int32) = 8 by decide), if_neg (show ¬ (1 : Int32) = 9 by decide)]
theorem hn_1 (x3 x4 : Int32) : f_X4_hasNumbersOfRule 1 x3 x4 = (if x4 < 0 then false else true) := by
  unfold f_X4_hasNumbersOfRule
  rw [if_pos (show (1 : Int32) = 1 from rfl)]
theorem f87_1 (σ : Mem) (x2 x3 x4 : Int32) : f_X5_rule_87 σ 1 x2 x3 x4 = (if 0 ≤ x4 then f_X5_rule_116 σ 1 x2 x3 x4 else ((-3), σ)) := by
  unfold f_X5_rule_87 f_X5_rule_103
  rw [if_neg (show ¬ (1 : Int32) = 8 by decide), if_pos (show (1 : Int32) = 1 from rfl)]
theorem kp_2 (σ : Mem) (x2 x3 : Int32) : f_X4_knowsPartsOfRule σ 2 x2 x3 = f_X4_isSensor x2 := by
  unfold f_X4_knowsPartsOfRule
  rw [if_neg (show ¬ (2 : Int32) = 3 by decide), if_neg (show ¬ (2 : Int32) = 4 by decide), if_neg (show ¬ (2 : Int32) = 5 by decide), if_neg (show ¬ (2 : Int32) = 6 by decide), if_neg (show ¬ (2 : Int32) = 7 by decide), if_neg (show ¬ (2 : Int32) = 8 by decide), if_neg (show ¬ (2 : Int32) = 9 by decide)]
theorem hn_2 (x3 x4 : Int32) : f_X4_hasNumbersOfRule 2 x3 x4 = true := by
  unfold f_X4_hasNumbersOfRule
  rw [if_neg (show ¬ (2 : Int32) = 1 by decide), if_neg (show ¬ (2 : Int32) = 8 by decide)]
theorem f87_2 (σ : Mem) (x2 x3 x4 : Int32) : f_X5_rule_87 σ 2 x2 x3 x4 = f_X5_rule_116 σ 2 x2 x3 x4 := by
  unfold f_X5_rule_87 f_X5_rule_103
  rw [if_neg (show ¬ (2 : Int32) = 8 by decide), if_neg (show ¬ (2 : Int32) = 1 by decide)]
theorem kp_3 (σ : Mem) (x2 x3 : Int32) : f_X4_knowsPartsOfRule σ 3 x2 x3 = (if bI (f_X4_isSensor x2) = 0 then false else (if bI (f_X4_isSensor x3) = 0 then false else true)) := by
  unfold f_X4_knowsPartsOfRule
  rw [if_pos (show (3 : Int32) = 3 from rfl)]
theorem hn_3 (x3 x4 : Int32) : f_X4_hasNumbersOfRule 3 x3 x4 = true := by
  unfold f_X4_hasNumbersOfRule
  rw [if_neg (show ¬ (3 : Int32) = 1 by decide), if_neg (show ¬ (3 : Int32) = 8 by decide)]
theorem f87_3 (σ : Mem) (x2 x3 x4 : Int32) : f_X5_rule_87 σ 3 x2 x3 x4 = f_X5_rule_116 σ 3 x2 x3 x4 := by
  unfold f_X5_rule_87 f_X5_rule_103
  rw [if_neg (show ¬ (3 : Int32) = 8 by decide), if_neg (show ¬ (3 : Int32) = 1 by decide)]
theorem kp_4 (σ : Mem) (x2 x3 : Int32) : f_X4_knowsPartsOfRule σ 4 x2 x3 = f_X4_isSensor x2 := by
  unfold f_X4_knowsPartsOfRule
  rw [if_neg (show ¬ (4 : Int32) = 3 by decide), if_pos (show (4 : Int32) = 4 from rfl)]
theorem hn_4 (x3 x4 : Int32) : f_X4_hasNumbersOfRule 4 x3 x4 = true := by
  unfold f_X4_hasNumbersOfRule
  rw [if_neg (show ¬ (4 : Int32) = 1 by decide), if_neg (show ¬ (4 : Int32) = 8 by decide)]
theorem f87_4 (σ : Mem) (x2 x3 x4 : Int32) : f_X5_rule_87 σ 4 x2 x3 x4 = f_X5_rule_116 σ 4 x2 x3 x4 := by
  unfold f_X5_rule_87 f_X5_rule_103
  rw [if_neg (show ¬ (4 : Int32) = 8 by decide), if_neg (show ¬ (4 : Int32) = 1 by decide)]
theorem kp_5 (σ : Mem) (x2 x3 : Int32) : f_X4_knowsPartsOfRule σ 5 x2 x3 = f_X4_isRule σ x2 := by
  unfold f_X4_knowsPartsOfRule
  rw [if_neg (show ¬ (5 : Int32) = 3 by decide), if_neg (show ¬ (5 : Int32) = 4 by decide), if_pos (show (5 : Int32) = 5 from rfl)]
theorem hn_5 (x3 x4 : Int32) : f_X4_hasNumbersOfRule 5 x3 x4 = true := by
  unfold f_X4_hasNumbersOfRule
  rw [if_neg (show ¬ (5 : Int32) = 1 by decide), if_neg (show ¬ (5 : Int32) = 8 by decide)]
theorem f87_5 (σ : Mem) (x2 x3 x4 : Int32) : f_X5_rule_87 σ 5 x2 x3 x4 = f_X5_rule_116 σ 5 x2 x3 x4 := by
  unfold f_X5_rule_87 f_X5_rule_103
  rw [if_neg (show ¬ (5 : Int32) = 8 by decide), if_neg (show ¬ (5 : Int32) = 1 by decide)]
theorem kp_6 (σ : Mem) (x2 x3 : Int32) : f_X4_knowsPartsOfRule σ 6 x2 x3 = (if bI (f_X4_isRule σ x2) = 0 then false else (if bI (f_X4_isRule σ x3) = 0 then false else true)) := by
  unfold f_X4_knowsPartsOfRule
  rw [if_neg (show ¬ (6 : Int32) = 3 by decide), if_neg (show ¬ (6 : Int32) = 4 by decide), if_neg (show ¬ (6 : Int32) = 5 by decide), if_pos (show (6 : Int32) = 6 from rfl)]
theorem hn_6 (x3 x4 : Int32) : f_X4_hasNumbersOfRule 6 x3 x4 = true := by
  unfold f_X4_hasNumbersOfRule
  rw [if_neg (show ¬ (6 : Int32) = 1 by decide), if_neg (show ¬ (6 : Int32) = 8 by decide)]
theorem f87_6 (σ : Mem) (x2 x3 x4 : Int32) : f_X5_rule_87 σ 6 x2 x3 x4 = f_X5_rule_116 σ 6 x2 x3 x4 := by
  unfold f_X5_rule_87 f_X5_rule_103
  rw [if_neg (show ¬ (6 : Int32) = 8 by decide), if_neg (show ¬ (6 : Int32) = 1 by decide)]
theorem kp_7 (σ : Mem) (x2 x3 : Int32) : f_X4_knowsPartsOfRule σ 7 x2 x3 = (if bI (f_X4_isRule σ x2) = 0 then false else (if bI (f_X4_isRule σ x3) = 0 then false else true)) := by
  unfold f_X4_knowsPartsOfRule
  rw [if_neg (show ¬ (7 : Int32) = 3 by decide), if_neg (show ¬ (7 : Int32) = 4 by decide), if_neg (show ¬ (7 : Int32) = 5 by decide), if_neg (show ¬ (7 : Int32) = 6 by decide), if_pos (show (7 : Int32) = 7 from rfl)]
theorem hn_7 (x3 x4 : Int32) : f_X4_hasNumbersOfRule 7 x3 x4 = true := by
  unfold f_X4_hasNumbersOfRule
  rw [if_neg (show ¬ (7 : Int32) = 1 by decide), if_neg (show ¬ (7 : Int32) = 8 by decide)]
theorem f87_7 (σ : Mem) (x2 x3 x4 : Int32) : f_X5_rule_87 σ 7 x2 x3 x4 = f_X5_rule_116 σ 7 x2 x3 x4 := by
  unfold f_X5_rule_87 f_X5_rule_103
  rw [if_neg (show ¬ (7 : Int32) = 8 by decide), if_neg (show ¬ (7 : Int32) = 1 by decide)]
theorem kp_8 (σ : Mem) (x2 x3 : Int32) : f_X4_knowsPartsOfRule σ 8 x2 x3 = f_X4_isRule σ x2 := by
  unfold f_X4_knowsPartsOfRule
  rw [if_neg (show ¬ (8 : Int32) = 3 by decide), if_neg (show ¬ (8 : Int32) = 4 by decide), if_neg (show ¬ (8 : Int32) = 5 by decide), if_neg (show ¬ (8 : Int32) = 6 by decide), if_neg (show ¬ (8 : Int32) = 7 by decide), if_pos (show (8 : Int32) = 8 from rfl)]
theorem hn_8 (x3 x4 : Int32) : f_X4_hasNumbersOfRule 8 x3 x4 = f_X4_isWithin x3 1 100 := by
  unfold f_X4_hasNumbersOfRule
  rw [if_neg (show ¬ (8 : Int32) = 1 by decide), if_pos (show (8 : Int32) = 8 from rfl)]
theorem f87_8 (σ : Mem) (x2 x3 x4 : Int32) : f_X5_rule_87 σ 8 x2 x3 x4 = (if bI (f_X5_in x3 1 100) = 0 then ((-3), σ) else f_X5_rule_116 σ 8 x2 x3 x4) := by
  unfold f_X5_rule_87 f_X5_rule_103
  rw [if_pos (show (8 : Int32) = 8 from rfl), if_neg (show ¬ (8 : Int32) = 1 by decide)]
theorem kp_9 (σ : Mem) (x2 x3 : Int32) : f_X4_knowsPartsOfRule σ 9 x2 x3 = (if bI (f_X4_isRule σ x2) = 0 then false else (if bI (f_X4_isRule σ x3) = 0 then false else true)) := by
  unfold f_X4_knowsPartsOfRule
  rw [if_neg (show ¬ (9 : Int32) = 3 by decide), if_neg (show ¬ (9 : Int32) = 4 by decide), if_neg (show ¬ (9 : Int32) = 5 by decide), if_neg (show ¬ (9 : Int32) = 6 by decide), if_neg (show ¬ (9 : Int32) = 7 by decide), if_neg (show ¬ (9 : Int32) = 8 by decide), if_pos (show (9 : Int32) = 9 from rfl)]
theorem hn_9 (x3 x4 : Int32) : f_X4_hasNumbersOfRule 9 x3 x4 = true := by
  unfold f_X4_hasNumbersOfRule
  rw [if_neg (show ¬ (9 : Int32) = 1 by decide), if_neg (show ¬ (9 : Int32) = 8 by decide)]
theorem f87_9 (σ : Mem) (x2 x3 x4 : Int32) : f_X5_rule_87 σ 9 x2 x3 x4 = f_X5_rule_116 σ 9 x2 x3 x4 := by
  unfold f_X5_rule_87 f_X5_rule_103
  rw [if_neg (show ¬ (9 : Int32) = 8 by decide), if_neg (show ¬ (9 : Int32) = 1 by decide)]
theorem eq_rule {n : Nat} (hn : n ≤ 40) {σ τ : Mem} (h1 : σ 0 7 = nI n) (h2 : τ 0 3 = nI n) (x1 x2 x3 x4 : Int32) : R7 7 3 (f_X4_rule σ x1 x2 x3 x4) (f_X5_rule τ x1 x2 x3 x4) := by
  have e0 : σ 0 7 = τ 0 3 := h1.trans h2.symm
  have eR : ∀ x : Int32, f_X4_isRule σ x = f_X5_isRule τ x := q_isRule hn h1 h2
  have hF := q_116 hn h1 h2 x1 x2 x3 x4
  unfold f_X4_rule f_X5_rule
  rcases q_rng9 x1 with h | h | h | h | h | h | h | h | h | h | h
  · rw [q_in, if_pos h, if_pos h]
    exact ⟨rfl, e0⟩
  · subst h
    rw [if_neg (show ¬ bI (f_X4_isWithin 0 0 9) = 0 by decide), kp_0, hn_0, if_neg (show ¬ bI (f_X5_in 0 0 9) = 0 by decide), if_neg (show ¬ (5 : Int32) ≤ 0 by decide), if_neg (show ¬ (0 : Int32) = 3 by decide), f87_0]
    simp only [q_sensor]
    generalize f_X5_isSensor x2 = A
    cases A <;> first | exact ⟨rfl, e0⟩ | exact hF
  · subst h
    rw [if_neg (show ¬ bI (f_X4_isWithin 1 0 9) = 0 by decide), kp_1, hn_1, if_neg (show ¬ bI (f_X5_in 1 0 9) = 0 by decide), if_neg (show ¬ (5 : Int32) ≤ 1 by decide), if_neg (show ¬ (1 : Int32) = 3 by decide), f87_1]
    simp only [q_sensor]
    generalize f_X5_isSensor x2 = A
    by_cases c : x4 < 0
    · rw [if_pos c, if_neg (show ¬ 0 ≤ x4 from fun g => by rw [Int32.le_iff_toInt_le] at g; rw [Int32.lt_iff_toInt_lt] at c; omega)]
      cases A
      · exact ⟨rfl, e0⟩
      · exact ⟨rfl, e0⟩
    · rw [if_neg c, if_pos (show 0 ≤ x4 by rw [Int32.le_iff_toInt_le]; rw [Int32.lt_iff_toInt_lt] at c; omega)]
      cases A
      · exact ⟨rfl, e0⟩
      · exact hF
  · subst h
    rw [if_neg (show ¬ bI (f_X4_isWithin 2 0 9) = 0 by decide), kp_2, hn_2, if_neg (show ¬ bI (f_X5_in 2 0 9) = 0 by decide), if_neg (show ¬ (5 : Int32) ≤ 2 by decide), if_neg (show ¬ (2 : Int32) = 3 by decide), f87_2]
    simp only [q_sensor]
    generalize f_X5_isSensor x2 = A
    cases A <;> first | exact ⟨rfl, e0⟩ | exact hF
  · subst h
    rw [if_neg (show ¬ bI (f_X4_isWithin 3 0 9) = 0 by decide), kp_3, hn_3, if_neg (show ¬ bI (f_X5_in 3 0 9) = 0 by decide), if_neg (show ¬ (5 : Int32) ≤ 3 by decide), if_pos (show (3 : Int32) = 3 from rfl), f87_3]
    simp only [q_sensor]
    generalize f_X5_isSensor x2 = A
    generalize f_X5_isSensor x3 = B
    cases A <;> cases B <;> first | exact ⟨rfl, e0⟩ | exact hF
  · subst h
    rw [if_neg (show ¬ bI (f_X4_isWithin 4 0 9) = 0 by decide), kp_4, hn_4, if_neg (show ¬ bI (f_X5_in 4 0 9) = 0 by decide), if_neg (show ¬ (5 : Int32) ≤ 4 by decide), if_neg (show ¬ (4 : Int32) = 3 by decide), f87_4]
    simp only [q_sensor]
    generalize f_X5_isSensor x2 = A
    cases A <;> first | exact ⟨rfl, e0⟩ | exact hF
  · subst h
    rw [if_neg (show ¬ bI (f_X4_isWithin 5 0 9) = 0 by decide), kp_5, hn_5, if_neg (show ¬ bI (f_X5_in 5 0 9) = 0 by decide), if_pos (show (5 : Int32) ≤ 5 by decide), if_pos (show (5 : Int32) = 5 from rfl), f87_5]
    simp only [eR]
    generalize f_X5_isRule τ x2 = A
    cases A <;> first | exact ⟨rfl, e0⟩ | exact hF
  · subst h
    rw [if_neg (show ¬ bI (f_X4_isWithin 6 0 9) = 0 by decide), kp_6, hn_6, if_neg (show ¬ bI (f_X5_in 6 0 9) = 0 by decide), if_pos (show (5 : Int32) ≤ 6 by decide), if_neg (show ¬ (6 : Int32) = 5 by decide), if_neg (show ¬ (6 : Int32) = 8 by decide), f87_6]
    simp only [eR]
    generalize f_X5_isRule τ x2 = A
    generalize f_X5_isRule τ x3 = B
    cases A <;> cases B <;> first | exact ⟨rfl, e0⟩ | exact hF
  · subst h
    rw [if_neg (show ¬ bI (f_X4_isWithin 7 0 9) = 0 by decide), kp_7, hn_7, if_neg (show ¬ bI (f_X5_in 7 0 9) = 0 by decide), if_pos (show (5 : Int32) ≤ 7 by decide), if_neg (show ¬ (7 : Int32) = 5 by decide), if_neg (show ¬ (7 : Int32) = 8 by decide), f87_7]
    simp only [eR]
    generalize f_X5_isRule τ x2 = A
    generalize f_X5_isRule τ x3 = B
    cases A <;> cases B <;> first | exact ⟨rfl, e0⟩ | exact hF
  · subst h
    rw [if_neg (show ¬ bI (f_X4_isWithin 8 0 9) = 0 by decide), kp_8, hn_8, if_neg (show ¬ bI (f_X5_in 8 0 9) = 0 by decide), if_pos (show (5 : Int32) ≤ 8 by decide), if_neg (show ¬ (8 : Int32) = 5 by decide), if_pos (show (8 : Int32) = 8 from rfl), f87_8, q_in]
    simp only [eR]
    generalize f_X5_isRule τ x2 = A
    generalize f_X5_in x3 1 100 = B
    cases A <;> cases B <;> first | exact ⟨rfl, e0⟩ | exact hF
  · subst h
    rw [if_neg (show ¬ bI (f_X4_isWithin 9 0 9) = 0 by decide), kp_9, hn_9, if_neg (show ¬ bI (f_X5_in 9 0 9) = 0 by decide), if_pos (show (5 : Int32) ≤ 9 by decide), if_neg (show ¬ (9 : Int32) = 5 by decide), if_neg (show ¬ (9 : Int32) = 8 by decide), f87_9]
    simp only [eR]
    generalize f_X5_isRule τ x2 = A
    generalize f_X5_isRule τ x3 = B
    cases A <;> cases B <;> first | exact ⟨rfl, e0⟩ | exact hF
theorem ha_0 (x3 x4 : Int32) : f_X4_hasNumbersOfAct 0 x3 x4 = f_X4_isWithin x3 0 1000 := by
  unfold f_X4_hasNumbersOfAct
  rw [if_pos (show (0 : Int32) = 0 from rfl)]
theorem ha_1 (x3 x4 : Int32) : f_X4_hasNumbersOfAct 1 x3 x4 = f_X4_isWithin x4 0 1000 := by
  unfold f_X4_hasNumbersOfAct
  rw [if_neg (show ¬ (1 : Int32) = 0 by decide), if_pos (show (1 : Int32) = 1 from rfl)]
theorem ha_2 (x3 x4 : Int32) : f_X4_hasNumbersOfAct 2 x3 x4 = true := by
  unfold f_X4_hasNumbersOfAct
  rw [if_neg (show ¬ (2 : Int32) = 0 by decide), if_neg (show ¬ (2 : Int32) = 1 by decide), if_pos (show (2 : Int32) = 2 from rfl)]
theorem ha_3 (x3 x4 : Int32) : f_X4_hasNumbersOfAct 3 x3 x4 = true := by
  unfold f_X4_hasNumbersOfAct
  rw [if_neg (show ¬ (3 : Int32) = 0 by decide), if_neg (show ¬ (3 : Int32) = 1 by decide), if_neg (show ¬ (3 : Int32) = 2 by decide), if_pos (show (3 : Int32) = 3 from rfl)]
theorem ha_4 (x3 x4 : Int32) : f_X4_hasNumbersOfAct 4 x3 x4 = f_X4_isWithin x3 0 9 := by
  unfold f_X4_hasNumbersOfAct
  rw [if_neg (show ¬ (4 : Int32) = 0 by decide), if_neg (show ¬ (4 : Int32) = 1 by decide), if_neg (show ¬ (4 : Int32) = 2 by decide), if_neg (show ¬ (4 : Int32) = 3 by decide), if_pos (show (4 : Int32) = 4 from rfl)]
theorem ha_5 (x3 x4 : Int32) : f_X4_hasNumbersOfAct 5 x3 x4 = f_X4_isWithin x3 0 100 := by
  unfold f_X4_hasNumbersOfAct
  rw [if_neg (show ¬ (5 : Int32) = 0 by decide), if_neg (show ¬ (5 : Int32) = 1 by decide), if_neg (show ¬ (5 : Int32) = 2 by decide), if_neg (show ¬ (5 : Int32) = 3 by decide), if_neg (show ¬ (5 : Int32) = 4 by decide), if_pos (show (5 : Int32) = 5 from rfl)]
theorem ha_6 (x3 x4 : Int32) : f_X4_hasNumbersOfAct 6 x3 x4 = true := by
  unfold f_X4_hasNumbersOfAct
  rw [if_neg (show ¬ (6 : Int32) = 0 by decide), if_neg (show ¬ (6 : Int32) = 1 by decide), if_neg (show ¬ (6 : Int32) = 2 by decide), if_neg (show ¬ (6 : Int32) = 3 by decide), if_neg (show ¬ (6 : Int32) = 4 by decide), if_neg (show ¬ (6 : Int32) = 5 by decide)]
theorem ha_7 (x3 x4 : Int32) : f_X4_hasNumbersOfAct 7 x3 x4 = true := by
  unfold f_X4_hasNumbersOfAct
  rw [if_neg (show ¬ (7 : Int32) = 0 by decide), if_neg (show ¬ (7 : Int32) = 1 by decide), if_neg (show ¬ (7 : Int32) = 2 by decide), if_neg (show ¬ (7 : Int32) = 3 by decide), if_neg (show ¬ (7 : Int32) = 4 by decide), if_neg (show ¬ (7 : Int32) = 5 by decide)]
theorem ha_8 (x3 x4 : Int32) : f_X4_hasNumbersOfAct 8 x3 x4 = true := by
  unfold f_X4_hasNumbersOfAct
  rw [if_neg (show ¬ (8 : Int32) = 0 by decide), if_neg (show ¬ (8 : Int32) = 1 by decide), if_neg (show ¬ (8 : Int32) = 2 by decide), if_neg (show ¬ (8 : Int32) = 3 by decide), if_neg (show ¬ (8 : Int32) = 4 by decide), if_neg (show ¬ (8 : Int32) = 5 by decide)]
theorem eq_act {n m : Nat} (hn : n ≤ 40) (hm : m ≤ 40) {σ τ : Mem} (h1 : σ 0 7 = nI n) (h2 : τ 0 3 = nI n) (h3 : σ 0 8 = nI m) (h4 : τ 0 9 = nI m) (x1 x2 x3 x4 : Int32) : R7 8 9 (f_X4_act σ x1 x2 x3 x4) (f_X5_act τ x1 x2 x3 x4) := by
  have e0 : σ 0 8 = τ 0 9 := h3.trans h4.symm
  have hF := q_93 hm h3 h4 x1 x2 x3 x4
  have hp := q_parts hn hm h1 h2 h3 h4 x1 x2 x3 x4
  unfold f_X4_act f_X5_act
  rw [hp]
  generalize f_X5_areKnown τ x1 x2 x3 x4 = A
  rcases q_rng8 x1 with h | h | h | h | h | h | h | h | h | h
  · rw [q_in, if_pos h, if_pos h]
    exact ⟨rfl, e0⟩
  · subst h
    unfold f_X5_act_43 f_X5_act_60 f_X5_act_75
    rw [if_neg (show ¬ bI (f_X4_isWithin 0 0 8) = 0 by decide), ha_0, if_neg (show ¬ bI (f_X5_in 0 0 8) = 0 by decide), if_pos (show (0 : Int32) = 0 from rfl), if_neg (show ¬ (0 : Int32) = 1 by decide), if_neg (show ¬ (0 : Int32) = 4 by decide), if_neg (show ¬ (0 : Int32) = 5 by decide), q_in]
    generalize f_X5_in x3 0 1000 = B
    cases A <;> cases B <;> first | exact ⟨rfl, e0⟩ | exact hF
  · subst h
    unfold f_X5_act_43 f_X5_act_60 f_X5_act_75
    rw [if_neg (show ¬ bI (f_X4_isWithin 1 0 8) = 0 by decide), ha_1, if_neg (show ¬ bI (f_X5_in 1 0 8) = 0 by decide), if_neg (show ¬ (1 : Int32) = 0 by decide), if_pos (show (1 : Int32) = 1 from rfl), if_neg (show ¬ (1 : Int32) = 4 by decide), if_neg (show ¬ (1 : Int32) = 5 by decide), q_in]
    generalize f_X5_in x4 0 1000 = B
    cases A <;> cases B <;> first | exact ⟨rfl, e0⟩ | exact hF
  · subst h
    unfold f_X5_act_43 f_X5_act_60 f_X5_act_75
    rw [if_neg (show ¬ bI (f_X4_isWithin 2 0 8) = 0 by decide), ha_2, if_neg (show ¬ bI (f_X5_in 2 0 8) = 0 by decide), if_neg (show ¬ (2 : Int32) = 0 by decide), if_neg (show ¬ (2 : Int32) = 1 by decide), if_neg (show ¬ (2 : Int32) = 4 by decide), if_neg (show ¬ (2 : Int32) = 5 by decide)]
    cases A <;> first | exact ⟨rfl, e0⟩ | exact hF
  · subst h
    unfold f_X5_act_43 f_X5_act_60 f_X5_act_75
    rw [if_neg (show ¬ bI (f_X4_isWithin 3 0 8) = 0 by decide), ha_3, if_neg (show ¬ bI (f_X5_in 3 0 8) = 0 by decide), if_neg (show ¬ (3 : Int32) = 0 by decide), if_neg (show ¬ (3 : Int32) = 1 by decide), if_neg (show ¬ (3 : Int32) = 4 by decide), if_neg (show ¬ (3 : Int32) = 5 by decide)]
    cases A <;> first | exact ⟨rfl, e0⟩ | exact hF
  · subst h
    unfold f_X5_act_43 f_X5_act_60 f_X5_act_75
    rw [if_neg (show ¬ bI (f_X4_isWithin 4 0 8) = 0 by decide), ha_4, if_neg (show ¬ bI (f_X5_in 4 0 8) = 0 by decide), if_neg (show ¬ (4 : Int32) = 0 by decide), if_neg (show ¬ (4 : Int32) = 1 by decide), if_pos (show (4 : Int32) = 4 from rfl), if_neg (show ¬ (4 : Int32) = 5 by decide), q_in]
    generalize f_X5_in x3 0 9 = B
    cases A <;> cases B <;> first | exact ⟨rfl, e0⟩ | exact hF
  · subst h
    unfold f_X5_act_43 f_X5_act_60 f_X5_act_75
    rw [if_neg (show ¬ bI (f_X4_isWithin 5 0 8) = 0 by decide), ha_5, if_neg (show ¬ bI (f_X5_in 5 0 8) = 0 by decide), if_neg (show ¬ (5 : Int32) = 0 by decide), if_neg (show ¬ (5 : Int32) = 1 by decide), if_neg (show ¬ (5 : Int32) = 4 by decide), if_pos (show (5 : Int32) = 5 from rfl), q_in]
    generalize f_X5_in x3 0 100 = B
    cases A <;> cases B <;> first | exact ⟨rfl, e0⟩ | exact hF
  · subst h
    unfold f_X5_act_43 f_X5_act_60 f_X5_act_75
    rw [if_neg (show ¬ bI (f_X4_isWithin 6 0 8) = 0 by decide), ha_6, if_neg (show ¬ bI (f_X5_in 6 0 8) = 0 by decide), if_neg (show ¬ (6 : Int32) = 0 by decide), if_neg (show ¬ (6 : Int32) = 1 by decide), if_neg (show ¬ (6 : Int32) = 4 by decide), if_neg (show ¬ (6 : Int32) = 5 by decide)]
    cases A <;> first | exact ⟨rfl, e0⟩ | exact hF
  · subst h
    unfold f_X5_act_43 f_X5_act_60 f_X5_act_75
    rw [if_neg (show ¬ bI (f_X4_isWithin 7 0 8) = 0 by decide), ha_7, if_neg (show ¬ bI (f_X5_in 7 0 8) = 0 by decide), if_neg (show ¬ (7 : Int32) = 0 by decide), if_neg (show ¬ (7 : Int32) = 1 by decide), if_neg (show ¬ (7 : Int32) = 4 by decide), if_neg (show ¬ (7 : Int32) = 5 by decide)]
    cases A <;> first | exact ⟨rfl, e0⟩ | exact hF
  · subst h
    unfold f_X5_act_43 f_X5_act_60 f_X5_act_75
    rw [if_neg (show ¬ bI (f_X4_isWithin 8 0 8) = 0 by decide), ha_8, if_neg (show ¬ bI (f_X5_in 8 0 8) = 0 by decide), if_neg (show ¬ (8 : Int32) = 0 by decide), if_neg (show ¬ (8 : Int32) = 1 by decide), if_neg (show ¬ (8 : Int32) = 4 by decide), if_neg (show ¬ (8 : Int32) = 5 by decide)]
    cases A <;> first | exact ⟨rfl, e0⟩ | exact hF
