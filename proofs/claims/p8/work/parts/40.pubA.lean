theorem tank_in {x : Int32} (h : f_X5_isTank x = true) : vp_in x 6 := ri_vp (v := x) (hi := 5) (by show ¬ bI (f_X5_isTank x) = 0; rw [h]; decide) (by decide)
theorem sens_in {x : Int32} (h : f_X5_isSensor x = true) : vp_in x 8 := ri_vp (v := x) (hi := 7) (by show ¬ bI (f_X5_isSensor x) = 0; rw [h]; decide) (by decide)
theorem act_in {nr nx : Nat} {wy x : Int32} {σ : Mem} (h : RInv nr nx wy σ) (c : f_X5_isAct σ x = true) : vp_in x 40 := vp_mono (is_act h (by rw [c]; decide)) h.2.2.2.1.2
theorem rule_in {nr nx : Nat} {wy x : Int32} {σ : Mem} (h : RInv nr nx wy σ) (c : f_X5_isRule σ x = true) : vp_in x 40 := vp_mono (is_rule h (by rw [c]; decide)) h.2.2.1.2
theorem non_in {nr nx : Nat} {wy x : Int32} {σ : Mem} (h : RInv nr nx wy σ) (c : f_X5_isActOrNone σ x = true) : x = -1 ∨ vp_in x 40 := by
  unfold f_X5_isActOrNone at c
  by_cases e : x = -1
  · exact Or.inl e
  · rw [if_neg e] at c
    by_cases q : bI (f_X5_isAct σ x) = 0
    · rw [if_pos q] at c; cases c
    · exact Or.inr (act_in h (bI_t q))
theorem ite_b {c : Prop} [d : Decidable c] {b : Bool} (h : (if c then false else b) = true) : ¬ c ∧ b = true := by
  by_cases q : c
  · rw [if_pos q] at h; cases h
  · rw [if_neg q] at h; exact ⟨q, h⟩

theorem known_ok {nr nx : Nat} {wy : Int32} {σ : Mem} (x1 x2 x3 x4 a : Int32) (h : RInv nr nx wy σ) (hr : 0 ≤ x1.toInt ∧ x1.toInt ≤ 8) (c : ¬ bI (f_X5_areKnown σ x1 x2 x3 x4) = 0) (ha : ¬ x1 = 7 → a = x2) (h7 : x1 = 7 → a < 0 ∨ vp_in a 40) : okA x1 a x3 x4 := by
  have hk := bI_t c
  unfold f_X5_areKnown at hk
  by_cases k0 : x1 = 0
  · rw [if_pos k0] at hk
    subst k0
    have e := ha (by decide)
    subst e
    exact ⟨fun _ => (tank_in hk), fun z => absurd z (by decide), fun z => absurd z (by decide), fun z => absurd z (by decide), fun z => by exfalso; revert z; decide, fun z => by exfalso; revert z; decide, fun z => absurd z (by decide), (by decide)⟩
  rw [if_neg k0] at hk
  by_cases k1 : x1 = 1
  · rw [if_pos k1] at hk
    subst k1
    have e := ha (by decide)
    subst e
    obtain ⟨q1, hk⟩ := ite_b hk
    obtain ⟨q2, -⟩ := ite_b hk
    exact ⟨fun z => absurd z (by decide), fun _ => ⟨tank_in (bI_t q1), tank_in (bI_t q2)⟩, fun z => absurd z (by decide), fun z => absurd z (by decide), fun z => by exfalso; revert z; decide, fun z => by exfalso; revert z; decide, fun z => absurd z (by decide), (by decide)⟩
  rw [if_neg k1] at hk
  by_cases k2 : x1 = 2
  · rw [if_pos k2] at hk
    subst k2
    have e := ha (by decide)
    subst e
    obtain ⟨q1, hk⟩ := ite_b hk
    obtain ⟨q2, hk⟩ := ite_b hk
    obtain ⟨q3, -⟩ := ite_b hk
    exact ⟨fun z => absurd z (by decide), fun z => absurd z (by decide), fun z => absurd z (by decide), fun _ => ⟨rule_in h (bI_t q1), non_in h (bI_t q2), non_in h (bI_t q3)⟩, fun z => by exfalso; revert z; decide, fun z => by exfalso; revert z; decide, fun z => absurd z (by decide), (by decide)⟩
  rw [if_neg k2] at hk
  by_cases k3 : x1 = 3
  · rw [if_pos k3] at hk
    subst k3
    have e := ha (by decide)
    subst e
    obtain ⟨q1, hk⟩ := ite_b hk
    obtain ⟨q2, -⟩ := ite_b hk
    exact ⟨fun z => absurd z (by decide), fun z => absurd z (by decide), fun z => absurd z (by decide), fun z => absurd z (by decide), fun _ => ⟨act_in h (bI_t q1), act_in h (bI_t q2)⟩, fun z => by exfalso; revert z; decide, fun z => absurd z (by decide), (by decide)⟩
  rw [if_neg k3] at hk
  by_cases k4 : x1 = 4
  · rw [if_pos k4] at hk
    subst k4
    have e := ha (by decide)
    subst e
    exact ⟨fun z => absurd z (by decide), fun z => absurd z (by decide), fun z => absurd z (by decide), fun z => absurd z (by decide), fun z => by exfalso; revert z; decide, fun _ => (act_in h hk), fun z => absurd z (by decide), (by decide)⟩
  rw [if_neg k4] at hk
  by_cases k5 : x1 = 5
  · rw [if_pos k5] at hk
    subst k5
    have e := ha (by decide)
    subst e
    exact ⟨fun z => absurd z (by decide), fun z => absurd z (by decide), fun z => absurd z (by decide), fun z => absurd z (by decide), fun z => by exfalso; revert z; decide, fun _ => (act_in h hk), fun z => absurd z (by decide), (by decide)⟩
  rw [if_neg k5] at hk
  by_cases k6 : x1 = 6
  · rw [if_pos k6] at hk
    subst k6
    have e := ha (by decide)
    subst e
    obtain ⟨q1, hk⟩ := ite_b hk
    obtain ⟨q2, -⟩ := ite_b hk
    exact ⟨fun z => absurd z (by decide), fun z => absurd z (by decide), fun z => absurd z (by decide), fun z => absurd z (by decide), fun _ => ⟨act_in h (bI_t q1), act_in h (bI_t q2)⟩, fun z => by exfalso; revert z; decide, fun z => absurd z (by decide), (by decide)⟩
  rw [if_neg k6] at hk
  by_cases k7 : x1 = 7
  · rw [if_pos k7] at hk
    subst k7
    have e := h7 rfl
    exact ⟨fun z => absurd z (by decide), fun z => absurd z (by decide), fun z => absurd z (by decide), fun z => absurd z (by decide), fun z => by exfalso; revert z; decide, fun z => by exfalso; revert z; decide, fun _ => e, (by decide)⟩
  rw [if_neg k7] at hk
  by_cases k8 : x1 = 8
  · rw [if_pos k8] at hk
    subst k8
    have e := ha (by decide)
    subst e
    obtain ⟨q1, hk⟩ := ite_b hk
    obtain ⟨q2, -⟩ := ite_b hk
    exact ⟨fun z => absurd z (by decide), fun z => absurd z (by decide), fun _ => ⟨sens_in (bI_t q1), tank_in (bI_t q2)⟩, fun z => absurd z (by decide), fun z => by exfalso; revert z; decide, fun z => by exfalso; revert z; decide, fun z => absurd z (by decide), (by decide)⟩
  rw [if_neg k8] at hk
  exfalso
  have z0 := sw_ne (z := 0) rfl k0
  have z1 := sw_ne (z := 1) rfl k1
  have z2 := sw_ne (z := 2) rfl k2
  have z3 := sw_ne (z := 3) rfl k3
  have z4 := sw_ne (z := 4) rfl k4
  have z5 := sw_ne (z := 5) rfl k5
  have z6 := sw_ne (z := 6) rfl k6
  have z7 := sw_ne (z := 7) rfl k7
  have z8 := sw_ne (z := 8) rfl k8
  omega
set_option maxRecDepth 100000 in
theorem ra_93 {nr nx : Nat} {wy : Int32} {σ : Mem} (x1 x2 x3 x4 : Int32) (h : RInv nr nx wy σ) (hk : ∀ a : Int32, (¬ x1 = 7 → a = x2) → (x1 = 7 → a < 0 ∨ vp_in a 40) → okA x1 a x3 x4) : upA nr nx wy σ (f_X5_act_93 σ x1 x2 x3 x4) := by
  unfold f_X5_act_93
  refine ite_i (P := upA nr nx wy σ) (fun _ => Or.inl rfl) (fun c => ?_)
  have hn := cnt_lt h.2.2.2.1.1 h.2.2.2.1.2 c
  have key : ∀ (a : Int32) (z : Mem), okA x1 a x3 x4 → z = mset (mset (mset (mset (mset σ 11 (σ 0 9).toNatClampNeg x1) 12 (σ 0 9).toNatClampNeg a) 13 (σ 0 9).toNatClampNeg x3) 14 (σ 0 9).toNatClampNeg x4) 0 9 (σ 0 9 + 1) → upA nr nx wy σ (σ 0 9 + 1 - 1, z) := by
    intro a z ok ez
    obtain ⟨h1, h2, h3, h4, h5, h6⟩ := h
    refine Or.inr ⟨hn, ?_, ?_⟩
    · show σ 0 9 + 1 - 1 = nI nx
      rw [h4.1, nI_add1]
    · show RInv nr (nx + 1) wy z
      rw [ez]
      refine ⟨RV_act h1 ok rfl rfl rfl rfl rfl rfl rfl, h2.same rfl rfl, h3, ⟨?_, hn⟩, h5, h6⟩
      show σ 0 9 + 1 = nI (nx + 1)
      rw [h4.1, nI_1]
  refine bnd_i (P := upA nr nx wy σ) (fun s1 e1 => ?_)
  refine ite_i (P := upA nr nx wy σ) (fun k7 => ?_) (fun k7 => ?_)
  · refine bnd_i (P := upA nr nx wy σ) (fun s2 e2 => ?_)
    refine bnd_i (P := upA nr nx wy σ) (fun s3 e3 => ?_)
    refine bnd_i (P := upA nr nx wy σ) (fun s4 e4 => ?_)
    refine bnd_i (P := upA nr nx wy σ) (fun s5 e5 => key (σ 0 9 - 1) s5 (hk _ (fun z => absurd k7 z) (fun _ => ?_)) (by rw [e5, e4, e3, e2, e1]))
    rw [h.2.2.2.1.1]
    rcases Nat.eq_zero_or_pos nx with q | q
    · subst q; exact Or.inl (by decide)
    · rw [nI_p q]; exact Or.inr (vp_in_nI (by omega) (by decide))
  · refine bnd_i (P := upA nr nx wy σ) (fun s2 e2 => ?_)
    refine bnd_i (P := upA nr nx wy σ) (fun s3 e3 => ?_)
    refine bnd_i (P := upA nr nx wy σ) (fun s4 e4 => ?_)
    exact bnd_i (P := upA nr nx wy σ) (fun s5 e5 => key x2 s5 (hk _ (fun _ => rfl) (fun z => absurd z k7)) (by rw [e5, e4, e3, e2, e1]))
theorem ra_act {nr nx : Nat} {wy : Int32} {σ : Mem} (x1 x2 x3 x4 : Int32) (h : RInv nr nx wy σ) : upA nr nx wy σ (f_X5_act σ x1 x2 x3 x4) := by
  unfold f_X5_act
  refine ite_i (P := upA nr nx wy σ) (fun _ => Or.inl rfl) (fun cr => ?_)
  have hr : 0 ≤ x1.toInt ∧ x1.toInt ≤ 8 := by
    obtain ⟨q1, q2⟩ := ri_in cr
    rw [Int32.le_iff_toInt_le] at q1 q2
    exact ⟨q1, q2⟩
  refine ite_i (P := upA nr nx wy σ) (fun _ => Or.inl rfl) (fun ck => ?_)
  have h93 : upA nr nx wy σ (f_X5_act_93 σ x1 x2 x3 x4) := ra_93 x1 x2 x3 x4 h (fun a h1 h2 => known_ok x1 x2 x3 x4 a h hr ck h1 h2)
  have h75 : upA nr nx wy σ (f_X5_act_75 σ x1 x2 x3 x4) := by
    unfold f_X5_act_75
    exact ite_i (P := upA nr nx wy σ) (fun _ => ite_i (P := upA nr nx wy σ) (fun _ => Or.inl rfl) (fun _ => h93)) (fun _ => h93)
  have h60 : upA nr nx wy σ (f_X5_act_60 σ x1 x2 x3 x4) := by
    unfold f_X5_act_60
    exact ite_i (P := upA nr nx wy σ) (fun _ => ite_i (P := upA nr nx wy σ) (fun _ => Or.inl rfl) (fun _ => h75)) (fun _ => h75)
  have h43 : upA nr nx wy σ (f_X5_act_43 σ x1 x2 x3 x4) := by
    unfold f_X5_act_43
    exact ite_i (P := upA nr nx wy σ) (fun _ => ite_i (P := upA nr nx wy σ) (fun _ => Or.inl rfl) (fun _ => h60)) (fun _ => h60)
  exact ite_i (P := upA nr nx wy σ) (fun _ => ite_i (P := upA nr nx wy σ) (fun _ => Or.inl rfl) (fun _ => h43)) (fun _ => h43)
