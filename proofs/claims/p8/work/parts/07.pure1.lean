/-! THE REFERENCE'S MACHINE, in pure words: what was told is sound, the open frames are sound, each step makes a measure fall -/
def RV (σ : Mem) : Prop := ∀ i : Nat, i < 40 → (¬ 5 ≤ σ 5 i → vp_in (σ 6 i) 8) ∧ (σ 5 i = 3 → vp_in (σ 7 i) 8) ∧ (5 ≤ σ 5 i → vp_in (σ 6 i) 40) ∧ ((σ 5 i = 6 ∨ σ 5 i = 7 ∨ σ 5 i = 9) → vp_in (σ 7 i) 40) ∧ (σ 11 i = 0 → vp_in (σ 12 i) 6) ∧ (σ 11 i = 1 → vp_in (σ 12 i) 6 ∧ vp_in (σ 13 i) 6) ∧ (σ 11 i = 8 → vp_in (σ 12 i) 8 ∧ vp_in (σ 13 i) 6) ∧ (σ 11 i = 2 → vp_in (σ 12 i) 40 ∧ (σ 13 i = -1 ∨ vp_in (σ 13 i) 40) ∧ (σ 14 i = -1 ∨ vp_in (σ 14 i) 40)) ∧ ((σ 11 i = 3 ∨ σ 11 i = 6) → vp_in (σ 12 i) 40 ∧ vp_in (σ 13 i) 40) ∧ ((σ 11 i = 4 ∨ σ 11 i = 5) → vp_in (σ 12 i) 40) ∧ (σ 11 i = 7 → σ 12 i < 0 ∨ vp_in (σ 12 i) 40) ∧ (0 ≤ (σ 11 i).toInt ∧ (σ 11 i).toInt ≤ 8)
def WV (σ : Mem) : Prop := (∃ k : Nat, k ≤ 60 ∧ σ 0 14 = nI k) ∧ ∀ j : Nat, j < 60 → vp_in (σ 16 j) 40
def Pres (σ τ : Mem) : Prop := (∀ r : Nat, (5 ≤ r ∧ r ≤ 8) ∨ (11 ≤ r ∧ r ≤ 14) → τ r = σ r) ∧ ∀ k : Nat, k ≤ 13 ∨ (15 ≤ k ∧ k ≤ 24) → τ 0 k = σ 0 k
theorem Pres.rf (σ : Mem) : Pres σ σ := ⟨fun _ _ => rfl, fun _ _ => rfl⟩
theorem Pres.tr {σ τ υ : Mem} (h : Pres σ τ) (g : Pres τ υ) : Pres σ υ := ⟨fun r hr => (g.1 r hr).trans (h.1 r hr), fun k hk => (g.2 k hk).trans (h.2 k hk)⟩
theorem RV.of {σ τ : Mem} (h : RV σ) (p : Pres σ τ) : RV τ := by
  intro i hi
  rw [p.1 5 (by omega), p.1 6 (by omega), p.1 7 (by omega), p.1 11 (by omega), p.1 12 (by omega), p.1 13 (by omega), p.1 14 (by omega)]
  exact h i hi
theorem Pres.row {σ : Mem} {r k : Nat} {x : Int32} (h : r ≠ 0 ∧ ¬ (5 ≤ r ∧ r ≤ 8) ∧ ¬ (11 ≤ r ∧ r ≤ 14)) : Pres σ (mset σ r k x) := ⟨fun q hq => mset_ne σ k x (by omega), fun j _ => by rw [mset_ne σ k x (show 0 ≠ r by omega)]⟩
theorem Pres.col {σ : Mem} {k : Nat} {x : Int32} (h : k = 14 ∨ 25 ≤ k) : Pres σ (mset σ 0 k x) := ⟨fun q hq => mset_ne σ k x (by omega), fun j hj => mset_n σ 0 x (by omega)⟩
def Dp (σ : Mem) : Prop := σ 0 33 = 1 ∧ σ 0 35 = 5
def SI (t g m : Nat) (σ : Mem) : Prop := σ 0 25 = nI t ∧ σ 0 26 = nI g ∧ t ≤ g ∧ g ≤ 300 ∧ (∀ j, j < t → vp_in (σ 29 j) 40) ∧ (∀ j, j < t → ∃ q : Nat, σ 30 j = nI q ∧ q ≤ 301 ∧ (¬ Dp σ → q ≤ g) ∧ (j + 1 < t → q ≠ 0)) ∧ (Dp σ → g = 300 ∧ ∀ j, j + 1 = t → ¬ σ 30 j = 0) ∧ (Dp σ → 2 * (300 - g) + t ≤ m) ∧ (¬ Dp σ → 2 * (300 - g) + t + 1 ≤ m)
/-- a step: sound again, the measure has fallen, what was told stays -/
def gStp (m : Nat) (σ τ : Mem) : Prop := (∃ t g m1 : Nat, m1 < m ∧ SI t g m1 τ) ∧ Pres σ τ ∧ WV τ
theorem SI.same {t g m : Nat} {σ τ : Mem} (h : SI t g m σ) (h1 : τ 0 25 = σ 0 25) (h2 : τ 0 26 = σ 0 26) (h3 : τ 0 33 = σ 0 33) (h4 : τ 0 35 = σ 0 35) (h5 : τ 29 = σ 29) (h6 : τ 30 = σ 30) : SI t g m τ := by
  unfold SI Dp at *
  rw [h1, h2, h3, h4, h5, h6]
  exact h
theorem SI.row {t g m r k : Nat} {σ : Mem} {x : Int32} (h : SI t g m σ) (hr : r ≠ 0 ∧ r ≠ 29 ∧ r ≠ 30) : SI t g m (mset σ r k x) := by
  refine h.same ?_ ?_ ?_ ?_ ?_ ?_
  · rw [mset_ne σ k x (show 0 ≠ r by omega)]
  · rw [mset_ne σ k x (show 0 ≠ r by omega)]
  · rw [mset_ne σ k x (show 0 ≠ r by omega)]
  · rw [mset_ne σ k x (show 0 ≠ r by omega)]
  · exact mset_ne σ k x (by omega)
  · exact mset_ne σ k x (by omega)
theorem WV.row {σ : Mem} {r k : Nat} {x : Int32} (h : WV σ) (hr : r ≠ 0 ∧ r ≠ 16) : WV (mset σ r k x) := by
  unfold WV at *
  rw [mset_ne σ k x (show 0 ≠ r by omega), mset_ne σ k x (show 16 ≠ r by omega)]
  exact h
theorem WV.col {σ : Mem} {k : Nat} {x : Int32} (h : WV σ) (hk : k ≠ 14) : WV (mset σ 0 k x) := by
  unfold WV at *
  rw [mset_n σ 0 x (show 14 ≠ k by omega), mset_ne σ k x (show 16 ≠ 0 by decide)]
  exact h
theorem WV.same {σ τ : Mem} (h : WV σ) (h1 : τ 0 14 = σ 0 14) (h2 : τ 16 = σ 16) : WV τ := by
  unfold WV at *
  rw [h1, h2]
  exact h
theorem nI_p {t : Nat} (h : 0 < t) : nI t - 1 = nI (t - 1) := by
  obtain ⟨k, rfl⟩ : ∃ k, t = k + 1 := ⟨t - 1, by omega⟩
  exact nI_pred k
/-- a frame goes -/
theorem SI.pop {t g m : Nat} {σ τ : Mem} (h : SI t g m σ) (ht : 0 < t) (h1 : τ 0 25 = σ 0 25 - 1) (h2 : τ 0 26 = σ 0 26) (h5 : τ 29 = σ 29) (h6 : τ 30 = σ 30) (hd : Dp σ → Dp τ) (hg : Dp τ → g = 300) : ∃ m1, m1 < m ∧ SI (t - 1) g m1 τ := by
  obtain ⟨a1, a2, a3, a4, a5, a6, a7, a8, a9⟩ := h
  refine ⟨m - 1, ?_, ?_, ?_, by omega, a4, fun j hj => ?_, fun j hj => ?_, fun q => ⟨hg q, fun j hj => ?_⟩, fun q => ?_, fun q => ?_⟩
  · rcases Classical.em (Dp σ) with q | q
    · have := a8 q; omega
    · have := a9 q; omega
  · rw [h1, a1, nI_p ht]
  · rw [h2, a2]
  · rw [h5]; exact a5 j (by omega)
  · obtain ⟨q, b1, b2, b3, b4⟩ := a6 j (by omega)
    exact ⟨q, by rw [h6]; exact b1, b2, fun z => b3 (fun y => z (hd y)), fun z => b4 (by omega)⟩
  · obtain ⟨q, b1, b2, b3, b4⟩ := a6 j (by omega)
    rw [h6, b1]
    exact nI_ne0 (Nat.pos_of_ne_zero (b4 (by omega))) (by omega)
  · rcases Classical.em (Dp σ) with z | z
    · have := a8 z; omega
    · have := a9 z; omega
  · have := a9 (fun y => q (hd y)); omega
theorem st_pass {t g m : Nat} {σ : Mem} (h : SI t g m σ) (ht : 0 < t) (hw : WV σ) : gStp m σ (f_X5_passes σ) := by
  obtain ⟨m1, b1, b2⟩ := h.pop (τ := f_X5_passes σ) ht rfl rfl rfl rfl (fun q => q) (fun q => (h.2.2.2.2.2.2.1 q).1)
  exact ⟨⟨_, _, m1, b1, b2⟩, Pres.col (by omega), hw.col (by decide)⟩
theorem st_ends {t g m : Nat} {σ : Mem} (v : Int32) (h : SI t g m σ) (ht : 0 < t) (hn : ¬ Dp σ) (hw : WV σ) : gStp m σ (f_X5_ends σ v) := by
  have hd : ¬ Dp (f_X5_ends σ v) := fun q => absurd (show (0 : Int32) = 5 from q.2) (by decide)
  obtain ⟨m1, b1, b2⟩ := h.pop (τ := f_X5_ends σ v) ht rfl rfl rfl rfl (fun q => absurd q hn) (fun q => absurd q hd)
  exact ⟨⟨_, _, m1, b1, b2⟩, (((Pres.col (by omega)).tr (Pres.col (by omega))).tr (Pres.col (by omega))).tr (Pres.col (by omega)), (((hw.col (by decide)).col (by decide)).col (by decide)).col (by decide)⟩
theorem st_fails {t g m : Nat} {σ : Mem} (v : Int32) (h : SI t g m σ) (ht : 0 < t) (hn : ¬ Dp σ) (hv : v = 5 → g = 300) (hw : WV σ) : gStp m σ (f_X5_fails σ v) := by
  obtain ⟨m1, b1, b2⟩ := h.pop (τ := f_X5_fails σ v) ht rfl rfl rfl rfl (fun q => absurd q hn) (fun q => hv (show v = 5 from q.2))
  exact ⟨⟨_, _, m1, b1, b2⟩, (((Pres.col (by omega)).tr (Pres.col (by omega))).tr (Pres.col (by omega))).tr (Pres.col (by omega)), (((hw.col (by decide)).col (by decide)).col (by decide)).col (by decide)⟩
/-- a frame comes, or it would be the 301st -/
theorem st_goOn {t g m : Nat} {σ : Mem} (kd id : Int32) (h : SI t g m σ) (ht : 0 < t) (hn : ¬ Dp σ) (hv : vp_in id 40) (hw : WV σ) : gStp m σ (f_X5_goOn σ (nI (t - 1)) kd id) := by
  obtain ⟨a1, a2, a3, a4, a5, a6, a7, a8, a9⟩ := h
  have hcl : (nI (t - 1)).toNatClampNeg = t - 1 := nI_clamp (by omega)
  obtain ⟨q0, c1, c2, c3, c4⟩ := a6 (t - 1) (by omega)
  have hq0 := c3 hn
  have hm := a9 hn
  show gStp m σ (f_X5_call (mset σ 30 (nI (t - 1)).toNatClampNeg (σ 30 (nI (t - 1)).toNatClampNeg + 1)) kd id)
  rw [hcl, c1, nI_1]
  have hs30 : ∀ j, j < t → ∃ q : Nat, (mset σ 30 (t - 1) (nI (q0 + 1))) 30 j = nI q ∧ q ≤ g + 1 ∧ q ≠ 0 := by
    intro j hj
    by_cases e : j = t - 1
    · subst e
      exact ⟨q0 + 1, mset_s _ _ _ _, by omega, by omega⟩
    · obtain ⟨q, b1, b2, b3, b4⟩ := a6 j hj
      exact ⟨q, by rw [mset_n σ 30 _ e]; exact b1, by have := b3 hn; omega, b4 (by omega)⟩
  by_cases hg : g = 300
  · have h26 : (mset σ 30 (t - 1) (nI (q0 + 1))) 0 26 = 300 := by
      show σ 0 26 = 300
      rw [a2, hg]; rfl
    unfold f_X5_call
    rw [if_pos h26]
    refine ⟨⟨t, g, m - 1, by omega, ?_⟩, ?_, ?_⟩
    · refine ⟨a1, a2, a3, a4, a5, fun j hj => ?_, fun _ => ⟨hg, fun j hj => ?_⟩, fun _ => by omega, fun q => absurd ⟨rfl, rfl⟩ q⟩
      · obtain ⟨q, b1, b2, b3⟩ := hs30 j hj
        exact ⟨q, b1, by omega, fun z => absurd ⟨rfl, rfl⟩ z, fun _ => b3⟩
      · obtain ⟨q, b1, b2, b3⟩ := hs30 j (by omega)
        have e : ∀ x : Int32, x = nI q → ¬ x = 0 := fun x hx => by rw [hx]; exact nI_ne0 (Nat.pos_of_ne_zero b3) (by omega)
        exact e _ b1
    · exact ((Pres.row (by decide)).tr (Pres.col (by omega))).tr (Pres.col (by omega))
    · exact ((hw.row (by decide)).col (by decide)).col (by decide)
  · have h26 : ¬ (mset σ 30 (t - 1) (nI (q0 + 1))) 0 26 = 300 := by
      show ¬ σ 0 26 = 300
      rw [a2]
      exact fun q => hg ((nI_eq (by omega) (by decide)).mp (show nI g = nI 300 from q))
    unfold f_X5_call
    rw [if_neg h26]
    have htc : (σ 0 25).toNatClampNeg = t := by rw [a1]; exact nI_clamp (by omega)
    refine ⟨⟨t + 1, g + 1, m - 1, by omega, ?_⟩, ?_, ?_⟩
    · refine ⟨?_, ?_, by omega, by omega, fun j hj => ?_, fun j hj => ?_, fun q => absurd (show (0 : Int32) = 1 from q.1) (by decide), fun q => absurd (show (0 : Int32) = 1 from q.1) (by decide), fun _ => by omega⟩
      · show σ 0 25 + 1 = nI (t + 1)
        rw [a1, nI_1]
      · show σ 0 26 + 1 = nI (g + 1)
        rw [a2, nI_1]
      · show vp_in (upd (σ 29) (σ 0 25).toNatClampNeg id j) 40
        rw [htc]
        by_cases e : j = t
        · subst e; rw [pk_us]; exact hv
        · rw [pk_un e]; exact a5 j (by omega)
      · show ∃ q : Nat, upd (mset σ 30 (t - 1) (nI (q0 + 1)) 30) (σ 0 25).toNatClampNeg 0 j = nI q ∧ _
        rw [htc]
        by_cases e : j = t
        · subst e
          exact ⟨0, pk_us, by omega, fun _ => by omega, fun z => by omega⟩
        · obtain ⟨q, b1, b2, b3⟩ := hs30 j (by omega)
          exact ⟨q, by rw [pk_un e]; exact b1, by omega, fun _ => b2, fun _ => b3⟩
    · exact (((((Pres.row (by decide)).tr (Pres.col (by omega))).tr (Pres.row (by decide))).tr (Pres.row (by decide))).tr (Pres.row (by decide))).tr ((Pres.col (by omega)).tr (Pres.col (by omega)))
    · exact ((((((hw.row (by decide)).col (by decide)).row (by decide)).row (by decide)).row (by decide)).col (by decide)).col (by decide)
theorem gStp.pre {m : Nat} {σ τ υ : Mem} (p : Pres σ τ) (h : gStp m τ υ) : gStp m σ υ := ⟨h.1, p.tr h.2.1, h.2.2⟩
