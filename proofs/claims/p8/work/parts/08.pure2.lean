theorem vp_mono {x : Int32} {n k : Nat} (h : vp_in x n) (hk : n ≤ k) : vp_in x k := by
  rw [vp_in_iff] at *
  omega
theorem st_says {t g m : Nat} {σ : Mem} (r a : Int32) (h : SI t g m σ) (ht : 0 < t) (hn : ¬ Dp σ) (hw : WV σ) : gStp m σ (f_X5_says σ r a) := by
  unfold f_X5_says
  simp only [bnd]
  repeat' split
  all_goals first
    | exact st_ends _ h ht hn hw
    | exact st_fails _ h ht hn (fun q => absurd q (by decide)) hw
theorem waits_ok {t g m : Nat} {σ : Mem} (x w : Int32) (h : SI t g m σ) (hn : ¬ Dp σ) (hx : vp_in x 40) (hw : WV σ) : SI t g m (f_X5_waits σ x w) ∧ ¬ Dp (f_X5_waits σ x w) ∧ Pres σ (f_X5_waits σ x w) ∧ WV (f_X5_waits σ x w) := by
  unfold f_X5_waits
  simp only [bnd]
  by_cases c : 60 ≤ σ 0 14
  · rw [if_pos c]
    exact ⟨h, hn, Pres.rf σ, hw⟩
  · rw [if_neg c]
    obtain ⟨⟨k, h1, h2⟩, h3⟩ := hw
    have hk : k < 60 := by
      rcases Nat.lt_or_ge k 60 with q | q
      · exact q
      · exact absurd (by rw [h2]; exact nI_le (a := 60) q (by omega)) c
    refine ⟨h.same rfl rfl rfl rfl rfl rfl, hn, ((Pres.row (by decide)).tr (Pres.row (by decide))).tr (Pres.col (by omega)), ⟨k + 1, hk, ?_⟩, fun j hj => ?_⟩
    · show σ 0 14 + 1 = nI (k + 1)
      rw [h2, nI_1]
    · show vp_in (upd (σ 16) (σ 0 14).toNatClampNeg x j) 40
      by_cases e : j = (σ 0 14).toNatClampNeg
      · subst e; rw [pk_us]; exact hx
      · rw [pk_un e]; exact h3 j hj
theorem SI.top {t g m : Nat} {σ : Mem} (h : SI t g m σ) (ht : 0 < t) : ∃ i : Nat, i < 40 ∧ σ 29 (t - 1) = nI i := vp_in_of (h.2.2.2.2.1 (t - 1) (by omega)) (by decide)
theorem SI.nd {t g m : Nat} {σ : Mem} (h : SI t g m σ) (ht : 0 < t) (h0 : σ 30 (t - 1) = 0) : ¬ Dp σ := fun q => (h.2.2.2.2.2.2.1 q).2 (t - 1) (by omega) h0
theorem nd_f {σ : Mem} (h : ¬ σ 0 35 = 5) : ¬ Dp σ := fun q => h q.2
theorem nd_0 {σ : Mem} (h : σ 0 35 = 0) : ¬ Dp σ := fun q => absurd (h.symm.trans q.2) (by decide)
theorem nd_row {σ : Mem} {r k : Nat} {x : Int32} (h : ¬ Dp σ) (hr : r ≠ 0) : ¬ Dp (mset σ r k x) := by
  unfold Dp at *
  rw [mset_ne σ k x (Ne.symm hr)]
  exact h
theorem nd_col {σ : Mem} {k : Nat} {x : Int32} (h : ¬ Dp σ) (hk : k ≠ 33 ∧ k ≠ 35) : ¬ Dp (mset σ 0 k x) := by
  unfold Dp at *
  rw [mset_n σ 0 x (Ne.symm hk.1), mset_n σ 0 x (Ne.symm hk.2)]
  exact h
theorem st_238 {t g m : Nat} (x2 a : Int32) (ht : 0 < t) (ha : vp_in a 40) : ∀ (n : Nat) (σ : Mem) (v : Int32), SI t g m σ → ¬ Dp σ → WV σ → (∃ k : Nat, v = nI k ∧ k ≤ 6 ∧ 7 ≤ k + n) → gStp m σ (f_X5_begins_238 n σ (nI (t - 1)) x2 a v) := by
  intro n
  induction n with
  | zero =>
    intro σ v _ _ _ hk
    obtain ⟨k, -, h1, h2⟩ := hk
    omega
  | succ n ih =>
    intro σ v h hn hw hk
    unfold f_X5_begins_238
    simp only [bnd]
    by_cases c : 6 ≤ v
    · rw [if_pos c]; exact st_goOn _ _ h ht hn ha hw
    · rw [if_neg c]
      exact (ih _ _ (h.row (by decide)) (nd_row hn (by decide)) (hw.row (by decide)) (ri_loop hk c rfl)).pre (Pres.row (by decide))
theorem st_57 {t g m i : Nat} (x2 kd : Int32) (ht : 0 < t) (hx : x2.toNatClampNeg = i) : ∀ (n : Nat) (σ : Mem) (v : Int32), SI t g m σ → ¬ Dp σ → WV σ → vp_in (σ 13 i) 40 → (∃ k : Nat, v = nI k ∧ k ≤ 6 ∧ 7 ≤ k + n) → gStp m σ (f_X5_goAct_57 n σ (nI (t - 1)) x2 kd v) := by
  intro n
  induction n with
  | zero =>
    intro σ v _ _ _ _ hk
    obtain ⟨k, -, h1, h2⟩ := hk
    omega
  | succ n ih =>
    intro σ v h hn hw hb hk
    unfold f_X5_goAct_57
    simp only [bnd, hx]
    by_cases c : 6 ≤ v
    · rw [if_pos c]; exact st_goOn _ _ h ht hn hb hw
    · rw [if_neg c]
      exact (ih _ _ (h.row (by decide)) (nd_row hn (by decide)) (hw.row (by decide)) (by rw [mset_ne _ _ _ (show 13 ≠ 2 by decide)]; exact hb) (ri_loop hk c rfl)).pre (Pres.row (by decide))
theorem st_begins {t g m i : Nat} {σ : Mem} (h : SI t g m σ) (ht : 0 < t) (hn : ¬ Dp σ) (hv : RV σ) (hw : WV σ) (hi : i < 40) : gStp m σ (f_X5_begins σ (nI (t - 1)) (nI i)) := by
  have hcl : (nI (t - 1)).toNatClampNeg = t - 1 := nI_clamp (by have := h.2.2.1; have := h.2.2.2.1; omega)
  have hci : (nI i).toNatClampNeg = i := nI_clamp (by omega)
  unfold f_X5_begins
  simp only [bnd, hcl, hci]
  have V := hv i hi
  have P5 : Pres σ (mset (mset σ 31 (t - 1) 0) 32 (t - 1) 0) := (Pres.row (by decide)).tr (Pres.row (by decide))
  have h5 : SI t g m (mset (mset σ 31 (t - 1) 0) 32 (t - 1) 0) := (h.row (by decide)).row (by decide)
  have n5 : ¬ Dp (mset (mset σ 31 (t - 1) 0) 32 (t - 1) 0) := hn
  have w5 : WV (mset (mset σ 31 (t - 1) 0) 32 (t - 1) 0) := (hw.row (by decide)).row (by decide)
  have e11 : (mset (mset σ 31 (t - 1) 0) 32 (t - 1) 0) 11 = σ 11 := rfl
  have e26 : (mset (mset σ 31 (t - 1) 0) 32 (t - 1) 0) 0 26 = σ 0 26 := rfl
  generalize (mset (mset σ 31 (t - 1) 0) 32 (t - 1) 0) = σ5 at *
  rw [e11]
  refine gStp.pre P5 ?_
  have hgo : ∀ (kd x : Int32), vp_in x 40 → gStp m σ5 (f_X5_goOn σ5 (nI (t - 1)) kd x) := fun kd x hx => st_goOn kd x h5 ht n5 hx w5
  have hfa : ∀ v : Int32, ¬ v = 5 → gStp m σ5 (f_X5_fails σ5 v) := fun v q => st_fails v h5 ht n5 (fun z => absurd z q) w5
  by_cases k0 : σ 11 i = 0
  · rw [if_pos k0]
    split
    · exact (st_ends _ (h5.row (by decide)) ht (nd_row n5 (by decide)) (w5.row (by decide))).pre (Pres.row (by decide))
    · exact hfa 3 (by decide)
  rw [if_neg k0]
  by_cases k1 : σ 11 i = 1
  · rw [if_pos k1]
    split
    · exact (st_ends _ ((h5.row (by decide)).row (by decide)) ht (nd_row (nd_row n5 (by decide)) (by decide)) ((w5.row (by decide)).row (by decide))).pre ((Pres.row (by decide)).tr (Pres.row (by decide)))
    · exact hfa 3 (by decide)
  rw [if_neg k1]
  by_cases k2 : σ 11 i = 2
  · rw [if_pos k2]; exact hgo _ _ (V.2.2.2.2.2.2.2.1 k2).1
  rw [if_neg k2]
  by_cases k3 : σ 11 i = 3
  · rw [if_pos k3]; exact hgo _ _ (V.2.2.2.2.2.2.2.2.1 (Or.inl k3)).1
  rw [if_neg k3]
  by_cases k4 : σ 11 i = 4
  · rw [if_pos k4]
    split
    · exact st_ends _ h5 ht n5 w5
    · exact hgo _ _ (V.2.2.2.2.2.2.2.2.2.1 (Or.inl k4))
  rw [if_neg k4]
  by_cases k5 : σ 11 i = 5
  · rw [if_pos k5]
    obtain ⟨b1, b2, b3, b4⟩ := waits_ok (σ 12 i) (σ5 0 2 + σ 13 i) h5 n5 (V.2.2.2.2.2.2.2.2.2.1 (Or.inr k5)) w5
    exact (st_ends _ b1 ht b2 b4).pre b3
  rw [if_neg k5]
  by_cases k6 : σ 11 i = 6
  · rw [if_pos k6]
    exact st_238 _ _ ht (V.2.2.2.2.2.2.2.2.1 (Or.inr k6)).1 7 σ5 0 h5 n5 w5 ⟨0, rfl, by omega, by omega⟩
  rw [if_neg k6]
  by_cases k7 : σ 11 i = 7
  · rw [if_pos k7]
    by_cases a0 : 0 ≤ σ 12 i
    · rw [if_pos a0]
      rcases V.2.2.2.2.2.2.2.2.2.2.1 k7 with q | q
      · exact absurd a0 (Int32.not_le.mpr q)
      · exact hgo _ _ q
    · rw [if_neg a0]
      have hg := h5.2.1
      by_cases g3 : σ5 0 26 = 300
      · rw [if_pos g3]
        have e300 : g = 300 := (nI_eq (by have := h5.2.2.2.1; omega) (by decide)).mp (show nI g = nI 300 from hg.symm.trans g3)
        refine (st_fails (t := t) (g := g) 5 ?_ ht ?_ (fun _ => e300) (w5.col (by decide))).pre (Pres.col (by omega))
        · refine h5.same rfl ?_ rfl rfl rfl rfl
          show σ5 0 26 + 0 = σ5 0 26
          simp
        · exact nd_col n5 (by decide)
      · rw [if_neg g3]
        have hlt : g < 300 := by
          rcases Nat.lt_or_ge g 300 with q | q
          · exact q
          · exact absurd (by rw [hg, show g = 300 from by have := h5.2.2.2.1; omega]; rfl) g3
        refine (st_fails (t := t) (g := g + 1) 4 ?_ ht ?_ (fun q => absurd q (by decide)) (w5.col (by decide))).pre (Pres.col (by omega))
        · obtain ⟨a1, a2, a3, a4, a5, a6, a7, a8, a9⟩ := h5
          have n6 : ∀ x : Int32, ¬ Dp (mset σ5 0 26 x) := fun x => nd_col n5 (by decide)
          refine ⟨a1, ?_, by omega, by omega, a5, fun j hj => ?_, fun q => absurd q (n6 _), fun q => absurd q (n6 _), fun _ => by have := a9 n5; omega⟩
          · show σ5 0 26 + 1 = nI (g + 1)
            rw [a2, nI_1]
          · obtain ⟨q, b1, b2, b3, b4⟩ := a6 j hj
            exact ⟨q, b1, b2, fun _ => by have := b3 n5; omega, b4⟩
        · exact nd_col n5 (by decide)
  rw [if_neg k7]
  by_cases k8 : σ 11 i = 8
  · rw [if_pos k8]
    exact (st_ends _ (h5.row (by decide)) ht (nd_row n5 (by decide)) (w5.row (by decide))).pre (Pres.row (by decide))
  rw [if_neg k8]
  exfalso
  have hr := V.2.2.2.2.2.2.2.2.2.2.2
  have z0 := sw_ne (z := 0) rfl k0
  have z1 := sw_ne (z := 1) rfl k1
  have z2 := sw_ne (z := 2) rfl k2
  have z3 := sw_ne (z := 3) rfl k3
  have z4 := sw_ne (z := 4) rfl k4
  have z5 := sw_ne (z := 5) rfl k5
  have z6 := sw_ne (z := 6) rfl k6
  have z7 := sw_ne (z := 7) rfl k7
  have z8 := sw_ne (z := 8) rfl k8
  omega
theorem st_102 {t g m i : Nat} {σ : Mem} (h : SI t g m σ) (ht : 0 < t) (hv : RV σ) (hw : WV σ) (hi : i < 40) : gStp m σ (f_X5_goAct_102 σ (nI (t - 1)) (nI i) (σ 11 i)) := by
  have hcl : (nI (t - 1)).toNatClampNeg = t - 1 := nI_clamp (by have := h.2.2.1; have := h.2.2.2.1; omega)
  have hci : (nI i).toNatClampNeg = i := nI_clamp (by omega)
  unfold f_X5_goAct_102
  simp only [bnd, hcl, hci]
  have V := hv i hi
  by_cases f0 : σ 0 35 = 0
  · rw [if_pos f0]
    have hn := nd_0 f0
    by_cases c5 : σ 11 i ≤ 5
    · rw [if_pos c5]
      by_cases k2 : σ 11 i = 2
      · rw [if_pos k2]
        have W2 := (V.2.2.2.2.2.2.2.1 k2).2
        split
        · split
          · exact st_pass h ht hw
          · split
            · exact st_ends _ h ht hn hw
            · next z => exact st_goOn _ _ h ht hn (W2.1.resolve_left z) hw
        · split
          · exact st_pass h ht hw
          · split
            · exact st_ends _ h ht hn hw
            · next z => exact st_goOn _ _ h ht hn (W2.2.resolve_left z) hw
      · rw [if_neg k2]
        have P3 : ∀ a b : Int32, Pres σ (mset (mset σ 31 (t - 1) a) 32 (t - 1) b) := fun a b => (Pres.row (by decide)).tr (Pres.row (by decide))
        have h3 : ∀ a b : Int32, SI t g m (mset (mset σ 31 (t - 1) a) 32 (t - 1) b) := fun a b => (h.row (by decide)).row (by decide)
        have w3 : ∀ a b : Int32, WV (mset (mset σ 31 (t - 1) a) 32 (t - 1) b) := fun a b => (hw.row (by decide)).row (by decide)
        have n3 : ∀ a b : Int32, ¬ Dp (mset (mset σ 31 (t - 1) a) 32 (t - 1) b) := fun a b => nd_row (nd_row hn (by decide)) (by decide)
        by_cases k3 : σ 11 i = 3
        · rw [if_pos k3]
          split
          · exact (st_ends _ (h3 _ _) ht (n3 _ _) (w3 _ _)).pre (P3 _ _)
          · exact (st_goOn _ _ (h3 _ _) ht (n3 _ _) (V.2.2.2.2.2.2.2.2.1 (Or.inl k3)).2 (w3 _ _)).pre (P3 _ _)
        · rw [if_neg k3]
          split
          · exact (st_ends _ (h3 _ _) ht (n3 _ _) (w3 _ _)).pre (P3 _ _)
          · refine (st_goOn _ _ (h3 _ _) ht (n3 _ _) ?_ (w3 _ _)).pre (P3 _ _)
            show vp_in (σ 12 i) 40
            by_cases k0 : σ 11 i = 0
            · exact vp_mono (V.2.2.2.2.1 k0) (by decide)
            by_cases k1 : σ 11 i = 1
            · exact vp_mono (V.2.2.2.2.2.1 k1).1 (by decide)
            by_cases k4 : σ 11 i = 4
            · exact V.2.2.2.2.2.2.2.2.2.1 (Or.inl k4)
            by_cases k5 : σ 11 i = 5
            · exact V.2.2.2.2.2.2.2.2.2.1 (Or.inr k5)
            exfalso
            have hr := V.2.2.2.2.2.2.2.2.2.2.2
            have z0 := sw_ne (z := 0) rfl k0
            have z1 := sw_ne (z := 1) rfl k1
            have z2 := sw_ne (z := 2) rfl k2
            have z3 := sw_ne (z := 3) rfl k3
            have z4 := sw_ne (z := 4) rfl k4
            have z5 := sw_ne (z := 5) rfl k5
            rw [Int32.le_iff_toInt_le, show (5 : Int32).toInt = 5 from rfl] at c5
            omega
    · rw [if_neg c5]; exact st_pass h ht hw
  · rw [if_neg f0]; exact st_pass h ht hw
