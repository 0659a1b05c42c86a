/-! what the reference's public methods keep -/
theorem ru_show {nr nx : Nat} {wy : Int32} {σ : Mem} (s v : Int32) (h : RInv nr nx wy σ) : RInv nr nx (if bI (f_X5_isSensor s) = 0 then -2 else 0) (f_X5_show σ s v).2 := by
  unfold f_X5_show
  by_cases c : bI (f_X5_isSensor s) = 0
  · rw [if_pos c, if_pos c]
    exact bnd_i (P := fun p : Int32 × Mem => RInv nr nx (-2) p.2) (fun z ez => h.y ez)
  · rw [if_neg c, if_neg c]
    refine bnd_i (P := fun p : Int32 × Mem => RInv nr nx 0 p.2) (fun z ez => ?_)
    refine bnd_i (P := fun p : Int32 × Mem => RInv nr nx 0 p.2) (fun u _ => ?_)
    exact bnd_i (P := fun p : Int32 × Mem => RInv nr nx 0 p.2) (fun y ey => (h.y ez).row (by decide) ey)
theorem ru_shown {nr nx : Nat} {wy : Int32} {σ : Mem} (s : Int32) (h : RInv nr nx wy σ) : RInv nr nx (if bI (f_X5_isSensor s) = 0 then -2 else 0) (f_X5_shown σ s).2 := by
  unfold f_X5_shown
  by_cases c : bI (f_X5_isSensor s) = 0
  · rw [if_pos c, if_pos c]
    exact bnd_i (P := fun p : Int32 × Mem => RInv nr nx (-2) p.2) (fun z ez => h.y ez)
  · rw [if_neg c, if_neg c]
    exact bnd_i (P := fun p : Int32 × Mem => RInv nr nx 0 p.2) (fun z ez => h.y ez)
theorem ru_fill {nr nx : Nat} {wy : Int32} {σ : Mem} (t n : Int32) (h : RInv nr nx wy σ) : RInv nr nx wy (f_X5_fill σ t n).2 := by
  unfold f_X5_fill
  refine ite_i (P := fun p : Int32 × Mem => RInv nr nx wy p.2) (fun _ => h) (fun _ => ?_)
  refine ite_i (P := fun p : Int32 × Mem => RInv nr nx wy p.2) (fun _ => h) (fun _ => ?_)
  refine bnd_i (P := fun p : Int32 × Mem => RInv nr nx wy p.2) (fun u _ => ?_)
  exact bnd_i (P := fun p : Int32 × Mem => RInv nr nx wy p.2) (fun y ey => h.row (by decide) ey)
theorem ru_ask {nr nx : Nat} {wy : Int32} {σ : Mem} (r : Int32) (h : RInv nr nx wy σ) : RInv nr nx wy (f_X5_ask σ r).2 := by
  unfold f_X5_ask
  refine ite_i (P := fun p : Int32 × Mem => RInv nr nx wy p.2) (fun _ => h) (fun c => ?_)
  refine ite_i (P := fun p : Int32 × Mem => RInv nr nx wy p.2) (fun _ => ?_) (fun _ => h)
  refine bnd_i (P := fun p : Int32 × Mem => RInv nr nx wy p.2) (fun s1 e1 => ?_)
  have h1 := h.go (vp_mono (is_rule h c) h.2.2.1.2) e1
  refine bnd_i (P := fun p : Int32 × Mem => RInv nr nx wy p.2) (fun s2 e2 => ?_)
  have h2 := h1.col (by decide) e2
  exact ite_i (P := fun p : Int32 × Mem => RInv nr nx wy p.2) (fun _ => h2) (fun _ => h2)
theorem ru_run {nr nx : Nat} {wy : Int32} {σ : Mem} (x : Int32) (h : RInv nr nx wy σ) : RInv nr nx wy (f_X5_run σ x).2 := by
  unfold f_X5_run
  refine ite_i (P := fun p : Int32 × Mem => RInv nr nx wy p.2) (fun _ => h) (fun c => ?_)
  refine ite_i (P := fun p : Int32 × Mem => RInv nr nx wy p.2) (fun _ => ?_) (fun _ => h)
  refine bnd_i (P := fun p : Int32 × Mem => RInv nr nx wy p.2) (fun s1 e1 => ?_)
  have h1 := h.go (vp_mono (is_act h c) h.2.2.2.1.2) e1
  refine bnd_i (P := fun p : Int32 × Mem => RInv nr nx wy p.2) (fun s2 e2 => ?_)
  have h2 := h1.col (by decide) e2
  refine ite_i (P := fun p : Int32 × Mem => RInv nr nx wy p.2) (fun _ => ?_) (fun _ => ?_)
  · refine bnd_i (P := fun p : Int32 × Mem => RInv nr nx wy p.2) (fun s3 e3 => ?_)
    have h3 := h2.col (by decide) e3
    exact ite_i (P := fun p : Int32 × Mem => RInv nr nx wy p.2) (fun _ => h3) (fun _ => h3)
  · refine bnd_i (P := fun p : Int32 × Mem => RInv nr nx wy p.2) (fun s3 e3 => ?_)
    have h3 := h2.col (by decide) e3
    exact ite_i (P := fun p : Int32 × Mem => RInv nr nx wy p.2) (fun _ => h3) (fun _ => h3)
theorem tk_41 {nr nx : Nat} {wy : Int32} {kk : Mem → Int32 → Int32 → Int32 → Int32 × Mem} (hkk : ∀ σ x a i, RInv nr nx wy σ → RInv nr nx wy (kk σ x a i).2) : ∀ (n : Nat) (σ : Mem) (x1 a i d k : Int32), RInv nr nx wy σ → dueK σ k → RInv nr nx wy (f_X5_tick_41 kk n σ x1 a i d k).2 := by
  intro n
  induction n with
  | zero => intro σ x1 a i d k h _; exact h
  | succ n ih =>
    intro σ x1 a i d k h hk
    have hout : RInv nr nx wy (bnd (a + d) fun v1 => bnd (i + 1) fun v2 => kk σ x1 v1 v2).2 :=
      bnd_i (P := fun p : Int32 × Mem => RInv nr nx wy p.2) (fun v1 _ => bnd_i (P := fun p : Int32 × Mem => RInv nr nx wy p.2) (fun v2 _ => hkk σ x1 v1 v2 h))
    unfold f_X5_tick_41
    refine ite_i (P := fun p : Int32 × Mem => RInv nr nx wy p.2) (fun _ => hout) (fun _ => ?_)
    refine ite_i (P := fun p : Int32 × Mem => RInv nr nx wy p.2) (fun _ => hout) (fun c => ?_)
    refine ite_i (P := fun p : Int32 × Mem => RInv nr nx wy p.2) (fun _ => hout) (fun _ => ?_)
    refine bnd_i (P := fun p : Int32 × Mem => RInv nr nx wy p.2) (fun v7 _ => ?_)
    refine bnd_i (P := fun p : Int32 × Mem => RInv nr nx wy p.2) (fun s8 e8 => ?_)
    have h8 := h.comes (hk.resolve_left c) e8
    exact bnd_i (P := fun p : Int32 × Mem => RInv nr nx wy p.2) (fun v9 e9 => ih s8 x1 a i v7 v9 h8 (by rw [e9]; exact due_ok h8.2.1))
theorem tk_17 {nr nx : Nat} {wy : Int32} : ∀ (n : Nat) (σ : Mem) (x1 a i : Int32), RInv nr nx wy σ → RInv nr nx wy (f_X5_tick_17 n σ x1 a i).2 := by
  intro n
  induction n with
  | zero => intro σ x1 a i h; exact h
  | succ n ih =>
    intro σ x1 a i h
    unfold f_X5_tick_17
    refine ite_i (P := fun p : Int32 × Mem => RInv nr nx wy p.2) (fun _ => h) (fun _ => ?_)
    refine bnd_i (P := fun p : Int32 × Mem => RInv nr nx wy p.2) (fun s1 e1 => ?_)
    have h1 := h.col (by decide) e1
    exact bnd_i (P := fun p : Int32 × Mem => RInv nr nx wy p.2) (fun v2 e2 => tk_41 (fun σ x a i q => ih σ x a i q) 101 s1 x1 a i 0 v2 h1 (by rw [e2]; exact due_ok h1.2.1))
theorem ru_tick {nr nx : Nat} {wy : Int32} {σ : Mem} (n : Int32) (h : RInv nr nx wy σ) : RInv nr nx wy (f_X5_tick σ n).2 := by
  unfold f_X5_tick
  exact ite_i (P := fun p : Int32 × Mem => RInv nr nx wy p.2) (fun _ => h) (fun _ => tk_17 51 σ n 0 0 h)
/-! a RULE comes, an ACT comes -/
def okR (k a b : Int32) : Prop := (¬ 5 ≤ k → vp_in a 8) ∧ (k = 3 → vp_in b 8) ∧ (5 ≤ k → vp_in a 40) ∧ ((k = 6 ∨ k = 7 ∨ k = 9) → vp_in b 40)
def okA (k a b c : Int32) : Prop := (k = 0 → vp_in a 6) ∧ (k = 1 → vp_in a 6 ∧ vp_in b 6) ∧ (k = 8 → vp_in a 8 ∧ vp_in b 6) ∧ (k = 2 → vp_in a 40 ∧ (b = -1 ∨ vp_in b 40) ∧ (c = -1 ∨ vp_in c 40)) ∧ ((k = 3 ∨ k = 6) → vp_in a 40 ∧ vp_in b 40) ∧ ((k = 4 ∨ k = 5) → vp_in a 40) ∧ (k = 7 → a < 0 ∨ vp_in a 40) ∧ (0 ≤ k.toInt ∧ k.toInt ≤ 8)
theorem RV_iff {σ : Mem} : RV σ ↔ ∀ i : Nat, i < 40 → okR (σ 5 i) (σ 6 i) (σ 7 i) ∧ okA (σ 11 i) (σ 12 i) (σ 13 i) (σ 14 i) := by
  constructor
  · intro h i hi
    obtain ⟨a, b, c, d, e⟩ := h i hi
    exact ⟨⟨a, b, c, d⟩, e⟩
  · intro h i hi
    obtain ⟨⟨a, b, c, d⟩, e⟩ := h i hi
    exact ⟨a, b, c, d, e⟩
theorem RV_rule {σ τ : Mem} {n : Nat} {k a b : Int32} (h : RV σ) (hk : okR k a b) (h5 : τ 5 = upd (σ 5) n k) (h6 : τ 6 = upd (σ 6) n a) (h7 : τ 7 = upd (σ 7) n b) (h11 : τ 11 = σ 11) (h12 : τ 12 = σ 12) (h13 : τ 13 = σ 13) (h14 : τ 14 = σ 14) : RV τ := by
  rw [RV_iff] at *
  intro i hi
  rw [h5, h6, h7, h11, h12, h13, h14]
  refine ⟨?_, (h i hi).2⟩
  by_cases e : i = n
  · subst e; rw [pk_us, pk_us, pk_us]; exact hk
  · rw [pk_un e, pk_un e, pk_un e]; exact (h i hi).1
theorem RV_act {σ τ : Mem} {n : Nat} {k a b c : Int32} (h : RV σ) (hk : okA k a b c) (h5 : τ 5 = σ 5) (h6 : τ 6 = σ 6) (h7 : τ 7 = σ 7) (h11 : τ 11 = upd (σ 11) n k) (h12 : τ 12 = upd (σ 12) n a) (h13 : τ 13 = upd (σ 13) n b) (h14 : τ 14 = upd (σ 14) n c) : RV τ := by
  rw [RV_iff] at *
  intro i hi
  rw [h5, h6, h7, h11, h12, h13, h14]
  refine ⟨(h i hi).1, ?_⟩
  by_cases e : i = n
  · subst e; rw [pk_us, pk_us, pk_us, pk_us]; exact hk
  · rw [pk_un e, pk_un e, pk_un e, pk_un e]; exact (h i hi).2
/-- refused, and nothing changes; or one more, and its number -/
def upR (nr nx : Nat) (wy : Int32) (σ : Mem) (p : Int32 × Mem) : Prop := p.2 = σ ∨ (nr < 40 ∧ p.1 = nI nr ∧ RInv (nr + 1) nx wy p.2)
def upA (nr nx : Nat) (wy : Int32) (σ : Mem) (p : Int32 × Mem) : Prop := p.2 = σ ∨ (nx < 40 ∧ p.1 = nI nx ∧ RInv nr (nx + 1) wy p.2)
theorem cnt_lt {n : Nat} {x : Int32} (h : x = nI n) (hn : n ≤ 40) (c : ¬ x = 40) : n < 40 := by
  rcases Nat.lt_or_ge n 40 with q | q
  · exact q
  · exact absurd (by rw [h, show n = 40 by omega]; rfl) c
theorem nI_add1 (n : Nat) : nI n + 1 - 1 = nI n := by rw [nI_1]; exact nI_pred n
set_option maxRecDepth 100000 in
theorem ru_116 {nr nx : Nat} {wy : Int32} {σ : Mem} (x1 x2 x3 x4 : Int32) (h : RInv nr nx wy σ) (hk : okR x1 x2 x3) : upR nr nx wy σ (f_X5_rule_116 σ x1 x2 x3 x4) := by
  unfold f_X5_rule_116
  refine ite_i (P := upR nr nx wy σ) (fun _ => Or.inl rfl) (fun c => ?_)
  have hn := cnt_lt h.2.2.1.1 h.2.2.1.2 c
  have key : ∀ (y : Int32) (z : Mem), z = mset (mset (mset (mset (mset (mset σ 5 (σ 0 3).toNatClampNeg x1) 6 (σ 0 3).toNatClampNeg x2) 7 (σ 0 3).toNatClampNeg x3) 8 (σ 0 3).toNatClampNeg x4) 9 (σ 0 3).toNatClampNeg y) 0 3 (σ 0 3 + 1) → upR nr nx wy σ (σ 0 3 + 1 - 1, z) := by
    intro y z ez
    obtain ⟨h1, h2, h3, h4, h5, h6⟩ := h
    refine Or.inr ⟨hn, ?_, ?_⟩
    · show σ 0 3 + 1 - 1 = nI nr
      rw [h3.1, nI_add1]
    · show RInv (nr + 1) nx wy z
      rw [ez]
      refine ⟨RV_rule h1 hk rfl rfl rfl rfl rfl rfl rfl, h2.same rfl rfl, ⟨?_, hn⟩, h4, h5, h6⟩
      show σ 0 3 + 1 = nI (nr + 1)
      rw [h3.1, nI_1]
  refine bnd_i (P := upR nr nx wy σ) (fun s1 e1 => ?_)
  refine bnd_i (P := upR nr nx wy σ) (fun s2 e2 => ?_)
  refine bnd_i (P := upR nr nx wy σ) (fun s3 e3 => ?_)
  refine bnd_i (P := upR nr nx wy σ) (fun s4 e4 => ?_)
  refine ite_i (P := upR nr nx wy σ) (fun _ => ?_) (fun _ => ?_)
  · refine bnd_i (P := upR nr nx wy σ) (fun s5 e5 => ?_)
    exact bnd_i (P := upR nr nx wy σ) (fun s6 e6 => key (s4 1 x2.toNatClampNeg) s6 (by rw [e6, e5, e4, e3, e2, e1]))
  · refine bnd_i (P := upR nr nx wy σ) (fun s5 e5 => ?_)
    exact bnd_i (P := upR nr nx wy σ) (fun s6 e6 => key 0 s6 (by rw [e6, e5, e4, e3, e2, e1]))
theorem ru_87 {nr nx : Nat} {wy : Int32} {σ : Mem} (x1 x2 x3 x4 : Int32) (h : RInv nr nx wy σ) (hk : okR x1 x2 x3) : upR nr nx wy σ (f_X5_rule_87 σ x1 x2 x3 x4) := by
  have h103 : upR nr nx wy σ (f_X5_rule_103 σ x1 x2 x3 x4) := by
    unfold f_X5_rule_103
    refine ite_i (P := upR nr nx wy σ) (fun _ => ?_) (fun _ => ru_116 x1 x2 x3 x4 h hk)
    exact ite_i (P := upR nr nx wy σ) (fun _ => ru_116 x1 x2 x3 x4 h hk) (fun _ => Or.inl rfl)
  unfold f_X5_rule_87
  refine ite_i (P := upR nr nx wy σ) (fun _ => ?_) (fun _ => h103)
  exact ite_i (P := upR nr nx wy σ) (fun _ => Or.inl rfl) (fun _ => h103)
theorem ru_rule {nr nx : Nat} {wy : Int32} {σ : Mem} (x1 x2 x3 x4 : Int32) (h : RInv nr nx wy σ) : upR nr nx wy σ (f_X5_rule σ x1 x2 x3 x4) := by
  have ne : ∀ k : Int32, 5 ≤ x1 → ¬ 5 ≤ k → ¬ x1 = k := fun k h5 hk e => hk (e ▸ h5)
  unfold f_X5_rule
  refine ite_i (P := upR nr nx wy σ) (fun _ => Or.inl rfl) (fun _ => ?_)
  refine ite_i (P := upR nr nx wy σ) (fun h5 => ?_) (fun h5 => ?_)
  · refine ite_i (P := upR nr nx wy σ) (fun _ => Or.inl rfl) (fun ca => ?_)
    have ha : vp_in x2 40 := vp_mono (is_rule h ca) h.2.2.1.2
    have mk : ((x1 = 6 ∨ x1 = 7 ∨ x1 = 9) → vp_in x3 40) → upR nr nx wy σ (f_X5_rule_87 σ x1 x2 x3 x4) := fun q => ru_87 x1 x2 x3 x4 h ⟨fun z => absurd h5 z, fun z => absurd z (ne 3 h5 (by decide)), fun _ => ha, q⟩
    refine ite_i (P := upR nr nx wy σ) (fun k5 => mk (fun q => ?_)) (fun _ => ?_)
    · exfalso; subst k5; revert q; decide
    · refine ite_i (P := upR nr nx wy σ) (fun k8 => mk (fun q => ?_)) (fun _ => ?_)
      · exfalso; subst k8; revert q; decide
      · refine ite_i (P := upR nr nx wy σ) (fun _ => Or.inl rfl) (fun cb => mk (fun _ => vp_mono (is_rule h cb) h.2.2.1.2))
  · refine ite_i (P := upR nr nx wy σ) (fun _ => Or.inl rfl) (fun ca => ?_)
    have ha : vp_in x2 8 := ri_vp ca (by decide)
    have mk : (x1 = 3 → vp_in x3 8) → upR nr nx wy σ (f_X5_rule_87 σ x1 x2 x3 x4) := fun q => ru_87 x1 x2 x3 x4 h ⟨fun _ => ha, q, fun z => absurd z h5, fun z => by
      exfalso
      rcases z with z | z | z <;> (subst z; exact h5 (by decide))⟩
    refine ite_i (P := upR nr nx wy σ) (fun k3 => ?_) (fun k3 => mk (fun z => absurd z k3))
    exact ite_i (P := upR nr nx wy σ) (fun _ => Or.inl rfl) (fun cb => mk (fun _ => ri_vp cb (by decide)))
