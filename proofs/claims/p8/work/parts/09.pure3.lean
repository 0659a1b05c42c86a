theorem bnd_i {α β : Type} {P : β → Prop} {v : α} {F : α → β} (h : ∀ x, x = v → P (F x)) : P (bnd v F) := h v rfl
theorem ite_i {β : Type} {P : β → Prop} {c : Prop} [d : Decidable c] {a b : β} (h1 : c → P a) (h2 : ¬ c → P b) : P (if c then a else b) := by
  by_cases h : c
  · rw [if_pos h]; exact h1 h
  · rw [if_neg h]; exact h2 h
theorem st_goRule {t g m i : Nat} {σ : Mem} (h : SI t g m σ) (ht : 0 < t) (hv : RV σ) (hw : WV σ) (hi : i < 40) : gStp m σ (f_X5_goRule σ (nI (t - 1)) (nI i)) := by
  have hcl : (nI (t - 1)).toNatClampNeg = t - 1 := nI_clamp (by have := h.2.2.1; have := h.2.2.2.1; omega)
  have hci : (nI i).toNatClampNeg = i := nI_clamp (by omega)
  unfold f_X5_goRule
  have V := hv i hi
  refine bnd_i (P := gStp m σ) (fun v1 e1 => ?_)
  rw [hci] at e1
  refine ite_i (P := gStp m σ) (fun h0 => ?_) (fun h0 => ?_)
  · rw [hcl] at h0
    have hn := h.nd ht h0
    refine ite_i (P := gStp m σ) (fun h5 => ?_) (fun h5 => ?_)
    · rw [hci] at h5
      refine bnd_i (P := gStp m σ) (fun z ez => ?_)
      rw [ez]; exact st_goOn _ _ h ht hn (by rw [e1]; exact V.2.2.1 h5) hw
    · refine bnd_i (P := gStp m σ) (fun z ez => ?_)
      rw [ez]; exact st_says _ _ h ht hn hw
  · have hp : ∀ z : Mem, z = f_X5_passes σ → gStp m σ z := fun z ez => by rw [ez]; exact st_pass h ht hw
    refine ite_i (P := gStp m σ) (fun h2 => bnd_i (P := gStp m σ) hp) (fun h2 => ?_)
    refine ite_i (P := gStp m σ) (fun h9 => ?_) (fun h9 => ?_)
    · rw [hci] at h9
      refine ite_i (P := gStp m σ) (fun f0 => bnd_i (P := gStp m σ) hp) (fun f0 => ?_)
      refine ite_i (P := gStp m σ) (fun f5 => bnd_i (P := gStp m σ) hp) (fun f5 => ?_)
      refine bnd_i (P := gStp m σ) (fun z ez => ?_)
      rw [ez, hci]; exact st_goOn _ _ h ht (nd_f f5) (V.2.2.2.1 (Or.inr (Or.inr h9))) hw
    · refine ite_i (P := gStp m σ) (fun f0 => ?_) (fun f0 => bnd_i (P := gStp m σ) hp)
      have hn := nd_0 f0
      have hb : (σ 5 i = 6 ∨ σ 5 i = 7 ∨ σ 5 i = 9) → ∀ z : Mem, z = f_X5_goOn σ (nI (t - 1)) 0 (σ 7 (nI i).toNatClampNeg) → gStp m σ z := fun q z ez => by
        rw [ez, hci]; exact st_goOn _ _ h ht hn (V.2.2.2.1 q) hw
      refine ite_i (P := gStp m σ) (fun k5 => ?_) (fun k5 => ?_)
      · refine bnd_i (P := gStp m σ) (fun z ez => ?_)
        rw [ez]; exact st_ends _ h ht hn hw
      · refine ite_i (P := gStp m σ) (fun k6 => ?_) (fun k6 => ?_)
        · rw [hci] at k6
          refine ite_i (P := gStp m σ) (fun _ => ?_) (fun _ => ?_)
          · exact ite_i (P := gStp m σ) (fun _ => bnd_i (P := gStp m σ) (hb (Or.inl k6))) (fun _ => bnd_i (P := gStp m σ) hp)
          · exact ite_i (P := gStp m σ) (fun _ => bnd_i (P := gStp m σ) (hb (Or.inl k6))) (fun _ => bnd_i (P := gStp m σ) hp)
        · refine ite_i (P := gStp m σ) (fun k7 => ?_) (fun k7 => ?_)
          · rw [hci] at k7
            refine ite_i (P := gStp m σ) (fun _ => ?_) (fun _ => ?_)
            · exact ite_i (P := gStp m σ) (fun _ => bnd_i (P := gStp m σ) (hb (Or.inr (Or.inl k7)))) (fun _ => bnd_i (P := gStp m σ) hp)
            · exact ite_i (P := gStp m σ) (fun _ => bnd_i (P := gStp m σ) (hb (Or.inr (Or.inl k7)))) (fun _ => bnd_i (P := gStp m σ) hp)
          · refine bnd_i (P := gStp m σ) (fun y ey => ?_)
            have P1 : Pres σ y := by rw [ey]; exact Pres.row (by decide)
            have S1 : SI t g m y := by rw [ey]; exact h.row (by decide)
            have N1 : ¬ Dp y := by rw [ey]; exact nd_row hn (by decide)
            have W1 : WV y := by rw [ey]; exact hw.row (by decide)
            refine ite_i (P := gStp m σ) (fun _ => ?_) (fun _ => ?_)
            · refine bnd_i (P := gStp m σ) (fun z ez => ?_)
              rw [ez]; exact (st_ends _ S1 ht N1 W1).pre P1
            · refine bnd_i (P := gStp m σ) (fun z ez => ?_)
              rw [ez]; exact (st_ends _ S1 ht N1 W1).pre P1
theorem st_goAct {t g m i : Nat} {σ : Mem} (h : SI t g m σ) (ht : 0 < t) (hv : RV σ) (hw : WV σ) (hi : i < 40) : gStp m σ (f_X5_goAct σ (nI (t - 1)) (nI i)) := by
  have hcl : (nI (t - 1)).toNatClampNeg = t - 1 := nI_clamp (by have := h.2.2.1; have := h.2.2.2.1; omega)
  have hci : (nI i).toNatClampNeg = i := nI_clamp (by omega)
  unfold f_X5_goAct
  have V := hv i hi
  refine ite_i (P := gStp m σ) (fun h0 => ?_) (fun h0 => ?_)
  · rw [hcl] at h0
    refine bnd_i (P := gStp m σ) (fun z ez => ?_)
    rw [ez]; exact st_begins h ht (h.nd ht h0) hv hw hi
  · refine bnd_i (P := gStp m σ) (fun v1 e1 => ?_)
    rw [hci] at e1
    have hp : gStp m σ (f_X5_goAct_102 σ (nI (t - 1)) (nI i) v1) := by rw [e1]; exact st_102 h ht hv hw hi
    refine ite_i (P := gStp m σ) (fun k6 => ?_) (fun _ => hp)
    rw [e1] at k6
    refine ite_i (P := gStp m σ) (fun _ => ?_) (fun _ => hp)
    refine ite_i (P := gStp m σ) (fun _ => hp) (fun _ => ?_)
    refine ite_i (P := gStp m σ) (fun _ => hp) (fun z => ?_)
    exact st_57 _ _ ht hci 7 σ 0 h (nd_f z) hw (V.2.2.2.2.2.2.2.2.1 (Or.inr k6)).2 ⟨0, rfl, by omega, by omega⟩
