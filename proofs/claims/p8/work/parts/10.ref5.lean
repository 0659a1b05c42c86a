/-- what the loop of the machine keeps -/
def GI (n : Nat) (σ : Mem) : Prop := RV σ ∧ WV σ ∧ ∃ t g m : Nat, SI t g m σ ∧ m < n
theorem rv_at {σ : Mem} {x : Int32} (hv : RV σ) (hx : vp_in x 40) : ∃ i : Nat, i < 40 ∧ x = nI i ∧ x.toNatClampNeg = i := by
  obtain ⟨i, hi, rfl⟩ := vp_in_of hx (by decide)
  exact ⟨i, hi, rfl, nI_clamp (by omega)⟩
theorem go_t {n : Nat} {σ : Mem} {v : Int32} (h : GI n σ) (c : ¬ σ 0 25 ≤ 0) (e : v = σ 0 25 - 1) : ∃ t g m : Nat, SI t g m σ ∧ m < n ∧ 0 < t ∧ t ≤ 300 ∧ v = nI (t - 1) ∧ v.toNatClampNeg = t - 1 := by
  obtain ⟨-, -, t, g, m, hs, hm⟩ := h
  have ht : 0 < t := by
    rcases Nat.eq_zero_or_pos t with q | q
    · subst q
      exact absurd (by rw [hs.1]; decide) c
    · exact q
  have hle : t ≤ 300 := by have := hs.2.2.1; have := hs.2.2.2.1; omega
  have ev : v = nI (t - 1) := by rw [e, hs.1, nI_p ht]
  exact ⟨t, g, m, hs, hm, ht, hle, ev, by rw [ev]; exact nI_clamp (by omega)⟩
theorem go_in {n : Nat} {σ : Mem} {v : Int32} (h : GI n σ) (c : ¬ σ 0 25 ≤ 0) (e : v = σ 0 25 - 1) : vp_in v 300 := by
  obtain ⟨t, g, m, hs, hm, ht, hle, ev, -⟩ := go_t h c e
  rw [ev]; exact vp_in_nI (by omega) (by decide)
theorem go_id {n : Nat} {σ : Mem} {v : Int32} (h : GI n σ) (c : ¬ σ 0 25 ≤ 0) (e : v = σ 0 25 - 1) : vp_in (σ 29 v.toNatClampNeg) 40 := by
  obtain ⟨t, g, m, hs, hm, ht, hle, ev, ec⟩ := go_t h c e
  rw [ec]; exact hs.2.2.2.2.1 (t - 1) (by omega)
theorem go_tp {n : Nat} {σ : Mem} (h : GI n σ) : ¬ σ 0 26 = 300 → vp_in (σ 0 25) 300 := by
  obtain ⟨-, -, t, g, m, hs, hm⟩ := h
  intro c
  rw [hs.1]
  refine vp_in_nI ?_ (by decide)
  have h1 := hs.2.2.1
  have h2 := hs.2.2.2.1
  rcases Nat.lt_or_ge t 300 with q | q
  · exact q
  · exact absurd (by rw [hs.2.1, show g = 300 by omega]; rfl) c
theorem go_w {σ : Mem} (h : WV σ) : ¬ 60 ≤ σ 0 14 → vp_in (σ 0 14) 60 := by
  obtain ⟨⟨k, h1, h2⟩, -⟩ := h
  intro c
  rw [h2] at c ⊢
  rcases Nat.lt_or_ge k 60 with q | q
  · exact vp_in_nI q (by decide)
  · exact absurd (nI_le (a := 60) q (by omega)) c
theorem go_sR {n : Nat} {σ τ : Mem} {v : Int32} (h : GI (n + 1) σ) (c : ¬ σ 0 25 ≤ 0) (e : v = σ 0 25 - 1) (et : τ = f_X5_goRule σ v (σ 29 v.toNatClampNeg)) : GI n τ := by
  obtain ⟨t, g, m, hs, hm, ht, hle, ev, ec⟩ := go_t h c e
  obtain ⟨i, hi, ei⟩ := hs.top ht
  have h1 := st_goRule hs ht h.1 h.2.1 hi
  rw [et, ec, ei, ev]
  obtain ⟨⟨t1, g1, m1, b1, b2⟩, b3, b4⟩ := h1
  exact ⟨h.1.of b3, b4, t1, g1, m1, b2, by omega⟩
theorem go_sA {n : Nat} {σ τ : Mem} {v : Int32} (h : GI (n + 1) σ) (c : ¬ σ 0 25 ≤ 0) (e : v = σ 0 25 - 1) (et : τ = f_X5_goAct σ v (σ 29 v.toNatClampNeg)) : GI n τ := by
  obtain ⟨t, g, m, hs, hm, ht, hle, ev, ec⟩ := go_t h c e
  obtain ⟨i, hi, ei⟩ := hs.top ht
  have h1 := st_goAct hs ht h.1 h.2.1 hi
  rw [et, ec, ei, ev]
  obtain ⟨⟨t1, g1, m1, b1, b2⟩, b3, b4⟩ := h1
  exact ⟨h.1.of b3, b4, t1, g1, m1, b2, by omega⟩
theorem go_0 {σ τ : Mem} {kd id : Int32} (hv : RV σ) (hw : WV σ) (hid : vp_in id 40) (et : τ = f_X5_call (mset (mset σ 0 25 0) 0 26 0) kd id) : GI 602 τ := by
  have hn : ¬ (mset (mset σ 0 25 0) 0 26 0) 0 26 = 300 := fun q => absurd (show (0 : Int32) = 300 from q) (by decide)
  unfold f_X5_call at et
  rw [if_neg hn] at et
  have P : Pres σ τ := by
    rw [et]
    exact (((Pres.col (by omega)).tr (Pres.col (by omega))).tr ((((Pres.col (by omega)).tr (Pres.row (by decide))).tr (Pres.row (by decide))).tr (Pres.row (by decide)))).tr ((Pres.col (by omega)).tr (Pres.col (by omega)))
  refine ⟨hv.of P, ?_, 1, 1, 600, ?_, by omega⟩
  · rw [et]
    exact (((((((hw.col (by decide)).col (by decide)).col (by decide)).row (by decide)).row (by decide)).row (by decide)).col (by decide)).col (by decide)
  · rw [et]
    refine ⟨rfl, rfl, by omega, by omega, fun j hj => ?_, fun j hj => ⟨0, ?_, by omega, fun _ => by omega, fun z => by omega⟩, fun q => absurd (show (0 : Int32) = 1 from q.1) (by decide), fun q => absurd (show (0 : Int32) = 1 from q.1) (by decide), fun _ => by omega⟩
    · have ej : j = 0 := by omega
      subst ej
      exact hid
    · have ej : j = 0 := by omega
      subst ej
      rfl
theorem in_X5_go : ∀ w ∈ wsX50, w ∈ wsX5_go := by decide +kernel
def f_X5_go_16 : Nat → Mem → Int32 → Int32 → Mem
  | 0, σ, _, _ => σ
  | n + 1, σ, x1, x2 =>
  (if (σ 0 25) ≤ 0 then
  bnd (mset σ 0 23 ((σ 0 23) + (σ 0 26))) fun σ1 =>
  σ1
  else
  bnd ((σ 0 25) - 1) fun v2 =>
  (if (σ 28 v2.toNatClampNeg) = 0 then
  bnd (f_X5_goRule σ v2 (σ 29 v2.toNatClampNeg)) fun σ4 =>
  f_X5_go_16 n σ4 x1 x2
  else
  bnd (f_X5_goAct σ v2 (σ 29 v2.toNatClampNeg)) fun σ3 =>
  f_X5_go_16 n σ3 x1 x2))
set_option maxRecDepth 100000 in
set_option maxHeartbeats 4000000 in
theorem b_X5_go_16 {p : Program} {l : Launch} {e : Env} {s : State} {m : MethodId} {args : Array Value} {below : List Frame} {meth : Method} {c : Code} {D : va_G} {cI : ClassId} {ad : Nat → Nat} {w0 : va_W} {X : Mem} (S : CallFix p m c cX5_go 4 s args wsX5_go RX5) (hr : meth.sig.returnType = none) (hlocks : meth.locks = false) (hK : va_K D vwCl [(cI, .int)] s) (hA : ∀ q, s.heap.size ≤ q → va_A w0 s.heap.size q) : ∀ (n : Nat) (σ : Mem) (x1 : Int32) (x2 : Int32) (hg : GI n σ), f_X5_go_16 n σ x1 x2 = X → ∀ (H : Heap) (locs : List Loc), wI D vwCl (va_A w0 s.heap.size) s.heap H locs (RW ad cI σ) → ∀ (ls : Array Slot), lv_has ls 4 [(0, .ref (ad 0)), (1, .int x1), (2, .int x2)] → W p l e ({ frames := 4, cells := 0, slots := 0, locals := 95 } : Room) s m args below meth c H locs 0 0 (MQ below (va_Qv (fun (u : Mem) => u = X) (fun u t => wPost D vwCl w0 s.heap.size ((fun u => RW ad cI u) u) t) (va_A w0 s.heap.size)) args s 0 0 (va_A w0 s.heap.size)) (F0 m 16 ls []) := by
  have hin := in_X5_go
  intro n
  induction n with
  | zero =>
    intro σ x1 x2 hg
    exact (by obtain ⟨-, -, t, g, m, -, q⟩ := hg; omega)
  | succ n ih =>
    intro σ x1 x2 hg hf H locs hG ls hl
    unfold f_X5_go_16 at hf
    refine lv_aload_n S.1 S.2.1 dX5_go_16 rfl (lv_at hl 0 rfl) ?_
    refine M_get S hin hK hG 25 (by decide) (by decide +kernel) rfl dX5_go_17 ?_
    refine lv_if_le (tgt := 67) S.1 S.2.1 dX5_go_20 (by decide) (fun c_20 => ?_) (fun c_20 => ?_)
    · have hf := ite_p c_20 hf
      refine lv_aload_n S.1 S.2.1 dX5_go_67 rfl (lv_at hl 0 rfl) ?_
      refine lv_dup S.1 S.2.1 dX5_go_68 rfl ?_
      refine M_get S hin hK hG 23 (by decide) (by decide +kernel) rfl dX5_go_69 ?_
      refine lv_aload_n S.1 S.2.1 dX5_go_72 rfl (lv_at hl 0 rfl) ?_
      refine M_get S hin hK hG 26 (by decide) (by decide +kernel) rfl dX5_go_73 ?_
      refine lv_iadd S.1 S.2.1 dX5_go_76 ?_
      refine M_put S hin hK hG 23 (by decide) (by decide +kernel) rfl rfl rfl (RWp_23 _ _ _ _) dX5_go_77 (fun σ1 H locs e_σ1 hG => ?_)
      have hf := bnd_p e_σ1 hf
      exact r_vret S hr hlocks hG _ rfl hf dX5_go_80
    · have hf := ite_n c_20 hf
      refine lv_aload_n S.1 S.2.1 dX5_go_23 rfl (lv_at hl 0 rfl) ?_
      refine M_get S hin hK hG 25 (by decide) (by decide +kernel) rfl dX5_go_24 ?_
      refine lv_iconst (v := 1) S.1 S.2.1 dX5_go_27 (by decide) ?_
      refine lv_isub S.1 S.2.1 dX5_go_28 ?_
      refine lv_topi (fun v2 e_v2 => ?_)
      have hf := bnd_p e_v2 hf
      refine lv_istore_n (lv' := [(3, .int v2), (0, .ref (ad 0)), (1, .int x1), (2, .int x2)]) S.1 S.2.1 dX5_go_29 rfl hl (by decide) rfl (fun ls hl => ?_)
      refine lv_aload_n S.1 S.2.1 dX5_go_30 rfl (lv_at hl 1 rfl) ?_
      refine M_get S hin hK hG 27 (by decide) (by decide +kernel) rfl dX5_go_31 ?_
      refine lv_iload_n S.1 S.2.1 dX5_go_34 rfl (lv_at hl 0 rfl) ?_
      refine r_iald S hK hG 17 0 rfl rfl (go_in hg c_20 (by assumption)) dX5_go_35 ?_
      refine lv_if_ne (tgt := 53) S.1 S.2.1 dX5_go_36 (by decide) (fun c_36 => ?_) (fun c_36 => ?_)
      · have hf := ite_n c_36 hf
        refine lv_aload_n S.1 S.2.1 dX5_go_53 rfl (lv_at hl 1 rfl) ?_
        refine lv_iload_n S.1 S.2.1 dX5_go_54 rfl (lv_at hl 0 rfl) ?_
        refine lv_aload_n S.1 S.2.1 dX5_go_55 rfl (lv_at hl 1 rfl) ?_
        refine M_get S hin hK hG 28 (by decide) (by decide +kernel) rfl dX5_go_56 ?_
        refine lv_iload_n S.1 S.2.1 dX5_go_59 rfl (lv_at hl 0 rfl) ?_
        refine r_iald S hK hG 18 0 rfl rfl (go_in hg c_20 (by assumption)) dX5_go_60 ?_
        refine r_callVv S hK hA hG (k_X5_goAct l _ _ _ _ _ _ (go_in hg c_20 (by assumption)) (go_id hg c_20 (by assumption)) (by obtain ⟨i, hi, -, ei⟩ := rv_at hg.1 (go_id hg c_20 (by assumption)); rw [ei]; exact (hg.1 i hi).2.2.2.2.1) (by obtain ⟨i, hi, -, ei⟩ := rv_at hg.1 (go_id hg c_20 (by assumption)); rw [ei]; exact (hg.1 i hi).2.2.2.2.2.1) (by obtain ⟨i, hi, -, ei⟩ := rv_at hg.1 (go_id hg c_20 (by assumption)); rw [ei]; exact (hg.1 i hi).2.2.2.2.2.2.1) (go_tp hg) (go_w hg.2.1)) (cwV 2 S.2.2.2.2 gX5_go_X5_goAct rfl rfl rfl (by decide +kernel) ⟨Nat.le_of_ble_eq_true rfl, Nat.le_of_ble_eq_true rfl⟩) (va_recv hK hG.1 (ci := 5) (q0 := 0) rfl rfl) rfl hl.1 rfl (Nat.le_of_ble_eq_true rfl) dX5_go_61 ⟨Nat.le_of_ble_eq_true rfl, Nat.le_of_ble_eq_true rfl⟩ (fun σ3 H locs e_σ3 hG => ?_)
        have hf := bnd_p e_σ3 hf
        refine lv_goto (tgt := 16) S.1 S.2.1 dX5_go_64 (by decide) ?_
        exact ih σ3 x1 x2 (by first | exact go_sR hg c_20 (by assumption) (by assumption) | exact go_sA hg c_20 (by assumption) (by assumption)) hf H locs hG ls (lv_sub hl [1, 2, 3] rfl)
      · have hf := ite_p c_36 hf
        refine lv_aload_n S.1 S.2.1 dX5_go_39 rfl (lv_at hl 1 rfl) ?_
        refine lv_iload_n S.1 S.2.1 dX5_go_40 rfl (lv_at hl 0 rfl) ?_
        refine lv_aload_n S.1 S.2.1 dX5_go_41 rfl (lv_at hl 1 rfl) ?_
        refine M_get S hin hK hG 28 (by decide) (by decide +kernel) rfl dX5_go_42 ?_
        refine lv_iload_n S.1 S.2.1 dX5_go_45 rfl (lv_at hl 0 rfl) ?_
        refine r_iald S hK hG 18 0 rfl rfl (go_in hg c_20 (by assumption)) dX5_go_46 ?_
        refine r_callVv S hK hA hG (k_X5_goRule l _ _ _ _ _ _ (go_in hg c_20 (by assumption)) (go_id hg c_20 (by assumption)) (by obtain ⟨i, hi, -, ei⟩ := rv_at hg.1 (go_id hg c_20 (by assumption)); rw [ei]; exact (hg.1 i hi).1) (by obtain ⟨i, hi, -, ei⟩ := rv_at hg.1 (go_id hg c_20 (by assumption)); rw [ei]; exact (hg.1 i hi).2.1) (go_tp hg)) (cwV 2 S.2.2.2.2 gX5_go_X5_goRule rfl rfl rfl (by decide +kernel) ⟨Nat.le_of_ble_eq_true rfl, Nat.le_of_ble_eq_true rfl⟩) (va_recv hK hG.1 (ci := 5) (q0 := 0) rfl rfl) rfl hl.1 rfl (Nat.le_of_ble_eq_true rfl) dX5_go_47 ⟨Nat.le_of_ble_eq_true rfl, Nat.le_of_ble_eq_true rfl⟩ (fun σ4 H locs e_σ4 hG => ?_)
        have hf := bnd_p e_σ4 hf
        refine lv_goto (tgt := 64) S.1 S.2.1 dX5_go_50 (by decide) ?_
        refine lv_goto (tgt := 16) S.1 S.2.1 dX5_go_64 (by decide) ?_
        exact ih σ4 x1 x2 (by first | exact go_sR hg c_20 (by assumption) (by assumption) | exact go_sA hg c_20 (by assumption) (by assumption)) hf H locs hG ls (lv_sub hl [1, 2, 3] rfl)
def f_X5_go (σ : Mem) (x1 : Int32) (x2 : Int32) : Mem :=
  bnd (mset σ 0 25 0) fun σ1 =>
  bnd (mset σ1 0 26 0) fun σ2 =>
  bnd (f_X5_call σ2 x1 x2) fun σ3 =>
  f_X5_go_16 602 σ3 x1 x2
set_option maxRecDepth 100000 in
set_option maxHeartbeats 4000000 in
theorem b_X5_go_0 {p : Program} {l : Launch} {e : Env} {s : State} {m : MethodId} {args : Array Value} {below : List Frame} {meth : Method} {c : Code} {D : va_G} {cI : ClassId} {ad : Nat → Nat} {w0 : va_W} {X : Mem} (S : CallFix p m c cX5_go 4 s args wsX5_go RX5) (hr : meth.sig.returnType = none) (hlocks : meth.locks = false) (hK : va_K D vwCl [(cI, .int)] s) (hA : ∀ q, s.heap.size ≤ q → va_A w0 s.heap.size q) (σ : Mem) (x1 : Int32) (x2 : Int32) (hv : RV σ) (hw : WV σ) (hid : vp_in x2 40) (hf : f_X5_go σ x1 x2 = X) (H : Heap) (locs : List Loc) (hG : wI D vwCl (va_A w0 s.heap.size) s.heap H locs (RW ad cI σ)) (ls : Array Slot) (hl : lv_has ls 4 [(0, .ref (ad 0)), (1, .int x1), (2, .int x2)]) : W p l e ({ frames := 4, cells := 0, slots := 0, locals := 95 } : Room) s m args below meth c H locs 0 0 (MQ below (va_Qv (fun (u : Mem) => u = X) (fun u t => wPost D vwCl w0 s.heap.size ((fun u => RW ad cI u) u) t) (va_A w0 s.heap.size)) args s 0 0 (va_A w0 s.heap.size)) (F0 m 0 ls []) := by
  have hin := in_X5_go
  unfold f_X5_go at hf
  refine lv_aload_n S.1 S.2.1 dX5_go_0 rfl (lv_at hl 0 rfl) ?_
  refine lv_iconst (v := 0) S.1 S.2.1 dX5_go_1 (by decide) ?_
  refine M_put S hin hK hG 25 (by decide) (by decide +kernel) rfl rfl rfl (RWp_25 _ _ _ _) dX5_go_2 (fun σ1 H locs e_σ1 hG => ?_)
  have hf := bnd_p e_σ1 hf
  refine lv_aload_n S.1 S.2.1 dX5_go_5 rfl (lv_at hl 0 rfl) ?_
  refine lv_iconst (v := 0) S.1 S.2.1 dX5_go_6 (by decide) ?_
  refine M_put S hin hK hG 26 (by decide) (by decide +kernel) rfl rfl rfl (RWp_26 _ _ _ _) dX5_go_7 (fun σ2 H locs e_σ2 hG => ?_)
  have hf := bnd_p e_σ2 hf
  refine lv_aload_n S.1 S.2.1 dX5_go_10 rfl (lv_at hl 0 rfl) ?_
  refine lv_iload_n S.1 S.2.1 dX5_go_11 rfl (lv_at hl 1 rfl) ?_
  refine lv_iload_n S.1 S.2.1 dX5_go_12 rfl (lv_at hl 2 rfl) ?_
  refine r_callVv S hK hA hG (k_X5_call l _ _ _ _ _ _ (by rw [e_σ2, e_σ1]; intro _; exact (show vp_in (0 : Int32) 300 from vp_lit (by decide)))) (cwV 2 S.2.2.2.2 gX5_go_X5_call rfl rfl rfl (by decide +kernel) ⟨Nat.le_of_ble_eq_true rfl, Nat.le_of_ble_eq_true rfl⟩) (va_recv hK hG.1 (ci := 5) (q0 := 0) rfl rfl) rfl hl.1 rfl (Nat.le_of_ble_eq_true rfl) dX5_go_13 ⟨Nat.le_of_ble_eq_true rfl, Nat.le_of_ble_eq_true rfl⟩ (fun σ3 H locs e_σ3 hG => ?_)
  have hf := bnd_p e_σ3 hf
  exact b_X5_go_16 S hr hlocks hK hA 602 σ3 x1 x2 (go_0 hv hw hid (by rw [e_σ3, e_σ2, e_σ1])) hf H locs hG ls (lv_sub hl [0, 1, 2] rfl)
theorem k_X5_go (l : Launch) (D : va_G) (cI : ClassId) (ad : Nat → Nat) (σ : Mem) (x1 : Int32) (x2 : Int32) (hv : RV σ) (hw : WV σ) (hid : vp_in x2 40) : CMv l yX5_go wsX5_go ({ frames := 4, cells := 0, slots := 0, locals := 95 } : Room) D vwCl [(cI, .int)] (RW ad cI σ) [.ref (ad 0), .int x1, .int x2] (fun (u : Mem) => u = (f_X5_go σ x1 x2)) (fun u => RW ad cI u) :=
  r_met (by decide) rfl (Nat.le_of_ble_eq_true rfl) (fun p e s m args below meth c ls S hr hlocks _ hK hA hG hl => b_X5_go_0 S hr hlocks hK hA σ x1 x2 hv hw hid rfl _ _ hG ls hl)
