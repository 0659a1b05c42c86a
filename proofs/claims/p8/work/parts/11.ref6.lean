/-- the reference's own bounds -/
def RInv (nr nx : Nat) (wy : Int32) (σ : Mem) : Prop := RV σ ∧ WV σ ∧ (σ 0 3 = nI nr ∧ nr ≤ 40) ∧ (σ 0 9 = nI nx ∧ nx ≤ 40) ∧ σ 0 24 = wy ∧ ∃ k : Nat, k ≤ 30 ∧ σ 0 17 = nI k
def GoP (σ τ : Mem) : Prop := (∀ r : Nat, (5 ≤ r ∧ r ≤ 8) ∨ (11 ≤ r ∧ r ≤ 14) → τ r = σ r) ∧ ∀ k : Nat, k ≤ 13 ∨ (15 ≤ k ∧ k ≤ 22) ∨ k = 24 → τ 0 k = σ 0 k
theorem Pres.go {σ τ υ : Mem} (h : Pres σ τ) (g : GoP τ υ) : GoP σ υ := ⟨fun r hr => (g.1 r hr).trans (h.1 r hr), fun k hk => (g.2 k hk).trans (h.2 k (by omega))⟩
theorem go_pR {n : Nat} {σ τ : Mem} {v : Int32} (h : GI (n + 1) σ) (c : ¬ σ 0 25 ≤ 0) (e : v = σ 0 25 - 1) (et : τ = f_X5_goRule σ v (σ 29 v.toNatClampNeg)) : Pres σ τ := by
  obtain ⟨t, g, m, hs, hm, ht, hle, ev, ec⟩ := go_t h c e
  obtain ⟨i, hi, ei⟩ := hs.top ht
  have h1 := st_goRule hs ht h.1 h.2.1 hi
  rw [et, ec, ei, ev]
  exact h1.2.1
theorem go_pA {n : Nat} {σ τ : Mem} {v : Int32} (h : GI (n + 1) σ) (c : ¬ σ 0 25 ≤ 0) (e : v = σ 0 25 - 1) (et : τ = f_X5_goAct σ v (σ 29 v.toNatClampNeg)) : Pres σ τ := by
  obtain ⟨t, g, m, hs, hm, ht, hle, ev, ec⟩ := go_t h c e
  obtain ⟨i, hi, ei⟩ := hs.top ht
  have h1 := st_goAct hs ht h.1 h.2.1 hi
  rw [et, ec, ei, ev]
  exact h1.2.1
theorem go_l : ∀ (n : Nat) (σ : Mem) (x1 x2 : Int32), GI n σ → (RV (f_X5_go_16 n σ x1 x2) ∧ WV (f_X5_go_16 n σ x1 x2)) ∧ GoP σ (f_X5_go_16 n σ x1 x2) := by
  intro n
  induction n with
  | zero =>
    intro σ x1 x2 h
    obtain ⟨-, -, t, g, m, -, q⟩ := h
    omega
  | succ n ih =>
    intro σ x1 x2 h
    unfold f_X5_go_16
    refine ite_i (P := fun τ => (RV τ ∧ WV τ) ∧ GoP σ τ) (fun c => ?_) (fun c => ?_)
    · refine bnd_i (P := fun τ => (RV τ ∧ WV τ) ∧ GoP σ τ) (fun z ez => ?_)
      rw [ez]
      refine ⟨⟨?_, h.2.1.col (by decide)⟩, fun r hr => mset_ne σ 23 _ (by omega), fun k hk => mset_n σ 0 _ (by omega)⟩
      intro i hi
      exact h.1 i hi
    · refine bnd_i (P := fun τ => (RV τ ∧ WV τ) ∧ GoP σ τ) (fun v e => ?_)
      refine ite_i (P := fun τ => (RV τ ∧ WV τ) ∧ GoP σ τ) (fun _ => ?_) (fun _ => ?_)
      · refine bnd_i (P := fun τ => (RV τ ∧ WV τ) ∧ GoP σ τ) (fun z ez => ?_)
        obtain ⟨a, b⟩ := ih z x1 x2 (go_sR h c e ez)
        exact ⟨a, (go_pR h c e ez).go b⟩
      · refine bnd_i (P := fun τ => (RV τ ∧ WV τ) ∧ GoP σ τ) (fun z ez => ?_)
        obtain ⟨a, b⟩ := ih z x1 x2 (go_sA h c e ez)
        exact ⟨a, (go_pA h c e ez).go b⟩
theorem call_pres {σ : Mem} (a b : Int32) : Pres σ (f_X5_call σ a b) := by
  unfold f_X5_call
  refine ite_i (P := Pres σ) (fun _ => ?_) (fun _ => ?_)
  · exact (Pres.col (by omega)).tr (Pres.col (by omega))
  · exact ((((Pres.col (by omega)).tr (Pres.row (by decide))).tr (Pres.row (by decide))).tr (Pres.row (by decide))).tr ((Pres.col (by omega)).tr (Pres.col (by omega)))
theorem go_all {σ : Mem} (x1 x2 : Int32) (hv : RV σ) (hw : WV σ) (hid : vp_in x2 40) : (RV (f_X5_go σ x1 x2) ∧ WV (f_X5_go σ x1 x2)) ∧ GoP σ (f_X5_go σ x1 x2) := by
  unfold f_X5_go
  refine bnd_i (P := fun τ => (RV τ ∧ WV τ) ∧ GoP σ τ) (fun s1 e1 => ?_)
  refine bnd_i (P := fun τ => (RV τ ∧ WV τ) ∧ GoP σ τ) (fun s2 e2 => ?_)
  refine bnd_i (P := fun τ => (RV τ ∧ WV τ) ∧ GoP σ τ) (fun s3 e3 => ?_)
  have hg : GI 602 s3 := go_0 hv hw hid (by rw [e3, e2, e1])
  obtain ⟨a, b⟩ := go_l 602 s3 x1 x2 hg
  refine ⟨a, Pres.go ?_ b⟩
  rw [e3, e2, e1]
  exact ((Pres.col (by omega)).tr (Pres.col (by omega))).tr (call_pres _ _)
theorem RInv.go {nr nx : Nat} {wy : Int32} {σ τ : Mem} {x1 x2 : Int32} (h : RInv nr nx wy σ) (hid : vp_in x2 40) (e : τ = f_X5_go σ x1 x2) : RInv nr nx wy τ := by
  obtain ⟨⟨a1, a2⟩, a3⟩ := go_all x1 x2 h.1 h.2.1 hid
  rw [← e] at a1 a2 a3
  refine ⟨a1, a2, ?_, ?_, ?_, ?_⟩
  · rw [a3.2 3 (by omega)]; exact h.2.2.1
  · rw [a3.2 9 (by omega)]; exact h.2.2.2.1
  · rw [a3.2 24 (by omega)]; exact h.2.2.2.2.1
  · rw [a3.2 17 (by omega)]; exact h.2.2.2.2.2
theorem RInv.col {nr nx k : Nat} {wy x : Int32} {σ τ : Mem} (h : RInv nr nx wy σ) (hk : k ≠ 3 ∧ k ≠ 9 ∧ k ≠ 14 ∧ k ≠ 17 ∧ k ≠ 24) (e : τ = mset σ 0 k x) : RInv nr nx wy τ := by
  obtain ⟨h1, h2, h3, h4, h5, h6⟩ := h
  rw [e]
  refine ⟨fun i hi => ?_, h2.col hk.2.2.1, ?_, ?_, ?_, ?_⟩
  · rw [mset_ne σ k x (show 5 ≠ 0 by decide), mset_ne σ k x (show 6 ≠ 0 by decide), mset_ne σ k x (show 7 ≠ 0 by decide), mset_ne σ k x (show 11 ≠ 0 by decide), mset_ne σ k x (show 12 ≠ 0 by decide), mset_ne σ k x (show 13 ≠ 0 by decide), mset_ne σ k x (show 14 ≠ 0 by decide)]
    exact h1 i hi
  · rw [mset_n σ 0 x (Ne.symm hk.1)]; exact h3
  · rw [mset_n σ 0 x (Ne.symm hk.2.1)]; exact h4
  · rw [mset_n σ 0 x (Ne.symm hk.2.2.2.2)]; exact h5
  · rw [mset_n σ 0 x (Ne.symm hk.2.2.2.1)]; exact h6
theorem RInv.row {nr nx r k : Nat} {wy x : Int32} {σ τ : Mem} (h : RInv nr nx wy σ) (hr : r ≠ 0 ∧ r ≠ 16 ∧ ¬ (5 ≤ r ∧ r ≤ 8) ∧ ¬ (11 ≤ r ∧ r ≤ 14)) (e : τ = mset σ r k x) : RInv nr nx wy τ := by
  obtain ⟨h1, h2, h3, h4, h5, h6⟩ := h
  rw [e]
  refine ⟨h1.of (Pres.row (by omega)), h2.row (by omega), ?_, ?_, ?_, ?_⟩
  · rw [mset_ne σ k x (show 0 ≠ r by omega)]; exact h3
  · rw [mset_ne σ k x (show 0 ≠ r by omega)]; exact h4
  · rw [mset_ne σ k x (show 0 ≠ r by omega)]; exact h5
  · rw [mset_ne σ k x (show 0 ≠ r by omega)]; exact h6
theorem RInv.y {nr nx : Nat} {wy x : Int32} {σ τ : Mem} (h : RInv nr nx wy σ) (e : τ = mset σ 0 24 x) : RInv nr nx x τ := by
  obtain ⟨h1, h2, h3, h4, h5, h6⟩ := h
  rw [e]
  exact ⟨fun i hi => h1 i hi, h2.col (by decide), h3, h4, rfl, h6⟩
theorem in_below {x c : Int32} {n : Nat} (h : ¬ bI (f_X5_in x 0 (c - 1)) = 0) (hc : c = nI n) (hn : n ≤ 40) : vp_in x n := by
  obtain ⟨h1, h2⟩ := ri_in h
  rcases Nat.eq_zero_or_pos n with q | q
  · subst q
    rw [hc] at h2
    rw [Int32.le_iff_toInt_le] at h1 h2
    exact absurd (Int.le_trans h1 h2) (by decide)
  · rw [hc, nI_p q, Int32.le_iff_toInt_le, nI_toInt (by omega)] at h2
    rw [Int32.le_iff_toInt_le, Int32.toInt_zero] at h1
    exact vp_in_iff.mpr ⟨h1, by omega⟩
theorem is_rule {nr nx : Nat} {wy x : Int32} {σ : Mem} (h : RInv nr nx wy σ) (c : ¬ bI (f_X5_isRule σ x) = 0) : vp_in x nr := in_below c h.2.2.1.1 h.2.2.1.2
theorem is_act {nr nx : Nat} {wy x : Int32} {σ : Mem} (h : RInv nr nx wy σ) (c : ¬ bI (f_X5_isAct σ x) = 0) : vp_in x nx := in_below c h.2.2.2.1.1 h.2.2.2.1.2
/-- the loop of due(): downwards -/
def dnI (n : Nat) (k : Int32) : Prop := ∃ q : Nat, q ≤ 60 ∧ k = nI q - 1 ∧ q < n
theorem dn_in {n : Nat} {k : Int32} (h : dnI n k) (c : ¬ k < 0) : vp_in k 60 ∧ ∀ v : Int32, v = k + (-1) → dnI (n - 1) v := by
  obtain ⟨q, h1, h2, h3⟩ := h
  rcases Nat.eq_zero_or_pos q with z | z
  · subst z
    exact absurd (by rw [h2]; decide) c
  · rw [nI_p z] at h2
    refine ⟨by rw [h2]; exact vp_in_nI (by omega) (by decide), fun v e => ⟨q - 1, by omega, ?_, by omega⟩⟩
    rw [e, h2]
    obtain ⟨j, hj⟩ : ∃ j, q - 1 = j := ⟨_, rfl⟩
    rw [hj]
    exact (Int32.sub_eq_add_neg (nI j) 1).symm
theorem in_X5_ask : ∀ w ∈ wsX50, w ∈ wsX5_ask := by decide +kernel
def f_X5_ask (σ : Mem) (x1 : Int32) : Int32 × Mem :=
  (if (bI (f_X5_isRule σ x1)) = 0 then
  ((-2), σ)
  else
  (if (σ 0 23) < 20000 then
  bnd (f_X5_go σ 0 x1) fun σ1 =>
  bnd (mset σ1 0 22 (σ1 0 26)) fun σ2 =>
  (if (σ2 0 35) = 0 then
  (σ2 0 34, σ2)
  else
  ((-10) - (σ2 0 35), σ2))
  else
  ((-4), σ)))
set_option maxRecDepth 100000 in
set_option maxHeartbeats 4000000 in
theorem b_X5_ask_0 {p : Program} {l : Launch} {e : Env} {s : State} {m : MethodId} {args : Array Value} {below : List Frame} {meth : Method} {c : Code} {D : va_G} {cI : ClassId} {ad : Nat → Nat} {w0 : va_W} {nr nx : Nat} {wy : Int32} {X : Int32 × Mem} (S : CallFix p m c cX5_ask 2 s args wsX5_ask RX5) (hr : meth.sig.returnType = (some .int)) (hlocks : meth.locks = false) (hK : va_K D vwCl [(cI, .int)] s) (hA : ∀ q, s.heap.size ≤ q → va_A w0 s.heap.size q) (σ : Mem) (x1 : Int32) (hI : RInv nr nx wy σ) (hf : f_X5_ask σ x1 = X) (H : Heap) (locs : List Loc) (hG : wI D vwCl (va_A w0 s.heap.size) s.heap H locs (RW ad cI σ)) (ls : Array Slot) (hl : lv_has ls 2 [(0, .ref (ad 0)), (1, .int x1)]) : W p l e ({ frames := 5, cells := 0, slots := 0, locals := 118 } : Room) s m args below meth c H locs 0 0 (MQ below (va_Qi (fun (r : Int32) (u : Mem) => (r, u) = X) (fun u t => wPost D vwCl w0 s.heap.size ((fun u => RW ad cI u) u) t) (va_A w0 s.heap.size)) args s 0 0 (va_A w0 s.heap.size)) (F0 m 0 ls []) := by
  have hin := in_X5_ask
  unfold f_X5_ask at hf
  refine lv_aload_n S.1 S.2.1 dX5_ask_0 rfl (lv_at hl 0 rfl) ?_
  refine lv_iload_n S.1 S.2.1 dX5_ask_1 rfl (lv_at hl 1 rfl) ?_
  refine r_callVi S hK hA hG (k_X5_isRule l _ _ _ _ _) (cwV 1 S.2.2.2.2 gX5_ask_X5_isRule rfl rfl rfl (by decide +kernel) ⟨Nat.le_of_ble_eq_true rfl, Nat.le_of_ble_eq_true rfl⟩) (va_recv hK hG.1 (ci := 5) (q0 := 0) rfl rfl) rfl hl.1 rfl (Nat.le_of_ble_eq_true rfl) dX5_ask_2 ⟨Nat.le_of_ble_eq_true rfl, Nat.le_of_ble_eq_true rfl⟩ (fun r2 _ H locs hw hG => ?_)
  obtain rfl := hw
  refine lv_if_ne (tgt := 11) S.1 S.2.1 dX5_ask_5 (by decide) (fun c_5 => ?_) (fun c_5 => ?_)
  · have hf := ite_n c_5 hf
    refine lv_aload_n S.1 S.2.1 dX5_ask_11 rfl (lv_at hl 0 rfl) ?_
    refine M_get S hin hK hG 23 (by decide) (by decide +kernel) rfl dX5_ask_12 ?_
    refine lv_sipush (v := 20000) S.1 S.2.1 dX5_ask_15 (by decide) ?_
    refine lv_icmp_lt (tgt := 24) S.1 S.2.1 dX5_ask_18 (by decide) (fun c_18 => ?_) (fun c_18 => ?_)
    · have hf := ite_p c_18 hf
      refine lv_aload_n S.1 S.2.1 dX5_ask_24 rfl (lv_at hl 0 rfl) ?_
      refine lv_iconst (v := 0) S.1 S.2.1 dX5_ask_25 (by decide) ?_
      refine lv_iload_n S.1 S.2.1 dX5_ask_26 rfl (lv_at hl 1 rfl) ?_
      refine r_callVv S hK hA hG (k_X5_go l _ _ _ _ _ _ hI.1 hI.2.1 (vp_mono (is_rule hI c_5) hI.2.2.1.2)) (cwV 2 S.2.2.2.2 gX5_ask_X5_go rfl rfl rfl (by decide +kernel) ⟨Nat.le_of_ble_eq_true rfl, Nat.le_of_ble_eq_true rfl⟩) (va_recv hK hG.1 (ci := 5) (q0 := 0) rfl rfl) rfl hl.1 rfl (Nat.le_of_ble_eq_true rfl) dX5_ask_27 ⟨Nat.le_of_ble_eq_true rfl, Nat.le_of_ble_eq_true rfl⟩ (fun σ1 H locs e_σ1 hG => ?_)
      have hf := bnd_p e_σ1 hf
      refine lv_aload_n S.1 S.2.1 dX5_ask_30 rfl (lv_at hl 0 rfl) ?_
      refine lv_aload_n S.1 S.2.1 dX5_ask_31 rfl (lv_at hl 0 rfl) ?_
      refine M_get S hin hK hG 26 (by decide) (by decide +kernel) rfl dX5_ask_32 ?_
      refine M_put S hin hK hG 22 (by decide) (by decide +kernel) rfl rfl rfl (RWp_22 _ _ _ _) dX5_ask_35 (fun σ2 H locs e_σ2 hG => ?_)
      have hf := bnd_p e_σ2 hf
      refine lv_aload_n S.1 S.2.1 dX5_ask_38 rfl (lv_at hl 0 rfl) ?_
      refine M_get S hin hK hG 35 (by decide) (by decide +kernel) rfl dX5_ask_39 ?_
      refine lv_if_eq (tgt := 55) S.1 S.2.1 dX5_ask_42 (by decide) (fun c_42 => ?_) (fun c_42 => ?_)
      · have hf := ite_p c_42 hf
        refine lv_aload_n S.1 S.2.1 dX5_ask_55 rfl (lv_at hl 0 rfl) ?_
        refine M_get S hin hK hG 34 (by decide) (by decide +kernel) rfl dX5_ask_56 ?_
        exact r_iret S hr hlocks hG _ rfl hf rfl dX5_ask_59
      · have hf := ite_n c_42 hf
        refine lv_bipush (v := (-10)) S.1 S.2.1 dX5_ask_45 (by decide) ?_
        refine lv_aload_n S.1 S.2.1 dX5_ask_47 rfl (lv_at hl 0 rfl) ?_
        refine M_get S hin hK hG 35 (by decide) (by decide +kernel) rfl dX5_ask_48 ?_
        refine lv_isub S.1 S.2.1 dX5_ask_51 ?_
        refine lv_goto (tgt := 59) S.1 S.2.1 dX5_ask_52 (by decide) ?_
        exact r_iret S hr hlocks hG _ rfl hf rfl dX5_ask_59
    · have hf := ite_n c_18 hf
      refine lv_bipush (v := (-4)) S.1 S.2.1 dX5_ask_21 (by decide) ?_
      exact r_iret S hr hlocks hG _ rfl hf rfl dX5_ask_23
  · have hf := ite_p c_5 hf
    refine lv_bipush (v := (-2)) S.1 S.2.1 dX5_ask_8 (by decide) ?_
    exact r_iret S hr hlocks hG _ rfl hf rfl dX5_ask_10
theorem k_X5_ask (l : Launch) (D : va_G) (cI : ClassId) (ad : Nat → Nat) (σ : Mem) (x1 : Int32) {nr nx : Nat} {wy : Int32} (hI : RInv nr nx wy σ) : CMi l yX5_ask wsX5_ask ({ frames := 5, cells := 0, slots := 0, locals := 118 } : Room) D vwCl [(cI, .int)] (RW ad cI σ) [.ref (ad 0), .int x1] (fun (r : Int32) (u : Mem) => (r, u) = (f_X5_ask σ x1)) (fun u => RW ad cI u) :=
  r_met (by decide) rfl (Nat.le_of_ble_eq_true rfl) (fun p e s m args below meth c ls S hr hlocks _ hK hA hG hl => b_X5_ask_0 S hr hlocks hK hA σ x1 hI rfl _ _ hG ls hl)
theorem in_X5_run : ∀ w ∈ wsX50, w ∈ wsX5_run := by decide +kernel
def f_X5_run (σ : Mem) (x1 : Int32) : Int32 × Mem :=
  (if (bI (f_X5_isAct σ x1)) = 0 then
  ((-2), σ)
  else
  (if (σ 0 23) < 20000 then
  bnd (f_X5_go σ 1 x1) fun σ1 =>
  bnd (mset σ1 0 22 (σ1 0 26)) fun σ2 =>
  (if (σ2 0 35) = 0 then
  bnd (mset σ2 0 21 (σ2 0 34)) fun σ3 =>
  (if (σ2 0 35) = 0 then
  (1, σ3)
  else
  ((-10) - (σ2 0 35), σ3))
  else
  bnd (mset σ2 0 21 0) fun σ4 =>
  (if (σ2 0 35) = 0 then
  (1, σ4)
  else
  ((-10) - (σ2 0 35), σ4)))
  else
  ((-4), σ)))
set_option maxRecDepth 100000 in
set_option maxHeartbeats 4000000 in
theorem b_X5_run_0 {p : Program} {l : Launch} {e : Env} {s : State} {m : MethodId} {args : Array Value} {below : List Frame} {meth : Method} {c : Code} {D : va_G} {cI : ClassId} {ad : Nat → Nat} {w0 : va_W} {nr nx : Nat} {wy : Int32} {X : Int32 × Mem} (S : CallFix p m c cX5_run 2 s args wsX5_run RX5) (hr : meth.sig.returnType = (some .int)) (hlocks : meth.locks = false) (hK : va_K D vwCl [(cI, .int)] s) (hA : ∀ q, s.heap.size ≤ q → va_A w0 s.heap.size q) (σ : Mem) (x1 : Int32) (hI : RInv nr nx wy σ) (hf : f_X5_run σ x1 = X) (H : Heap) (locs : List Loc) (hG : wI D vwCl (va_A w0 s.heap.size) s.heap H locs (RW ad cI σ)) (ls : Array Slot) (hl : lv_has ls 2 [(0, .ref (ad 0)), (1, .int x1)]) : W p l e ({ frames := 5, cells := 0, slots := 0, locals := 118 } : Room) s m args below meth c H locs 0 0 (MQ below (va_Qi (fun (r : Int32) (u : Mem) => (r, u) = X) (fun u t => wPost D vwCl w0 s.heap.size ((fun u => RW ad cI u) u) t) (va_A w0 s.heap.size)) args s 0 0 (va_A w0 s.heap.size)) (F0 m 0 ls []) := by
  have hin := in_X5_run
  unfold f_X5_run at hf
  refine lv_aload_n S.1 S.2.1 dX5_run_0 rfl (lv_at hl 0 rfl) ?_
  refine lv_iload_n S.1 S.2.1 dX5_run_1 rfl (lv_at hl 1 rfl) ?_
  refine r_callVi S hK hA hG (k_X5_isAct l _ _ _ _ _) (cwV 1 S.2.2.2.2 gX5_run_X5_isAct rfl rfl rfl (by decide +kernel) ⟨Nat.le_of_ble_eq_true rfl, Nat.le_of_ble_eq_true rfl⟩) (va_recv hK hG.1 (ci := 5) (q0 := 0) rfl rfl) rfl hl.1 rfl (Nat.le_of_ble_eq_true rfl) dX5_run_2 ⟨Nat.le_of_ble_eq_true rfl, Nat.le_of_ble_eq_true rfl⟩ (fun r2 _ H locs hw hG => ?_)
  obtain rfl := hw
  refine lv_if_ne (tgt := 11) S.1 S.2.1 dX5_run_5 (by decide) (fun c_5 => ?_) (fun c_5 => ?_)
  · have hf := ite_n c_5 hf
    refine lv_aload_n S.1 S.2.1 dX5_run_11 rfl (lv_at hl 0 rfl) ?_
    refine M_get S hin hK hG 23 (by decide) (by decide +kernel) rfl dX5_run_12 ?_
    refine lv_sipush (v := 20000) S.1 S.2.1 dX5_run_15 (by decide) ?_
    refine lv_icmp_lt (tgt := 24) S.1 S.2.1 dX5_run_18 (by decide) (fun c_18 => ?_) (fun c_18 => ?_)
    · have hf := ite_p c_18 hf
      refine lv_aload_n S.1 S.2.1 dX5_run_24 rfl (lv_at hl 0 rfl) ?_
      refine lv_iconst (v := 1) S.1 S.2.1 dX5_run_25 (by decide) ?_
      refine lv_iload_n S.1 S.2.1 dX5_run_26 rfl (lv_at hl 1 rfl) ?_
      refine r_callVv S hK hA hG (k_X5_go l _ _ _ _ _ _ hI.1 hI.2.1 (vp_mono (is_act hI c_5) hI.2.2.2.1.2)) (cwV 2 S.2.2.2.2 gX5_run_X5_go rfl rfl rfl (by decide +kernel) ⟨Nat.le_of_ble_eq_true rfl, Nat.le_of_ble_eq_true rfl⟩) (va_recv hK hG.1 (ci := 5) (q0 := 0) rfl rfl) rfl hl.1 rfl (Nat.le_of_ble_eq_true rfl) dX5_run_27 ⟨Nat.le_of_ble_eq_true rfl, Nat.le_of_ble_eq_true rfl⟩ (fun σ1 H locs e_σ1 hG => ?_)
      have hf := bnd_p e_σ1 hf
      refine lv_aload_n S.1 S.2.1 dX5_run_30 rfl (lv_at hl 0 rfl) ?_
      refine lv_aload_n S.1 S.2.1 dX5_run_31 rfl (lv_at hl 0 rfl) ?_
      refine M_get S hin hK hG 26 (by decide) (by decide +kernel) rfl dX5_run_32 ?_
      refine M_put S hin hK hG 22 (by decide) (by decide +kernel) rfl rfl rfl (RWp_22 _ _ _ _) dX5_run_35 (fun σ2 H locs e_σ2 hG => ?_)
      have hf := bnd_p e_σ2 hf
      refine lv_aload_n S.1 S.2.1 dX5_run_38 rfl (lv_at hl 0 rfl) ?_
      refine lv_aload_n S.1 S.2.1 dX5_run_39 rfl (lv_at hl 0 rfl) ?_
      refine M_get S hin hK hG 35 (by decide) (by decide +kernel) rfl dX5_run_40 ?_
      refine lv_if_eq (tgt := 50) S.1 S.2.1 dX5_run_43 (by decide) (fun c_43 => ?_) (fun c_43 => ?_)
      · have hf := ite_p c_43 hf
        refine lv_aload_n S.1 S.2.1 dX5_run_50 rfl (lv_at hl 0 rfl) ?_
        refine M_get S hin hK hG 34 (by decide) (by decide +kernel) rfl dX5_run_51 ?_
        refine M_put S hin hK hG 21 (by decide) (by decide +kernel) rfl rfl rfl (RWp_21 _ _ _ _) dX5_run_54 (fun σ3 H locs e_σ3 hG => ?_)
        have hf := bnd_p e_σ3 hf
        refine lv_aload_n S.1 S.2.1 dX5_run_57 rfl (lv_at hl 0 rfl) ?_
        refine M_get S hin hK hG 35 (v := .int (σ2 0 35)) (by decide) (by decide +kernel) (by rw [e_σ3]; rfl) dX5_run_58 ?_
        refine lv_if_eq (tgt := 74) S.1 S.2.1 dX5_run_61 (by decide) (fun c_61 => ?_) (fun c_61 => ?_)
        · have hf := ite_p c_61 hf
          refine lv_iconst (v := 1) S.1 S.2.1 dX5_run_74 (by decide) ?_
          exact r_iret S hr hlocks hG _ rfl hf rfl dX5_run_75
        · have hf := ite_n c_61 hf
          refine lv_bipush (v := (-10)) S.1 S.2.1 dX5_run_64 (by decide) ?_
          refine lv_aload_n S.1 S.2.1 dX5_run_66 rfl (lv_at hl 0 rfl) ?_
          refine M_get S hin hK hG 35 (v := .int (σ2 0 35)) (by decide) (by decide +kernel) (by rw [e_σ3]; rfl) dX5_run_67 ?_
          refine lv_isub S.1 S.2.1 dX5_run_70 ?_
          refine lv_goto (tgt := 75) S.1 S.2.1 dX5_run_71 (by decide) ?_
          exact r_iret S hr hlocks hG _ rfl hf rfl dX5_run_75
      · have hf := ite_n c_43 hf
        refine lv_iconst (v := 0) S.1 S.2.1 dX5_run_46 (by decide) ?_
        refine lv_goto (tgt := 54) S.1 S.2.1 dX5_run_47 (by decide) ?_
        refine M_put S hin hK hG 21 (by decide) (by decide +kernel) rfl rfl rfl (RWp_21 _ _ _ _) dX5_run_54 (fun σ4 H locs e_σ4 hG => ?_)
        have hf := bnd_p e_σ4 hf
        refine lv_aload_n S.1 S.2.1 dX5_run_57 rfl (lv_at hl 0 rfl) ?_
        refine M_get S hin hK hG 35 (v := .int (σ2 0 35)) (by decide) (by decide +kernel) (by rw [e_σ4]; rfl) dX5_run_58 ?_
        refine lv_if_eq (tgt := 74) S.1 S.2.1 dX5_run_61 (by decide) (fun c_61 => ?_) (fun c_61 => ?_)
        · have hf := ite_p c_61 hf
          refine lv_iconst (v := 1) S.1 S.2.1 dX5_run_74 (by decide) ?_
          exact r_iret S hr hlocks hG _ rfl hf rfl dX5_run_75
        · have hf := ite_n c_61 hf
          refine lv_bipush (v := (-10)) S.1 S.2.1 dX5_run_64 (by decide) ?_
          refine lv_aload_n S.1 S.2.1 dX5_run_66 rfl (lv_at hl 0 rfl) ?_
          refine M_get S hin hK hG 35 (v := .int (σ2 0 35)) (by decide) (by decide +kernel) (by rw [e_σ4]; rfl) dX5_run_67 ?_
          refine lv_isub S.1 S.2.1 dX5_run_70 ?_
          refine lv_goto (tgt := 75) S.1 S.2.1 dX5_run_71 (by decide) ?_
          exact r_iret S hr hlocks hG _ rfl hf rfl dX5_run_75
    · have hf := ite_n c_18 hf
      refine lv_bipush (v := (-4)) S.1 S.2.1 dX5_run_21 (by decide) ?_
      exact r_iret S hr hlocks hG _ rfl hf rfl dX5_run_23
  · have hf := ite_p c_5 hf
    refine lv_bipush (v := (-2)) S.1 S.2.1 dX5_run_8 (by decide) ?_
    exact r_iret S hr hlocks hG _ rfl hf rfl dX5_run_10
theorem k_X5_run (l : Launch) (D : va_G) (cI : ClassId) (ad : Nat → Nat) (σ : Mem) (x1 : Int32) {nr nx : Nat} {wy : Int32} (hI : RInv nr nx wy σ) : CMi l yX5_run wsX5_run ({ frames := 5, cells := 0, slots := 0, locals := 118 } : Room) D vwCl [(cI, .int)] (RW ad cI σ) [.ref (ad 0), .int x1] (fun (r : Int32) (u : Mem) => (r, u) = (f_X5_run σ x1)) (fun u => RW ad cI u) :=
  r_met (by decide) rfl (Nat.le_of_ble_eq_true rfl) (fun p e s m args below meth c ls S hr hlocks _ hK hA hG hl => b_X5_run_0 S hr hlocks hK hA σ x1 hI rfl _ _ hG ls hl)
theorem in_X5_failed : ∀ w ∈ wsX50, w ∈ wsX5_failed := by decide +kernel
def f_X5_failed (σ : Mem) (x1 : Int32) (x2 : Int32) : Int32 :=
  (if (bI (f_X5_in x2 0 2)) = 0 then
  (-3)
  else
  (if (bI (f_X5_in x1 0 ((σ 0 17) - 1))) = 0 then
  (-1)
  else
  (if x2 = 0 then
  σ 19 x1.toNatClampNeg
  else
  (if x2 = 1 then
  σ 20 x1.toNatClampNeg
  else
  σ 21 x1.toNatClampNeg))))
set_option maxRecDepth 100000 in
set_option maxHeartbeats 4000000 in
theorem b_X5_failed_0 {p : Program} {l : Launch} {e : Env} {s : State} {m : MethodId} {args : Array Value} {below : List Frame} {meth : Method} {c : Code} {D : va_G} {cI : ClassId} {ad : Nat → Nat} {w0 : va_W} {X : Int32} (S : CallFix p m c cX5_failed 3 s args wsX5_failed RX5) (hr : meth.sig.returnType = (some .int)) (hlocks : meth.locks = false) (hK : va_K D vwCl [(cI, .int)] s) (hA : ∀ q, s.heap.size ≤ q → va_A w0 s.heap.size q) (σ : Mem) (x1 : Int32) (x2 : Int32) (hk : ∃ k : Nat, k ≤ 30 ∧ σ 0 17 = nI k) (hf : f_X5_failed σ x1 x2 = X) (H : Heap) (locs : List Loc) (hG : wI D vwCl (va_A w0 s.heap.size) s.heap H locs (RW ad cI σ)) (ls : Array Slot) (hl : lv_has ls 3 [(0, .ref (ad 0)), (1, .int x1), (2, .int x2)]) : W p l e ({ frames := 1, cells := 0, slots := 0, locals := 22 } : Room) s m args below meth c H locs 0 0 (MQ below (va_Qi (fun (r : Int32) (_ : Unit) => r = X) (fun u t => wPost D vwCl w0 s.heap.size ((fun _ => RW ad cI σ) u) t) (va_A w0 s.heap.size)) args s 0 0 (va_A w0 s.heap.size)) (F0 m 0 ls []) := by
  have hin := in_X5_failed
  unfold f_X5_failed at hf
  refine lv_iload_n S.1 S.2.1 dX5_failed_0 rfl (lv_at hl 2 rfl) ?_
  refine lv_iconst (v := 0) S.1 S.2.1 dX5_failed_1 (by decide) ?_
  refine lv_iconst (v := 2) S.1 S.2.1 dX5_failed_2 (by decide) ?_
  refine r_callSi S hK hA hG (k_X5_in l _ _ _ _ _ _ _) (cwS 3 S.2.2.2.2 gX5_failed_X5_in rfl rfl rfl (by decide +kernel) ⟨Nat.le_of_ble_eq_true rfl, Nat.le_of_ble_eq_true rfl⟩) rfl hl.1 rfl (Nat.le_of_ble_eq_true rfl) dX5_failed_3 ⟨Nat.le_of_ble_eq_true rfl, Nat.le_of_ble_eq_true rfl⟩ (fun r3 _ H locs hw hG => ?_)
  obtain rfl := hw
  refine lv_if_ne (tgt := 12) S.1 S.2.1 dX5_failed_6 (by decide) (fun c_6 => ?_) (fun c_6 => ?_)
  · have hf := ite_n c_6 hf
    refine lv_iload_n S.1 S.2.1 dX5_failed_12 rfl (lv_at hl 1 rfl) ?_
    refine lv_iconst (v := 0) S.1 S.2.1 dX5_failed_13 (by decide) ?_
    refine lv_aload_n S.1 S.2.1 dX5_failed_14 rfl (lv_at hl 0 rfl) ?_
    refine M_get S hin hK hG 17 (by decide) (by decide +kernel) rfl dX5_failed_15 ?_
    refine lv_iconst (v := 1) S.1 S.2.1 dX5_failed_18 (by decide) ?_
    refine lv_isub S.1 S.2.1 dX5_failed_19 ?_
    refine r_callSi S hK hA hG (k_X5_in l _ _ _ _ _ _ _) (cwS 3 S.2.2.2.2 gX5_failed_X5_in rfl rfl rfl (by decide +kernel) ⟨Nat.le_of_ble_eq_true rfl, Nat.le_of_ble_eq_true rfl⟩) rfl hl.1 rfl (Nat.le_of_ble_eq_true rfl) dX5_failed_20 ⟨Nat.le_of_ble_eq_true rfl, Nat.le_of_ble_eq_true rfl⟩ (fun r20 _ H locs hw hG => ?_)
    obtain rfl := hw
    refine lv_if_ne (tgt := 28) S.1 S.2.1 dX5_failed_23 (by decide) (fun c_23 => ?_) (fun c_23 => ?_)
    · have hf := ite_n c_23 hf
      refine lv_iload_n S.1 S.2.1 dX5_failed_28 rfl (lv_at hl 2 rfl) ?_
      refine lv_if_ne (tgt := 41) S.1 S.2.1 dX5_failed_29 (by decide) (fun c_29 => ?_) (fun c_29 => ?_)
      · have hf := ite_n c_29 hf
        refine lv_iload_n S.1 S.2.1 dX5_failed_41 rfl (lv_at hl 2 rfl) ?_
        refine lv_iconst (v := 1) S.1 S.2.1 dX5_failed_42 (by decide) ?_
        refine lv_icmp_ne (tgt := 55) S.1 S.2.1 dX5_failed_43 (by decide) (fun c_43 => ?_) (fun c_43 => ?_)
        · have hf := ite_n c_43 hf
          refine lv_aload_n S.1 S.2.1 dX5_failed_55 rfl (lv_at hl 0 rfl) ?_
          refine M_get S hin hK hG 20 (by decide) (by decide +kernel) rfl dX5_failed_56 ?_
          refine lv_iload_n S.1 S.2.1 dX5_failed_59 rfl (lv_at hl 1 rfl) ?_
          refine r_iald S hK hG 16 0 rfl rfl (by obtain ⟨k, h1, h2⟩ := hk; exact vp_mono (in_below c_23 h2 (by omega)) h1) dX5_failed_60 ?_
          exact r_iret S hr hlocks hG () rfl hf rfl dX5_failed_61
        · have hf := ite_p c_43 hf
          refine lv_aload_n S.1 S.2.1 dX5_failed_46 rfl (lv_at hl 0 rfl) ?_
          refine M_get S hin hK hG 19 (by decide) (by decide +kernel) rfl dX5_failed_47 ?_
          refine lv_iload_n S.1 S.2.1 dX5_failed_50 rfl (lv_at hl 1 rfl) ?_
          refine r_iald S hK hG 15 0 rfl rfl (by obtain ⟨k, h1, h2⟩ := hk; exact vp_mono (in_below c_23 h2 (by omega)) h1) dX5_failed_51 ?_
          refine lv_goto (tgt := 61) S.1 S.2.1 dX5_failed_52 (by decide) ?_
          exact r_iret S hr hlocks hG () rfl hf rfl dX5_failed_61
      · have hf := ite_p c_29 hf
        refine lv_aload_n S.1 S.2.1 dX5_failed_32 rfl (lv_at hl 0 rfl) ?_
        refine M_get S hin hK hG 18 (by decide) (by decide +kernel) rfl dX5_failed_33 ?_
        refine lv_iload_n S.1 S.2.1 dX5_failed_36 rfl (lv_at hl 1 rfl) ?_
        refine r_iald S hK hG 14 0 rfl rfl (by obtain ⟨k, h1, h2⟩ := hk; exact vp_mono (in_below c_23 h2 (by omega)) h1) dX5_failed_37 ?_
        refine lv_goto (tgt := 61) S.1 S.2.1 dX5_failed_38 (by decide) ?_
        exact r_iret S hr hlocks hG () rfl hf rfl dX5_failed_61
    · have hf := ite_p c_23 hf
      refine lv_iconst (v := (-1)) S.1 S.2.1 dX5_failed_26 (by decide) ?_
      exact r_iret S hr hlocks hG () rfl hf rfl dX5_failed_27
  · have hf := ite_p c_6 hf
    refine lv_bipush (v := (-3)) S.1 S.2.1 dX5_failed_9 (by decide) ?_
    exact r_iret S hr hlocks hG () rfl hf rfl dX5_failed_11
theorem k_X5_failed (l : Launch) (D : va_G) (cI : ClassId) (ad : Nat → Nat) (σ : Mem) (x1 : Int32) (x2 : Int32) (hk : ∃ k : Nat, k ≤ 30 ∧ σ 0 17 = nI k) : CMi l yX5_failed wsX5_failed ({ frames := 1, cells := 0, slots := 0, locals := 22 } : Room) D vwCl [(cI, .int)] (RW ad cI σ) [.ref (ad 0), .int x1, .int x2] (fun (r : Int32) (_ : Unit) => r = (f_X5_failed σ x1 x2)) (fun _ => RW ad cI σ) :=
  r_met (by decide) rfl (Nat.le_of_ble_eq_true rfl) (fun p e s m args below meth c ls S hr hlocks _ hK hA hG hl => b_X5_failed_0 S hr hlocks hK hA σ x1 x2 hk rfl _ _ hG ls hl)
theorem in_X5_due : ∀ w ∈ wsX50, w ∈ wsX5_due := by decide +kernel
def f_X5_due_9 : Nat → Mem → Int32 → Int32 → Int32
  | 0, σ, _, _ => 0
  | n + 1, σ, a, k =>
  (if k < 0 then
  a
  else
  (if (σ 17 k.toNatClampNeg) = (σ 0 2) then
  bnd (k + (-1)) fun v2 =>
  f_X5_due_9 n σ k v2
  else
  bnd (k + (-1)) fun v1 =>
  f_X5_due_9 n σ a v1))
set_option maxRecDepth 100000 in
set_option maxHeartbeats 4000000 in
theorem b_X5_due_9 {p : Program} {l : Launch} {e : Env} {s : State} {m : MethodId} {args : Array Value} {below : List Frame} {meth : Method} {c : Code} {D : va_G} {cI : ClassId} {ad : Nat → Nat} {w0 : va_W} {X : Int32} (S : CallFix p m c cX5_due 3 s args wsX5_due RX5) (hr : meth.sig.returnType = (some .int)) (hlocks : meth.locks = false) (hK : va_K D vwCl [(cI, .int)] s) (hA : ∀ q, s.heap.size ≤ q → va_A w0 s.heap.size q) : ∀ (n : Nat) (σ : Mem) (a : Int32) (k : Int32) (hd : dnI n k), f_X5_due_9 n σ a k = X → ∀ (H : Heap) (locs : List Loc), wI D vwCl (va_A w0 s.heap.size) s.heap H locs (RW ad cI σ) → ∀ (ls : Array Slot), lv_has ls 3 [(0, .ref (ad 0)), (1, .int a), (2, .int k)] → W p l e ({ frames := 0, cells := 0, slots := 0, locals := 0 } : Room) s m args below meth c H locs 0 0 (MQ below (va_Qi (fun (r : Int32) (_ : Unit) => r = X) (fun u t => wPost D vwCl w0 s.heap.size ((fun _ => RW ad cI σ) u) t) (va_A w0 s.heap.size)) args s 0 0 (va_A w0 s.heap.size)) (F0 m 9 ls []) := by
  have hin := in_X5_due
  intro n
  induction n with
  | zero =>
    intro σ a k hd
    exact (by obtain ⟨q, -, -, h⟩ := hd; omega)
  | succ n ih =>
    intro σ a k hd hf H locs hG ls hl
    unfold f_X5_due_9 at hf
    refine lv_iload_n S.1 S.2.1 dX5_due_9 rfl (lv_at hl 2 rfl) ?_
    refine lv_if_lt (tgt := 38) S.1 S.2.1 dX5_due_10 (by decide) (fun c_10 => ?_) (fun c_10 => ?_)
    · have hf := ite_p c_10 hf
      refine lv_iload_n S.1 S.2.1 dX5_due_38 rfl (lv_at hl 1 rfl) ?_
      exact r_iret S hr hlocks hG () rfl hf rfl dX5_due_39
    · have hf := ite_n c_10 hf
      refine lv_aload_n S.1 S.2.1 dX5_due_13 rfl (lv_at hl 0 rfl) ?_
      refine M_get S hin hK hG 16 (by decide) (by decide +kernel) rfl dX5_due_14 ?_
      refine lv_iload_n S.1 S.2.1 dX5_due_17 rfl (lv_at hl 2 rfl) ?_
      refine r_iald S hK hG 13 0 rfl rfl (dn_in hd c_10).1 dX5_due_18 ?_
      refine lv_aload_n S.1 S.2.1 dX5_due_19 rfl (lv_at hl 0 rfl) ?_
      refine M_get S hin hK hG 2 (by decide) (by decide +kernel) rfl dX5_due_20 ?_
      refine lv_icmp_ne (tgt := 30) S.1 S.2.1 dX5_due_23 (by decide) (fun c_23 => ?_) (fun c_23 => ?_)
      · have hf := ite_n c_23 hf
        refine lv_iload_n S.1 S.2.1 dX5_due_30 rfl (lv_at hl 1 rfl) ?_
        refine lv_istore_n (lv' := [(1, .int a), (0, .ref (ad 0)), (2, .int k)]) S.1 S.2.1 dX5_due_31 rfl hl (by decide) rfl (fun ls hl => ?_)
        obtain ⟨v1, e_v1⟩ : ∃ z : Int32, z = k + (-1) := ⟨_, rfl⟩
        have hf := bnd_p e_v1 hf
        refine lv_iinc (v := v1) (lv' := [(2, .int v1), (1, .int a), (0, .ref (ad 0))]) S.1 S.2.1 dX5_due_32 hl (k := 2) rfl (by rw [e_v1]; rfl) (by decide) rfl (fun ls hl => ?_)
        refine lv_goto (tgt := 9) S.1 S.2.1 dX5_due_35 (by decide) ?_
        exact ih σ a v1 ((dn_in hd c_10).2 _ (by assumption)) hf H locs hG ls (lv_sub hl [2, 1, 0] rfl)
      · have hf := ite_p c_23 hf
        refine lv_iload_n S.1 S.2.1 dX5_due_26 rfl (lv_at hl 2 rfl) ?_
        refine lv_goto (tgt := 31) S.1 S.2.1 dX5_due_27 (by decide) ?_
        refine lv_istore_n (lv' := [(1, .int k), (0, .ref (ad 0)), (2, .int k)]) S.1 S.2.1 dX5_due_31 rfl hl (by decide) rfl (fun ls hl => ?_)
        obtain ⟨v2, e_v2⟩ : ∃ z : Int32, z = k + (-1) := ⟨_, rfl⟩
        have hf := bnd_p e_v2 hf
        refine lv_iinc (v := v2) (lv' := [(2, .int v2), (1, .int k), (0, .ref (ad 0))]) S.1 S.2.1 dX5_due_32 hl (k := 2) rfl (by rw [e_v2]; rfl) (by decide) rfl (fun ls hl => ?_)
        refine lv_goto (tgt := 9) S.1 S.2.1 dX5_due_35 (by decide) ?_
        exact ih σ k v2 ((dn_in hd c_10).2 _ (by assumption)) hf H locs hG ls (lv_sub hl [2, 1, 0] rfl)
def f_X5_due (σ : Mem) : Int32 :=
  bnd ((σ 0 14) - 1) fun v1 =>
  f_X5_due_9 61 σ (-1) v1
set_option maxRecDepth 100000 in
set_option maxHeartbeats 4000000 in
theorem b_X5_due_0 {p : Program} {l : Launch} {e : Env} {s : State} {m : MethodId} {args : Array Value} {below : List Frame} {meth : Method} {c : Code} {D : va_G} {cI : ClassId} {ad : Nat → Nat} {w0 : va_W} {X : Int32} (S : CallFix p m c cX5_due 3 s args wsX5_due RX5) (hr : meth.sig.returnType = (some .int)) (hlocks : meth.locks = false) (hK : va_K D vwCl [(cI, .int)] s) (hA : ∀ q, s.heap.size ≤ q → va_A w0 s.heap.size q) (σ : Mem) (hw : WV σ) (hf : f_X5_due σ = X) (H : Heap) (locs : List Loc) (hG : wI D vwCl (va_A w0 s.heap.size) s.heap H locs (RW ad cI σ)) (ls : Array Slot) (hl : lv_has ls 3 [(0, .ref (ad 0))]) : W p l e ({ frames := 0, cells := 0, slots := 0, locals := 0 } : Room) s m args below meth c H locs 0 0 (MQ below (va_Qi (fun (r : Int32) (_ : Unit) => r = X) (fun u t => wPost D vwCl w0 s.heap.size ((fun _ => RW ad cI σ) u) t) (va_A w0 s.heap.size)) args s 0 0 (va_A w0 s.heap.size)) (F0 m 0 ls []) := by
  have hin := in_X5_due
  unfold f_X5_due at hf
  refine lv_iconst (v := (-1)) S.1 S.2.1 dX5_due_0 (by decide) ?_
  refine lv_istore_n (lv' := [(1, .int ((-1))), (0, .ref (ad 0))]) S.1 S.2.1 dX5_due_1 rfl hl (by decide) rfl (fun ls hl => ?_)
  refine lv_aload_n S.1 S.2.1 dX5_due_2 rfl (lv_at hl 1 rfl) ?_
  refine M_get S hin hK hG 14 (by decide) (by decide +kernel) rfl dX5_due_3 ?_
  refine lv_iconst (v := 1) S.1 S.2.1 dX5_due_6 (by decide) ?_
  refine lv_isub S.1 S.2.1 dX5_due_7 ?_
  refine lv_topi (fun v1 e_v1 => ?_)
  have hf := bnd_p e_v1 hf
  refine lv_istore_n (lv' := [(2, .int v1), (1, .int ((-1))), (0, .ref (ad 0))]) S.1 S.2.1 dX5_due_8 rfl hl (by decide) rfl (fun ls hl => ?_)
  exact b_X5_due_9 S hr hlocks hK hA 61 σ (-1) v1 (by obtain ⟨⟨q, h1, h2⟩, -⟩ := hw; exact ⟨q, h1, by rw [e_v1, h2], by omega⟩) hf H locs hG ls (lv_sub hl [2, 1, 0] rfl)
theorem k_X5_due (l : Launch) (D : va_G) (cI : ClassId) (ad : Nat → Nat) (σ : Mem) (hw : WV σ) : CMi l yX5_due wsX5_due ({ frames := 0, cells := 0, slots := 0, locals := 0 } : Room) D vwCl [(cI, .int)] (RW ad cI σ) [.ref (ad 0)] (fun (r : Int32) (_ : Unit) => r = (f_X5_due σ)) (fun _ => RW ad cI σ) :=
  r_met (by decide) rfl (Nat.le_of_ble_eq_true rfl) (fun p e s m args below meth c ls S hr hlocks _ hK hA hG hl => b_X5_due_0 S hr hlocks hK hA σ hw rfl _ _ hG ls hl)
