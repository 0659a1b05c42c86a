theorem tk_s {x i v : Int32} {n : Nat} (h : lpW 50 (n + 1) i) (hx : x ≤ 50) (hc : ¬ x ≤ i) (e : v = i + 1) : lpW 50 n v := by
  refine lpW_s (b := 50) h (by decide) rfl (fun q => hc ?_) e
  rw [Int32.le_iff_toInt_le] at *
  omega
theorem in_X4_ask_X4 : ∀ w ∈ wsX40, w ∈ wsX4_ask := by decide +kernel
def f_X4_ask (σ : Mem) (x1 : Int32) : Int32 × Mem :=
  (optE (f_X4_ruleAt σ x1) (((-2), σ)) fun i_2 =>
  (if (σ 0 12) < 20000 then
  bnd (f_X4_startWork σ) fun σ1 =>
  bnd2 (f_X4_says 41 σ1 x1 0) fun b3 σ2 =>
  bnd (mset σ2 0 11 (σ2 0 10)) fun σ4 =>
  (if (σ4 0 13) = 0 then
  (if (bI b3) = 0 then
  (0, σ4)
  else
  (1, σ4))
  else
  ((-10) - (σ4 0 13), σ4))
  else
  ((-4), σ)))
set_option maxRecDepth 100000 in
set_option maxHeartbeats 4000000 in
theorem b_X4_ask_0 {p : Program} {l : Launch} {e : Env} {s : State} {m : MethodId} {args : Array Value} {below : List Frame} {meth : Method} {c : Code} {D : va_G} {cs : Nat → ClassId} {ad : Nat → Nat} {nr nx : Nat} {wy : Int32} {T : Mem} {w0 : va_W} {X : Int32 × Mem} (S : CallFix p m c cX4_ask 3 s args wsX4_ask RX4) (hr : meth.sig.returnType = (some .int)) (hlocks : meth.locks = false) (hK : va_K D vwCl (gT cs) s) (hA : ∀ q, s.heap.size ≤ q → va_A w0 s.heap.size q) (σ : Mem) (x1 : Int32) (hc : CInv nr nx wy T σ) (hf : f_X4_ask σ x1 = X) (H : Heap) (locs : List Loc) (hG : wI D vwCl (va_A w0 s.heap.size) s.heap H locs (GW ad cs nr nx σ)) (ls : Array Slot) (hl : lv_has ls 3 [(0, .ref (ad 0)), (1, .int x1)]) : W p l e ({ frames := 87, cells := 0, slots := 0, locals := 2109 } : Room) s m args below meth c H locs 0 0 (MQ below (va_Qi (fun (r : Int32) (u : Mem) => (r, u) = X ∧ CInv nr nx wy T u) (fun u t => wPost D vwCl w0 s.heap.size ((fun u => GW ad cs nr nx u) u) t) (va_A w0 s.heap.size)) args s 0 0 (va_A w0 s.heap.size)) (F0 m 0 ls []) := by
  have hinX4 := in_X4_ask_X4
  unfold f_X4_ask at hf
  refine lv_aload_n S.1 S.2.1 dX4_ask_0 rfl (lv_at hl 0 rfl) ?_
  refine lv_iload_n S.1 S.2.1 dX4_ask_1 rfl (lv_at hl 1 rfl) ?_
  refine r_callVq S hK hA hG (k_X4_ruleAt l _ _ _ _ _ _ _ hc) (cwV 1 S.2.2.2.2 gX4_ask_X4_ruleAt rfl rfl rfl (by decide +kernel) ⟨Nat.le_of_ble_eq_true rfl, Nat.le_of_ble_eq_true rfl⟩) (va_recv hK hG.1 (ci := 4) (q0 := 0) rfl rfl) rfl hl.1 rfl (Nat.le_of_ble_eq_true rfl) dX4_ask_2 ⟨Nat.le_of_ble_eq_true rfl, Nat.le_of_ble_eq_true rfl⟩ (fun r2 _ H locs hw hG => ?_)
  obtain rfl := hw
  refine C_opt (fun ho_2 => ?_) (fun i_2 ho_2 => ?_)
  · have hf := opt_n ho_2 hf
    refine lv_ifnonnullN S.1 S.2.1 dX4_ask_5 ?_
    refine lv_bipush (v := (-2)) S.1 S.2.1 dX4_ask_8 (by decide) ?_
    exact r_iret S hr hlocks hG _ rfl ⟨hf, hc⟩ rfl dX4_ask_10
  · have hf := opt_s ho_2 hf
    have hi_2 : i_2 < nr := ra_lt ho_2 hc
    refine lv_ifnonnull (tgt := 11) S.1 S.2.1 dX4_ask_5 (by decide) ?_
    refine lv_aload_n S.1 S.2.1 dX4_ask_11 rfl (lv_at hl 0 rfl) ?_
    refine r_get S hK hG hinX4 0 rfl rfl 12 (by decide) (by decide +kernel) rfl dX4_ask_12 ?_
    refine lv_sipush (v := 20000) S.1 S.2.1 dX4_ask_15 (by decide) ?_
    refine lv_icmp_lt (tgt := 24) S.1 S.2.1 dX4_ask_18 (by decide) (fun c_18 => ?_) (fun c_18 => ?_)
    · have hf := ite_p c_18 hf
      refine lv_aload_n S.1 S.2.1 dX4_ask_24 rfl (lv_at hl 0 rfl) ?_
      refine r_callVv S hK hA hG (k_X4_startWork l _ _ _ _ _ _ hc) (cwV 0 S.2.2.2.2 gX4_ask_X4_startWork rfl rfl rfl (by decide +kernel) ⟨Nat.le_of_ble_eq_true rfl, Nat.le_of_ble_eq_true rfl⟩) (va_recv hK hG.1 (ci := 4) (q0 := 0) rfl rfl) rfl hl.1 rfl (Nat.le_of_ble_eq_true rfl) dX4_ask_25 ⟨Nat.le_of_ble_eq_true rfl, Nat.le_of_ble_eq_true rfl⟩ (fun σ1 H locs hw hG => ?_)
      obtain ⟨e_σ1, hc⟩ := hw
      have hf := bnd_p e_σ1 hf
      refine lv_aload_n S.1 S.2.1 dX4_ask_28 rfl (lv_at hl 0 rfl) ?_
      refine lv_iload_n S.1 S.2.1 dX4_ask_29 rfl (lv_at hl 1 rfl) ?_
      refine lv_iconst (v := 0) S.1 S.2.1 dX4_ask_30 (by decide) ?_
      refine r_callVi S hK hA hG (k_X4_says l _ _ _ _ _ 41 _ _ _ _ _ hc dOK_0) (cwV 2 S.2.2.2.2 gX4_ask_X4_says rfl rfl rfl (by decide +kernel) ⟨Nat.le_of_ble_eq_true rfl, Nat.le_of_ble_eq_true rfl⟩) (va_recv hK hG.1 (ci := 4) (q0 := 0) rfl rfl) rfl hl.1 rfl (Nat.le_of_ble_eq_true rfl) dX4_ask_31 ⟨Nat.le_of_ble_eq_true rfl, Nat.le_of_ble_eq_true rfl⟩ (fun r_ σ2 H locs hw hG => ?_)
      obtain ⟨⟨b3, rfl, e_σ2⟩, hc⟩ := hw
      have hf := bnd2_p e_σ2 hf
      refine lv_istore_n (lv' := [(2, .int (bI b3)), (0, .ref (ad 0)), (1, .int x1)]) S.1 S.2.1 dX4_ask_34 rfl hl (by decide) rfl (fun ls hl => ?_)
      refine lv_aload_n S.1 S.2.1 dX4_ask_35 rfl (lv_at hl 1 rfl) ?_
      refine lv_aload_n S.1 S.2.1 dX4_ask_36 rfl (lv_at hl 1 rfl) ?_
      refine r_get S hK hG hinX4 0 rfl rfl 10 (by decide) (by decide +kernel) rfl dX4_ask_37 ?_
      refine C_put S hK hG hinX4 tyX4 tyX4_ok nmX4 0 rfl rfl 11 (by decide) (by decide +kernel) rfl rfl rfl (Nat.le_of_ble_eq_true rfl) (GWp_0_11 _ _ _ _ _ _) dX4_ask_40 (fun σ4 H locs e_σ4 hG => ?_)
      have hf := bnd_p e_σ4 hf
      have hc := ci_p0 (k := 11) (by decide) e_σ4 hc
      refine lv_aload_n S.1 S.2.1 dX4_ask_43 rfl (lv_at hl 1 rfl) ?_
      refine r_get S hK hG hinX4 0 rfl rfl 13 (by decide) (by decide +kernel) rfl dX4_ask_44 ?_
      refine lv_if_eq (tgt := 58) S.1 S.2.1 dX4_ask_47 (by decide) (fun c_47 => ?_) (fun c_47 => ?_)
      · have hf := ite_p c_47 hf
        refine lv_iload_n S.1 S.2.1 dX4_ask_58 rfl (lv_at hl 0 rfl) ?_
        refine lv_if_eq (tgt := 66) S.1 S.2.1 dX4_ask_59 (by decide) (fun c_59 => ?_) (fun c_59 => ?_)
        · have hf := ite_p c_59 hf
          refine lv_iconst (v := 0) S.1 S.2.1 dX4_ask_66 (by decide) ?_
          exact r_iret S hr hlocks hG _ rfl ⟨hf, hc⟩ rfl dX4_ask_67
        · have hf := ite_n c_59 hf
          refine lv_iconst (v := 1) S.1 S.2.1 dX4_ask_62 (by decide) ?_
          refine lv_goto (tgt := 67) S.1 S.2.1 dX4_ask_63 (by decide) ?_
          exact r_iret S hr hlocks hG _ rfl ⟨hf, hc⟩ rfl dX4_ask_67
      · have hf := ite_n c_47 hf
        refine lv_bipush (v := (-10)) S.1 S.2.1 dX4_ask_50 (by decide) ?_
        refine lv_aload_n S.1 S.2.1 dX4_ask_52 rfl (lv_at hl 1 rfl) ?_
        refine r_get (v := .int (σ4 0 13)) S hK hG hinX4 0 rfl rfl 13 (by decide) (by decide +kernel) rfl dX4_ask_53 ?_
        refine lv_isub S.1 S.2.1 dX4_ask_56 ?_
        exact r_iret S hr hlocks hG _ rfl ⟨hf, hc⟩ rfl dX4_ask_57
    · have hf := ite_n c_18 hf
      refine lv_bipush (v := (-4)) S.1 S.2.1 dX4_ask_21 (by decide) ?_
      exact r_iret S hr hlocks hG _ rfl ⟨hf, hc⟩ rfl dX4_ask_23
theorem k_X4_ask (l : Launch) (D : va_G) (cs : Nat → ClassId) (ad : Nat → Nat) (nr nx : Nat) (σ : Mem) (x1 : Int32) {wy : Int32} {T : Mem} (hc : CInv nr nx wy T σ) : CMi l yX4_ask wsX4_ask ({ frames := 87, cells := 0, slots := 0, locals := 2109 } : Room) D vwCl (gT cs) (GW ad cs nr nx σ) [.ref (ad 0), .int x1] (fun (r : Int32) (u : Mem) => (r, u) = (f_X4_ask σ x1) ∧ CInv nr nx wy T u) (fun u => GW ad cs nr nx u) :=
  r_met (by decide) rfl (Nat.le_of_ble_eq_true rfl) (fun p e s m args below meth c ls S hr hlocks _ hK hA hG hl => b_X4_ask_0 S hr hlocks hK hA σ x1 hc rfl _ _ hG ls hl)
theorem in_X4_run_X4 : ∀ w ∈ wsX40, w ∈ wsX4_run := by decide +kernel
def f_X4_run (σ : Mem) (x1 : Int32) : Int32 × Mem :=
  (optE (f_X4_actAt σ x1) (((-2), σ)) fun i_2 =>
  (if (σ 0 12) < 20000 then
  bnd (f_X4_startWork σ) fun σ1 =>
  bnd2 (f_X4_does 41 σ1 x1 0) fun r3 σ2 =>
  bnd (mset σ2 0 11 (σ2 0 10)) fun σ4 =>
  (if (σ4 0 13) = 0 then
  bnd (mset σ4 0 14 r3) fun σ6 =>
  (if (σ4 0 13) = 0 then
  (1, σ6)
  else
  ((-10) - (σ4 0 13), σ6))
  else
  bnd (mset σ4 0 14 0) fun σ5 =>
  (if (σ4 0 13) = 0 then
  (1, σ5)
  else
  ((-10) - (σ4 0 13), σ5)))
  else
  ((-4), σ)))
set_option maxRecDepth 100000 in
set_option maxHeartbeats 4000000 in
theorem b_X4_run_0 {p : Program} {l : Launch} {e : Env} {s : State} {m : MethodId} {args : Array Value} {below : List Frame} {meth : Method} {c : Code} {D : va_G} {cs : Nat → ClassId} {ad : Nat → Nat} {nr nx : Nat} {wy : Int32} {T : Mem} {w0 : va_W} {X : Int32 × Mem} (S : CallFix p m c cX4_run 3 s args wsX4_run RX4) (hr : meth.sig.returnType = (some .int)) (hlocks : meth.locks = false) (hK : va_K D vwCl (gT cs) s) (hA : ∀ q, s.heap.size ≤ q → va_A w0 s.heap.size q) (σ : Mem) (x1 : Int32) (hc : CInv nr nx wy T σ) (hf : f_X4_run σ x1 = X) (H : Heap) (locs : List Loc) (hG : wI D vwCl (va_A w0 s.heap.size) s.heap H locs (GW ad cs nr nx σ)) (ls : Array Slot) (hl : lv_has ls 3 [(0, .ref (ad 0)), (1, .int x1)]) : W p l e ({ frames := 175, cells := 0, slots := 0, locals := 4783 } : Room) s m args below meth c H locs 0 0 (MQ below (va_Qi (fun (r : Int32) (u : Mem) => (r, u) = X ∧ CInv nr nx wy T u) (fun u t => wPost D vwCl w0 s.heap.size ((fun u => GW ad cs nr nx u) u) t) (va_A w0 s.heap.size)) args s 0 0 (va_A w0 s.heap.size)) (F0 m 0 ls []) := by
  have hinX4 := in_X4_run_X4
  unfold f_X4_run at hf
  refine lv_aload_n S.1 S.2.1 dX4_run_0 rfl (lv_at hl 0 rfl) ?_
  refine lv_iload_n S.1 S.2.1 dX4_run_1 rfl (lv_at hl 1 rfl) ?_
  refine r_callVq S hK hA hG (k_X4_actAt l _ _ _ _ _ _ _ hc) (cwV 1 S.2.2.2.2 gX4_run_X4_actAt rfl rfl rfl (by decide +kernel) ⟨Nat.le_of_ble_eq_true rfl, Nat.le_of_ble_eq_true rfl⟩) (va_recv hK hG.1 (ci := 4) (q0 := 0) rfl rfl) rfl hl.1 rfl (Nat.le_of_ble_eq_true rfl) dX4_run_2 ⟨Nat.le_of_ble_eq_true rfl, Nat.le_of_ble_eq_true rfl⟩ (fun r2 _ H locs hw hG => ?_)
  obtain rfl := hw
  refine C_opt (fun ho_2 => ?_) (fun i_2 ho_2 => ?_)
  · have hf := opt_n ho_2 hf
    refine lv_ifnonnullN S.1 S.2.1 dX4_run_5 ?_
    refine lv_bipush (v := (-2)) S.1 S.2.1 dX4_run_8 (by decide) ?_
    exact r_iret S hr hlocks hG _ rfl ⟨hf, hc⟩ rfl dX4_run_10
  · have hf := opt_s ho_2 hf
    have hi_2 : i_2 < nx := xa_lt ho_2 hc
    refine lv_ifnonnull (tgt := 11) S.1 S.2.1 dX4_run_5 (by decide) ?_
    refine lv_aload_n S.1 S.2.1 dX4_run_11 rfl (lv_at hl 0 rfl) ?_
    refine r_get S hK hG hinX4 0 rfl rfl 12 (by decide) (by decide +kernel) rfl dX4_run_12 ?_
    refine lv_sipush (v := 20000) S.1 S.2.1 dX4_run_15 (by decide) ?_
    refine lv_icmp_lt (tgt := 24) S.1 S.2.1 dX4_run_18 (by decide) (fun c_18 => ?_) (fun c_18 => ?_)
    · have hf := ite_p c_18 hf
      refine lv_aload_n S.1 S.2.1 dX4_run_24 rfl (lv_at hl 0 rfl) ?_
      refine r_callVv S hK hA hG (k_X4_startWork l _ _ _ _ _ _ hc) (cwV 0 S.2.2.2.2 gX4_run_X4_startWork rfl rfl rfl (by decide +kernel) ⟨Nat.le_of_ble_eq_true rfl, Nat.le_of_ble_eq_true rfl⟩) (va_recv hK hG.1 (ci := 4) (q0 := 0) rfl rfl) rfl hl.1 rfl (Nat.le_of_ble_eq_true rfl) dX4_run_25 ⟨Nat.le_of_ble_eq_true rfl, Nat.le_of_ble_eq_true rfl⟩ (fun σ1 H locs hw hG => ?_)
      obtain ⟨e_σ1, hc⟩ := hw
      have hf := bnd_p e_σ1 hf
      refine lv_aload_n S.1 S.2.1 dX4_run_28 rfl (lv_at hl 0 rfl) ?_
      refine lv_iload_n S.1 S.2.1 dX4_run_29 rfl (lv_at hl 1 rfl) ?_
      refine lv_iconst (v := 0) S.1 S.2.1 dX4_run_30 (by decide) ?_
      refine r_callVi S hK hA hG (k_X4_does l _ _ _ _ _ 41 _ _ _ _ _ hc dOK_0) (cwV 2 S.2.2.2.2 gX4_run_X4_does rfl rfl rfl (by decide +kernel) ⟨Nat.le_of_ble_eq_true rfl, Nat.le_of_ble_eq_true rfl⟩) (va_recv hK hG.1 (ci := 4) (q0 := 0) rfl rfl) rfl hl.1 rfl (Nat.le_of_ble_eq_true rfl) dX4_run_31 ⟨Nat.le_of_ble_eq_true rfl, Nat.le_of_ble_eq_true rfl⟩ (fun r3 σ2 H locs hw hG => ?_)
      obtain ⟨e_σ2, hc⟩ := hw
      have hf := bnd2_p e_σ2 hf
      refine lv_istore_n (lv' := [(2, .int r3), (0, .ref (ad 0)), (1, .int x1)]) S.1 S.2.1 dX4_run_34 rfl hl (by decide) rfl (fun ls hl => ?_)
      refine lv_aload_n S.1 S.2.1 dX4_run_35 rfl (lv_at hl 1 rfl) ?_
      refine lv_aload_n S.1 S.2.1 dX4_run_36 rfl (lv_at hl 1 rfl) ?_
      refine r_get S hK hG hinX4 0 rfl rfl 10 (by decide) (by decide +kernel) rfl dX4_run_37 ?_
      refine C_put S hK hG hinX4 tyX4 tyX4_ok nmX4 0 rfl rfl 11 (by decide) (by decide +kernel) rfl rfl rfl (Nat.le_of_ble_eq_true rfl) (GWp_0_11 _ _ _ _ _ _) dX4_run_40 (fun σ4 H locs e_σ4 hG => ?_)
      have hf := bnd_p e_σ4 hf
      have hc := ci_p0 (k := 11) (by decide) e_σ4 hc
      refine lv_aload_n S.1 S.2.1 dX4_run_43 rfl (lv_at hl 1 rfl) ?_
      refine lv_aload_n S.1 S.2.1 dX4_run_44 rfl (lv_at hl 1 rfl) ?_
      refine r_get S hK hG hinX4 0 rfl rfl 13 (by decide) (by decide +kernel) rfl dX4_run_45 ?_
      refine lv_if_ne (tgt := 55) S.1 S.2.1 dX4_run_48 (by decide) (fun c_48 => ?_) (fun c_48 => ?_)
      · have hf := ite_n c_48 hf
        refine lv_iconst (v := 0) S.1 S.2.1 dX4_run_55 (by decide) ?_
        refine C_put S hK hG hinX4 tyX4 tyX4_ok nmX4 0 rfl rfl 14 (by decide) (by decide +kernel) rfl rfl rfl (Nat.le_of_ble_eq_true rfl) (GWp_0_14 _ _ _ _ _ _) dX4_run_56 (fun σ5 H locs e_σ5 hG => ?_)
        have hf := bnd_p e_σ5 hf
        have hc := ci_p0 (k := 14) (by decide) e_σ5 hc
        refine lv_aload_n S.1 S.2.1 dX4_run_59 rfl (lv_at hl 1 rfl) ?_
        refine r_get (v := .int (σ4 0 13)) S hK hG hinX4 0 rfl rfl 13 (by decide) (by decide +kernel) (by rw [e_σ5]; rfl) dX4_run_60 ?_
        refine lv_if_ne (tgt := 70) S.1 S.2.1 dX4_run_63 (by decide) (fun c_63 => ?_) (fun c_63 => ?_)
        · have hf := ite_n c_63 hf
          refine lv_bipush (v := (-10)) S.1 S.2.1 dX4_run_70 (by decide) ?_
          refine lv_aload_n S.1 S.2.1 dX4_run_72 rfl (lv_at hl 1 rfl) ?_
          refine r_get (v := .int (σ4 0 13)) S hK hG hinX4 0 rfl rfl 13 (by decide) (by decide +kernel) (by rw [e_σ5]; rfl) dX4_run_73 ?_
          refine lv_isub S.1 S.2.1 dX4_run_76 ?_
          exact r_iret S hr hlocks hG _ rfl ⟨hf, hc⟩ rfl dX4_run_77
        · have hf := ite_p c_63 hf
          refine lv_iconst (v := 1) S.1 S.2.1 dX4_run_66 (by decide) ?_
          refine lv_goto (tgt := 77) S.1 S.2.1 dX4_run_67 (by decide) ?_
          exact r_iret S hr hlocks hG _ rfl ⟨hf, hc⟩ rfl dX4_run_77
      · have hf := ite_p c_48 hf
        refine lv_iload_n S.1 S.2.1 dX4_run_51 rfl (lv_at hl 0 rfl) ?_
        refine lv_goto (tgt := 56) S.1 S.2.1 dX4_run_52 (by decide) ?_
        refine C_put S hK hG hinX4 tyX4 tyX4_ok nmX4 0 rfl rfl 14 (by decide) (by decide +kernel) rfl rfl rfl (Nat.le_of_ble_eq_true rfl) (GWp_0_14 _ _ _ _ _ _) dX4_run_56 (fun σ6 H locs e_σ6 hG => ?_)
        have hf := bnd_p e_σ6 hf
        have hc := ci_p0 (k := 14) (by decide) e_σ6 hc
        refine lv_aload_n S.1 S.2.1 dX4_run_59 rfl (lv_at hl 1 rfl) ?_
        refine r_get (v := .int (σ4 0 13)) S hK hG hinX4 0 rfl rfl 13 (by decide) (by decide +kernel) (by rw [e_σ6]; rfl) dX4_run_60 ?_
        refine lv_if_ne (tgt := 70) S.1 S.2.1 dX4_run_63 (by decide) (fun c_63 => ?_) (fun c_63 => ?_)
        · have hf := ite_n c_63 hf
          refine lv_bipush (v := (-10)) S.1 S.2.1 dX4_run_70 (by decide) ?_
          refine lv_aload_n S.1 S.2.1 dX4_run_72 rfl (lv_at hl 1 rfl) ?_
          refine r_get (v := .int (σ4 0 13)) S hK hG hinX4 0 rfl rfl 13 (by decide) (by decide +kernel) (by rw [e_σ6]; rfl) dX4_run_73 ?_
          refine lv_isub S.1 S.2.1 dX4_run_76 ?_
          exact r_iret S hr hlocks hG _ rfl ⟨hf, hc⟩ rfl dX4_run_77
        · have hf := ite_p c_63 hf
          refine lv_iconst (v := 1) S.1 S.2.1 dX4_run_66 (by decide) ?_
          refine lv_goto (tgt := 77) S.1 S.2.1 dX4_run_67 (by decide) ?_
          exact r_iret S hr hlocks hG _ rfl ⟨hf, hc⟩ rfl dX4_run_77
    · have hf := ite_n c_18 hf
      refine lv_bipush (v := (-4)) S.1 S.2.1 dX4_run_21 (by decide) ?_
      exact r_iret S hr hlocks hG _ rfl ⟨hf, hc⟩ rfl dX4_run_23
theorem k_X4_run (l : Launch) (D : va_G) (cs : Nat → ClassId) (ad : Nat → Nat) (nr nx : Nat) (σ : Mem) (x1 : Int32) {wy : Int32} {T : Mem} (hc : CInv nr nx wy T σ) : CMi l yX4_run wsX4_run ({ frames := 175, cells := 0, slots := 0, locals := 4783 } : Room) D vwCl (gT cs) (GW ad cs nr nx σ) [.ref (ad 0), .int x1] (fun (r : Int32) (u : Mem) => (r, u) = (f_X4_run σ x1) ∧ CInv nr nx wy T u) (fun u => GW ad cs nr nx u) :=
  r_met (by decide) rfl (Nat.le_of_ble_eq_true rfl) (fun p e s m args below meth c ls S hr hlocks _ hK hA hG hl => b_X4_run_0 S hr hlocks hK hA σ x1 hc rfl _ _ hG ls hl)
theorem in_X4_doOneThatWaited_X4 : ∀ w ∈ wsX40, w ∈ wsX4_doOneThatWaited := by decide +kernel
def f_X4_doOneThatWaited (σ : Mem) (x1 : Int32) : Mem :=
  bnd (f_X4_startWork σ) fun σ1 =>
  bnd2 (f_X4_does 41 σ1 x1 0) fun r3 σ2 =>
  (if (σ2 0 13) = 0 then
  σ2
  else
  bnd (f_X1_keep σ2 x1 (σ2 0 13) (σ2 0 9)) fun σ4 =>
  σ4)
set_option maxRecDepth 100000 in
set_option maxHeartbeats 4000000 in
theorem b_X4_doOneThatWaited_0 {p : Program} {l : Launch} {e : Env} {s : State} {m : MethodId} {args : Array Value} {below : List Frame} {meth : Method} {c : Code} {D : va_G} {cs : Nat → ClassId} {ad : Nat → Nat} {nr nx : Nat} {wy : Int32} {T : Mem} {w0 : va_W} {X : Mem} (S : CallFix p m c cX4_doOneThatWaited 2 s args wsX4_doOneThatWaited RX4) (hr : meth.sig.returnType = none) (hlocks : meth.locks = false) (hK : va_K D vwCl (gT cs) s) (hA : ∀ q, s.heap.size ≤ q → va_A w0 s.heap.size q) (σ : Mem) (x1 : Int32) (hc : CInv nr nx wy T σ) (hf : f_X4_doOneThatWaited σ x1 = X) (H : Heap) (locs : List Loc) (hG : wI D vwCl (va_A w0 s.heap.size) s.heap H locs (GW ad cs nr nx σ)) (ls : Array Slot) (hl : lv_has ls 2 [(0, .ref (ad 0)), (1, .int x1)]) : W p l e ({ frames := 175, cells := 0, slots := 0, locals := 4783 } : Room) s m args below meth c H locs 0 0 (MQ below (va_Qv (fun (u : Mem) => u = X ∧ CInv nr nx wy T u) (fun u t => wPost D vwCl w0 s.heap.size ((fun u => GW ad cs nr nx u) u) t) (va_A w0 s.heap.size)) args s 0 0 (va_A w0 s.heap.size)) (F0 m 0 ls []) := by
  have hinX4 := in_X4_doOneThatWaited_X4
  unfold f_X4_doOneThatWaited at hf
  refine lv_aload_n S.1 S.2.1 dX4_doOneThatWaited_0 rfl (lv_at hl 0 rfl) ?_
  refine r_callVv S hK hA hG (k_X4_startWork l _ _ _ _ _ _ hc) (cwV 0 S.2.2.2.2 gX4_doOneThatWaited_X4_startWork rfl rfl rfl (by decide +kernel) ⟨Nat.le_of_ble_eq_true rfl, Nat.le_of_ble_eq_true rfl⟩) (va_recv hK hG.1 (ci := 4) (q0 := 0) rfl rfl) rfl hl.1 rfl (Nat.le_of_ble_eq_true rfl) dX4_doOneThatWaited_1 ⟨Nat.le_of_ble_eq_true rfl, Nat.le_of_ble_eq_true rfl⟩ (fun σ1 H locs hw hG => ?_)
  obtain ⟨e_σ1, hc⟩ := hw
  have hf := bnd_p e_σ1 hf
  refine lv_aload_n S.1 S.2.1 dX4_doOneThatWaited_4 rfl (lv_at hl 0 rfl) ?_
  refine lv_iload_n S.1 S.2.1 dX4_doOneThatWaited_5 rfl (lv_at hl 1 rfl) ?_
  refine lv_iconst (v := 0) S.1 S.2.1 dX4_doOneThatWaited_6 (by decide) ?_
  refine r_callVi S hK hA hG (k_X4_does l _ _ _ _ _ 41 _ _ _ _ _ hc dOK_0) (cwV 2 S.2.2.2.2 gX4_doOneThatWaited_X4_does rfl rfl rfl (by decide +kernel) ⟨Nat.le_of_ble_eq_true rfl, Nat.le_of_ble_eq_true rfl⟩) (va_recv hK hG.1 (ci := 4) (q0 := 0) rfl rfl) rfl hl.1 rfl (Nat.le_of_ble_eq_true rfl) dX4_doOneThatWaited_7 ⟨Nat.le_of_ble_eq_true rfl, Nat.le_of_ble_eq_true rfl⟩ (fun r3 σ2 H locs hw hG => ?_)
  obtain ⟨e_σ2, hc⟩ := hw
  have hf := bnd2_p e_σ2 hf
  refine lv_pop S.1 S.2.1 dX4_doOneThatWaited_10 rfl ?_
  refine lv_aload_n S.1 S.2.1 dX4_doOneThatWaited_11 rfl (lv_at hl 0 rfl) ?_
  refine r_get S hK hG hinX4 0 rfl rfl 13 (by decide) (by decide +kernel) rfl dX4_doOneThatWaited_12 ?_
  refine lv_if_eq (tgt := 34) S.1 S.2.1 dX4_doOneThatWaited_15 (by decide) (fun c_15 => ?_) (fun c_15 => ?_)
  · have hf := ite_p c_15 hf
    exact r_vret S hr hlocks hG _ rfl ⟨hf, hc⟩ dX4_doOneThatWaited_34
  · have hf := ite_n c_15 hf
    refine lv_aload_n S.1 S.2.1 dX4_doOneThatWaited_18 rfl (lv_at hl 0 rfl) ?_
    refine r_get S hK hG hinX4 0 rfl rfl 6 (by decide) (by decide +kernel) rfl dX4_doOneThatWaited_19 ?_
    refine lv_iload_n S.1 S.2.1 dX4_doOneThatWaited_22 rfl (lv_at hl 1 rfl) ?_
    refine lv_aload_n S.1 S.2.1 dX4_doOneThatWaited_23 rfl (lv_at hl 0 rfl) ?_
    refine r_get (v := .int (σ2 0 13)) S hK hG hinX4 0 rfl rfl 13 (by decide) (by decide +kernel) rfl dX4_doOneThatWaited_24 ?_
    refine lv_aload_n S.1 S.2.1 dX4_doOneThatWaited_27 rfl (lv_at hl 0 rfl) ?_
    refine r_get S hK hG hinX4 0 rfl rfl 9 (by decide) (by decide +kernel) rfl dX4_doOneThatWaited_28 ?_
    refine r_callVv S hK hA hG (k_X1_keep l _ _ _ _ _ _ _ _ _ hc) (cwV 3 S.2.2.2.2 gX4_doOneThatWaited_X1_keep rfl rfl rfl (by decide +kernel) ⟨Nat.le_of_ble_eq_true rfl, Nat.le_of_ble_eq_true rfl⟩) (va_recv hK hG.1 (ci := 1) (q0 := 7) rfl rfl) rfl hl.1 rfl (Nat.le_of_ble_eq_true rfl) dX4_doOneThatWaited_31 ⟨Nat.le_of_ble_eq_true rfl, Nat.le_of_ble_eq_true rfl⟩ (fun σ4 H locs hw hG => ?_)
    obtain ⟨e_σ4, hc⟩ := hw
    have hf := bnd_p e_σ4 hf
    exact r_vret S hr hlocks hG _ rfl ⟨hf, hc⟩ dX4_doOneThatWaited_34
theorem k_X4_doOneThatWaited (l : Launch) (D : va_G) (cs : Nat → ClassId) (ad : Nat → Nat) (nr nx : Nat) (σ : Mem) (x1 : Int32) {wy : Int32} {T : Mem} (hc : CInv nr nx wy T σ) : CMv l yX4_doOneThatWaited wsX4_doOneThatWaited ({ frames := 175, cells := 0, slots := 0, locals := 4783 } : Room) D vwCl (gT cs) (GW ad cs nr nx σ) [.ref (ad 0), .int x1] (fun (u : Mem) => u = (f_X4_doOneThatWaited σ x1) ∧ CInv nr nx wy T u) (fun u => GW ad cs nr nx u) :=
  r_met (by decide) rfl (Nat.le_of_ble_eq_true rfl) (fun p e s m args below meth c ls S hr hlocks _ hK hA hG hl => b_X4_doOneThatWaited_0 S hr hlocks hK hA σ x1 hc rfl _ _ hG ls hl)
theorem in_X4_doThoseDue_X4 : ∀ w ∈ wsX40, w ∈ wsX4_doThoseDue := by decide +kernel
def f_X4_doThoseDue_2 : Nat → Mem → Int32 → Int32 × Mem
  | 0, σ, _ => (0, σ)
  | n + 1, σ, j =>
  (if 100 ≤ j then
  (j, σ)
  else
  (if 20000 ≤ (σ 0 12) then
  (j, σ)
  else
  bnd2 (f_X3_takeFirstFor σ (σ 0 9)) fun r2 σ1 =>
  (if r2 = (-1) then
  (j, σ1)
  else
  bnd (f_X4_doOneThatWaited σ1 r2) fun σ3 =>
  bnd (j + 1) fun v4 =>
  f_X4_doThoseDue_2 n σ3 v4)))
set_option maxRecDepth 100000 in
set_option maxHeartbeats 4000000 in
theorem b_X4_doThoseDue_2 {p : Program} {l : Launch} {e : Env} {s : State} {m : MethodId} {args : Array Value} {below : List Frame} {meth : Method} {c : Code} {D : va_G} {cs : Nat → ClassId} {ad : Nat → Nat} {nr nx : Nat} {wy : Int32} {T : Mem} {w0 : va_W} {X : Int32 × Mem} (S : CallFix p m c cX4_doThoseDue 3 s args wsX4_doThoseDue RX4) (hr : meth.sig.returnType = (some .int)) (hlocks : meth.locks = false) (hK : va_K D vwCl (gT cs) s) (hA : ∀ q, s.heap.size ≤ q → va_A w0 s.heap.size q) : ∀ (n : Nat) (σ : Mem) (j : Int32) (hc : CInv nr nx wy T σ) (hj : lpW 100 n j), f_X4_doThoseDue_2 n σ j = X → ∀ (H : Heap) (locs : List Loc), wI D vwCl (va_A w0 s.heap.size) s.heap H locs (GW ad cs nr nx σ) → ∀ (ls : Array Slot), lv_has ls 3 [(0, .ref (ad 0)), (1, .int j)] → W p l e ({ frames := 176, cells := 0, slots := 0, locals := 4804 } : Room) s m args below meth c H locs 0 0 (MQ below (va_Qi (fun (r : Int32) (u : Mem) => (r, u) = X ∧ CInv nr nx wy T u) (fun u t => wPost D vwCl w0 s.heap.size ((fun u => GW ad cs nr nx u) u) t) (va_A w0 s.heap.size)) args s 0 0 (va_A w0 s.heap.size)) (F0 m 2 ls []) := by
  have hinX4 := in_X4_doThoseDue_X4
  intro n
  induction n with
  | zero =>
    intro σ j hc hj
    exact (by obtain ⟨q, -, h1, h2⟩ := hj; omega)
  | succ n ih =>
    intro σ j hc hj hf H locs hG ls hl
    unfold f_X4_doThoseDue_2 at hf
    refine lv_iload_n S.1 S.2.1 dX4_doThoseDue_2 rfl (lv_at hl 1 rfl) ?_
    refine lv_bipush (v := 100) S.1 S.2.1 dX4_doThoseDue_3 (by decide) ?_
    refine lv_icmp_ge (tgt := 49) S.1 S.2.1 dX4_doThoseDue_5 (by decide) (fun c_5 => ?_) (fun c_5 => ?_)
    · have hf := ite_p c_5 hf
      refine lv_iload_n S.1 S.2.1 dX4_doThoseDue_49 rfl (lv_at hl 1 rfl) ?_
      exact r_iret S hr hlocks hG _ rfl ⟨hf, hc⟩ rfl dX4_doThoseDue_50
    · have hf := ite_n c_5 hf
      refine lv_aload_n S.1 S.2.1 dX4_doThoseDue_8 rfl (lv_at hl 0 rfl) ?_
      refine r_get S hK hG hinX4 0 rfl rfl 12 (by decide) (by decide +kernel) rfl dX4_doThoseDue_9 ?_
      refine lv_sipush (v := 20000) S.1 S.2.1 dX4_doThoseDue_12 (by decide) ?_
      refine lv_icmp_ge (tgt := 49) S.1 S.2.1 dX4_doThoseDue_15 (by decide) (fun c_15 => ?_) (fun c_15 => ?_)
      · have hf := ite_p c_15 hf
        refine lv_iload_n S.1 S.2.1 dX4_doThoseDue_49 rfl (lv_at hl 1 rfl) ?_
        exact r_iret S hr hlocks hG _ rfl ⟨hf, hc⟩ rfl dX4_doThoseDue_50
      · have hf := ite_n c_15 hf
        refine lv_aload_n S.1 S.2.1 dX4_doThoseDue_18 rfl (lv_at hl 0 rfl) ?_
        refine r_get S hK hG hinX4 0 rfl rfl 5 (by decide) (by decide +kernel) rfl dX4_doThoseDue_19 ?_
        refine lv_aload_n S.1 S.2.1 dX4_doThoseDue_22 rfl (lv_at hl 0 rfl) ?_
        refine r_get S hK hG hinX4 0 rfl rfl 9 (by decide) (by decide +kernel) rfl dX4_doThoseDue_23 ?_
        refine r_callVi S hK hA hG (k_X3_takeFirstFor l _ _ _ _ _ _ _ hc) (cwV 1 S.2.2.2.2 gX4_doThoseDue_X3_takeFirstFor rfl rfl rfl (by decide +kernel) ⟨Nat.le_of_ble_eq_true rfl, Nat.le_of_ble_eq_true rfl⟩) (va_recv hK hG.1 (ci := 3) (q0 := 6) rfl rfl) rfl hl.1 rfl (Nat.le_of_ble_eq_true rfl) dX4_doThoseDue_26 ⟨Nat.le_of_ble_eq_true rfl, Nat.le_of_ble_eq_true rfl⟩ (fun r2 σ1 H locs hw hG => ?_)
        obtain ⟨e_σ1, hc⟩ := hw
        have hf := bnd2_p e_σ1 hf
        refine lv_istore_n (lv' := [(2, .int r2), (0, .ref (ad 0)), (1, .int j)]) S.1 S.2.1 dX4_doThoseDue_29 rfl hl (by decide) rfl (fun ls hl => ?_)
        refine lv_iload_n S.1 S.2.1 dX4_doThoseDue_30 rfl (lv_at hl 0 rfl) ?_
        refine lv_iconst (v := (-1)) S.1 S.2.1 dX4_doThoseDue_31 (by decide) ?_
        refine lv_icmp_ne (tgt := 38) S.1 S.2.1 dX4_doThoseDue_32 (by decide) (fun c_32 => ?_) (fun c_32 => ?_)
        · have hf := ite_n c_32 hf
          refine lv_aload_n S.1 S.2.1 dX4_doThoseDue_38 rfl (lv_at hl 1 rfl) ?_
          refine lv_iload_n S.1 S.2.1 dX4_doThoseDue_39 rfl (lv_at hl 0 rfl) ?_
          refine r_callVv S hK hA hG (k_X4_doOneThatWaited l _ _ _ _ _ _ _ hc) (cwV 1 S.2.2.2.2 gX4_doThoseDue_X4_doOneThatWaited rfl rfl rfl (by decide +kernel) ⟨Nat.le_of_ble_eq_true rfl, Nat.le_of_ble_eq_true rfl⟩) (va_recv hK hG.1 (ci := 4) (q0 := 0) rfl rfl) rfl hl.1 rfl (Nat.le_of_ble_eq_true rfl) dX4_doThoseDue_40 ⟨Nat.le_of_ble_eq_true rfl, Nat.le_of_ble_eq_true rfl⟩ (fun σ3 H locs hw hG => ?_)
          obtain ⟨e_σ3, hc⟩ := hw
          have hf := bnd_p e_σ3 hf
          obtain ⟨v4, e_v4⟩ : ∃ z : Int32, z = j + 1 := ⟨_, rfl⟩
          have hf := bnd_p e_v4 hf
          refine lv_iinc (v := v4) (lv' := [(1, .int v4), (2, .int r2), (0, .ref (ad 0))]) S.1 S.2.1 dX4_doThoseDue_43 hl (k := 2) rfl (by rw [e_v4]; rfl) (by decide) rfl (fun ls hl => ?_)
          refine lv_goto (tgt := 2) S.1 S.2.1 dX4_doThoseDue_46 (by decide) ?_
          exact ih σ3 v4 (hc) (lpW_s hj (by decide) rfl c_5 e_v4) hf H locs hG ls (lv_sub hl [2, 0] rfl)
        · have hf := ite_p c_32 hf
          refine lv_goto (tgt := 49) S.1 S.2.1 dX4_doThoseDue_35 (by decide) ?_
          refine lv_iload_n S.1 S.2.1 dX4_doThoseDue_49 rfl (lv_at hl 2 rfl) ?_
          exact r_iret S hr hlocks hG _ rfl ⟨hf, hc⟩ rfl dX4_doThoseDue_50
def f_X4_doThoseDue (σ : Mem) : Int32 × Mem :=
  f_X4_doThoseDue_2 101 σ 0
set_option maxRecDepth 100000 in
set_option maxHeartbeats 4000000 in
theorem b_X4_doThoseDue_0 {p : Program} {l : Launch} {e : Env} {s : State} {m : MethodId} {args : Array Value} {below : List Frame} {meth : Method} {c : Code} {D : va_G} {cs : Nat → ClassId} {ad : Nat → Nat} {nr nx : Nat} {wy : Int32} {T : Mem} {w0 : va_W} {X : Int32 × Mem} (S : CallFix p m c cX4_doThoseDue 3 s args wsX4_doThoseDue RX4) (hr : meth.sig.returnType = (some .int)) (hlocks : meth.locks = false) (hK : va_K D vwCl (gT cs) s) (hA : ∀ q, s.heap.size ≤ q → va_A w0 s.heap.size q) (σ : Mem) (hc : CInv nr nx wy T σ) (hf : f_X4_doThoseDue σ = X) (H : Heap) (locs : List Loc) (hG : wI D vwCl (va_A w0 s.heap.size) s.heap H locs (GW ad cs nr nx σ)) (ls : Array Slot) (hl : lv_has ls 3 [(0, .ref (ad 0))]) : W p l e ({ frames := 176, cells := 0, slots := 0, locals := 4804 } : Room) s m args below meth c H locs 0 0 (MQ below (va_Qi (fun (r : Int32) (u : Mem) => (r, u) = X ∧ CInv nr nx wy T u) (fun u t => wPost D vwCl w0 s.heap.size ((fun u => GW ad cs nr nx u) u) t) (va_A w0 s.heap.size)) args s 0 0 (va_A w0 s.heap.size)) (F0 m 0 ls []) := by
  have hinX4 := in_X4_doThoseDue_X4
  unfold f_X4_doThoseDue at hf
  refine lv_iconst (v := 0) S.1 S.2.1 dX4_doThoseDue_0 (by decide) ?_
  refine lv_istore_n (lv' := [(1, .int 0), (0, .ref (ad 0))]) S.1 S.2.1 dX4_doThoseDue_1 rfl hl (by decide) rfl (fun ls hl => ?_)
  exact b_X4_doThoseDue_2 S hr hlocks hK hA 101 σ 0 (hc) (⟨0, rfl, by omega, by omega⟩) hf H locs hG ls (lv_sub hl [1, 0] rfl)
theorem k_X4_doThoseDue (l : Launch) (D : va_G) (cs : Nat → ClassId) (ad : Nat → Nat) (nr nx : Nat) (σ : Mem) {wy : Int32} {T : Mem} (hc : CInv nr nx wy T σ) : CMi l yX4_doThoseDue wsX4_doThoseDue ({ frames := 176, cells := 0, slots := 0, locals := 4804 } : Room) D vwCl (gT cs) (GW ad cs nr nx σ) [.ref (ad 0)] (fun (r : Int32) (u : Mem) => (r, u) = (f_X4_doThoseDue σ) ∧ CInv nr nx wy T u) (fun u => GW ad cs nr nx u) :=
  r_met (by decide) rfl (Nat.le_of_ble_eq_true rfl) (fun p e s m args below meth c ls S hr hlocks _ hK hA hG hl => b_X4_doThoseDue_0 S hr hlocks hK hA σ hc rfl _ _ hG ls hl)
theorem in_X4_tick_X4 : ∀ w ∈ wsX40, w ∈ wsX4_tick := by decide +kernel
def f_X4_tick_17 : Nat → Mem → Int32 → Int32 → Int32 → Int32 × Mem
  | 0, σ, _, _, _ => (0, σ)
  | n + 1, σ, x1, sum, j =>
  (if x1 ≤ j then
  (sum, σ)
  else
  bnd (mset σ 0 9 ((σ 0 9) + 1)) fun σ1 =>
  bnd2 (f_X4_doThoseDue σ1) fun r3 σ2 =>
  bnd (sum + r3) fun v4 =>
  bnd (j + 1) fun v5 =>
  f_X4_tick_17 n σ2 x1 v4 v5)
set_option maxRecDepth 100000 in
set_option maxHeartbeats 4000000 in
theorem b_X4_tick_17 {p : Program} {l : Launch} {e : Env} {s : State} {m : MethodId} {args : Array Value} {below : List Frame} {meth : Method} {c : Code} {D : va_G} {cs : Nat → ClassId} {ad : Nat → Nat} {nr nx : Nat} {wy : Int32} {T : Mem} {w0 : va_W} {X : Int32 × Mem} (S : CallFix p m c cX4_tick 4 s args wsX4_tick RX4) (hr : meth.sig.returnType = (some .int)) (hlocks : meth.locks = false) (hK : va_K D vwCl (gT cs) s) (hA : ∀ q, s.heap.size ≤ q → va_A w0 s.heap.size q) : ∀ (n : Nat) (σ : Mem) (x1 : Int32) (sum : Int32) (j : Int32) (hc : CInv nr nx wy T σ) (hx : x1 ≤ 50) (hj : lpW 50 n j), f_X4_tick_17 n σ x1 sum j = X → ∀ (H : Heap) (locs : List Loc), wI D vwCl (va_A w0 s.heap.size) s.heap H locs (GW ad cs nr nx σ) → ∀ (ls : Array Slot), lv_has ls 4 [(0, .ref (ad 0)), (1, .int x1), (2, .int sum), (3, .int j)] → W p l e ({ frames := 177, cells := 0, slots := 0, locals := 4826 } : Room) s m args below meth c H locs 0 0 (MQ below (va_Qi (fun (r : Int32) (u : Mem) => (r, u) = X ∧ CInv nr nx wy T u) (fun u t => wPost D vwCl w0 s.heap.size ((fun u => GW ad cs nr nx u) u) t) (va_A w0 s.heap.size)) args s 0 0 (va_A w0 s.heap.size)) (F0 m 17 ls []) := by
  have hinX4 := in_X4_tick_X4
  intro n
  induction n with
  | zero =>
    intro σ x1 sum j hc hx hj
    exact (by obtain ⟨q, -, h1, h2⟩ := hj; omega)
  | succ n ih =>
    intro σ x1 sum j hc hx hj hf H locs hG ls hl
    unfold f_X4_tick_17 at hf
    refine lv_iload_n S.1 S.2.1 dX4_tick_17 rfl (lv_at hl 3 rfl) ?_
    refine lv_iload_n S.1 S.2.1 dX4_tick_18 rfl (lv_at hl 1 rfl) ?_
    refine lv_icmp_ge (tgt := 45) S.1 S.2.1 dX4_tick_19 (by decide) (fun c_19 => ?_) (fun c_19 => ?_)
    · have hf := ite_p c_19 hf
      refine lv_iload_n S.1 S.2.1 dX4_tick_45 rfl (lv_at hl 2 rfl) ?_
      exact r_iret S hr hlocks hG _ rfl ⟨hf, hc⟩ rfl dX4_tick_46
    · have hf := ite_n c_19 hf
      refine lv_aload_n S.1 S.2.1 dX4_tick_22 rfl (lv_at hl 0 rfl) ?_
      refine lv_dup S.1 S.2.1 dX4_tick_23 rfl ?_
      refine r_get S hK hG hinX4 0 rfl rfl 9 (by decide) (by decide +kernel) rfl dX4_tick_24 ?_
      refine lv_iconst (v := 1) S.1 S.2.1 dX4_tick_27 (by decide) ?_
      refine lv_iadd S.1 S.2.1 dX4_tick_28 ?_
      refine C_put S hK hG hinX4 tyX4 tyX4_ok nmX4 0 rfl rfl 9 (by decide) (by decide +kernel) rfl rfl rfl (Nat.le_of_ble_eq_true rfl) (GWp_0_9 _ _ _ _ _ _) dX4_tick_29 (fun σ1 H locs e_σ1 hG => ?_)
      have hf := bnd_p e_σ1 hf
      have hc := ci_p0 (k := 9) (by decide) e_σ1 hc
      refine lv_iload_n S.1 S.2.1 dX4_tick_32 rfl (lv_at hl 2 rfl) ?_
      refine lv_aload_n S.1 S.2.1 dX4_tick_33 rfl (lv_at hl 0 rfl) ?_
      refine r_callVi S hK hA hG (k_X4_doThoseDue l _ _ _ _ _ _ hc) (cwV 0 S.2.2.2.2 gX4_tick_X4_doThoseDue rfl rfl rfl (by decide +kernel) ⟨Nat.le_of_ble_eq_true rfl, Nat.le_of_ble_eq_true rfl⟩) (va_recv hK hG.1 (ci := 4) (q0 := 0) rfl rfl) rfl hl.1 rfl (Nat.le_of_ble_eq_true rfl) dX4_tick_34 ⟨Nat.le_of_ble_eq_true rfl, Nat.le_of_ble_eq_true rfl⟩ (fun r3 σ2 H locs hw hG => ?_)
      obtain ⟨e_σ2, hc⟩ := hw
      have hf := bnd2_p e_σ2 hf
      refine lv_iadd S.1 S.2.1 dX4_tick_37 ?_
      refine lv_topi (fun v4 e_v4 => ?_)
      have hf := bnd_p e_v4 hf
      refine lv_istore_n (lv' := [(2, .int v4), (0, .ref (ad 0)), (1, .int x1), (3, .int j)]) S.1 S.2.1 dX4_tick_38 rfl hl (by decide) rfl (fun ls hl => ?_)
      obtain ⟨v5, e_v5⟩ : ∃ z : Int32, z = j + 1 := ⟨_, rfl⟩
      have hf := bnd_p e_v5 hf
      refine lv_iinc (v := v5) (lv' := [(3, .int v5), (2, .int v4), (0, .ref (ad 0)), (1, .int x1)]) S.1 S.2.1 dX4_tick_39 hl (k := 3) rfl (by rw [e_v5]; rfl) (by decide) rfl (fun ls hl => ?_)
      refine lv_goto (tgt := 17) S.1 S.2.1 dX4_tick_42 (by decide) ?_
      exact ih σ2 x1 v4 v5 (hc) (hx) (tk_s hj hx c_19 e_v5) hf H locs hG ls (lv_sub hl [2, 3, 1, 0] rfl)
def f_X4_tick (σ : Mem) (x1 : Int32) : Int32 × Mem :=
  (if (bI (f_X4_isWithin x1 1 50)) = 0 then
  ((-3), σ)
  else
  f_X4_tick_17 51 σ x1 0 0)
set_option maxRecDepth 100000 in
set_option maxHeartbeats 4000000 in
theorem b_X4_tick_0 {p : Program} {l : Launch} {e : Env} {s : State} {m : MethodId} {args : Array Value} {below : List Frame} {meth : Method} {c : Code} {D : va_G} {cs : Nat → ClassId} {ad : Nat → Nat} {nr nx : Nat} {wy : Int32} {T : Mem} {w0 : va_W} {X : Int32 × Mem} (S : CallFix p m c cX4_tick 4 s args wsX4_tick RX4) (hr : meth.sig.returnType = (some .int)) (hlocks : meth.locks = false) (hK : va_K D vwCl (gT cs) s) (hA : ∀ q, s.heap.size ≤ q → va_A w0 s.heap.size q) (σ : Mem) (x1 : Int32) (hc : CInv nr nx wy T σ) (hf : f_X4_tick σ x1 = X) (H : Heap) (locs : List Loc) (hG : wI D vwCl (va_A w0 s.heap.size) s.heap H locs (GW ad cs nr nx σ)) (ls : Array Slot) (hl : lv_has ls 4 [(0, .ref (ad 0)), (1, .int x1)]) : W p l e ({ frames := 177, cells := 0, slots := 0, locals := 4826 } : Room) s m args below meth c H locs 0 0 (MQ below (va_Qi (fun (r : Int32) (u : Mem) => (r, u) = X ∧ CInv nr nx wy T u) (fun u t => wPost D vwCl w0 s.heap.size ((fun u => GW ad cs nr nx u) u) t) (va_A w0 s.heap.size)) args s 0 0 (va_A w0 s.heap.size)) (F0 m 0 ls []) := by
  have hinX4 := in_X4_tick_X4
  unfold f_X4_tick at hf
  refine lv_iload_n S.1 S.2.1 dX4_tick_0 rfl (lv_at hl 1 rfl) ?_
  refine lv_iconst (v := 1) S.1 S.2.1 dX4_tick_1 (by decide) ?_
  refine lv_bipush (v := 50) S.1 S.2.1 dX4_tick_2 (by decide) ?_
  refine r_callSi S hK hA hG (k_X4_isWithin l _ _ _ _ _ _ _) (cwS 3 S.2.2.2.2 gX4_tick_X4_isWithin rfl rfl rfl (by decide +kernel) ⟨Nat.le_of_ble_eq_true rfl, Nat.le_of_ble_eq_true rfl⟩) rfl hl.1 rfl (Nat.le_of_ble_eq_true rfl) dX4_tick_4 ⟨Nat.le_of_ble_eq_true rfl, Nat.le_of_ble_eq_true rfl⟩ (fun r4 _ H locs hw hG => ?_)
  obtain rfl := hw
  refine lv_if_ne (tgt := 13) S.1 S.2.1 dX4_tick_7 (by decide) (fun c_7 => ?_) (fun c_7 => ?_)
  · have hf := ite_n c_7 hf
    refine lv_iconst (v := 0) S.1 S.2.1 dX4_tick_13 (by decide) ?_
    refine lv_istore_n (lv' := [(2, .int 0), (0, .ref (ad 0)), (1, .int x1)]) S.1 S.2.1 dX4_tick_14 rfl hl (by decide) rfl (fun ls hl => ?_)
    refine lv_iconst (v := 0) S.1 S.2.1 dX4_tick_15 (by decide) ?_
    refine lv_istore_n (lv' := [(3, .int 0), (2, .int 0), (0, .ref (ad 0)), (1, .int x1)]) S.1 S.2.1 dX4_tick_16 rfl hl (by decide) rfl (fun ls hl => ?_)
    exact b_X4_tick_17 S hr hlocks hK hA 51 σ x1 0 0 (hc) ((cw_in c_7).2) (⟨0, rfl, by omega, by omega⟩) hf H locs hG ls (lv_sub hl [2, 3, 1, 0] rfl)
  · have hf := ite_p c_7 hf
    refine lv_bipush (v := (-3)) S.1 S.2.1 dX4_tick_10 (by decide) ?_
    exact r_iret S hr hlocks hG _ rfl ⟨hf, hc⟩ rfl dX4_tick_12
theorem k_X4_tick (l : Launch) (D : va_G) (cs : Nat → ClassId) (ad : Nat → Nat) (nr nx : Nat) (σ : Mem) (x1 : Int32) {wy : Int32} {T : Mem} (hc : CInv nr nx wy T σ) : CMi l yX4_tick wsX4_tick ({ frames := 177, cells := 0, slots := 0, locals := 4826 } : Room) D vwCl (gT cs) (GW ad cs nr nx σ) [.ref (ad 0), .int x1] (fun (r : Int32) (u : Mem) => (r, u) = (f_X4_tick σ x1) ∧ CInv nr nx wy T u) (fun u => GW ad cs nr nx u) :=
  r_met (by decide) rfl (Nat.le_of_ble_eq_true rfl) (fun p e s m args below meth c ls S hr hlocks _ hK hA hG hl => b_X4_tick_0 S hr hlocks hK hA σ x1 hc rfl _ _ hG ls hl)
