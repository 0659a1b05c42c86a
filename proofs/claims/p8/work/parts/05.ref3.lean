theorem in_X5_call : ∀ w ∈ wsX50, w ∈ wsX5_call := by decide +kernel
def f_X5_call (σ : Mem) (x1 : Int32) (x2 : Int32) : Mem :=
  (if (σ 0 26) = 300 then
  bnd (mset σ 0 33 1) fun σ7 =>
  bnd (mset σ7 0 35 5) fun σ8 =>
  σ8
  else
  bnd (mset σ 0 26 ((σ 0 26) + 1)) fun σ1 =>
  bnd (mset σ1 28 (σ1 0 25).toNatClampNeg x1) fun σ2 =>
  bnd (mset σ2 29 (σ1 0 25).toNatClampNeg x2) fun σ3 =>
  bnd (mset σ3 30 (σ1 0 25).toNatClampNeg 0) fun σ4 =>
  bnd (mset σ4 0 33 0) fun σ5 =>
  bnd (mset σ5 0 25 ((σ1 0 25) + 1)) fun σ6 =>
  σ6)
set_option maxRecDepth 100000 in
set_option maxHeartbeats 4000000 in
theorem b_X5_call_0 {p : Program} {l : Launch} {e : Env} {s : State} {m : MethodId} {args : Array Value} {below : List Frame} {meth : Method} {c : Code} {D : va_G} {cI : ClassId} {ad : Nat → Nat} {w0 : va_W} {X : Mem} (S : CallFix p m c cX5_call 3 s args wsX5_call RX5) (hr : meth.sig.returnType = none) (hlocks : meth.locks = false) (hK : va_K D vwCl [(cI, .int)] s) (hA : ∀ q, s.heap.size ≤ q → va_A w0 s.heap.size q) (σ : Mem) (x1 : Int32) (x2 : Int32) (ht : ¬ σ 0 26 = 300 → vp_in (σ 0 25) 300) (hf : f_X5_call σ x1 x2 = X) (H : Heap) (locs : List Loc) (hG : wI D vwCl (va_A w0 s.heap.size) s.heap H locs (RW ad cI σ)) (ls : Array Slot) (hl : lv_has ls 3 [(0, .ref (ad 0)), (1, .int x1), (2, .int x2)]) : W p l e ({ frames := 0, cells := 0, slots := 0, locals := 0 } : Room) s m args below meth c H locs 0 0 (MQ below (va_Qv (fun (u : Mem) => u = X) (fun u t => wPost D vwCl w0 s.heap.size ((fun u => RW ad cI u) u) t) (va_A w0 s.heap.size)) args s 0 0 (va_A w0 s.heap.size)) (F0 m 0 ls []) := by
  have hin := in_X5_call
  unfold f_X5_call at hf
  refine lv_aload_n S.1 S.2.1 dX5_call_0 rfl (lv_at hl 0 rfl) ?_
  refine M_get S hin hK hG 26 (by decide) (by decide +kernel) rfl dX5_call_1 ?_
  refine lv_sipush (v := 300) S.1 S.2.1 dX5_call_4 (by decide) ?_
  refine lv_icmp_ne (tgt := 21) S.1 S.2.1 dX5_call_7 (by decide) (fun c_7 => ?_) (fun c_7 => ?_)
  · have hf := ite_n c_7 hf
    refine lv_aload_n S.1 S.2.1 dX5_call_21 rfl (lv_at hl 0 rfl) ?_
    refine lv_dup S.1 S.2.1 dX5_call_22 rfl ?_
    refine M_get S hin hK hG 26 (by decide) (by decide +kernel) rfl dX5_call_23 ?_
    refine lv_iconst (v := 1) S.1 S.2.1 dX5_call_26 (by decide) ?_
    refine lv_iadd S.1 S.2.1 dX5_call_27 ?_
    refine M_put S hin hK hG 26 (by decide) (by decide +kernel) rfl rfl rfl (RWp_26 _ _ _ _) dX5_call_28 (fun σ1 H locs e_σ1 hG => ?_)
    have hf := bnd_p e_σ1 hf
    refine lv_aload_n S.1 S.2.1 dX5_call_31 rfl (lv_at hl 0 rfl) ?_
    refine M_get S hin hK hG 27 (by decide) (by decide +kernel) rfl dX5_call_32 ?_
    refine lv_aload_n S.1 S.2.1 dX5_call_35 rfl (lv_at hl 0 rfl) ?_
    refine M_get S hin hK hG 25 (by decide) (by decide +kernel) rfl dX5_call_36 ?_
    refine lv_iload_n S.1 S.2.1 dX5_call_39 rfl (lv_at hl 1 rfl) ?_
    refine M_ast S hK hG 28 17 300 rfl (by rw [e_σ1]; exact ht c_7) (RWs_28 _ _ _ _ _) dX5_call_40 (fun σ2 H locs e_σ2 hG => ?_)
    have hf := bnd_p e_σ2 hf
    refine lv_aload_n S.1 S.2.1 dX5_call_41 rfl (lv_at hl 0 rfl) ?_
    refine M_get S hin hK hG 28 (by decide) (by decide +kernel) rfl dX5_call_42 ?_
    refine lv_aload_n S.1 S.2.1 dX5_call_45 rfl (lv_at hl 0 rfl) ?_
    refine M_get S hin hK hG 25 (v := .int (σ1 0 25)) (by decide) (by decide +kernel) (by rw [e_σ2]; rfl) dX5_call_46 ?_
    refine lv_iload_n S.1 S.2.1 dX5_call_49 rfl (lv_at hl 2 rfl) ?_
    refine M_ast S hK hG 29 18 300 rfl (by rw [e_σ1]; exact ht c_7) (RWs_29 _ _ _ _ _) dX5_call_50 (fun σ3 H locs e_σ3 hG => ?_)
    have hf := bnd_p e_σ3 hf
    refine lv_aload_n S.1 S.2.1 dX5_call_51 rfl (lv_at hl 0 rfl) ?_
    refine M_get S hin hK hG 29 (by decide) (by decide +kernel) rfl dX5_call_52 ?_
    refine lv_aload_n S.1 S.2.1 dX5_call_55 rfl (lv_at hl 0 rfl) ?_
    refine M_get S hin hK hG 25 (v := .int (σ1 0 25)) (by decide) (by decide +kernel) (by rw [e_σ3, e_σ2]; rfl) dX5_call_56 ?_
    refine lv_iconst (v := 0) S.1 S.2.1 dX5_call_59 (by decide) ?_
    refine M_ast S hK hG 30 19 300 rfl (by rw [e_σ1]; exact ht c_7) (RWs_30 _ _ _ _ _) dX5_call_60 (fun σ4 H locs e_σ4 hG => ?_)
    have hf := bnd_p e_σ4 hf
    refine lv_aload_n S.1 S.2.1 dX5_call_61 rfl (lv_at hl 0 rfl) ?_
    refine lv_iconst (v := 0) S.1 S.2.1 dX5_call_62 (by decide) ?_
    refine M_put S hin hK hG 33 (by decide) (by decide +kernel) rfl rfl rfl (RWp_33 _ _ _ _) dX5_call_63 (fun σ5 H locs e_σ5 hG => ?_)
    have hf := bnd_p e_σ5 hf
    refine lv_aload_n S.1 S.2.1 dX5_call_66 rfl (lv_at hl 0 rfl) ?_
    refine lv_dup S.1 S.2.1 dX5_call_67 rfl ?_
    refine M_get S hin hK hG 25 (v := .int (σ1 0 25)) (by decide) (by decide +kernel) (by rw [e_σ5, e_σ4, e_σ3, e_σ2]; rfl) dX5_call_68 ?_
    refine lv_iconst (v := 1) S.1 S.2.1 dX5_call_71 (by decide) ?_
    refine lv_iadd S.1 S.2.1 dX5_call_72 ?_
    refine M_put S hin hK hG 25 (by decide) (by decide +kernel) rfl rfl rfl (RWp_25 _ _ _ _) dX5_call_73 (fun σ6 H locs e_σ6 hG => ?_)
    have hf := bnd_p e_σ6 hf
    exact r_vret S hr hlocks hG _ rfl hf dX5_call_76
  · have hf := ite_p c_7 hf
    refine lv_aload_n S.1 S.2.1 dX5_call_10 rfl (lv_at hl 0 rfl) ?_
    refine lv_iconst (v := 1) S.1 S.2.1 dX5_call_11 (by decide) ?_
    refine M_put S hin hK hG 33 (by decide) (by decide +kernel) rfl rfl rfl (RWp_33 _ _ _ _) dX5_call_12 (fun σ7 H locs e_σ7 hG => ?_)
    have hf := bnd_p e_σ7 hf
    refine lv_aload_n S.1 S.2.1 dX5_call_15 rfl (lv_at hl 0 rfl) ?_
    refine lv_iconst (v := 5) S.1 S.2.1 dX5_call_16 (by decide) ?_
    refine M_put S hin hK hG 35 (by decide) (by decide +kernel) rfl rfl rfl (RWp_35 _ _ _ _) dX5_call_17 (fun σ8 H locs e_σ8 hG => ?_)
    have hf := bnd_p e_σ8 hf
    exact r_vret S hr hlocks hG _ rfl hf dX5_call_20
theorem k_X5_call (l : Launch) (D : va_G) (cI : ClassId) (ad : Nat → Nat) (σ : Mem) (x1 : Int32) (x2 : Int32) (ht : ¬ σ 0 26 = 300 → vp_in (σ 0 25) 300) : CMv l yX5_call wsX5_call ({ frames := 0, cells := 0, slots := 0, locals := 0 } : Room) D vwCl [(cI, .int)] (RW ad cI σ) [.ref (ad 0), .int x1, .int x2] (fun (u : Mem) => u = (f_X5_call σ x1 x2)) (fun u => RW ad cI u) :=
  r_met (by decide) rfl (Nat.le_of_ble_eq_true rfl) (fun p e s m args below meth c ls S hr hlocks _ hK hA hG hl => b_X5_call_0 S hr hlocks hK hA σ x1 x2 ht rfl _ _ hG ls hl)
theorem in_X5_ends : ∀ w ∈ wsX50, w ∈ wsX5_ends := by decide +kernel
def f_X5_ends (σ : Mem) (x1 : Int32) : Mem :=
  bnd (mset σ 0 25 ((σ 0 25) - 1)) fun σ1 =>
  bnd (mset σ1 0 33 1) fun σ2 =>
  bnd (mset σ2 0 34 x1) fun σ3 =>
  bnd (mset σ3 0 35 0) fun σ4 =>
  σ4
set_option maxRecDepth 100000 in
set_option maxHeartbeats 4000000 in
theorem b_X5_ends_0 {p : Program} {l : Launch} {e : Env} {s : State} {m : MethodId} {args : Array Value} {below : List Frame} {meth : Method} {c : Code} {D : va_G} {cI : ClassId} {ad : Nat → Nat} {w0 : va_W} {X : Mem} (S : CallFix p m c cX5_ends 2 s args wsX5_ends RX5) (hr : meth.sig.returnType = none) (hlocks : meth.locks = false) (hK : va_K D vwCl [(cI, .int)] s) (hA : ∀ q, s.heap.size ≤ q → va_A w0 s.heap.size q) (σ : Mem) (x1 : Int32) (hf : f_X5_ends σ x1 = X) (H : Heap) (locs : List Loc) (hG : wI D vwCl (va_A w0 s.heap.size) s.heap H locs (RW ad cI σ)) (ls : Array Slot) (hl : lv_has ls 2 [(0, .ref (ad 0)), (1, .int x1)]) : W p l e ({ frames := 0, cells := 0, slots := 0, locals := 0 } : Room) s m args below meth c H locs 0 0 (MQ below (va_Qv (fun (u : Mem) => u = X) (fun u t => wPost D vwCl w0 s.heap.size ((fun u => RW ad cI u) u) t) (va_A w0 s.heap.size)) args s 0 0 (va_A w0 s.heap.size)) (F0 m 0 ls []) := by
  have hin := in_X5_ends
  unfold f_X5_ends at hf
  refine lv_aload_n S.1 S.2.1 dX5_ends_0 rfl (lv_at hl 0 rfl) ?_
  refine lv_dup S.1 S.2.1 dX5_ends_1 rfl ?_
  refine M_get S hin hK hG 25 (by decide) (by decide +kernel) rfl dX5_ends_2 ?_
  refine lv_iconst (v := 1) S.1 S.2.1 dX5_ends_5 (by decide) ?_
  refine lv_isub S.1 S.2.1 dX5_ends_6 ?_
  refine M_put S hin hK hG 25 (by decide) (by decide +kernel) rfl rfl rfl (RWp_25 _ _ _ _) dX5_ends_7 (fun σ1 H locs e_σ1 hG => ?_)
  have hf := bnd_p e_σ1 hf
  refine lv_aload_n S.1 S.2.1 dX5_ends_10 rfl (lv_at hl 0 rfl) ?_
  refine lv_iconst (v := 1) S.1 S.2.1 dX5_ends_11 (by decide) ?_
  refine M_put S hin hK hG 33 (by decide) (by decide +kernel) rfl rfl rfl (RWp_33 _ _ _ _) dX5_ends_12 (fun σ2 H locs e_σ2 hG => ?_)
  have hf := bnd_p e_σ2 hf
  refine lv_aload_n S.1 S.2.1 dX5_ends_15 rfl (lv_at hl 0 rfl) ?_
  refine lv_iload_n S.1 S.2.1 dX5_ends_16 rfl (lv_at hl 1 rfl) ?_
  refine M_put S hin hK hG 34 (by decide) (by decide +kernel) rfl rfl rfl (RWp_34 _ _ _ _) dX5_ends_17 (fun σ3 H locs e_σ3 hG => ?_)
  have hf := bnd_p e_σ3 hf
  refine lv_aload_n S.1 S.2.1 dX5_ends_20 rfl (lv_at hl 0 rfl) ?_
  refine lv_iconst (v := 0) S.1 S.2.1 dX5_ends_21 (by decide) ?_
  refine M_put S hin hK hG 35 (by decide) (by decide +kernel) rfl rfl rfl (RWp_35 _ _ _ _) dX5_ends_22 (fun σ4 H locs e_σ4 hG => ?_)
  have hf := bnd_p e_σ4 hf
  exact r_vret S hr hlocks hG _ rfl hf dX5_ends_25
theorem k_X5_ends (l : Launch) (D : va_G) (cI : ClassId) (ad : Nat → Nat) (σ : Mem) (x1 : Int32) : CMv l yX5_ends wsX5_ends ({ frames := 0, cells := 0, slots := 0, locals := 0 } : Room) D vwCl [(cI, .int)] (RW ad cI σ) [.ref (ad 0), .int x1] (fun (u : Mem) => u = (f_X5_ends σ x1)) (fun u => RW ad cI u) :=
  r_met (by decide) rfl (Nat.le_of_ble_eq_true rfl) (fun p e s m args below meth c ls S hr hlocks _ hK hA hG hl => b_X5_ends_0 S hr hlocks hK hA σ x1 rfl _ _ hG ls hl)
theorem in_X5_fails : ∀ w ∈ wsX50, w ∈ wsX5_fails := by decide +kernel
def f_X5_fails (σ : Mem) (x1 : Int32) : Mem :=
  bnd (mset σ 0 25 ((σ 0 25) - 1)) fun σ1 =>
  bnd (mset σ1 0 33 1) fun σ2 =>
  bnd (mset σ2 0 34 0) fun σ3 =>
  bnd (mset σ3 0 35 x1) fun σ4 =>
  σ4
set_option maxRecDepth 100000 in
set_option maxHeartbeats 4000000 in
theorem b_X5_fails_0 {p : Program} {l : Launch} {e : Env} {s : State} {m : MethodId} {args : Array Value} {below : List Frame} {meth : Method} {c : Code} {D : va_G} {cI : ClassId} {ad : Nat → Nat} {w0 : va_W} {X : Mem} (S : CallFix p m c cX5_fails 2 s args wsX5_fails RX5) (hr : meth.sig.returnType = none) (hlocks : meth.locks = false) (hK : va_K D vwCl [(cI, .int)] s) (hA : ∀ q, s.heap.size ≤ q → va_A w0 s.heap.size q) (σ : Mem) (x1 : Int32) (hf : f_X5_fails σ x1 = X) (H : Heap) (locs : List Loc) (hG : wI D vwCl (va_A w0 s.heap.size) s.heap H locs (RW ad cI σ)) (ls : Array Slot) (hl : lv_has ls 2 [(0, .ref (ad 0)), (1, .int x1)]) : W p l e ({ frames := 0, cells := 0, slots := 0, locals := 0 } : Room) s m args below meth c H locs 0 0 (MQ below (va_Qv (fun (u : Mem) => u = X) (fun u t => wPost D vwCl w0 s.heap.size ((fun u => RW ad cI u) u) t) (va_A w0 s.heap.size)) args s 0 0 (va_A w0 s.heap.size)) (F0 m 0 ls []) := by
  have hin := in_X5_fails
  unfold f_X5_fails at hf
  refine lv_aload_n S.1 S.2.1 dX5_fails_0 rfl (lv_at hl 0 rfl) ?_
  refine lv_dup S.1 S.2.1 dX5_fails_1 rfl ?_
  refine M_get S hin hK hG 25 (by decide) (by decide +kernel) rfl dX5_fails_2 ?_
  refine lv_iconst (v := 1) S.1 S.2.1 dX5_fails_5 (by decide) ?_
  refine lv_isub S.1 S.2.1 dX5_fails_6 ?_
  refine M_put S hin hK hG 25 (by decide) (by decide +kernel) rfl rfl rfl (RWp_25 _ _ _ _) dX5_fails_7 (fun σ1 H locs e_σ1 hG => ?_)
  have hf := bnd_p e_σ1 hf
  refine lv_aload_n S.1 S.2.1 dX5_fails_10 rfl (lv_at hl 0 rfl) ?_
  refine lv_iconst (v := 1) S.1 S.2.1 dX5_fails_11 (by decide) ?_
  refine M_put S hin hK hG 33 (by decide) (by decide +kernel) rfl rfl rfl (RWp_33 _ _ _ _) dX5_fails_12 (fun σ2 H locs e_σ2 hG => ?_)
  have hf := bnd_p e_σ2 hf
  refine lv_aload_n S.1 S.2.1 dX5_fails_15 rfl (lv_at hl 0 rfl) ?_
  refine lv_iconst (v := 0) S.1 S.2.1 dX5_fails_16 (by decide) ?_
  refine M_put S hin hK hG 34 (by decide) (by decide +kernel) rfl rfl rfl (RWp_34 _ _ _ _) dX5_fails_17 (fun σ3 H locs e_σ3 hG => ?_)
  have hf := bnd_p e_σ3 hf
  refine lv_aload_n S.1 S.2.1 dX5_fails_20 rfl (lv_at hl 0 rfl) ?_
  refine lv_iload_n S.1 S.2.1 dX5_fails_21 rfl (lv_at hl 1 rfl) ?_
  refine M_put S hin hK hG 35 (by decide) (by decide +kernel) rfl rfl rfl (RWp_35 _ _ _ _) dX5_fails_22 (fun σ4 H locs e_σ4 hG => ?_)
  have hf := bnd_p e_σ4 hf
  exact r_vret S hr hlocks hG _ rfl hf dX5_fails_25
theorem k_X5_fails (l : Launch) (D : va_G) (cI : ClassId) (ad : Nat → Nat) (σ : Mem) (x1 : Int32) : CMv l yX5_fails wsX5_fails ({ frames := 0, cells := 0, slots := 0, locals := 0 } : Room) D vwCl [(cI, .int)] (RW ad cI σ) [.ref (ad 0), .int x1] (fun (u : Mem) => u = (f_X5_fails σ x1)) (fun u => RW ad cI u) :=
  r_met (by decide) rfl (Nat.le_of_ble_eq_true rfl) (fun p e s m args below meth c ls S hr hlocks _ hK hA hG hl => b_X5_fails_0 S hr hlocks hK hA σ x1 rfl _ _ hG ls hl)
theorem in_X5_passes : ∀ w ∈ wsX50, w ∈ wsX5_passes := by decide +kernel
def f_X5_passes (σ : Mem) : Mem :=
  bnd (mset σ 0 25 ((σ 0 25) - 1)) fun σ1 =>
  σ1
set_option maxRecDepth 100000 in
set_option maxHeartbeats 4000000 in
theorem b_X5_passes_0 {p : Program} {l : Launch} {e : Env} {s : State} {m : MethodId} {args : Array Value} {below : List Frame} {meth : Method} {c : Code} {D : va_G} {cI : ClassId} {ad : Nat → Nat} {w0 : va_W} {X : Mem} (S : CallFix p m c cX5_passes 1 s args wsX5_passes RX5) (hr : meth.sig.returnType = none) (hlocks : meth.locks = false) (hK : va_K D vwCl [(cI, .int)] s) (hA : ∀ q, s.heap.size ≤ q → va_A w0 s.heap.size q) (σ : Mem) (hf : f_X5_passes σ = X) (H : Heap) (locs : List Loc) (hG : wI D vwCl (va_A w0 s.heap.size) s.heap H locs (RW ad cI σ)) (ls : Array Slot) (hl : lv_has ls 1 [(0, .ref (ad 0))]) : W p l e ({ frames := 0, cells := 0, slots := 0, locals := 0 } : Room) s m args below meth c H locs 0 0 (MQ below (va_Qv (fun (u : Mem) => u = X) (fun u t => wPost D vwCl w0 s.heap.size ((fun u => RW ad cI u) u) t) (va_A w0 s.heap.size)) args s 0 0 (va_A w0 s.heap.size)) (F0 m 0 ls []) := by
  have hin := in_X5_passes
  unfold f_X5_passes at hf
  refine lv_aload_n S.1 S.2.1 dX5_passes_0 rfl (lv_at hl 0 rfl) ?_
  refine lv_dup S.1 S.2.1 dX5_passes_1 rfl ?_
  refine M_get S hin hK hG 25 (by decide) (by decide +kernel) rfl dX5_passes_2 ?_
  refine lv_iconst (v := 1) S.1 S.2.1 dX5_passes_5 (by decide) ?_
  refine lv_isub S.1 S.2.1 dX5_passes_6 ?_
  refine M_put S hin hK hG 25 (by decide) (by decide +kernel) rfl rfl rfl (RWp_25 _ _ _ _) dX5_passes_7 (fun σ1 H locs e_σ1 hG => ?_)
  have hf := bnd_p e_σ1 hf
  exact r_vret S hr hlocks hG _ rfl hf dX5_passes_10
theorem k_X5_passes (l : Launch) (D : va_G) (cI : ClassId) (ad : Nat → Nat) (σ : Mem) : CMv l yX5_passes wsX5_passes ({ frames := 0, cells := 0, slots := 0, locals := 0 } : Room) D vwCl [(cI, .int)] (RW ad cI σ) [.ref (ad 0)] (fun (u : Mem) => u = (f_X5_passes σ)) (fun u => RW ad cI u) :=
  r_met (by decide) rfl (Nat.le_of_ble_eq_true rfl) (fun p e s m args below meth c ls S hr hlocks _ hK hA hG hl => b_X5_passes_0 S hr hlocks hK hA σ rfl _ _ hG ls hl)
theorem in_X5_goOn : ∀ w ∈ wsX50, w ∈ wsX5_goOn := by decide +kernel
def f_X5_goOn (σ : Mem) (x1 : Int32) (x2 : Int32) (x3 : Int32) : Mem :=
  bnd (mset σ 30 x1.toNatClampNeg ((σ 30 x1.toNatClampNeg) + 1)) fun σ1 =>
  bnd (f_X5_call σ1 x2 x3) fun σ2 =>
  σ2
set_option maxRecDepth 100000 in
set_option maxHeartbeats 4000000 in
theorem b_X5_goOn_0 {p : Program} {l : Launch} {e : Env} {s : State} {m : MethodId} {args : Array Value} {below : List Frame} {meth : Method} {c : Code} {D : va_G} {cI : ClassId} {ad : Nat → Nat} {w0 : va_W} {X : Mem} (S : CallFix p m c cX5_goOn 4 s args wsX5_goOn RX5) (hr : meth.sig.returnType = none) (hlocks : meth.locks = false) (hK : va_K D vwCl [(cI, .int)] s) (hA : ∀ q, s.heap.size ≤ q → va_A w0 s.heap.size q) (σ : Mem) (x1 : Int32) (x2 : Int32) (x3 : Int32) (hat : vp_in x1 300) (ht : ¬ σ 0 26 = 300 → vp_in (σ 0 25) 300) (hf : f_X5_goOn σ x1 x2 x3 = X) (H : Heap) (locs : List Loc) (hG : wI D vwCl (va_A w0 s.heap.size) s.heap H locs (RW ad cI σ)) (ls : Array Slot) (hl : lv_has ls 4 [(0, .ref (ad 0)), (1, .int x1), (2, .int x2), (3, .int x3)]) : W p l e ({ frames := 1, cells := 0, slots := 0, locals := 22 } : Room) s m args below meth c H locs 0 0 (MQ below (va_Qv (fun (u : Mem) => u = X) (fun u t => wPost D vwCl w0 s.heap.size ((fun u => RW ad cI u) u) t) (va_A w0 s.heap.size)) args s 0 0 (va_A w0 s.heap.size)) (F0 m 0 ls []) := by
  have hin := in_X5_goOn
  unfold f_X5_goOn at hf
  refine lv_aload_n S.1 S.2.1 dX5_goOn_0 rfl (lv_at hl 0 rfl) ?_
  refine M_get S hin hK hG 29 (by decide) (by decide +kernel) rfl dX5_goOn_1 ?_
  refine lv_iload_n S.1 S.2.1 dX5_goOn_4 rfl (lv_at hl 1 rfl) ?_
  refine lv_aload_n S.1 S.2.1 dX5_goOn_5 rfl (lv_at hl 0 rfl) ?_
  refine M_get S hin hK hG 29 (by decide) (by decide +kernel) rfl dX5_goOn_6 ?_
  refine lv_iload_n S.1 S.2.1 dX5_goOn_9 rfl (lv_at hl 1 rfl) ?_
  refine r_iald S hK hG 19 0 rfl rfl hat dX5_goOn_10 ?_
  refine lv_iconst (v := 1) S.1 S.2.1 dX5_goOn_11 (by decide) ?_
  refine lv_iadd S.1 S.2.1 dX5_goOn_12 ?_
  refine M_ast S hK hG 30 19 300 rfl hat (RWs_30 _ _ _ _ _) dX5_goOn_13 (fun σ1 H locs e_σ1 hG => ?_)
  have hf := bnd_p e_σ1 hf
  refine lv_aload_n S.1 S.2.1 dX5_goOn_14 rfl (lv_at hl 0 rfl) ?_
  refine lv_iload_n S.1 S.2.1 dX5_goOn_15 rfl (lv_at hl 2 rfl) ?_
  refine lv_iload_n S.1 S.2.1 dX5_goOn_16 rfl (lv_at hl 3 rfl) ?_
  refine r_callVv S hK hA hG (k_X5_call l _ _ _ _ _ _ (by rw [e_σ1]; exact ht)) (cwV 2 S.2.2.2.2 gX5_goOn_X5_call rfl rfl rfl (by decide +kernel) ⟨Nat.le_of_ble_eq_true rfl, Nat.le_of_ble_eq_true rfl⟩) (va_recv hK hG.1 (ci := 5) (q0 := 0) rfl rfl) rfl hl.1 rfl (Nat.le_of_ble_eq_true rfl) dX5_goOn_17 ⟨Nat.le_of_ble_eq_true rfl, Nat.le_of_ble_eq_true rfl⟩ (fun σ2 H locs e_σ2 hG => ?_)
  have hf := bnd_p e_σ2 hf
  exact r_vret S hr hlocks hG _ rfl hf dX5_goOn_20
theorem k_X5_goOn (l : Launch) (D : va_G) (cI : ClassId) (ad : Nat → Nat) (σ : Mem) (x1 : Int32) (x2 : Int32) (x3 : Int32) (hat : vp_in x1 300) (ht : ¬ σ 0 26 = 300 → vp_in (σ 0 25) 300) : CMv l yX5_goOn wsX5_goOn ({ frames := 1, cells := 0, slots := 0, locals := 22 } : Room) D vwCl [(cI, .int)] (RW ad cI σ) [.ref (ad 0), .int x1, .int x2, .int x3] (fun (u : Mem) => u = (f_X5_goOn σ x1 x2 x3)) (fun u => RW ad cI u) :=
  r_met (by decide) rfl (Nat.le_of_ble_eq_true rfl) (fun p e s m args below meth c ls S hr hlocks _ hK hA hG hl => b_X5_goOn_0 S hr hlocks hK hA σ x1 x2 x3 hat ht rfl _ _ hG ls hl)
theorem in_X5_says : ∀ w ∈ wsX50, w ∈ wsX5_says := by decide +kernel
def f_X5_says (σ : Mem) (x1 : Int32) (x2 : Int32) : Mem :=
  bnd (σ 7 x1.toNatClampNeg) fun v1 =>
  bnd (σ 1 x2.toNatClampNeg) fun v2 =>
  (if (σ 5 x1.toNatClampNeg) = 0 then
  (if v2 ≤ v1 then
  bnd (f_X5_ends σ 0) fun σ3 =>
  σ3
  else
  bnd (f_X5_ends σ 1) fun σ4 =>
  σ4)
  else
  (if (σ 5 x1.toNatClampNeg) = 1 then
  bnd (((v2).toInt64) - ((v1).toInt64)) fun v5 =>
  (if 0 ≤ (lg_cmp v5 0) then
  (if 0 < (lg_cmp v5 ((σ 8 x1.toNatClampNeg).toInt64)) then
  bnd (f_X5_ends σ 0) fun σ6 =>
  σ6
  else
  bnd (f_X5_ends σ 1) fun σ7 =>
  σ7)
  else
  (if 0 < (lg_cmp (-v5) ((σ 8 x1.toNatClampNeg).toInt64)) then
  bnd (f_X5_ends σ 0) fun σ8 =>
  σ8
  else
  bnd (f_X5_ends σ 1) fun σ9 =>
  σ9))
  else
  (if (σ 5 x1.toNatClampNeg) = 2 then
  (if v2 = (σ 9 x1.toNatClampNeg) then
  bnd (f_X5_ends σ 0) fun σ10 =>
  σ10
  else
  bnd (f_X5_ends σ 1) fun σ11 =>
  σ11)
  else
  (if (σ 5 x1.toNatClampNeg) = 3 then
  (if (σ 1 v1.toNatClampNeg) = 0 then
  bnd (f_X5_fails σ 1) fun σ14 =>
  σ14
  else
  (if (v2 / (σ 1 v1.toNatClampNeg)) < (σ 8 x1.toNatClampNeg) then
  bnd (f_X5_ends σ 0) fun σ12 =>
  σ12
  else
  bnd (f_X5_ends σ 1) fun σ13 =>
  σ13))
  else
  (if (bI (f_X5_isSensor v2)) = 0 then
  bnd (f_X5_fails σ 2) fun σ17 =>
  σ17
  else
  (if (σ 1 v2.toNatClampNeg) ≤ v1 then
  bnd (f_X5_ends σ 0) fun σ15 =>
  σ15
  else
  bnd (f_X5_ends σ 1) fun σ16 =>
  σ16))))))
set_option maxRecDepth 100000 in
set_option maxHeartbeats 4000000 in
theorem b_X5_says_0 {p : Program} {l : Launch} {e : Env} {s : State} {m : MethodId} {args : Array Value} {below : List Frame} {meth : Method} {c : Code} {D : va_G} {cI : ClassId} {ad : Nat → Nat} {w0 : va_W} {X : Mem} (S : CallFix p m c cX5_says 7 s args wsX5_says RX5) (hr : meth.sig.returnType = none) (hlocks : meth.locks = false) (hK : va_K D vwCl [(cI, .int)] s) (hA : ∀ q, s.heap.size ≤ q → va_A w0 s.heap.size q) (σ : Mem) (x1 : Int32) (x2 : Int32) (hri : vp_in x1 40) (hai : vp_in x2 8) (hbi : σ 5 x1.toNatClampNeg = 3 → vp_in (σ 7 x1.toNatClampNeg) 8) (hf : f_X5_says σ x1 x2 = X) (H : Heap) (locs : List Loc) (hG : wI D vwCl (va_A w0 s.heap.size) s.heap H locs (RW ad cI σ)) (ls : Array Slot) (hl : lv_has ls 7 [(0, .ref (ad 0)), (1, .int x1), (2, .int x2)]) : W p l e ({ frames := 2, cells := 0, slots := 0, locals := 42 } : Room) s m args below meth c H locs 0 0 (MQ below (va_Qv (fun (u : Mem) => u = X) (fun u t => wPost D vwCl w0 s.heap.size ((fun u => RW ad cI u) u) t) (va_A w0 s.heap.size)) args s 0 0 (va_A w0 s.heap.size)) (F0 m 0 ls []) := by
  have hin := in_X5_says
  unfold f_X5_says at hf
  refine lv_aload_n S.1 S.2.1 dX5_says_0 rfl (lv_at hl 0 rfl) ?_
  refine M_get S hin hK hG 6 (by decide) (by decide +kernel) rfl dX5_says_1 ?_
  refine lv_iload_n S.1 S.2.1 dX5_says_4 rfl (lv_at hl 1 rfl) ?_
  refine r_iald S hK hG 5 0 rfl rfl hri dX5_says_5 ?_
  refine lv_topi (fun v1 e_v1 => ?_)
  have hf := bnd_p e_v1 hf
  refine lv_istore_n (lv' := [(3, .int v1), (0, .ref (ad 0)), (1, .int x1), (2, .int x2)]) S.1 S.2.1 dX5_says_6 rfl hl (by decide) rfl (fun ls hl => ?_)
  refine lv_aload_n S.1 S.2.1 dX5_says_7 rfl (lv_at hl 1 rfl) ?_
  refine M_get S hin hK hG 0 (by decide) (by decide +kernel) rfl dX5_says_8 ?_
  refine lv_iload_n S.1 S.2.1 dX5_says_11 rfl (lv_at hl 3 rfl) ?_
  refine r_iald S hK hG 1 0 rfl rfl hai dX5_says_12 ?_
  refine lv_topi (fun v2 e_v2 => ?_)
  have hf := bnd_p e_v2 hf
  refine lv_istore (lv' := [(4, .int v2), (3, .int v1), (0, .ref (ad 0)), (1, .int x1), (2, .int x2)]) S.1 S.2.1 dX5_says_13 hl (by decide) rfl (fun ls hl => ?_)
  refine lv_aload_n S.1 S.2.1 dX5_says_15 rfl (lv_at hl 2 rfl) ?_
  refine M_get S hin hK hG 4 (by decide) (by decide +kernel) rfl dX5_says_16 ?_
  refine lv_iload_n S.1 S.2.1 dX5_says_19 rfl (lv_at hl 3 rfl) ?_
  refine r_iald S hK hG 3 0 rfl rfl hri dX5_says_20 ?_
  refine (Decidable.em ((σ 5 x1.toNatClampNeg) = 0)).elim (fun c_21_0 => ?_) (fun c_21_0 => ?_)
  · have hf := ite_p c_21_0 hf
    refine lv_tableIn (off := 31) (tgt := 52) S.1 S.2.1 dX5_says_21 (by rw [c_21_0]; decide) (by rw [c_21_0]; decide) (by rw [c_21_0]; rfl) (by decide) ?_
    refine lv_aload_n S.1 S.2.1 dX5_says_52 rfl (lv_at hl 2 rfl) ?_
    refine lv_iload S.1 S.2.1 dX5_says_53 (lv_at hl 0 rfl) ?_
    refine lv_iload_n S.1 S.2.1 dX5_says_55 rfl (lv_at hl 1 rfl) ?_
    refine lv_icmp_le (tgt := 63) S.1 S.2.1 dX5_says_56 (by decide) (fun c_56 => ?_) (fun c_56 => ?_)
    · have hf := ite_p c_56 hf
      refine lv_iconst (v := 0) S.1 S.2.1 dX5_says_63 (by decide) ?_
      refine r_callVv S hK hA hG (k_X5_ends l _ _ _ _ _) (cwV 1 S.2.2.2.2 gX5_says_X5_ends rfl rfl rfl (by decide +kernel) ⟨Nat.le_of_ble_eq_true rfl, Nat.le_of_ble_eq_true rfl⟩) (va_recv hK hG.1 (ci := 5) (q0 := 0) rfl rfl) rfl hl.1 rfl (Nat.le_of_ble_eq_true rfl) dX5_says_64 ⟨Nat.le_of_ble_eq_true rfl, Nat.le_of_ble_eq_true rfl⟩ (fun σ3 H locs e_σ3 hG => ?_)
      have hf := bnd_p e_σ3 hf
      refine lv_goto (tgt := 222) S.1 S.2.1 dX5_says_67 (by decide) ?_
      exact r_vret S hr hlocks hG _ rfl hf dX5_says_222
    · have hf := ite_n c_56 hf
      refine lv_iconst (v := 1) S.1 S.2.1 dX5_says_59 (by decide) ?_
      refine lv_goto (tgt := 64) S.1 S.2.1 dX5_says_60 (by decide) ?_
      refine r_callVv S hK hA hG (k_X5_ends l _ _ _ _ _) (cwV 1 S.2.2.2.2 gX5_says_X5_ends rfl rfl rfl (by decide +kernel) ⟨Nat.le_of_ble_eq_true rfl, Nat.le_of_ble_eq_true rfl⟩) (va_recv hK hG.1 (ci := 5) (q0 := 0) rfl rfl) rfl hl.1 rfl (Nat.le_of_ble_eq_true rfl) dX5_says_64 ⟨Nat.le_of_ble_eq_true rfl, Nat.le_of_ble_eq_true rfl⟩ (fun σ4 H locs e_σ4 hG => ?_)
      have hf := bnd_p e_σ4 hf
      refine lv_goto (tgt := 222) S.1 S.2.1 dX5_says_67 (by decide) ?_
      exact r_vret S hr hlocks hG _ rfl hf dX5_says_222
  have hf := ite_n c_21_0 hf
  refine (Decidable.em ((σ 5 x1.toNatClampNeg) = 1)).elim (fun c_21_1 => ?_) (fun c_21_1 => ?_)
  · have hf := ite_p c_21_1 hf
    refine lv_tableIn (off := 49) (tgt := 70) S.1 S.2.1 dX5_says_21 (by rw [c_21_1]; decide) (by rw [c_21_1]; decide) (by rw [c_21_1]; rfl) (by decide) ?_
    refine lv_iload S.1 S.2.1 dX5_says_70 (lv_at hl 0 rfl) ?_
    refine lv_i2l S.1 S.2.1 dX5_says_72 rfl ?_
    refine lv_iload_n S.1 S.2.1 dX5_says_73 rfl (lv_at hl 1 rfl) ?_
    refine lv_i2l S.1 S.2.1 dX5_says_74 rfl ?_
    refine lv_lsub S.1 S.2.1 dX5_says_75 ?_
    refine lv_topl (fun v5 e_v5 => ?_)
    have hf := bnd_p e_v5 hf
    refine lv_lstore (lv' := [(5, .long (v5)), (4, .int v2), (3, .int v1), (0, .ref (ad 0)), (1, .int x1), (2, .int x2)]) S.1 S.2.1 dX5_says_76 hl (by decide) rfl (fun ls hl => ?_)
    refine lv_aload_n S.1 S.2.1 dX5_says_78 rfl (lv_at hl 3 rfl) ?_
    refine lv_lload S.1 S.2.1 dX5_says_79 (lv_at hl 0 rfl) ?_
    refine lv_lconst (v := 0) S.1 S.2.1 dX5_says_81 (by decide) ?_
    refine W.lcmp S.1 S.2.1 dX5_says_82 ?_
    refine lv_if_ge (tgt := 92) S.1 S.2.1 dX5_says_83 (by decide) (fun c_83 => ?_) (fun c_83 => ?_)
    · have hf := ite_p c_83 hf
      refine lv_lload S.1 S.2.1 dX5_says_92 (lv_at hl 0 rfl) ?_
      refine lv_aload_n S.1 S.2.1 dX5_says_94 rfl (lv_at hl 3 rfl) ?_
      refine M_get S hin hK hG 7 (by decide) (by decide +kernel) rfl dX5_says_95 ?_
      refine lv_iload_n S.1 S.2.1 dX5_says_98 rfl (lv_at hl 4 rfl) ?_
      refine r_iald S hK hG 6 0 rfl rfl hri dX5_says_99 ?_
      refine lv_i2l S.1 S.2.1 dX5_says_100 rfl ?_
      refine W.lcmp S.1 S.2.1 dX5_says_101 ?_
      refine lv_if_gt (tgt := 109) S.1 S.2.1 dX5_says_102 (by decide) (fun c_102 => ?_) (fun c_102 => ?_)
      · have hf := ite_p c_102 hf
        refine lv_iconst (v := 0) S.1 S.2.1 dX5_says_109 (by decide) ?_
        refine r_callVv S hK hA hG (k_X5_ends l _ _ _ _ _) (cwV 1 S.2.2.2.2 gX5_says_X5_ends rfl rfl rfl (by decide +kernel) ⟨Nat.le_of_ble_eq_true rfl, Nat.le_of_ble_eq_true rfl⟩) (va_recv hK hG.1 (ci := 5) (q0 := 0) rfl rfl) rfl hl.1 rfl (Nat.le_of_ble_eq_true rfl) dX5_says_110 ⟨Nat.le_of_ble_eq_true rfl, Nat.le_of_ble_eq_true rfl⟩ (fun σ6 H locs e_σ6 hG => ?_)
        have hf := bnd_p e_σ6 hf
        refine lv_goto (tgt := 222) S.1 S.2.1 dX5_says_113 (by decide) ?_
        exact r_vret S hr hlocks hG _ rfl hf dX5_says_222
      · have hf := ite_n c_102 hf
        refine lv_iconst (v := 1) S.1 S.2.1 dX5_says_105 (by decide) ?_
        refine lv_goto (tgt := 110) S.1 S.2.1 dX5_says_106 (by decide) ?_
        refine r_callVv S hK hA hG (k_X5_ends l _ _ _ _ _) (cwV 1 S.2.2.2.2 gX5_says_X5_ends rfl rfl rfl (by decide +kernel) ⟨Nat.le_of_ble_eq_true rfl, Nat.le_of_ble_eq_true rfl⟩) (va_recv hK hG.1 (ci := 5) (q0 := 0) rfl rfl) rfl hl.1 rfl (Nat.le_of_ble_eq_true rfl) dX5_says_110 ⟨Nat.le_of_ble_eq_true rfl, Nat.le_of_ble_eq_true rfl⟩ (fun σ7 H locs e_σ7 hG => ?_)
        have hf := bnd_p e_σ7 hf
        refine lv_goto (tgt := 222) S.1 S.2.1 dX5_says_113 (by decide) ?_
        exact r_vret S hr hlocks hG _ rfl hf dX5_says_222
    · have hf := ite_n c_83 hf
      refine lv_lload S.1 S.2.1 dX5_says_86 (lv_at hl 0 rfl) ?_
      refine lv_lneg S.1 S.2.1 dX5_says_88 ?_
      refine lv_goto (tgt := 94) S.1 S.2.1 dX5_says_89 (by decide) ?_
      refine lv_aload_n S.1 S.2.1 dX5_says_94 rfl (lv_at hl 3 rfl) ?_
      refine M_get S hin hK hG 7 (by decide) (by decide +kernel) rfl dX5_says_95 ?_
      refine lv_iload_n S.1 S.2.1 dX5_says_98 rfl (lv_at hl 4 rfl) ?_
      refine r_iald S hK hG 6 0 rfl rfl hri dX5_says_99 ?_
      refine lv_i2l S.1 S.2.1 dX5_says_100 rfl ?_
      refine W.lcmp S.1 S.2.1 dX5_says_101 ?_
      refine lv_if_gt (tgt := 109) S.1 S.2.1 dX5_says_102 (by decide) (fun c_102 => ?_) (fun c_102 => ?_)
      · have hf := ite_p c_102 hf
        refine lv_iconst (v := 0) S.1 S.2.1 dX5_says_109 (by decide) ?_
        refine r_callVv S hK hA hG (k_X5_ends l _ _ _ _ _) (cwV 1 S.2.2.2.2 gX5_says_X5_ends rfl rfl rfl (by decide +kernel) ⟨Nat.le_of_ble_eq_true rfl, Nat.le_of_ble_eq_true rfl⟩) (va_recv hK hG.1 (ci := 5) (q0 := 0) rfl rfl) rfl hl.1 rfl (Nat.le_of_ble_eq_true rfl) dX5_says_110 ⟨Nat.le_of_ble_eq_true rfl, Nat.le_of_ble_eq_true rfl⟩ (fun σ8 H locs e_σ8 hG => ?_)
        have hf := bnd_p e_σ8 hf
        refine lv_goto (tgt := 222) S.1 S.2.1 dX5_says_113 (by decide) ?_
        exact r_vret S hr hlocks hG _ rfl hf dX5_says_222
      · have hf := ite_n c_102 hf
        refine lv_iconst (v := 1) S.1 S.2.1 dX5_says_105 (by decide) ?_
        refine lv_goto (tgt := 110) S.1 S.2.1 dX5_says_106 (by decide) ?_
        refine r_callVv S hK hA hG (k_X5_ends l _ _ _ _ _) (cwV 1 S.2.2.2.2 gX5_says_X5_ends rfl rfl rfl (by decide +kernel) ⟨Nat.le_of_ble_eq_true rfl, Nat.le_of_ble_eq_true rfl⟩) (va_recv hK hG.1 (ci := 5) (q0 := 0) rfl rfl) rfl hl.1 rfl (Nat.le_of_ble_eq_true rfl) dX5_says_110 ⟨Nat.le_of_ble_eq_true rfl, Nat.le_of_ble_eq_true rfl⟩ (fun σ9 H locs e_σ9 hG => ?_)
        have hf := bnd_p e_σ9 hf
        refine lv_goto (tgt := 222) S.1 S.2.1 dX5_says_113 (by decide) ?_
        exact r_vret S hr hlocks hG _ rfl hf dX5_says_222
  have hf := ite_n c_21_1 hf
  refine (Decidable.em ((σ 5 x1.toNatClampNeg) = 2)).elim (fun c_21_2 => ?_) (fun c_21_2 => ?_)
  · have hf := ite_p c_21_2 hf
    refine lv_tableIn (off := 95) (tgt := 116) S.1 S.2.1 dX5_says_21 (by rw [c_21_2]; decide) (by rw [c_21_2]; decide) (by rw [c_21_2]; rfl) (by decide) ?_
    refine lv_aload_n S.1 S.2.1 dX5_says_116 rfl (lv_at hl 2 rfl) ?_
    refine lv_iload S.1 S.2.1 dX5_says_117 (lv_at hl 0 rfl) ?_
    refine lv_aload_n S.1 S.2.1 dX5_says_119 rfl (lv_at hl 2 rfl) ?_
    refine M_get S hin hK hG 8 (by decide) (by decide +kernel) rfl dX5_says_120 ?_
    refine lv_iload_n S.1 S.2.1 dX5_says_123 rfl (lv_at hl 3 rfl) ?_
    refine r_iald S hK hG 7 0 rfl rfl hri dX5_says_124 ?_
    refine lv_icmp_eq (tgt := 132) S.1 S.2.1 dX5_says_125 (by decide) (fun c_125 => ?_) (fun c_125 => ?_)
    · have hf := ite_p c_125 hf
      refine lv_iconst (v := 0) S.1 S.2.1 dX5_says_132 (by decide) ?_
      refine r_callVv S hK hA hG (k_X5_ends l _ _ _ _ _) (cwV 1 S.2.2.2.2 gX5_says_X5_ends rfl rfl rfl (by decide +kernel) ⟨Nat.le_of_ble_eq_true rfl, Nat.le_of_ble_eq_true rfl⟩) (va_recv hK hG.1 (ci := 5) (q0 := 0) rfl rfl) rfl hl.1 rfl (Nat.le_of_ble_eq_true rfl) dX5_says_133 ⟨Nat.le_of_ble_eq_true rfl, Nat.le_of_ble_eq_true rfl⟩ (fun σ10 H locs e_σ10 hG => ?_)
      have hf := bnd_p e_σ10 hf
      refine lv_goto (tgt := 222) S.1 S.2.1 dX5_says_136 (by decide) ?_
      exact r_vret S hr hlocks hG _ rfl hf dX5_says_222
    · have hf := ite_n c_125 hf
      refine lv_iconst (v := 1) S.1 S.2.1 dX5_says_128 (by decide) ?_
      refine lv_goto (tgt := 133) S.1 S.2.1 dX5_says_129 (by decide) ?_
      refine r_callVv S hK hA hG (k_X5_ends l _ _ _ _ _) (cwV 1 S.2.2.2.2 gX5_says_X5_ends rfl rfl rfl (by decide +kernel) ⟨Nat.le_of_ble_eq_true rfl, Nat.le_of_ble_eq_true rfl⟩) (va_recv hK hG.1 (ci := 5) (q0 := 0) rfl rfl) rfl hl.1 rfl (Nat.le_of_ble_eq_true rfl) dX5_says_133 ⟨Nat.le_of_ble_eq_true rfl, Nat.le_of_ble_eq_true rfl⟩ (fun σ11 H locs e_σ11 hG => ?_)
      have hf := bnd_p e_σ11 hf
      refine lv_goto (tgt := 222) S.1 S.2.1 dX5_says_136 (by decide) ?_
      exact r_vret S hr hlocks hG _ rfl hf dX5_says_222
  have hf := ite_n c_21_2 hf
  refine (Decidable.em ((σ 5 x1.toNatClampNeg) = 3)).elim (fun c_21_3 => ?_) (fun c_21_3 => ?_)
  · have hf := ite_p c_21_3 hf
    refine lv_tableIn (off := 118) (tgt := 139) S.1 S.2.1 dX5_says_21 (by rw [c_21_3]; decide) (by rw [c_21_3]; decide) (by rw [c_21_3]; rfl) (by decide) ?_
    refine lv_aload_n S.1 S.2.1 dX5_says_139 rfl (lv_at hl 2 rfl) ?_
    refine M_get S hin hK hG 0 (by decide) (by decide +kernel) rfl dX5_says_140 ?_
    refine lv_iload_n S.1 S.2.1 dX5_says_143 rfl (lv_at hl 1 rfl) ?_
    refine r_iald S hK hG 1 0 rfl rfl (by rw [e_v1]; exact hbi c_21_3) dX5_says_144 ?_
    refine lv_if_ne (tgt := 156) S.1 S.2.1 dX5_says_145 (by decide) (fun c_145 => ?_) (fun c_145 => ?_)
    · have hf := ite_n c_145 hf
      refine lv_aload_n S.1 S.2.1 dX5_says_156 rfl (lv_at hl 2 rfl) ?_
      refine lv_iload S.1 S.2.1 dX5_says_157 (lv_at hl 0 rfl) ?_
      refine lv_aload_n S.1 S.2.1 dX5_says_159 rfl (lv_at hl 2 rfl) ?_
      refine M_get S hin hK hG 0 (by decide) (by decide +kernel) rfl dX5_says_160 ?_
      refine lv_iload_n S.1 S.2.1 dX5_says_163 rfl (lv_at hl 1 rfl) ?_
      refine r_iald S hK hG 1 0 rfl rfl (by rw [e_v1]; exact hbi c_21_3) dX5_says_164 ?_
      refine lv_idiv S.1 S.2.1 dX5_says_165 c_145 ?_
      refine lv_aload_n S.1 S.2.1 dX5_says_166 rfl (lv_at hl 2 rfl) ?_
      refine M_get S hin hK hG 7 (by decide) (by decide +kernel) rfl dX5_says_167 ?_
      refine lv_iload_n S.1 S.2.1 dX5_says_170 rfl (lv_at hl 3 rfl) ?_
      refine r_iald S hK hG 6 0 rfl rfl hri dX5_says_171 ?_
      refine lv_icmp_lt (tgt := 179) S.1 S.2.1 dX5_says_172 (by decide) (fun c_172 => ?_) (fun c_172 => ?_)
      · have hf := ite_p c_172 hf
        refine lv_iconst (v := 0) S.1 S.2.1 dX5_says_179 (by decide) ?_
        refine r_callVv S hK hA hG (k_X5_ends l _ _ _ _ _) (cwV 1 S.2.2.2.2 gX5_says_X5_ends rfl rfl rfl (by decide +kernel) ⟨Nat.le_of_ble_eq_true rfl, Nat.le_of_ble_eq_true rfl⟩) (va_recv hK hG.1 (ci := 5) (q0 := 0) rfl rfl) rfl hl.1 rfl (Nat.le_of_ble_eq_true rfl) dX5_says_180 ⟨Nat.le_of_ble_eq_true rfl, Nat.le_of_ble_eq_true rfl⟩ (fun σ12 H locs e_σ12 hG => ?_)
        have hf := bnd_p e_σ12 hf
        refine lv_goto (tgt := 222) S.1 S.2.1 dX5_says_183 (by decide) ?_
        exact r_vret S hr hlocks hG _ rfl hf dX5_says_222
      · have hf := ite_n c_172 hf
        refine lv_iconst (v := 1) S.1 S.2.1 dX5_says_175 (by decide) ?_
        refine lv_goto (tgt := 180) S.1 S.2.1 dX5_says_176 (by decide) ?_
        refine r_callVv S hK hA hG (k_X5_ends l _ _ _ _ _) (cwV 1 S.2.2.2.2 gX5_says_X5_ends rfl rfl rfl (by decide +kernel) ⟨Nat.le_of_ble_eq_true rfl, Nat.le_of_ble_eq_true rfl⟩) (va_recv hK hG.1 (ci := 5) (q0 := 0) rfl rfl) rfl hl.1 rfl (Nat.le_of_ble_eq_true rfl) dX5_says_180 ⟨Nat.le_of_ble_eq_true rfl, Nat.le_of_ble_eq_true rfl⟩ (fun σ13 H locs e_σ13 hG => ?_)
        have hf := bnd_p e_σ13 hf
        refine lv_goto (tgt := 222) S.1 S.2.1 dX5_says_183 (by decide) ?_
        exact r_vret S hr hlocks hG _ rfl hf dX5_says_222
    · have hf := ite_p c_145 hf
      refine lv_aload_n S.1 S.2.1 dX5_says_148 rfl (lv_at hl 2 rfl) ?_
      refine lv_iconst (v := 1) S.1 S.2.1 dX5_says_149 (by decide) ?_
      refine r_callVv S hK hA hG (k_X5_fails l _ _ _ _ _) (cwV 1 S.2.2.2.2 gX5_says_X5_fails rfl rfl rfl (by decide +kernel) ⟨Nat.le_of_ble_eq_true rfl, Nat.le_of_ble_eq_true rfl⟩) (va_recv hK hG.1 (ci := 5) (q0 := 0) rfl rfl) rfl hl.1 rfl (Nat.le_of_ble_eq_true rfl) dX5_says_150 ⟨Nat.le_of_ble_eq_true rfl, Nat.le_of_ble_eq_true rfl⟩ (fun σ14 H locs e_σ14 hG => ?_)
      have hf := bnd_p e_σ14 hf
      refine lv_goto (tgt := 222) S.1 S.2.1 dX5_says_153 (by decide) ?_
      exact r_vret S hr hlocks hG _ rfl hf dX5_says_222
  have hf := ite_n c_21_3 hf
  refine lv_tableOut (tgt := 186) S.1 S.2.1 dX5_says_21 (by have h0 := sw_ne (z := 0) rfl c_21_0; have h1 := sw_ne (z := 1) rfl c_21_1; have h2 := sw_ne (z := 2) rfl c_21_2; have h3 := sw_ne (z := 3) rfl c_21_3; omega) (by decide) ?_
  refine lv_iload S.1 S.2.1 dX5_says_186 (lv_at hl 0 rfl) ?_
  refine r_callSi S hK hA hG (k_X5_isSensor l _ _ _ _ _) (cwS 1 S.2.2.2.2 gX5_says_X5_isSensor rfl rfl rfl (by decide +kernel) ⟨Nat.le_of_ble_eq_true rfl, Nat.le_of_ble_eq_true rfl⟩) rfl hl.1 rfl (Nat.le_of_ble_eq_true rfl) dX5_says_188 ⟨Nat.le_of_ble_eq_true rfl, Nat.le_of_ble_eq_true rfl⟩ (fun r188 _ H locs hw hG => ?_)
  obtain rfl := hw
  refine lv_if_ne (tgt := 202) S.1 S.2.1 dX5_says_191 (by decide) (fun c_191 => ?_) (fun c_191 => ?_)
  · have hf := ite_n c_191 hf
    refine lv_aload_n S.1 S.2.1 dX5_says_202 rfl (lv_at hl 2 rfl) ?_
    refine lv_aload_n S.1 S.2.1 dX5_says_203 rfl (lv_at hl 2 rfl) ?_
    refine M_get S hin hK hG 0 (by decide) (by decide +kernel) rfl dX5_says_204 ?_
    refine lv_iload S.1 S.2.1 dX5_says_207 (lv_at hl 0 rfl) ?_
    refine r_iald S hK hG 1 0 rfl rfl (ri_vp c_191 (by decide)) dX5_says_209 ?_
    refine lv_iload_n S.1 S.2.1 dX5_says_210 rfl (lv_at hl 1 rfl) ?_
    refine lv_icmp_le (tgt := 218) S.1 S.2.1 dX5_says_211 (by decide) (fun c_211 => ?_) (fun c_211 => ?_)
    · have hf := ite_p c_211 hf
      refine lv_iconst (v := 0) S.1 S.2.1 dX5_says_218 (by decide) ?_
      refine r_callVv S hK hA hG (k_X5_ends l _ _ _ _ _) (cwV 1 S.2.2.2.2 gX5_says_X5_ends rfl rfl rfl (by decide +kernel) ⟨Nat.le_of_ble_eq_true rfl, Nat.le_of_ble_eq_true rfl⟩) (va_recv hK hG.1 (ci := 5) (q0 := 0) rfl rfl) rfl hl.1 rfl (Nat.le_of_ble_eq_true rfl) dX5_says_219 ⟨Nat.le_of_ble_eq_true rfl, Nat.le_of_ble_eq_true rfl⟩ (fun σ15 H locs e_σ15 hG => ?_)
      have hf := bnd_p e_σ15 hf
      exact r_vret S hr hlocks hG _ rfl hf dX5_says_222
    · have hf := ite_n c_211 hf
      refine lv_iconst (v := 1) S.1 S.2.1 dX5_says_214 (by decide) ?_
      refine lv_goto (tgt := 219) S.1 S.2.1 dX5_says_215 (by decide) ?_
      refine r_callVv S hK hA hG (k_X5_ends l _ _ _ _ _) (cwV 1 S.2.2.2.2 gX5_says_X5_ends rfl rfl rfl (by decide +kernel) ⟨Nat.le_of_ble_eq_true rfl, Nat.le_of_ble_eq_true rfl⟩) (va_recv hK hG.1 (ci := 5) (q0 := 0) rfl rfl) rfl hl.1 rfl (Nat.le_of_ble_eq_true rfl) dX5_says_219 ⟨Nat.le_of_ble_eq_true rfl, Nat.le_of_ble_eq_true rfl⟩ (fun σ16 H locs e_σ16 hG => ?_)
      have hf := bnd_p e_σ16 hf
      exact r_vret S hr hlocks hG _ rfl hf dX5_says_222
  · have hf := ite_p c_191 hf
    refine lv_aload_n S.1 S.2.1 dX5_says_194 rfl (lv_at hl 2 rfl) ?_
    refine lv_iconst (v := 2) S.1 S.2.1 dX5_says_195 (by decide) ?_
    refine r_callVv S hK hA hG (k_X5_fails l _ _ _ _ _) (cwV 1 S.2.2.2.2 gX5_says_X5_fails rfl rfl rfl (by decide +kernel) ⟨Nat.le_of_ble_eq_true rfl, Nat.le_of_ble_eq_true rfl⟩) (va_recv hK hG.1 (ci := 5) (q0 := 0) rfl rfl) rfl hl.1 rfl (Nat.le_of_ble_eq_true rfl) dX5_says_196 ⟨Nat.le_of_ble_eq_true rfl, Nat.le_of_ble_eq_true rfl⟩ (fun σ17 H locs e_σ17 hG => ?_)
    have hf := bnd_p e_σ17 hf
    refine lv_goto (tgt := 222) S.1 S.2.1 dX5_says_199 (by decide) ?_
    exact r_vret S hr hlocks hG _ rfl hf dX5_says_222
theorem k_X5_says (l : Launch) (D : va_G) (cI : ClassId) (ad : Nat → Nat) (σ : Mem) (x1 : Int32) (x2 : Int32) (hri : vp_in x1 40) (hai : vp_in x2 8) (hbi : σ 5 x1.toNatClampNeg = 3 → vp_in (σ 7 x1.toNatClampNeg) 8) : CMv l yX5_says wsX5_says ({ frames := 2, cells := 0, slots := 0, locals := 42 } : Room) D vwCl [(cI, .int)] (RW ad cI σ) [.ref (ad 0), .int x1, .int x2] (fun (u : Mem) => u = (f_X5_says σ x1 x2)) (fun u => RW ad cI u) :=
  r_met (by decide) rfl (Nat.le_of_ble_eq_true rfl) (fun p e s m args below meth c ls S hr hlocks _ hK hA hG hl => b_X5_says_0 S hr hlocks hK hA σ x1 x2 hri hai hbi rfl _ _ hG ls hl)
theorem in_X5_waits : ∀ w ∈ wsX50, w ∈ wsX5_waits := by decide +kernel
def f_X5_waits (σ : Mem) (x1 : Int32) (x2 : Int32) : Mem :=
  (if 60 ≤ (σ 0 14) then
  σ
  else
  bnd (mset σ 16 (σ 0 14).toNatClampNeg x1) fun σ1 =>
  bnd (mset σ1 17 (σ 0 14).toNatClampNeg x2) fun σ2 =>
  bnd (mset σ2 0 14 ((σ 0 14) + 1)) fun σ3 =>
  σ3)
set_option maxRecDepth 100000 in
set_option maxHeartbeats 4000000 in
theorem b_X5_waits_0 {p : Program} {l : Launch} {e : Env} {s : State} {m : MethodId} {args : Array Value} {below : List Frame} {meth : Method} {c : Code} {D : va_G} {cI : ClassId} {ad : Nat → Nat} {w0 : va_W} {X : Mem} (S : CallFix p m c cX5_waits 3 s args wsX5_waits RX5) (hr : meth.sig.returnType = none) (hlocks : meth.locks = false) (hK : va_K D vwCl [(cI, .int)] s) (hA : ∀ q, s.heap.size ≤ q → va_A w0 s.heap.size q) (σ : Mem) (x1 : Int32) (x2 : Int32) (hw : ¬ 60 ≤ σ 0 14 → vp_in (σ 0 14) 60) (hf : f_X5_waits σ x1 x2 = X) (H : Heap) (locs : List Loc) (hG : wI D vwCl (va_A w0 s.heap.size) s.heap H locs (RW ad cI σ)) (ls : Array Slot) (hl : lv_has ls 3 [(0, .ref (ad 0)), (1, .int x1), (2, .int x2)]) : W p l e ({ frames := 0, cells := 0, slots := 0, locals := 0 } : Room) s m args below meth c H locs 0 0 (MQ below (va_Qv (fun (u : Mem) => u = X) (fun u t => wPost D vwCl w0 s.heap.size ((fun u => RW ad cI u) u) t) (va_A w0 s.heap.size)) args s 0 0 (va_A w0 s.heap.size)) (F0 m 0 ls []) := by
  have hin := in_X5_waits
  unfold f_X5_waits at hf
  refine lv_aload_n S.1 S.2.1 dX5_waits_0 rfl (lv_at hl 0 rfl) ?_
  refine M_get S hin hK hG 14 (by decide) (by decide +kernel) rfl dX5_waits_1 ?_
  refine lv_bipush (v := 60) S.1 S.2.1 dX5_waits_4 (by decide) ?_
  refine lv_icmp_ge (tgt := 39) S.1 S.2.1 dX5_waits_6 (by decide) (fun c_6 => ?_) (fun c_6 => ?_)
  · have hf := ite_p c_6 hf
    exact r_vret S hr hlocks hG _ rfl hf dX5_waits_39
  · have hf := ite_n c_6 hf
    refine lv_aload_n S.1 S.2.1 dX5_waits_9 rfl (lv_at hl 0 rfl) ?_
    refine M_get S hin hK hG 15 (by decide) (by decide +kernel) rfl dX5_waits_10 ?_
    refine lv_aload_n S.1 S.2.1 dX5_waits_13 rfl (lv_at hl 0 rfl) ?_
    refine M_get S hin hK hG 14 (by decide) (by decide +kernel) rfl dX5_waits_14 ?_
    refine lv_iload_n S.1 S.2.1 dX5_waits_17 rfl (lv_at hl 1 rfl) ?_
    refine M_ast S hK hG 16 12 60 rfl (hw c_6) (RWs_16 _ _ _ _ _) dX5_waits_18 (fun σ1 H locs e_σ1 hG => ?_)
    have hf := bnd_p e_σ1 hf
    refine lv_aload_n S.1 S.2.1 dX5_waits_19 rfl (lv_at hl 0 rfl) ?_
    refine M_get S hin hK hG 16 (by decide) (by decide +kernel) rfl dX5_waits_20 ?_
    refine lv_aload_n S.1 S.2.1 dX5_waits_23 rfl (lv_at hl 0 rfl) ?_
    refine M_get S hin hK hG 14 (v := .int (σ 0 14)) (by decide) (by decide +kernel) (by rw [e_σ1]; rfl) dX5_waits_24 ?_
    refine lv_iload_n S.1 S.2.1 dX5_waits_27 rfl (lv_at hl 2 rfl) ?_
    refine M_ast S hK hG 17 13 60 rfl (hw c_6) (RWs_17 _ _ _ _ _) dX5_waits_28 (fun σ2 H locs e_σ2 hG => ?_)
    have hf := bnd_p e_σ2 hf
    refine lv_aload_n S.1 S.2.1 dX5_waits_29 rfl (lv_at hl 0 rfl) ?_
    refine lv_dup S.1 S.2.1 dX5_waits_30 rfl ?_
    refine M_get S hin hK hG 14 (v := .int (σ 0 14)) (by decide) (by decide +kernel) (by rw [e_σ2, e_σ1]; rfl) dX5_waits_31 ?_
    refine lv_iconst (v := 1) S.1 S.2.1 dX5_waits_34 (by decide) ?_
    refine lv_iadd S.1 S.2.1 dX5_waits_35 ?_
    refine M_put S hin hK hG 14 (by decide) (by decide +kernel) rfl rfl rfl (RWp_14 _ _ _ _) dX5_waits_36 (fun σ3 H locs e_σ3 hG => ?_)
    have hf := bnd_p e_σ3 hf
    exact r_vret S hr hlocks hG _ rfl hf dX5_waits_39
theorem k_X5_waits (l : Launch) (D : va_G) (cI : ClassId) (ad : Nat → Nat) (σ : Mem) (x1 : Int32) (x2 : Int32) (hw : ¬ 60 ≤ σ 0 14 → vp_in (σ 0 14) 60) : CMv l yX5_waits wsX5_waits ({ frames := 0, cells := 0, slots := 0, locals := 0 } : Room) D vwCl [(cI, .int)] (RW ad cI σ) [.ref (ad 0), .int x1, .int x2] (fun (u : Mem) => u = (f_X5_waits σ x1 x2)) (fun u => RW ad cI u) :=
  r_met (by decide) rfl (Nat.le_of_ble_eq_true rfl) (fun p e s m args below meth c ls S hr hlocks _ hK hA hG hl => b_X5_waits_0 S hr hlocks hK hA σ x1 x2 hw rfl _ _ hG ls hl)
theorem in_X5_goRule : ∀ w ∈ wsX50, w ∈ wsX5_goRule := by decide +kernel
def f_X5_goRule (σ : Mem) (x1 : Int32) (x2 : Int32) : Mem :=
  bnd (σ 6 x2.toNatClampNeg) fun v1 =>
  (if (σ 30 x1.toNatClampNeg) = 0 then
  (if 5 ≤ (σ 5 x2.toNatClampNeg) then
  bnd (f_X5_goOn σ x1 0 v1) fun σ19 =>
  σ19
  else
  bnd (f_X5_says σ x2 v1) fun σ20 =>
  σ20)
  else
  (if (σ 30 x1.toNatClampNeg) = 2 then
  bnd (f_X5_passes σ) fun σ18 =>
  σ18
  else
  (if (σ 5 x2.toNatClampNeg) = 9 then
  (if (σ 0 35) = 0 then
  bnd (f_X5_passes σ) fun σ15 =>
  σ15
  else
  (if (σ 0 35) = 5 then
  bnd (f_X5_passes σ) fun σ16 =>
  σ16
  else
  bnd (f_X5_goOn σ x1 0 (σ 7 x2.toNatClampNeg)) fun σ17 =>
  σ17))
  else
  (if (σ 0 35) = 0 then
  (if (σ 5 x2.toNatClampNeg) = 5 then
  bnd (f_X5_ends σ (1 - (σ 0 34))) fun σ2 =>
  σ2
  else
  (if (σ 5 x2.toNatClampNeg) = 6 then
  (if (σ 5 x2.toNatClampNeg) = 6 then
  (if (σ 0 34) = 1 then
  bnd (f_X5_goOn σ x1 0 (σ 7 x2.toNatClampNeg)) fun σ6 =>
  σ6
  else
  bnd (f_X5_passes σ) fun σ5 =>
  σ5)
  else
  (if (σ 0 34) = 0 then
  bnd (f_X5_goOn σ x1 0 (σ 7 x2.toNatClampNeg)) fun σ4 =>
  σ4
  else
  bnd (f_X5_passes σ) fun σ3 =>
  σ3))
  else
  (if (σ 5 x2.toNatClampNeg) = 7 then
  (if (σ 5 x2.toNatClampNeg) = 6 then
  (if (σ 0 34) = 1 then
  bnd (f_X5_goOn σ x1 0 (σ 7 x2.toNatClampNeg)) fun σ10 =>
  σ10
  else
  bnd (f_X5_passes σ) fun σ9 =>
  σ9)
  else
  (if (σ 0 34) = 0 then
  bnd (f_X5_goOn σ x1 0 (σ 7 x2.toNatClampNeg)) fun σ8 =>
  σ8
  else
  bnd (f_X5_passes σ) fun σ7 =>
  σ7))
  else
  bnd (mset σ 9 x2.toNatClampNeg ((σ 9 x2.toNatClampNeg) + (σ 0 34))) fun σ11 =>
  (if (σ11 9 x2.toNatClampNeg) < (σ11 7 x2.toNatClampNeg) then
  bnd (f_X5_ends σ11 0) fun σ12 =>
  σ12
  else
  bnd (f_X5_ends σ11 1) fun σ13 =>
  σ13))))
  else
  bnd (f_X5_passes σ) fun σ14 =>
  σ14))))
set_option maxRecDepth 100000 in
set_option maxHeartbeats 4000000 in
theorem b_X5_goRule_0 {p : Program} {l : Launch} {e : Env} {s : State} {m : MethodId} {args : Array Value} {below : List Frame} {meth : Method} {c : Code} {D : va_G} {cI : ClassId} {ad : Nat → Nat} {w0 : va_W} {X : Mem} (S : CallFix p m c cX5_goRule 4 s args wsX5_goRule RX5) (hr : meth.sig.returnType = none) (hlocks : meth.locks = false) (hK : va_K D vwCl [(cI, .int)] s) (hA : ∀ q, s.heap.size ≤ q → va_A w0 s.heap.size q) (σ : Mem) (x1 : Int32) (x2 : Int32) (hat : vp_in x1 300) (hri : vp_in x2 40) (hs : ¬ 5 ≤ σ 5 x2.toNatClampNeg → vp_in (σ 6 x2.toNatClampNeg) 8) (hbi : σ 5 x2.toNatClampNeg = 3 → vp_in (σ 7 x2.toNatClampNeg) 8) (ht : ¬ σ 0 26 = 300 → vp_in (σ 0 25) 300) (hf : f_X5_goRule σ x1 x2 = X) (H : Heap) (locs : List Loc) (hG : wI D vwCl (va_A w0 s.heap.size) s.heap H locs (RW ad cI σ)) (ls : Array Slot) (hl : lv_has ls 4 [(0, .ref (ad 0)), (1, .int x1), (2, .int x2)]) : W p l e ({ frames := 3, cells := 0, slots := 0, locals := 68 } : Room) s m args below meth c H locs 0 0 (MQ below (va_Qv (fun (u : Mem) => u = X) (fun u t => wPost D vwCl w0 s.heap.size ((fun u => RW ad cI u) u) t) (va_A w0 s.heap.size)) args s 0 0 (va_A w0 s.heap.size)) (F0 m 0 ls []) := by
  have hin := in_X5_goRule
  unfold f_X5_goRule at hf
  refine lv_aload_n S.1 S.2.1 dX5_goRule_0 rfl (lv_at hl 0 rfl) ?_
  refine M_get S hin hK hG 5 (by decide) (by decide +kernel) rfl dX5_goRule_1 ?_
  refine lv_iload_n S.1 S.2.1 dX5_goRule_4 rfl (lv_at hl 2 rfl) ?_
  refine r_iald S hK hG 4 0 rfl rfl hri dX5_goRule_5 ?_
  refine lv_topi (fun v1 e_v1 => ?_)
  have hf := bnd_p e_v1 hf
  refine lv_istore_n (lv' := [(3, .int v1), (0, .ref (ad 0)), (1, .int x1), (2, .int x2)]) S.1 S.2.1 dX5_goRule_6 rfl hl (by decide) rfl (fun ls hl => ?_)
  refine lv_aload_n S.1 S.2.1 dX5_goRule_7 rfl (lv_at hl 1 rfl) ?_
  refine M_get S hin hK hG 29 (by decide) (by decide +kernel) rfl dX5_goRule_8 ?_
  refine lv_iload_n S.1 S.2.1 dX5_goRule_11 rfl (lv_at hl 2 rfl) ?_
  refine r_iald S hK hG 19 0 rfl rfl hat dX5_goRule_12 ?_
  refine lv_if_ne (tgt := 43) S.1 S.2.1 dX5_goRule_13 (by decide) (fun c_13 => ?_) (fun c_13 => ?_)
  · have hf := ite_n c_13 hf
    refine lv_aload_n S.1 S.2.1 dX5_goRule_43 rfl (lv_at hl 1 rfl) ?_
    refine M_get S hin hK hG 29 (by decide) (by decide +kernel) rfl dX5_goRule_44 ?_
    refine lv_iload_n S.1 S.2.1 dX5_goRule_47 rfl (lv_at hl 2 rfl) ?_
    refine r_iald S hK hG 19 0 rfl rfl hat dX5_goRule_48 ?_
    refine lv_iconst (v := 2) S.1 S.2.1 dX5_goRule_49 (by decide) ?_
    refine lv_icmp_ne (tgt := 58) S.1 S.2.1 dX5_goRule_50 (by decide) (fun c_50 => ?_) (fun c_50 => ?_)
    · have hf := ite_n c_50 hf
      refine lv_aload_n S.1 S.2.1 dX5_goRule_58 rfl (lv_at hl 1 rfl) ?_
      refine M_get S hin hK hG 4 (by decide) (by decide +kernel) rfl dX5_goRule_59 ?_
      refine lv_iload_n S.1 S.2.1 dX5_goRule_62 rfl (lv_at hl 3 rfl) ?_
      refine r_iald S hK hG 3 0 rfl rfl hri dX5_goRule_63 ?_
      refine lv_bipush (v := 9) S.1 S.2.1 dX5_goRule_64 (by decide) ?_
      refine lv_icmp_ne (tgt := 104) S.1 S.2.1 dX5_goRule_66 (by decide) (fun c_66 => ?_) (fun c_66 => ?_)
      · have hf := ite_n c_66 hf
        refine lv_aload_n S.1 S.2.1 dX5_goRule_104 rfl (lv_at hl 1 rfl) ?_
        refine M_get S hin hK hG 35 (by decide) (by decide +kernel) rfl dX5_goRule_105 ?_
        refine lv_if_eq (tgt := 116) S.1 S.2.1 dX5_goRule_108 (by decide) (fun c_108 => ?_) (fun c_108 => ?_)
        · have hf := ite_p c_108 hf
          refine lv_aload_n S.1 S.2.1 dX5_goRule_116 rfl (lv_at hl 1 rfl) ?_
          refine M_get S hin hK hG 4 (by decide) (by decide +kernel) rfl dX5_goRule_117 ?_
          refine lv_iload_n S.1 S.2.1 dX5_goRule_120 rfl (lv_at hl 3 rfl) ?_
          refine r_iald S hK hG 3 0 rfl rfl hri dX5_goRule_121 ?_
          refine (Decidable.em ((σ 5 x2.toNatClampNeg) = 5)).elim (fun c_122_5 => ?_) (fun c_122_5 => ?_)
          · have hf := ite_p c_122_5 hf
            refine lv_tableIn (off := 26) (tgt := 148) S.1 S.2.1 dX5_goRule_122 (by rw [c_122_5]; decide) (by rw [c_122_5]; decide) (by rw [c_122_5]; rfl) (by decide) ?_
            refine lv_aload_n S.1 S.2.1 dX5_goRule_148 rfl (lv_at hl 1 rfl) ?_
            refine lv_iconst (v := 1) S.1 S.2.1 dX5_goRule_149 (by decide) ?_
            refine lv_aload_n S.1 S.2.1 dX5_goRule_150 rfl (lv_at hl 1 rfl) ?_
            refine M_get S hin hK hG 34 (by decide) (by decide +kernel) rfl dX5_goRule_151 ?_
            refine lv_isub S.1 S.2.1 dX5_goRule_154 ?_
            refine r_callVv S hK hA hG (k_X5_ends l _ _ _ _ _) (cwV 1 S.2.2.2.2 gX5_goRule_X5_ends rfl rfl rfl (by decide +kernel) ⟨Nat.le_of_ble_eq_true rfl, Nat.le_of_ble_eq_true rfl⟩) (va_recv hK hG.1 (ci := 5) (q0 := 0) rfl rfl) rfl hl.1 rfl (Nat.le_of_ble_eq_true rfl) dX5_goRule_155 ⟨Nat.le_of_ble_eq_true rfl, Nat.le_of_ble_eq_true rfl⟩ (fun σ2 H locs e_σ2 hG => ?_)
            have hf := bnd_p e_σ2 hf
            refine lv_goto (tgt := 243) S.1 S.2.1 dX5_goRule_158 (by decide) ?_
            exact r_vret S hr hlocks hG _ rfl hf dX5_goRule_243
          have hf := ite_n c_122_5 hf
          refine (Decidable.em ((σ 5 x2.toNatClampNeg) = 6)).elim (fun c_122_6 => ?_) (fun c_122_6 => ?_)
          · have hf := ite_p c_122_6 hf
            refine lv_tableIn (off := 39) (tgt := 161) S.1 S.2.1 dX5_goRule_122 (by rw [c_122_6]; decide) (by rw [c_122_6]; decide) (by rw [c_122_6]; rfl) (by decide) ?_
            refine lv_aload_n S.1 S.2.1 dX5_goRule_161 rfl (lv_at hl 1 rfl) ?_
            refine M_get S hin hK hG 34 (by decide) (by decide +kernel) rfl dX5_goRule_162 ?_
            refine lv_aload_n S.1 S.2.1 dX5_goRule_165 rfl (lv_at hl 1 rfl) ?_
            refine M_get S hin hK hG 4 (by decide) (by decide +kernel) rfl dX5_goRule_166 ?_
            refine lv_iload_n S.1 S.2.1 dX5_goRule_169 rfl (lv_at hl 3 rfl) ?_
            refine r_iald S hK hG 3 0 rfl rfl hri dX5_goRule_170 ?_
            refine lv_bipush (v := 6) S.1 S.2.1 dX5_goRule_171 (by decide) ?_
            refine lv_icmp_ne (tgt := 180) S.1 S.2.1 dX5_goRule_173 (by decide) (fun c_173 => ?_) (fun c_173 => ?_)
            · have hf := ite_n c_173 hf
              refine lv_iconst (v := 0) S.1 S.2.1 dX5_goRule_180 (by decide) ?_
              refine lv_icmp_ne (tgt := 199) S.1 S.2.1 dX5_goRule_181 (by decide) (fun c_181 => ?_) (fun c_181 => ?_)
              · have hf := ite_n c_181 hf
                refine lv_aload_n S.1 S.2.1 dX5_goRule_199 rfl (lv_at hl 1 rfl) ?_
                refine r_callVv S hK hA hG (k_X5_passes l _ _ _ _) (cwV 0 S.2.2.2.2 gX5_goRule_X5_passes rfl rfl rfl (by decide +kernel) ⟨Nat.le_of_ble_eq_true rfl, Nat.le_of_ble_eq_true rfl⟩) (va_recv hK hG.1 (ci := 5) (q0 := 0) rfl rfl) rfl hl.1 rfl (Nat.le_of_ble_eq_true rfl) dX5_goRule_200 ⟨Nat.le_of_ble_eq_true rfl, Nat.le_of_ble_eq_true rfl⟩ (fun σ3 H locs e_σ3 hG => ?_)
                have hf := bnd_p e_σ3 hf
                refine lv_goto (tgt := 243) S.1 S.2.1 dX5_goRule_203 (by decide) ?_
                exact r_vret S hr hlocks hG _ rfl hf dX5_goRule_243
              · have hf := ite_p c_181 hf
                refine lv_aload_n S.1 S.2.1 dX5_goRule_184 rfl (lv_at hl 1 rfl) ?_
                refine lv_iload_n S.1 S.2.1 dX5_goRule_185 rfl (lv_at hl 2 rfl) ?_
                refine lv_iconst (v := 0) S.1 S.2.1 dX5_goRule_186 (by decide) ?_
                refine lv_aload_n S.1 S.2.1 dX5_goRule_187 rfl (lv_at hl 1 rfl) ?_
                refine M_get S hin hK hG 6 (by decide) (by decide +kernel) rfl dX5_goRule_188 ?_
                refine lv_iload_n S.1 S.2.1 dX5_goRule_191 rfl (lv_at hl 3 rfl) ?_
                refine r_iald S hK hG 5 0 rfl rfl hri dX5_goRule_192 ?_
                refine r_callVv S hK hA hG (k_X5_goOn l _ _ _ _ _ _ _ hat ht) (cwV 3 S.2.2.2.2 gX5_goRule_X5_goOn rfl rfl rfl (by decide +kernel) ⟨Nat.le_of_ble_eq_true rfl, Nat.le_of_ble_eq_true rfl⟩) (va_recv hK hG.1 (ci := 5) (q0 := 0) rfl rfl) rfl hl.1 rfl (Nat.le_of_ble_eq_true rfl) dX5_goRule_193 ⟨Nat.le_of_ble_eq_true rfl, Nat.le_of_ble_eq_true rfl⟩ (fun σ4 H locs e_σ4 hG => ?_)
                have hf := bnd_p e_σ4 hf
                refine lv_goto (tgt := 243) S.1 S.2.1 dX5_goRule_196 (by decide) ?_
                exact r_vret S hr hlocks hG _ rfl hf dX5_goRule_243
            · have hf := ite_p c_173 hf
              refine lv_iconst (v := 1) S.1 S.2.1 dX5_goRule_176 (by decide) ?_
              refine lv_goto (tgt := 181) S.1 S.2.1 dX5_goRule_177 (by decide) ?_
              refine lv_icmp_ne (tgt := 199) S.1 S.2.1 dX5_goRule_181 (by decide) (fun c_181 => ?_) (fun c_181 => ?_)
              · have hf := ite_n c_181 hf
                refine lv_aload_n S.1 S.2.1 dX5_goRule_199 rfl (lv_at hl 1 rfl) ?_
                refine r_callVv S hK hA hG (k_X5_passes l _ _ _ _) (cwV 0 S.2.2.2.2 gX5_goRule_X5_passes rfl rfl rfl (by decide +kernel) ⟨Nat.le_of_ble_eq_true rfl, Nat.le_of_ble_eq_true rfl⟩) (va_recv hK hG.1 (ci := 5) (q0 := 0) rfl rfl) rfl hl.1 rfl (Nat.le_of_ble_eq_true rfl) dX5_goRule_200 ⟨Nat.le_of_ble_eq_true rfl, Nat.le_of_ble_eq_true rfl⟩ (fun σ5 H locs e_σ5 hG => ?_)
                have hf := bnd_p e_σ5 hf
                refine lv_goto (tgt := 243) S.1 S.2.1 dX5_goRule_203 (by decide) ?_
                exact r_vret S hr hlocks hG _ rfl hf dX5_goRule_243
              · have hf := ite_p c_181 hf
                refine lv_aload_n S.1 S.2.1 dX5_goRule_184 rfl (lv_at hl 1 rfl) ?_
                refine lv_iload_n S.1 S.2.1 dX5_goRule_185 rfl (lv_at hl 2 rfl) ?_
                refine lv_iconst (v := 0) S.1 S.2.1 dX5_goRule_186 (by decide) ?_
                refine lv_aload_n S.1 S.2.1 dX5_goRule_187 rfl (lv_at hl 1 rfl) ?_
                refine M_get S hin hK hG 6 (by decide) (by decide +kernel) rfl dX5_goRule_188 ?_
                refine lv_iload_n S.1 S.2.1 dX5_goRule_191 rfl (lv_at hl 3 rfl) ?_
                refine r_iald S hK hG 5 0 rfl rfl hri dX5_goRule_192 ?_
                refine r_callVv S hK hA hG (k_X5_goOn l _ _ _ _ _ _ _ hat ht) (cwV 3 S.2.2.2.2 gX5_goRule_X5_goOn rfl rfl rfl (by decide +kernel) ⟨Nat.le_of_ble_eq_true rfl, Nat.le_of_ble_eq_true rfl⟩) (va_recv hK hG.1 (ci := 5) (q0 := 0) rfl rfl) rfl hl.1 rfl (Nat.le_of_ble_eq_true rfl) dX5_goRule_193 ⟨Nat.le_of_ble_eq_true rfl, Nat.le_of_ble_eq_true rfl⟩ (fun σ6 H locs e_σ6 hG => ?_)
                have hf := bnd_p e_σ6 hf
                refine lv_goto (tgt := 243) S.1 S.2.1 dX5_goRule_196 (by decide) ?_
                exact r_vret S hr hlocks hG _ rfl hf dX5_goRule_243
          have hf := ite_n c_122_6 hf
          refine (Decidable.em ((σ 5 x2.toNatClampNeg) = 7)).elim (fun c_122_7 => ?_) (fun c_122_7 => ?_)
          · have hf := ite_p c_122_7 hf
            refine lv_tableIn (off := 39) (tgt := 161) S.1 S.2.1 dX5_goRule_122 (by rw [c_122_7]; decide) (by rw [c_122_7]; decide) (by rw [c_122_7]; rfl) (by decide) ?_
            refine lv_aload_n S.1 S.2.1 dX5_goRule_161 rfl (lv_at hl 1 rfl) ?_
            refine M_get S hin hK hG 34 (by decide) (by decide +kernel) rfl dX5_goRule_162 ?_
            refine lv_aload_n S.1 S.2.1 dX5_goRule_165 rfl (lv_at hl 1 rfl) ?_
            refine M_get S hin hK hG 4 (by decide) (by decide +kernel) rfl dX5_goRule_166 ?_
            refine lv_iload_n S.1 S.2.1 dX5_goRule_169 rfl (lv_at hl 3 rfl) ?_
            refine r_iald S hK hG 3 0 rfl rfl hri dX5_goRule_170 ?_
            refine lv_bipush (v := 6) S.1 S.2.1 dX5_goRule_171 (by decide) ?_
            refine lv_icmp_ne (tgt := 180) S.1 S.2.1 dX5_goRule_173 (by decide) (fun c_173 => ?_) (fun c_173 => ?_)
            · have hf := ite_n c_173 hf
              refine lv_iconst (v := 0) S.1 S.2.1 dX5_goRule_180 (by decide) ?_
              refine lv_icmp_ne (tgt := 199) S.1 S.2.1 dX5_goRule_181 (by decide) (fun c_181 => ?_) (fun c_181 => ?_)
              · have hf := ite_n c_181 hf
                refine lv_aload_n S.1 S.2.1 dX5_goRule_199 rfl (lv_at hl 1 rfl) ?_
                refine r_callVv S hK hA hG (k_X5_passes l _ _ _ _) (cwV 0 S.2.2.2.2 gX5_goRule_X5_passes rfl rfl rfl (by decide +kernel) ⟨Nat.le_of_ble_eq_true rfl, Nat.le_of_ble_eq_true rfl⟩) (va_recv hK hG.1 (ci := 5) (q0 := 0) rfl rfl) rfl hl.1 rfl (Nat.le_of_ble_eq_true rfl) dX5_goRule_200 ⟨Nat.le_of_ble_eq_true rfl, Nat.le_of_ble_eq_true rfl⟩ (fun σ7 H locs e_σ7 hG => ?_)
                have hf := bnd_p e_σ7 hf
                refine lv_goto (tgt := 243) S.1 S.2.1 dX5_goRule_203 (by decide) ?_
                exact r_vret S hr hlocks hG _ rfl hf dX5_goRule_243
              · have hf := ite_p c_181 hf
                refine lv_aload_n S.1 S.2.1 dX5_goRule_184 rfl (lv_at hl 1 rfl) ?_
                refine lv_iload_n S.1 S.2.1 dX5_goRule_185 rfl (lv_at hl 2 rfl) ?_
                refine lv_iconst (v := 0) S.1 S.2.1 dX5_goRule_186 (by decide) ?_
                refine lv_aload_n S.1 S.2.1 dX5_goRule_187 rfl (lv_at hl 1 rfl) ?_
                refine M_get S hin hK hG 6 (by decide) (by decide +kernel) rfl dX5_goRule_188 ?_
                refine lv_iload_n S.1 S.2.1 dX5_goRule_191 rfl (lv_at hl 3 rfl) ?_
                refine r_iald S hK hG 5 0 rfl rfl hri dX5_goRule_192 ?_
                refine r_callVv S hK hA hG (k_X5_goOn l _ _ _ _ _ _ _ hat ht) (cwV 3 S.2.2.2.2 gX5_goRule_X5_goOn rfl rfl rfl (by decide +kernel) ⟨Nat.le_of_ble_eq_true rfl, Nat.le_of_ble_eq_true rfl⟩) (va_recv hK hG.1 (ci := 5) (q0 := 0) rfl rfl) rfl hl.1 rfl (Nat.le_of_ble_eq_true rfl) dX5_goRule_193 ⟨Nat.le_of_ble_eq_true rfl, Nat.le_of_ble_eq_true rfl⟩ (fun σ8 H locs e_σ8 hG => ?_)
                have hf := bnd_p e_σ8 hf
                refine lv_goto (tgt := 243) S.1 S.2.1 dX5_goRule_196 (by decide) ?_
                exact r_vret S hr hlocks hG _ rfl hf dX5_goRule_243
            · have hf := ite_p c_173 hf
              refine lv_iconst (v := 1) S.1 S.2.1 dX5_goRule_176 (by decide) ?_
              refine lv_goto (tgt := 181) S.1 S.2.1 dX5_goRule_177 (by decide) ?_
              refine lv_icmp_ne (tgt := 199) S.1 S.2.1 dX5_goRule_181 (by decide) (fun c_181 => ?_) (fun c_181 => ?_)
              · have hf := ite_n c_181 hf
                refine lv_aload_n S.1 S.2.1 dX5_goRule_199 rfl (lv_at hl 1 rfl) ?_
                refine r_callVv S hK hA hG (k_X5_passes l _ _ _ _) (cwV 0 S.2.2.2.2 gX5_goRule_X5_passes rfl rfl rfl (by decide +kernel) ⟨Nat.le_of_ble_eq_true rfl, Nat.le_of_ble_eq_true rfl⟩) (va_recv hK hG.1 (ci := 5) (q0 := 0) rfl rfl) rfl hl.1 rfl (Nat.le_of_ble_eq_true rfl) dX5_goRule_200 ⟨Nat.le_of_ble_eq_true rfl, Nat.le_of_ble_eq_true rfl⟩ (fun σ9 H locs e_σ9 hG => ?_)
                have hf := bnd_p e_σ9 hf
                refine lv_goto (tgt := 243) S.1 S.2.1 dX5_goRule_203 (by decide) ?_
                exact r_vret S hr hlocks hG _ rfl hf dX5_goRule_243
              · have hf := ite_p c_181 hf
                refine lv_aload_n S.1 S.2.1 dX5_goRule_184 rfl (lv_at hl 1 rfl) ?_
                refine lv_iload_n S.1 S.2.1 dX5_goRule_185 rfl (lv_at hl 2 rfl) ?_
                refine lv_iconst (v := 0) S.1 S.2.1 dX5_goRule_186 (by decide) ?_
                refine lv_aload_n S.1 S.2.1 dX5_goRule_187 rfl (lv_at hl 1 rfl) ?_
                refine M_get S hin hK hG 6 (by decide) (by decide +kernel) rfl dX5_goRule_188 ?_
                refine lv_iload_n S.1 S.2.1 dX5_goRule_191 rfl (lv_at hl 3 rfl) ?_
                refine r_iald S hK hG 5 0 rfl rfl hri dX5_goRule_192 ?_
                refine r_callVv S hK hA hG (k_X5_goOn l _ _ _ _ _ _ _ hat ht) (cwV 3 S.2.2.2.2 gX5_goRule_X5_goOn rfl rfl rfl (by decide +kernel) ⟨Nat.le_of_ble_eq_true rfl, Nat.le_of_ble_eq_true rfl⟩) (va_recv hK hG.1 (ci := 5) (q0 := 0) rfl rfl) rfl hl.1 rfl (Nat.le_of_ble_eq_true rfl) dX5_goRule_193 ⟨Nat.le_of_ble_eq_true rfl, Nat.le_of_ble_eq_true rfl⟩ (fun σ10 H locs e_σ10 hG => ?_)
                have hf := bnd_p e_σ10 hf
                refine lv_goto (tgt := 243) S.1 S.2.1 dX5_goRule_196 (by decide) ?_
                exact r_vret S hr hlocks hG _ rfl hf dX5_goRule_243
          have hf := ite_n c_122_7 hf
          refine lv_tableOut (tgt := 206) S.1 S.2.1 dX5_goRule_122 (by have h0 := sw_ne (z := 5) rfl c_122_5; have h1 := sw_ne (z := 6) rfl c_122_6; have h2 := sw_ne (z := 7) rfl c_122_7; omega) (by decide) ?_
          refine lv_aload_n S.1 S.2.1 dX5_goRule_206 rfl (lv_at hl 1 rfl) ?_
          refine M_get S hin hK hG 8 (by decide) (by decide +kernel) rfl dX5_goRule_207 ?_
          refine lv_iload_n S.1 S.2.1 dX5_goRule_210 rfl (lv_at hl 3 rfl) ?_
          refine lv_dup2_11 S.1 S.2.1 dX5_goRule_211 rfl rfl ?_
          refine r_iald S hK hG 7 0 rfl rfl hri dX5_goRule_212 ?_
          refine lv_aload_n S.1 S.2.1 dX5_goRule_213 rfl (lv_at hl 1 rfl) ?_
          refine M_get S hin hK hG 34 (by decide) (by decide +kernel) rfl dX5_goRule_214 ?_
          refine lv_iadd S.1 S.2.1 dX5_goRule_217 ?_
          refine M_ast S hK hG 9 7 40 rfl hri (RWs_9 _ _ _ _ _) dX5_goRule_218 (fun σ11 H locs e_σ11 hG => ?_)
          have hf := bnd_p e_σ11 hf
          refine lv_aload_n S.1 S.2.1 dX5_goRule_219 rfl (lv_at hl 1 rfl) ?_
          refine lv_aload_n S.1 S.2.1 dX5_goRule_220 rfl (lv_at hl 1 rfl) ?_
          refine M_get S hin hK hG 8 (by decide) (by decide +kernel) rfl dX5_goRule_221 ?_
          refine lv_iload_n S.1 S.2.1 dX5_goRule_224 rfl (lv_at hl 3 rfl) ?_
          refine r_iald S hK hG 7 0 rfl rfl hri dX5_goRule_225 ?_
          refine lv_aload_n S.1 S.2.1 dX5_goRule_226 rfl (lv_at hl 1 rfl) ?_
          refine M_get S hin hK hG 6 (by decide) (by decide +kernel) rfl dX5_goRule_227 ?_
          refine lv_iload_n S.1 S.2.1 dX5_goRule_230 rfl (lv_at hl 3 rfl) ?_
          refine r_iald S hK hG 5 0 rfl rfl hri dX5_goRule_231 ?_
          refine lv_icmp_lt (tgt := 239) S.1 S.2.1 dX5_goRule_232 (by decide) (fun c_232 => ?_) (fun c_232 => ?_)
          · have hf := ite_p c_232 hf
            refine lv_iconst (v := 0) S.1 S.2.1 dX5_goRule_239 (by decide) ?_
            refine r_callVv S hK hA hG (k_X5_ends l _ _ _ _ _) (cwV 1 S.2.2.2.2 gX5_goRule_X5_ends rfl rfl rfl (by decide +kernel) ⟨Nat.le_of_ble_eq_true rfl, Nat.le_of_ble_eq_true rfl⟩) (va_recv hK hG.1 (ci := 5) (q0 := 0) rfl rfl) rfl hl.1 rfl (Nat.le_of_ble_eq_true rfl) dX5_goRule_240 ⟨Nat.le_of_ble_eq_true rfl, Nat.le_of_ble_eq_true rfl⟩ (fun σ12 H locs e_σ12 hG => ?_)
            have hf := bnd_p e_σ12 hf
            exact r_vret S hr hlocks hG _ rfl hf dX5_goRule_243
          · have hf := ite_n c_232 hf
            refine lv_iconst (v := 1) S.1 S.2.1 dX5_goRule_235 (by decide) ?_
            refine lv_goto (tgt := 240) S.1 S.2.1 dX5_goRule_236 (by decide) ?_
            refine r_callVv S hK hA hG (k_X5_ends l _ _ _ _ _) (cwV 1 S.2.2.2.2 gX5_goRule_X5_ends rfl rfl rfl (by decide +kernel) ⟨Nat.le_of_ble_eq_true rfl, Nat.le_of_ble_eq_true rfl⟩) (va_recv hK hG.1 (ci := 5) (q0 := 0) rfl rfl) rfl hl.1 rfl (Nat.le_of_ble_eq_true rfl) dX5_goRule_240 ⟨Nat.le_of_ble_eq_true rfl, Nat.le_of_ble_eq_true rfl⟩ (fun σ13 H locs e_σ13 hG => ?_)
            have hf := bnd_p e_σ13 hf
            exact r_vret S hr hlocks hG _ rfl hf dX5_goRule_243
        · have hf := ite_n c_108 hf
          refine lv_aload_n S.1 S.2.1 dX5_goRule_111 rfl (lv_at hl 1 rfl) ?_
          refine r_callVv S hK hA hG (k_X5_passes l _ _ _ _) (cwV 0 S.2.2.2.2 gX5_goRule_X5_passes rfl rfl rfl (by decide +kernel) ⟨Nat.le_of_ble_eq_true rfl, Nat.le_of_ble_eq_true rfl⟩) (va_recv hK hG.1 (ci := 5) (q0 := 0) rfl rfl) rfl hl.1 rfl (Nat.le_of_ble_eq_true rfl) dX5_goRule_112 ⟨Nat.le_of_ble_eq_true rfl, Nat.le_of_ble_eq_true rfl⟩ (fun σ14 H locs e_σ14 hG => ?_)
          have hf := bnd_p e_σ14 hf
          exact r_vret S hr hlocks hG _ rfl hf dX5_goRule_115
      · have hf := ite_p c_66 hf
        refine lv_aload_n S.1 S.2.1 dX5_goRule_69 rfl (lv_at hl 1 rfl) ?_
        refine M_get S hin hK hG 35 (by decide) (by decide +kernel) rfl dX5_goRule_70 ?_
        refine lv_if_eq (tgt := 99) S.1 S.2.1 dX5_goRule_73 (by decide) (fun c_73 => ?_) (fun c_73 => ?_)
        · have hf := ite_p c_73 hf
          refine lv_aload_n S.1 S.2.1 dX5_goRule_99 rfl (lv_at hl 1 rfl) ?_
          refine r_callVv S hK hA hG (k_X5_passes l _ _ _ _) (cwV 0 S.2.2.2.2 gX5_goRule_X5_passes rfl rfl rfl (by decide +kernel) ⟨Nat.le_of_ble_eq_true rfl, Nat.le_of_ble_eq_true rfl⟩) (va_recv hK hG.1 (ci := 5) (q0 := 0) rfl rfl) rfl hl.1 rfl (Nat.le_of_ble_eq_true rfl) dX5_goRule_100 ⟨Nat.le_of_ble_eq_true rfl, Nat.le_of_ble_eq_true rfl⟩ (fun σ15 H locs e_σ15 hG => ?_)
          have hf := bnd_p e_σ15 hf
          exact r_vret S hr hlocks hG _ rfl hf dX5_goRule_103
        · have hf := ite_n c_73 hf
          refine lv_aload_n S.1 S.2.1 dX5_goRule_76 rfl (lv_at hl 1 rfl) ?_
          refine M_get S hin hK hG 35 (by decide) (by decide +kernel) rfl dX5_goRule_77 ?_
          refine lv_iconst (v := 5) S.1 S.2.1 dX5_goRule_80 (by decide) ?_
          refine lv_icmp_eq (tgt := 99) S.1 S.2.1 dX5_goRule_81 (by decide) (fun c_81 => ?_) (fun c_81 => ?_)
          · have hf := ite_p c_81 hf
            refine lv_aload_n S.1 S.2.1 dX5_goRule_99 rfl (lv_at hl 1 rfl) ?_
            refine r_callVv S hK hA hG (k_X5_passes l _ _ _ _) (cwV 0 S.2.2.2.2 gX5_goRule_X5_passes rfl rfl rfl (by decide +kernel) ⟨Nat.le_of_ble_eq_true rfl, Nat.le_of_ble_eq_true rfl⟩) (va_recv hK hG.1 (ci := 5) (q0 := 0) rfl rfl) rfl hl.1 rfl (Nat.le_of_ble_eq_true rfl) dX5_goRule_100 ⟨Nat.le_of_ble_eq_true rfl, Nat.le_of_ble_eq_true rfl⟩ (fun σ16 H locs e_σ16 hG => ?_)
            have hf := bnd_p e_σ16 hf
            exact r_vret S hr hlocks hG _ rfl hf dX5_goRule_103
          · have hf := ite_n c_81 hf
            refine lv_aload_n S.1 S.2.1 dX5_goRule_84 rfl (lv_at hl 1 rfl) ?_
            refine lv_iload_n S.1 S.2.1 dX5_goRule_85 rfl (lv_at hl 2 rfl) ?_
            refine lv_iconst (v := 0) S.1 S.2.1 dX5_goRule_86 (by decide) ?_
            refine lv_aload_n S.1 S.2.1 dX5_goRule_87 rfl (lv_at hl 1 rfl) ?_
            refine M_get S hin hK hG 6 (by decide) (by decide +kernel) rfl dX5_goRule_88 ?_
            refine lv_iload_n S.1 S.2.1 dX5_goRule_91 rfl (lv_at hl 3 rfl) ?_
            refine r_iald S hK hG 5 0 rfl rfl hri dX5_goRule_92 ?_
            refine r_callVv S hK hA hG (k_X5_goOn l _ _ _ _ _ _ _ hat ht) (cwV 3 S.2.2.2.2 gX5_goRule_X5_goOn rfl rfl rfl (by decide +kernel) ⟨Nat.le_of_ble_eq_true rfl, Nat.le_of_ble_eq_true rfl⟩) (va_recv hK hG.1 (ci := 5) (q0 := 0) rfl rfl) rfl hl.1 rfl (Nat.le_of_ble_eq_true rfl) dX5_goRule_93 ⟨Nat.le_of_ble_eq_true rfl, Nat.le_of_ble_eq_true rfl⟩ (fun σ17 H locs e_σ17 hG => ?_)
            have hf := bnd_p e_σ17 hf
            refine lv_goto (tgt := 103) S.1 S.2.1 dX5_goRule_96 (by decide) ?_
            exact r_vret S hr hlocks hG _ rfl hf dX5_goRule_103
    · have hf := ite_p c_50 hf
      refine lv_aload_n S.1 S.2.1 dX5_goRule_53 rfl (lv_at hl 1 rfl) ?_
      refine r_callVv S hK hA hG (k_X5_passes l _ _ _ _) (cwV 0 S.2.2.2.2 gX5_goRule_X5_passes rfl rfl rfl (by decide +kernel) ⟨Nat.le_of_ble_eq_true rfl, Nat.le_of_ble_eq_true rfl⟩) (va_recv hK hG.1 (ci := 5) (q0 := 0) rfl rfl) rfl hl.1 rfl (Nat.le_of_ble_eq_true rfl) dX5_goRule_54 ⟨Nat.le_of_ble_eq_true rfl, Nat.le_of_ble_eq_true rfl⟩ (fun σ18 H locs e_σ18 hG => ?_)
      have hf := bnd_p e_σ18 hf
      exact r_vret S hr hlocks hG _ rfl hf dX5_goRule_57
  · have hf := ite_p c_13 hf
    refine lv_aload_n S.1 S.2.1 dX5_goRule_16 rfl (lv_at hl 1 rfl) ?_
    refine M_get S hin hK hG 4 (by decide) (by decide +kernel) rfl dX5_goRule_17 ?_
    refine lv_iload_n S.1 S.2.1 dX5_goRule_20 rfl (lv_at hl 3 rfl) ?_
    refine r_iald S hK hG 3 0 rfl rfl hri dX5_goRule_21 ?_
    refine lv_iconst (v := 5) S.1 S.2.1 dX5_goRule_22 (by decide) ?_
    refine lv_icmp_ge (tgt := 35) S.1 S.2.1 dX5_goRule_23 (by decide) (fun c_23 => ?_) (fun c_23 => ?_)
    · have hf := ite_p c_23 hf
      refine lv_aload_n S.1 S.2.1 dX5_goRule_35 rfl (lv_at hl 1 rfl) ?_
      refine lv_iload_n S.1 S.2.1 dX5_goRule_36 rfl (lv_at hl 2 rfl) ?_
      refine lv_iconst (v := 0) S.1 S.2.1 dX5_goRule_37 (by decide) ?_
      refine lv_iload_n S.1 S.2.1 dX5_goRule_38 rfl (lv_at hl 0 rfl) ?_
      refine r_callVv S hK hA hG (k_X5_goOn l _ _ _ _ _ _ _ hat ht) (cwV 3 S.2.2.2.2 gX5_goRule_X5_goOn rfl rfl rfl (by decide +kernel) ⟨Nat.le_of_ble_eq_true rfl, Nat.le_of_ble_eq_true rfl⟩) (va_recv hK hG.1 (ci := 5) (q0 := 0) rfl rfl) rfl hl.1 rfl (Nat.le_of_ble_eq_true rfl) dX5_goRule_39 ⟨Nat.le_of_ble_eq_true rfl, Nat.le_of_ble_eq_true rfl⟩ (fun σ19 H locs e_σ19 hG => ?_)
      have hf := bnd_p e_σ19 hf
      exact r_vret S hr hlocks hG _ rfl hf dX5_goRule_42
    · have hf := ite_n c_23 hf
      refine lv_aload_n S.1 S.2.1 dX5_goRule_26 rfl (lv_at hl 1 rfl) ?_
      refine lv_iload_n S.1 S.2.1 dX5_goRule_27 rfl (lv_at hl 3 rfl) ?_
      refine lv_iload_n S.1 S.2.1 dX5_goRule_28 rfl (lv_at hl 0 rfl) ?_
      refine r_callVv S hK hA hG (k_X5_says l _ _ _ _ _ _ hri (by rw [e_v1]; exact hs c_23) hbi) (cwV 2 S.2.2.2.2 gX5_goRule_X5_says rfl rfl rfl (by decide +kernel) ⟨Nat.le_of_ble_eq_true rfl, Nat.le_of_ble_eq_true rfl⟩) (va_recv hK hG.1 (ci := 5) (q0 := 0) rfl rfl) rfl hl.1 rfl (Nat.le_of_ble_eq_true rfl) dX5_goRule_29 ⟨Nat.le_of_ble_eq_true rfl, Nat.le_of_ble_eq_true rfl⟩ (fun σ20 H locs e_σ20 hG => ?_)
      have hf := bnd_p e_σ20 hf
      refine lv_goto (tgt := 42) S.1 S.2.1 dX5_goRule_32 (by decide) ?_
      exact r_vret S hr hlocks hG _ rfl hf dX5_goRule_42
theorem k_X5_goRule (l : Launch) (D : va_G) (cI : ClassId) (ad : Nat → Nat) (σ : Mem) (x1 : Int32) (x2 : Int32) (hat : vp_in x1 300) (hri : vp_in x2 40) (hs : ¬ 5 ≤ σ 5 x2.toNatClampNeg → vp_in (σ 6 x2.toNatClampNeg) 8) (hbi : σ 5 x2.toNatClampNeg = 3 → vp_in (σ 7 x2.toNatClampNeg) 8) (ht : ¬ σ 0 26 = 300 → vp_in (σ 0 25) 300) : CMv l yX5_goRule wsX5_goRule ({ frames := 3, cells := 0, slots := 0, locals := 68 } : Room) D vwCl [(cI, .int)] (RW ad cI σ) [.ref (ad 0), .int x1, .int x2] (fun (u : Mem) => u = (f_X5_goRule σ x1 x2)) (fun u => RW ad cI u) :=
  r_met (by decide) rfl (Nat.le_of_ble_eq_true rfl) (fun p e s m args below meth c ls S hr hlocks _ hK hA hG hl => b_X5_goRule_0 S hr hlocks hK hA σ x1 x2 hat hri hs hbi ht rfl _ _ hG ls hl)
