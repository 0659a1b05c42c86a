theorem in_X5_begins : ∀ w ∈ wsX50, w ∈ wsX5_begins := by decide +kernel
def f_X5_begins_238 : Nat → Mem → Int32 → Int32 → Int32 → Int32 → Mem
  | 0, σ, _, _, _, _ => σ
  | n + 1, σ, x1, x2, a, t =>
  (if 6 ≤ t then
  bnd (f_X5_goOn σ x1 1 a) fun σ1 =>
  σ1
  else
  bnd (mset σ 33 ((6 * x1) + t).toNatClampNeg (σ 2 t.toNatClampNeg)) fun σ2 =>
  bnd (t + 1) fun v3 =>
  f_X5_begins_238 n σ2 x1 x2 a v3)
set_option maxRecDepth 100000 in
set_option maxHeartbeats 4000000 in
theorem b_X5_begins_238 {p : Program} {l : Launch} {e : Env} {s : State} {m : MethodId} {args : Array Value} {below : List Frame} {meth : Method} {c : Code} {D : va_G} {cI : ClassId} {ad : Nat → Nat} {w0 : va_W} {X : Mem} (S : CallFix p m c cX5_begins 7 s args wsX5_begins RX5) (hr : meth.sig.returnType = none) (hlocks : meth.locks = false) (hK : va_K D vwCl [(cI, .int)] s) (hA : ∀ q, s.heap.size ≤ q → va_A w0 s.heap.size q) : ∀ (n : Nat) (σ : Mem) (x1 : Int32) (x2 : Int32) (a : Int32) (t : Int32) (hat : vp_in x1 300) (ht : ¬ σ 0 26 = 300 → vp_in (σ 0 25) 300) (hi : ∃ k : Nat, t = nI k ∧ k ≤ 6 ∧ 7 ≤ k + n), f_X5_begins_238 n σ x1 x2 a t = X → ∀ (H : Heap) (locs : List Loc), wI D vwCl (va_A w0 s.heap.size) s.heap H locs (RW ad cI σ) → ∀ (ls : Array Slot), lv_has ls 7 [(0, .ref (ad 0)), (1, .int x1), (2, .int x2), (3, .int a), (6, .int t)] → W p l e ({ frames := 2, cells := 0, slots := 0, locals := 45 } : Room) s m args below meth c H locs 0 0 (MQ below (va_Qv (fun (u : Mem) => u = X) (fun u t => wPost D vwCl w0 s.heap.size ((fun u => RW ad cI u) u) t) (va_A w0 s.heap.size)) args s 0 0 (va_A w0 s.heap.size)) (F0 m 238 ls []) := by
  have hin := in_X5_begins
  intro n
  induction n with
  | zero =>
    intro σ x1 x2 a t hat ht hi
    exact (by obtain ⟨k, -, h1, h2⟩ := hi; omega)
  | succ n ih =>
    intro σ x1 x2 a t hat ht hi hf H locs hG ls hl
    unfold f_X5_begins_238 at hf
    refine lv_iload S.1 S.2.1 dX5_begins_238 (lv_at hl 4 rfl) ?_
    refine lv_bipush (v := 6) S.1 S.2.1 dX5_begins_240 (by decide) ?_
    refine lv_icmp_ge (tgt := 270) S.1 S.2.1 dX5_begins_242 (by decide) (fun c_242 => ?_) (fun c_242 => ?_)
    · have hf := ite_p c_242 hf
      refine lv_aload_n S.1 S.2.1 dX5_begins_270 rfl (lv_at hl 0 rfl) ?_
      refine lv_iload_n S.1 S.2.1 dX5_begins_271 rfl (lv_at hl 1 rfl) ?_
      refine lv_iconst (v := 1) S.1 S.2.1 dX5_begins_272 (by decide) ?_
      refine lv_iload_n S.1 S.2.1 dX5_begins_273 rfl (lv_at hl 3 rfl) ?_
      refine r_callVv S hK hA hG (k_X5_goOn l _ _ _ _ _ _ _ hat ht) (cwV 3 S.2.2.2.2 gX5_begins_X5_goOn rfl rfl rfl (by decide +kernel) ⟨Nat.le_of_ble_eq_true rfl, Nat.le_of_ble_eq_true rfl⟩) (va_recv hK hG.1 (ci := 5) (q0 := 0) rfl rfl) rfl hl.1 rfl (Nat.le_of_ble_eq_true rfl) dX5_begins_274 ⟨Nat.le_of_ble_eq_true rfl, Nat.le_of_ble_eq_true rfl⟩ (fun σ1 H locs e_σ1 hG => ?_)
      have hf := bnd_p e_σ1 hf
      refine lv_goto (tgt := 381) S.1 S.2.1 dX5_begins_277 (by decide) ?_
      exact r_vret S hr hlocks hG _ rfl hf dX5_begins_381
    · have hf := ite_n c_242 hf
      refine lv_aload_n S.1 S.2.1 dX5_begins_245 rfl (lv_at hl 0 rfl) ?_
      refine M_get S hin hK hG 32 (by decide) (by decide +kernel) rfl dX5_begins_246 ?_
      refine lv_bipush (v := 6) S.1 S.2.1 dX5_begins_249 (by decide) ?_
      refine lv_iload_n S.1 S.2.1 dX5_begins_251 rfl (lv_at hl 1 rfl) ?_
      refine lv_imul S.1 S.2.1 dX5_begins_252 ?_
      refine lv_iload S.1 S.2.1 dX5_begins_253 (lv_at hl 4 rfl) ?_
      refine lv_iadd S.1 S.2.1 dX5_begins_255 ?_
      refine lv_aload_n S.1 S.2.1 dX5_begins_256 rfl (lv_at hl 0 rfl) ?_
      refine M_get S hin hK hG 1 (by decide) (by decide +kernel) rfl dX5_begins_257 ?_
      refine lv_iload S.1 S.2.1 dX5_begins_260 (lv_at hl 4 rfl) ?_
      refine r_iald S hK hG 2 0 rfl rfl (ri_t6 hi c_242) dX5_begins_262 ?_
      refine M_ast S hK hG 33 22 1800 rfl (ri_sav hat hi c_242) (RWs_33 _ _ _ _ _) dX5_begins_263 (fun σ2 H locs e_σ2 hG => ?_)
      have hf := bnd_p e_σ2 hf
      obtain ⟨v3, e_v3⟩ : ∃ z : Int32, z = t + 1 := ⟨_, rfl⟩
      have hf := bnd_p e_v3 hf
      refine lv_iinc (v := v3) (lv' := [(6, .int v3), (0, .ref (ad 0)), (1, .int x1), (2, .int x2), (3, .int a)]) S.1 S.2.1 dX5_begins_264 hl (k := 4) rfl (by rw [e_v3]; rfl) (by decide) rfl (fun ls hl => ?_)
      refine lv_goto (tgt := 238) S.1 S.2.1 dX5_begins_267 (by decide) ?_
      exact ih σ2 x1 x2 a v3 (hat) (by rw [e_σ2]; exact ht) (ri_loop hi c_242 e_v3) hf H locs hG ls (lv_sub hl [1, 2, 3, 4, 0] rfl)
def f_X5_begins (σ : Mem) (x1 : Int32) (x2 : Int32) : Mem :=
  bnd (σ 12 x2.toNatClampNeg) fun v1 =>
  bnd (σ 13 x2.toNatClampNeg) fun v2 =>
  bnd (σ 14 x2.toNatClampNeg) fun v3 =>
  bnd (mset σ 31 x1.toNatClampNeg 0) fun σ4 =>
  bnd (mset σ4 32 x1.toNatClampNeg 0) fun σ5 =>
  (if (σ5 11 x2.toNatClampNeg) = 0 then
  (if v2 ≤ (σ5 2 v1.toNatClampNeg) then
  bnd (mset σ5 2 v1.toNatClampNeg ((σ5 2 v1.toNatClampNeg) - v2)) fun σ6 =>
  bnd (f_X5_ends σ6 v2) fun σ7 =>
  σ7
  else
  bnd (f_X5_fails σ5 3) fun σ8 =>
  σ8)
  else
  (if (σ5 11 x2.toNatClampNeg) = 1 then
  (if v3 ≤ (σ5 2 v1.toNatClampNeg) then
  bnd (mset σ5 2 v1.toNatClampNeg ((σ5 2 v1.toNatClampNeg) - v3)) fun σ9 =>
  bnd (mset σ9 2 v2.toNatClampNeg ((σ9 2 v2.toNatClampNeg) + v3)) fun σ10 =>
  bnd (f_X5_ends σ10 v3) fun σ11 =>
  σ11
  else
  bnd (f_X5_fails σ5 3) fun σ12 =>
  σ12)
  else
  (if (σ5 11 x2.toNatClampNeg) = 2 then
  bnd (f_X5_goOn σ5 x1 0 v1) fun σ13 =>
  σ13
  else
  (if (σ5 11 x2.toNatClampNeg) = 3 then
  bnd (f_X5_goOn σ5 x1 1 v1) fun σ14 =>
  σ14
  else
  (if (σ5 11 x2.toNatClampNeg) = 4 then
  (if v2 = 0 then
  bnd (f_X5_ends σ5 0) fun σ16 =>
  σ16
  else
  bnd (f_X5_goOn σ5 x1 1 v1) fun σ15 =>
  σ15)
  else
  (if (σ5 11 x2.toNatClampNeg) = 5 then
  bnd (f_X5_waits σ5 v1 ((σ5 0 2) + v2)) fun σ17 =>
  bnd (f_X5_ends σ17 0) fun σ18 =>
  σ18
  else
  (if (σ5 11 x2.toNatClampNeg) = 6 then
  f_X5_begins_238 7 σ5 x1 x2 v1 0
  else
  (if (σ5 11 x2.toNatClampNeg) = 7 then
  (if 0 ≤ v1 then
  bnd (f_X5_goOn σ5 x1 1 v1) fun σ19 =>
  σ19
  else
  (if (σ5 0 26) = 300 then
  bnd (mset σ5 0 26 ((σ5 0 26) + 0)) fun σ22 =>
  bnd (f_X5_fails σ22 5) fun σ23 =>
  σ23
  else
  bnd (mset σ5 0 26 ((σ5 0 26) + 1)) fun σ20 =>
  bnd (f_X5_fails σ20 4) fun σ21 =>
  σ21))
  else
  (if (σ5 11 x2.toNatClampNeg) = 8 then
  bnd (mset σ5 1 v1.toNatClampNeg (σ5 2 v2.toNatClampNeg)) fun σ24 =>
  bnd (f_X5_ends σ24 (σ24 2 v2.toNatClampNeg)) fun σ25 =>
  σ25
  else
  bnd (f_X5_goOn σ5 x1 1 v1) fun σ26 =>
  σ26)))))))))
set_option maxRecDepth 100000 in
set_option maxHeartbeats 4000000 in
theorem b_X5_begins_0 {p : Program} {l : Launch} {e : Env} {s : State} {m : MethodId} {args : Array Value} {below : List Frame} {meth : Method} {c : Code} {D : va_G} {cI : ClassId} {ad : Nat → Nat} {w0 : va_W} {X : Mem} (S : CallFix p m c cX5_begins 7 s args wsX5_begins RX5) (hr : meth.sig.returnType = none) (hlocks : meth.locks = false) (hK : va_K D vwCl [(cI, .int)] s) (hA : ∀ q, s.heap.size ≤ q → va_A w0 s.heap.size q) (σ : Mem) (x1 : Int32) (x2 : Int32) (hat : vp_in x1 300) (hxi : vp_in x2 40) (k0 : σ 11 x2.toNatClampNeg = 0 → vp_in (σ 12 x2.toNatClampNeg) 6) (k1 : σ 11 x2.toNatClampNeg = 1 → vp_in (σ 12 x2.toNatClampNeg) 6 ∧ vp_in (σ 13 x2.toNatClampNeg) 6) (k8 : σ 11 x2.toNatClampNeg = 8 → vp_in (σ 12 x2.toNatClampNeg) 8 ∧ vp_in (σ 13 x2.toNatClampNeg) 6) (ht : ¬ σ 0 26 = 300 → vp_in (σ 0 25) 300) (hw : ¬ 60 ≤ σ 0 14 → vp_in (σ 0 14) 60) (hf : f_X5_begins σ x1 x2 = X) (H : Heap) (locs : List Loc) (hG : wI D vwCl (va_A w0 s.heap.size) s.heap H locs (RW ad cI σ)) (ls : Array Slot) (hl : lv_has ls 7 [(0, .ref (ad 0)), (1, .int x1), (2, .int x2)]) : W p l e ({ frames := 2, cells := 0, slots := 0, locals := 45 } : Room) s m args below meth c H locs 0 0 (MQ below (va_Qv (fun (u : Mem) => u = X) (fun u t => wPost D vwCl w0 s.heap.size ((fun u => RW ad cI u) u) t) (va_A w0 s.heap.size)) args s 0 0 (va_A w0 s.heap.size)) (F0 m 0 ls []) := by
  have hin := in_X5_begins
  unfold f_X5_begins at hf
  refine lv_aload_n S.1 S.2.1 dX5_begins_0 rfl (lv_at hl 0 rfl) ?_
  refine M_get S hin hK hG 11 (by decide) (by decide +kernel) rfl dX5_begins_1 ?_
  refine lv_iload_n S.1 S.2.1 dX5_begins_4 rfl (lv_at hl 2 rfl) ?_
  refine r_iald S hK hG 9 0 rfl rfl hxi dX5_begins_5 ?_
  refine lv_topi (fun v1 e_v1 => ?_)
  have hf := bnd_p e_v1 hf
  refine lv_istore_n (lv' := [(3, .int v1), (0, .ref (ad 0)), (1, .int x1), (2, .int x2)]) S.1 S.2.1 dX5_begins_6 rfl hl (by decide) rfl (fun ls hl => ?_)
  refine lv_aload_n S.1 S.2.1 dX5_begins_7 rfl (lv_at hl 1 rfl) ?_
  refine M_get S hin hK hG 12 (by decide) (by decide +kernel) rfl dX5_begins_8 ?_
  refine lv_iload_n S.1 S.2.1 dX5_begins_11 rfl (lv_at hl 3 rfl) ?_
  refine r_iald S hK hG 10 0 rfl rfl hxi dX5_begins_12 ?_
  refine lv_topi (fun v2 e_v2 => ?_)
  have hf := bnd_p e_v2 hf
  refine lv_istore (lv' := [(4, .int v2), (3, .int v1), (0, .ref (ad 0)), (1, .int x1), (2, .int x2)]) S.1 S.2.1 dX5_begins_13 hl (by decide) rfl (fun ls hl => ?_)
  refine lv_aload_n S.1 S.2.1 dX5_begins_15 rfl (lv_at hl 2 rfl) ?_
  refine M_get S hin hK hG 13 (by decide) (by decide +kernel) rfl dX5_begins_16 ?_
  refine lv_iload_n S.1 S.2.1 dX5_begins_19 rfl (lv_at hl 4 rfl) ?_
  refine r_iald S hK hG 11 0 rfl rfl hxi dX5_begins_20 ?_
  refine lv_topi (fun v3 e_v3 => ?_)
  have hf := bnd_p e_v3 hf
  refine lv_istore (lv' := [(5, .int v3), (4, .int v2), (3, .int v1), (0, .ref (ad 0)), (1, .int x1), (2, .int x2)]) S.1 S.2.1 dX5_begins_21 hl (by decide) rfl (fun ls hl => ?_)
  refine lv_aload_n S.1 S.2.1 dX5_begins_23 rfl (lv_at hl 3 rfl) ?_
  refine M_get S hin hK hG 30 (by decide) (by decide +kernel) rfl dX5_begins_24 ?_
  refine lv_iload_n S.1 S.2.1 dX5_begins_27 rfl (lv_at hl 4 rfl) ?_
  refine lv_iconst (v := 0) S.1 S.2.1 dX5_begins_28 (by decide) ?_
  refine M_ast S hK hG 31 20 300 rfl hat (RWs_31 _ _ _ _ _) dX5_begins_29 (fun σ4 H locs e_σ4 hG => ?_)
  have hf := bnd_p e_σ4 hf
  refine lv_aload_n S.1 S.2.1 dX5_begins_30 rfl (lv_at hl 3 rfl) ?_
  refine M_get S hin hK hG 31 (by decide) (by decide +kernel) rfl dX5_begins_31 ?_
  refine lv_iload_n S.1 S.2.1 dX5_begins_34 rfl (lv_at hl 4 rfl) ?_
  refine lv_iconst (v := 0) S.1 S.2.1 dX5_begins_35 (by decide) ?_
  refine M_ast S hK hG 32 21 300 rfl hat (RWs_32 _ _ _ _ _) dX5_begins_36 (fun σ5 H locs e_σ5 hG => ?_)
  have hf := bnd_p e_σ5 hf
  refine lv_aload_n S.1 S.2.1 dX5_begins_37 rfl (lv_at hl 3 rfl) ?_
  refine M_get S hin hK hG 10 (by decide) (by decide +kernel) rfl dX5_begins_38 ?_
  refine lv_iload_n S.1 S.2.1 dX5_begins_41 rfl (lv_at hl 5 rfl) ?_
  refine r_iald S hK hG 8 0 rfl rfl hxi dX5_begins_42 ?_
  refine (Decidable.em ((σ5 11 x2.toNatClampNeg) = 0)).elim (fun c_43_0 => ?_) (fun c_43_0 => ?_)
  · have hf := ite_p c_43_0 hf
    refine lv_tableIn (off := 49) (tgt := 92) S.1 S.2.1 dX5_begins_43 (by rw [c_43_0]; decide) (by rw [c_43_0]; decide) (by rw [c_43_0]; rfl) (by decide) ?_
    refine lv_aload_n S.1 S.2.1 dX5_begins_92 rfl (lv_at hl 3 rfl) ?_
    refine M_get S hin hK hG 1 (by decide) (by decide +kernel) rfl dX5_begins_93 ?_
    refine lv_iload_n S.1 S.2.1 dX5_begins_96 rfl (lv_at hl 2 rfl) ?_
    refine r_iald S hK hG 2 0 rfl rfl (by rw [e_v1]; exact k0 (by rw [e_σ5, e_σ4] at c_43_0; exact c_43_0)) dX5_begins_97 ?_
    refine lv_iload S.1 S.2.1 dX5_begins_98 (lv_at hl 1 rfl) ?_
    refine lv_icmp_ge (tgt := 111) S.1 S.2.1 dX5_begins_100 (by decide) (fun c_100 => ?_) (fun c_100 => ?_)
    · have hf := ite_p c_100 hf
      refine lv_aload_n S.1 S.2.1 dX5_begins_111 rfl (lv_at hl 3 rfl) ?_
      refine M_get S hin hK hG 1 (by decide) (by decide +kernel) rfl dX5_begins_112 ?_
      refine lv_iload_n S.1 S.2.1 dX5_begins_115 rfl (lv_at hl 2 rfl) ?_
      refine lv_dup2_11 S.1 S.2.1 dX5_begins_116 rfl rfl ?_
      refine r_iald S hK hG 2 0 rfl rfl (by rw [e_v1]; exact k0 (by rw [e_σ5, e_σ4] at c_43_0; exact c_43_0)) dX5_begins_117 ?_
      refine lv_iload S.1 S.2.1 dX5_begins_118 (lv_at hl 1 rfl) ?_
      refine lv_isub S.1 S.2.1 dX5_begins_120 ?_
      refine M_ast S hK hG 2 2 6 rfl (by rw [e_v1]; exact k0 (by rw [e_σ5, e_σ4] at c_43_0; exact c_43_0)) (RWs_2 _ _ _ _ _) dX5_begins_121 (fun σ6 H locs e_σ6 hG => ?_)
      have hf := bnd_p e_σ6 hf
      refine lv_aload_n S.1 S.2.1 dX5_begins_122 rfl (lv_at hl 3 rfl) ?_
      refine lv_iload S.1 S.2.1 dX5_begins_123 (lv_at hl 1 rfl) ?_
      refine r_callVv S hK hA hG (k_X5_ends l _ _ _ _ _) (cwV 1 S.2.2.2.2 gX5_begins_X5_ends rfl rfl rfl (by decide +kernel) ⟨Nat.le_of_ble_eq_true rfl, Nat.le_of_ble_eq_true rfl⟩) (va_recv hK hG.1 (ci := 5) (q0 := 0) rfl rfl) rfl hl.1 rfl (Nat.le_of_ble_eq_true rfl) dX5_begins_125 ⟨Nat.le_of_ble_eq_true rfl, Nat.le_of_ble_eq_true rfl⟩ (fun σ7 H locs e_σ7 hG => ?_)
      have hf := bnd_p e_σ7 hf
      refine lv_goto (tgt := 381) S.1 S.2.1 dX5_begins_128 (by decide) ?_
      exact r_vret S hr hlocks hG _ rfl hf dX5_begins_381
    · have hf := ite_n c_100 hf
      refine lv_aload_n S.1 S.2.1 dX5_begins_103 rfl (lv_at hl 3 rfl) ?_
      refine lv_iconst (v := 3) S.1 S.2.1 dX5_begins_104 (by decide) ?_
      refine r_callVv S hK hA hG (k_X5_fails l _ _ _ _ _) (cwV 1 S.2.2.2.2 gX5_begins_X5_fails rfl rfl rfl (by decide +kernel) ⟨Nat.le_of_ble_eq_true rfl, Nat.le_of_ble_eq_true rfl⟩) (va_recv hK hG.1 (ci := 5) (q0 := 0) rfl rfl) rfl hl.1 rfl (Nat.le_of_ble_eq_true rfl) dX5_begins_105 ⟨Nat.le_of_ble_eq_true rfl, Nat.le_of_ble_eq_true rfl⟩ (fun σ8 H locs e_σ8 hG => ?_)
      have hf := bnd_p e_σ8 hf
      refine lv_goto (tgt := 381) S.1 S.2.1 dX5_begins_108 (by decide) ?_
      exact r_vret S hr hlocks hG _ rfl hf dX5_begins_381
  have hf := ite_n c_43_0 hf
  refine (Decidable.em ((σ5 11 x2.toNatClampNeg) = 1)).elim (fun c_43_1 => ?_) (fun c_43_1 => ?_)
  · have hf := ite_p c_43_1 hf
    refine lv_tableIn (off := 88) (tgt := 131) S.1 S.2.1 dX5_begins_43 (by rw [c_43_1]; decide) (by rw [c_43_1]; decide) (by rw [c_43_1]; rfl) (by decide) ?_
    refine lv_aload_n S.1 S.2.1 dX5_begins_131 rfl (lv_at hl 3 rfl) ?_
    refine M_get S hin hK hG 1 (by decide) (by decide +kernel) rfl dX5_begins_132 ?_
    refine lv_iload_n S.1 S.2.1 dX5_begins_135 rfl (lv_at hl 2 rfl) ?_
    refine r_iald S hK hG 2 0 rfl rfl (by rw [e_v1]; exact (k1 (by rw [e_σ5, e_σ4] at c_43_1; exact c_43_1)).1) dX5_begins_136 ?_
    refine lv_iload S.1 S.2.1 dX5_begins_137 (lv_at hl 0 rfl) ?_
    refine lv_icmp_ge (tgt := 150) S.1 S.2.1 dX5_begins_139 (by decide) (fun c_139 => ?_) (fun c_139 => ?_)
    · have hf := ite_p c_139 hf
      refine lv_aload_n S.1 S.2.1 dX5_begins_150 rfl (lv_at hl 3 rfl) ?_
      refine M_get S hin hK hG 1 (by decide) (by decide +kernel) rfl dX5_begins_151 ?_
      refine lv_iload_n S.1 S.2.1 dX5_begins_154 rfl (lv_at hl 2 rfl) ?_
      refine lv_dup2_11 S.1 S.2.1 dX5_begins_155 rfl rfl ?_
      refine r_iald S hK hG 2 0 rfl rfl (by rw [e_v1]; exact (k1 (by rw [e_σ5, e_σ4] at c_43_1; exact c_43_1)).1) dX5_begins_156 ?_
      refine lv_iload S.1 S.2.1 dX5_begins_157 (lv_at hl 0 rfl) ?_
      refine lv_isub S.1 S.2.1 dX5_begins_159 ?_
      refine M_ast S hK hG 2 2 6 rfl (by rw [e_v1]; exact (k1 (by rw [e_σ5, e_σ4] at c_43_1; exact c_43_1)).1) (RWs_2 _ _ _ _ _) dX5_begins_160 (fun σ9 H locs e_σ9 hG => ?_)
      have hf := bnd_p e_σ9 hf
      refine lv_aload_n S.1 S.2.1 dX5_begins_161 rfl (lv_at hl 3 rfl) ?_
      refine M_get S hin hK hG 1 (by decide) (by decide +kernel) rfl dX5_begins_162 ?_
      refine lv_iload S.1 S.2.1 dX5_begins_165 (lv_at hl 1 rfl) ?_
      refine lv_dup2_11 S.1 S.2.1 dX5_begins_167 rfl rfl ?_
      refine r_iald S hK hG 2 0 rfl rfl (by rw [e_v2]; exact (k1 (by rw [e_σ5, e_σ4] at c_43_1; exact c_43_1)).2) dX5_begins_168 ?_
      refine lv_iload S.1 S.2.1 dX5_begins_169 (lv_at hl 0 rfl) ?_
      refine lv_iadd S.1 S.2.1 dX5_begins_171 ?_
      refine M_ast S hK hG 2 2 6 rfl (by rw [e_v2]; exact (k1 (by rw [e_σ5, e_σ4] at c_43_1; exact c_43_1)).2) (RWs_2 _ _ _ _ _) dX5_begins_172 (fun σ10 H locs e_σ10 hG => ?_)
      have hf := bnd_p e_σ10 hf
      refine lv_aload_n S.1 S.2.1 dX5_begins_173 rfl (lv_at hl 3 rfl) ?_
      refine lv_iload S.1 S.2.1 dX5_begins_174 (lv_at hl 0 rfl) ?_
      refine r_callVv S hK hA hG (k_X5_ends l _ _ _ _ _) (cwV 1 S.2.2.2.2 gX5_begins_X5_ends rfl rfl rfl (by decide +kernel) ⟨Nat.le_of_ble_eq_true rfl, Nat.le_of_ble_eq_true rfl⟩) (va_recv hK hG.1 (ci := 5) (q0 := 0) rfl rfl) rfl hl.1 rfl (Nat.le_of_ble_eq_true rfl) dX5_begins_176 ⟨Nat.le_of_ble_eq_true rfl, Nat.le_of_ble_eq_true rfl⟩ (fun σ11 H locs e_σ11 hG => ?_)
      have hf := bnd_p e_σ11 hf
      refine lv_goto (tgt := 381) S.1 S.2.1 dX5_begins_179 (by decide) ?_
      exact r_vret S hr hlocks hG _ rfl hf dX5_begins_381
    · have hf := ite_n c_139 hf
      refine lv_aload_n S.1 S.2.1 dX5_begins_142 rfl (lv_at hl 3 rfl) ?_
      refine lv_iconst (v := 3) S.1 S.2.1 dX5_begins_143 (by decide) ?_
      refine r_callVv S hK hA hG (k_X5_fails l _ _ _ _ _) (cwV 1 S.2.2.2.2 gX5_begins_X5_fails rfl rfl rfl (by decide +kernel) ⟨Nat.le_of_ble_eq_true rfl, Nat.le_of_ble_eq_true rfl⟩) (va_recv hK hG.1 (ci := 5) (q0 := 0) rfl rfl) rfl hl.1 rfl (Nat.le_of_ble_eq_true rfl) dX5_begins_144 ⟨Nat.le_of_ble_eq_true rfl, Nat.le_of_ble_eq_true rfl⟩ (fun σ12 H locs e_σ12 hG => ?_)
      have hf := bnd_p e_σ12 hf
      refine lv_goto (tgt := 381) S.1 S.2.1 dX5_begins_147 (by decide) ?_
      exact r_vret S hr hlocks hG _ rfl hf dX5_begins_381
  have hf := ite_n c_43_1 hf
  refine (Decidable.em ((σ5 11 x2.toNatClampNeg) = 2)).elim (fun c_43_2 => ?_) (fun c_43_2 => ?_)
  · have hf := ite_p c_43_2 hf
    refine lv_tableIn (off := 139) (tgt := 182) S.1 S.2.1 dX5_begins_43 (by rw [c_43_2]; decide) (by rw [c_43_2]; decide) (by rw [c_43_2]; rfl) (by decide) ?_
    refine lv_aload_n S.1 S.2.1 dX5_begins_182 rfl (lv_at hl 3 rfl) ?_
    refine lv_iload_n S.1 S.2.1 dX5_begins_183 rfl (lv_at hl 4 rfl) ?_
    refine lv_iconst (v := 0) S.1 S.2.1 dX5_begins_184 (by decide) ?_
    refine lv_iload_n S.1 S.2.1 dX5_begins_185 rfl (lv_at hl 2 rfl) ?_
    refine r_callVv S hK hA hG (k_X5_goOn l _ _ _ _ _ _ _ hat (by rw [e_σ5, e_σ4]; exact ht)) (cwV 3 S.2.2.2.2 gX5_begins_X5_goOn rfl rfl rfl (by decide +kernel) ⟨Nat.le_of_ble_eq_true rfl, Nat.le_of_ble_eq_true rfl⟩) (va_recv hK hG.1 (ci := 5) (q0 := 0) rfl rfl) rfl hl.1 rfl (Nat.le_of_ble_eq_true rfl) dX5_begins_186 ⟨Nat.le_of_ble_eq_true rfl, Nat.le_of_ble_eq_true rfl⟩ (fun σ13 H locs e_σ13 hG => ?_)
    have hf := bnd_p e_σ13 hf
    refine lv_goto (tgt := 381) S.1 S.2.1 dX5_begins_189 (by decide) ?_
    exact r_vret S hr hlocks hG _ rfl hf dX5_begins_381
  have hf := ite_n c_43_2 hf
  refine (Decidable.em ((σ5 11 x2.toNatClampNeg) = 3)).elim (fun c_43_3 => ?_) (fun c_43_3 => ?_)
  · have hf := ite_p c_43_3 hf
    refine lv_tableIn (off := 331) (tgt := 374) S.1 S.2.1 dX5_begins_43 (by rw [c_43_3]; decide) (by rw [c_43_3]; decide) (by rw [c_43_3]; rfl) (by decide) ?_
    refine lv_aload_n S.1 S.2.1 dX5_begins_374 rfl (lv_at hl 3 rfl) ?_
    refine lv_iload_n S.1 S.2.1 dX5_begins_375 rfl (lv_at hl 4 rfl) ?_
    refine lv_iconst (v := 1) S.1 S.2.1 dX5_begins_376 (by decide) ?_
    refine lv_iload_n S.1 S.2.1 dX5_begins_377 rfl (lv_at hl 2 rfl) ?_
    refine r_callVv S hK hA hG (k_X5_goOn l _ _ _ _ _ _ _ hat (by rw [e_σ5, e_σ4]; exact ht)) (cwV 3 S.2.2.2.2 gX5_begins_X5_goOn rfl rfl rfl (by decide +kernel) ⟨Nat.le_of_ble_eq_true rfl, Nat.le_of_ble_eq_true rfl⟩) (va_recv hK hG.1 (ci := 5) (q0 := 0) rfl rfl) rfl hl.1 rfl (Nat.le_of_ble_eq_true rfl) dX5_begins_378 ⟨Nat.le_of_ble_eq_true rfl, Nat.le_of_ble_eq_true rfl⟩ (fun σ14 H locs e_σ14 hG => ?_)
    have hf := bnd_p e_σ14 hf
    exact r_vret S hr hlocks hG _ rfl hf dX5_begins_381
  have hf := ite_n c_43_3 hf
  refine (Decidable.em ((σ5 11 x2.toNatClampNeg) = 4)).elim (fun c_43_4 => ?_) (fun c_43_4 => ?_)
  · have hf := ite_p c_43_4 hf
    refine lv_tableIn (off := 149) (tgt := 192) S.1 S.2.1 dX5_begins_43 (by rw [c_43_4]; decide) (by rw [c_43_4]; decide) (by rw [c_43_4]; rfl) (by decide) ?_
    refine lv_iload S.1 S.2.1 dX5_begins_192 (lv_at hl 1 rfl) ?_
    refine lv_if_ne (tgt := 205) S.1 S.2.1 dX5_begins_194 (by decide) (fun c_194 => ?_) (fun c_194 => ?_)
    · have hf := ite_n c_194 hf
      refine lv_aload_n S.1 S.2.1 dX5_begins_205 rfl (lv_at hl 3 rfl) ?_
      refine lv_iload_n S.1 S.2.1 dX5_begins_206 rfl (lv_at hl 4 rfl) ?_
      refine lv_iconst (v := 1) S.1 S.2.1 dX5_begins_207 (by decide) ?_
      refine lv_iload_n S.1 S.2.1 dX5_begins_208 rfl (lv_at hl 2 rfl) ?_
      refine r_callVv S hK hA hG (k_X5_goOn l _ _ _ _ _ _ _ hat (by rw [e_σ5, e_σ4]; exact ht)) (cwV 3 S.2.2.2.2 gX5_begins_X5_goOn rfl rfl rfl (by decide +kernel) ⟨Nat.le_of_ble_eq_true rfl, Nat.le_of_ble_eq_true rfl⟩) (va_recv hK hG.1 (ci := 5) (q0 := 0) rfl rfl) rfl hl.1 rfl (Nat.le_of_ble_eq_true rfl) dX5_begins_209 ⟨Nat.le_of_ble_eq_true rfl, Nat.le_of_ble_eq_true rfl⟩ (fun σ15 H locs e_σ15 hG => ?_)
      have hf := bnd_p e_σ15 hf
      refine lv_goto (tgt := 381) S.1 S.2.1 dX5_begins_212 (by decide) ?_
      exact r_vret S hr hlocks hG _ rfl hf dX5_begins_381
    · have hf := ite_p c_194 hf
      refine lv_aload_n S.1 S.2.1 dX5_begins_197 rfl (lv_at hl 3 rfl) ?_
      refine lv_iconst (v := 0) S.1 S.2.1 dX5_begins_198 (by decide) ?_
      refine r_callVv S hK hA hG (k_X5_ends l _ _ _ _ _) (cwV 1 S.2.2.2.2 gX5_begins_X5_ends rfl rfl rfl (by decide +kernel) ⟨Nat.le_of_ble_eq_true rfl, Nat.le_of_ble_eq_true rfl⟩) (va_recv hK hG.1 (ci := 5) (q0 := 0) rfl rfl) rfl hl.1 rfl (Nat.le_of_ble_eq_true rfl) dX5_begins_199 ⟨Nat.le_of_ble_eq_true rfl, Nat.le_of_ble_eq_true rfl⟩ (fun σ16 H locs e_σ16 hG => ?_)
      have hf := bnd_p e_σ16 hf
      refine lv_goto (tgt := 381) S.1 S.2.1 dX5_begins_202 (by decide) ?_
      exact r_vret S hr hlocks hG _ rfl hf dX5_begins_381
  have hf := ite_n c_43_4 hf
  refine (Decidable.em ((σ5 11 x2.toNatClampNeg) = 5)).elim (fun c_43_5 => ?_) (fun c_43_5 => ?_)
  · have hf := ite_p c_43_5 hf
    refine lv_tableIn (off := 172) (tgt := 215) S.1 S.2.1 dX5_begins_43 (by rw [c_43_5]; decide) (by rw [c_43_5]; decide) (by rw [c_43_5]; rfl) (by decide) ?_
    refine lv_aload_n S.1 S.2.1 dX5_begins_215 rfl (lv_at hl 3 rfl) ?_
    refine lv_iload_n S.1 S.2.1 dX5_begins_216 rfl (lv_at hl 2 rfl) ?_
    refine lv_aload_n S.1 S.2.1 dX5_begins_217 rfl (lv_at hl 3 rfl) ?_
    refine M_get S hin hK hG 2 (by decide) (by decide +kernel) rfl dX5_begins_218 ?_
    refine lv_iload S.1 S.2.1 dX5_begins_221 (lv_at hl 1 rfl) ?_
    refine lv_iadd S.1 S.2.1 dX5_begins_223 ?_
    refine r_callVv S hK hA hG (k_X5_waits l _ _ _ _ _ _ (by rw [e_σ5, e_σ4]; exact hw)) (cwV 2 S.2.2.2.2 gX5_begins_X5_waits rfl rfl rfl (by decide +kernel) ⟨Nat.le_of_ble_eq_true rfl, Nat.le_of_ble_eq_true rfl⟩) (va_recv hK hG.1 (ci := 5) (q0 := 0) rfl rfl) rfl hl.1 rfl (Nat.le_of_ble_eq_true rfl) dX5_begins_224 ⟨Nat.le_of_ble_eq_true rfl, Nat.le_of_ble_eq_true rfl⟩ (fun σ17 H locs e_σ17 hG => ?_)
    have hf := bnd_p e_σ17 hf
    refine lv_aload_n S.1 S.2.1 dX5_begins_227 rfl (lv_at hl 3 rfl) ?_
    refine lv_iconst (v := 0) S.1 S.2.1 dX5_begins_228 (by decide) ?_
    refine r_callVv S hK hA hG (k_X5_ends l _ _ _ _ _) (cwV 1 S.2.2.2.2 gX5_begins_X5_ends rfl rfl rfl (by decide +kernel) ⟨Nat.le_of_ble_eq_true rfl, Nat.le_of_ble_eq_true rfl⟩) (va_recv hK hG.1 (ci := 5) (q0 := 0) rfl rfl) rfl hl.1 rfl (Nat.le_of_ble_eq_true rfl) dX5_begins_229 ⟨Nat.le_of_ble_eq_true rfl, Nat.le_of_ble_eq_true rfl⟩ (fun σ18 H locs e_σ18 hG => ?_)
    have hf := bnd_p e_σ18 hf
    refine lv_goto (tgt := 381) S.1 S.2.1 dX5_begins_232 (by decide) ?_
    exact r_vret S hr hlocks hG _ rfl hf dX5_begins_381
  have hf := ite_n c_43_5 hf
  refine (Decidable.em ((σ5 11 x2.toNatClampNeg) = 6)).elim (fun c_43_6 => ?_) (fun c_43_6 => ?_)
  · have hf := ite_p c_43_6 hf
    refine lv_tableIn (off := 192) (tgt := 235) S.1 S.2.1 dX5_begins_43 (by rw [c_43_6]; decide) (by rw [c_43_6]; decide) (by rw [c_43_6]; rfl) (by decide) ?_
    refine lv_iconst (v := 0) S.1 S.2.1 dX5_begins_235 (by decide) ?_
    refine lv_istore (lv' := [(6, .int 0), (5, .int v3), (4, .int v2), (3, .int v1), (0, .ref (ad 0)), (1, .int x1), (2, .int x2)]) S.1 S.2.1 dX5_begins_236 hl (by decide) rfl (fun ls hl => ?_)
    exact b_X5_begins_238 S hr hlocks hK hA 7 σ5 x1 x2 v1 0 (hat) (by rw [e_σ5, e_σ4]; exact ht) (⟨0, rfl, by omega, by omega⟩) hf H locs hG ls (lv_sub hl [4, 5, 6, 3, 0] rfl)
  have hf := ite_n c_43_6 hf
  refine (Decidable.em ((σ5 11 x2.toNatClampNeg) = 7)).elim (fun c_43_7 => ?_) (fun c_43_7 => ?_)
  · have hf := ite_p c_43_7 hf
    refine lv_tableIn (off := 237) (tgt := 280) S.1 S.2.1 dX5_begins_43 (by rw [c_43_7]; decide) (by rw [c_43_7]; decide) (by rw [c_43_7]; rfl) (by decide) ?_
    refine lv_iload_n S.1 S.2.1 dX5_begins_280 rfl (lv_at hl 2 rfl) ?_
    refine lv_if_ge (tgt := 337) S.1 S.2.1 dX5_begins_281 (by decide) (fun c_281 => ?_) (fun c_281 => ?_)
    · have hf := ite_p c_281 hf
      refine lv_aload_n S.1 S.2.1 dX5_begins_337 rfl (lv_at hl 3 rfl) ?_
      refine lv_iload_n S.1 S.2.1 dX5_begins_338 rfl (lv_at hl 4 rfl) ?_
      refine lv_iconst (v := 1) S.1 S.2.1 dX5_begins_339 (by decide) ?_
      refine lv_iload_n S.1 S.2.1 dX5_begins_340 rfl (lv_at hl 2 rfl) ?_
      refine r_callVv S hK hA hG (k_X5_goOn l _ _ _ _ _ _ _ hat (by rw [e_σ5, e_σ4]; exact ht)) (cwV 3 S.2.2.2.2 gX5_begins_X5_goOn rfl rfl rfl (by decide +kernel) ⟨Nat.le_of_ble_eq_true rfl, Nat.le_of_ble_eq_true rfl⟩) (va_recv hK hG.1 (ci := 5) (q0 := 0) rfl rfl) rfl hl.1 rfl (Nat.le_of_ble_eq_true rfl) dX5_begins_341 ⟨Nat.le_of_ble_eq_true rfl, Nat.le_of_ble_eq_true rfl⟩ (fun σ19 H locs e_σ19 hG => ?_)
      have hf := bnd_p e_σ19 hf
      refine lv_goto (tgt := 381) S.1 S.2.1 dX5_begins_344 (by decide) ?_
      exact r_vret S hr hlocks hG _ rfl hf dX5_begins_381
    · have hf := ite_n c_281 hf
      refine lv_aload_n S.1 S.2.1 dX5_begins_284 rfl (lv_at hl 3 rfl) ?_
      refine M_get S hin hK hG 26 (by decide) (by decide +kernel) rfl dX5_begins_285 ?_
      refine lv_sipush (v := 300) S.1 S.2.1 dX5_begins_288 (by decide) ?_
      refine lv_icmp_ne (tgt := 298) S.1 S.2.1 dX5_begins_291 (by decide) (fun c_291 => ?_) (fun c_291 => ?_)
      · have hf := ite_n c_291 hf
        refine lv_iconst (v := 0) S.1 S.2.1 dX5_begins_298 (by decide) ?_
        refine lv_istore (lv' := [(6, .int 0), (5, .int v3), (4, .int v2), (3, .int v1), (0, .ref (ad 0)), (1, .int x1), (2, .int x2)]) S.1 S.2.1 dX5_begins_299 hl (by decide) rfl (fun ls hl => ?_)
        refine lv_aload_n S.1 S.2.1 dX5_begins_301 rfl (lv_at hl 4 rfl) ?_
        refine lv_dup S.1 S.2.1 dX5_begins_302 rfl ?_
        refine M_get S hin hK hG 26 (by decide) (by decide +kernel) rfl dX5_begins_303 ?_
        refine lv_iload S.1 S.2.1 dX5_begins_306 (lv_at hl 0 rfl) ?_
        refine lv_if_eq (tgt := 315) S.1 S.2.1 dX5_begins_308 (by decide) (fun _ => ?_) (fun c_ => absurd c_ (by decide))
        refine lv_iconst (v := 1) S.1 S.2.1 dX5_begins_315 (by decide) ?_
        refine lv_iadd S.1 S.2.1 dX5_begins_316 ?_
        refine M_put S hin hK hG 26 (by decide) (by decide +kernel) rfl rfl rfl (RWp_26 _ _ _ _) dX5_begins_317 (fun σ20 H locs e_σ20 hG => ?_)
        have hf := bnd_p e_σ20 hf
        refine lv_aload_n S.1 S.2.1 dX5_begins_320 rfl (lv_at hl 4 rfl) ?_
        refine lv_iload S.1 S.2.1 dX5_begins_321 (lv_at hl 0 rfl) ?_
        refine lv_if_eq (tgt := 330) S.1 S.2.1 dX5_begins_323 (by decide) (fun _ => ?_) (fun c_ => absurd c_ (by decide))
        refine lv_iconst (v := 4) S.1 S.2.1 dX5_begins_330 (by decide) ?_
        refine r_callVv S hK hA hG (k_X5_fails l _ _ _ _ _) (cwV 1 S.2.2.2.2 gX5_begins_X5_fails rfl rfl rfl (by decide +kernel) ⟨Nat.le_of_ble_eq_true rfl, Nat.le_of_ble_eq_true rfl⟩) (va_recv hK hG.1 (ci := 5) (q0 := 0) rfl rfl) rfl hl.1 rfl (Nat.le_of_ble_eq_true rfl) dX5_begins_331 ⟨Nat.le_of_ble_eq_true rfl, Nat.le_of_ble_eq_true rfl⟩ (fun σ21 H locs e_σ21 hG => ?_)
        have hf := bnd_p e_σ21 hf
        refine lv_goto (tgt := 381) S.1 S.2.1 dX5_begins_334 (by decide) ?_
        exact r_vret S hr hlocks hG _ rfl hf dX5_begins_381
      · have hf := ite_p c_291 hf
        refine lv_iconst (v := 1) S.1 S.2.1 dX5_begins_294 (by decide) ?_
        refine lv_goto (tgt := 299) S.1 S.2.1 dX5_begins_295 (by decide) ?_
        refine lv_istore (lv' := [(6, .int 1), (5, .int v3), (4, .int v2), (3, .int v1), (0, .ref (ad 0)), (1, .int x1), (2, .int x2)]) S.1 S.2.1 dX5_begins_299 hl (by decide) rfl (fun ls hl => ?_)
        refine lv_aload_n S.1 S.2.1 dX5_begins_301 rfl (lv_at hl 4 rfl) ?_
        refine lv_dup S.1 S.2.1 dX5_begins_302 rfl ?_
        refine M_get S hin hK hG 26 (by decide) (by decide +kernel) rfl dX5_begins_303 ?_
        refine lv_iload S.1 S.2.1 dX5_begins_306 (lv_at hl 0 rfl) ?_
        refine lv_if_eq (tgt := 315) S.1 S.2.1 dX5_begins_308 (by decide) (fun c_ => absurd c_ (by decide)) (fun _ => ?_)
        refine lv_iconst (v := 0) S.1 S.2.1 dX5_begins_311 (by decide) ?_
        refine lv_goto (tgt := 316) S.1 S.2.1 dX5_begins_312 (by decide) ?_
        refine lv_iadd S.1 S.2.1 dX5_begins_316 ?_
        refine M_put S hin hK hG 26 (by decide) (by decide +kernel) rfl rfl rfl (RWp_26 _ _ _ _) dX5_begins_317 (fun σ22 H locs e_σ22 hG => ?_)
        have hf := bnd_p e_σ22 hf
        refine lv_aload_n S.1 S.2.1 dX5_begins_320 rfl (lv_at hl 4 rfl) ?_
        refine lv_iload S.1 S.2.1 dX5_begins_321 (lv_at hl 0 rfl) ?_
        refine lv_if_eq (tgt := 330) S.1 S.2.1 dX5_begins_323 (by decide) (fun c_ => absurd c_ (by decide)) (fun _ => ?_)
        refine lv_iconst (v := 5) S.1 S.2.1 dX5_begins_326 (by decide) ?_
        refine lv_goto (tgt := 331) S.1 S.2.1 dX5_begins_327 (by decide) ?_
        refine r_callVv S hK hA hG (k_X5_fails l _ _ _ _ _) (cwV 1 S.2.2.2.2 gX5_begins_X5_fails rfl rfl rfl (by decide +kernel) ⟨Nat.le_of_ble_eq_true rfl, Nat.le_of_ble_eq_true rfl⟩) (va_recv hK hG.1 (ci := 5) (q0 := 0) rfl rfl) rfl hl.1 rfl (Nat.le_of_ble_eq_true rfl) dX5_begins_331 ⟨Nat.le_of_ble_eq_true rfl, Nat.le_of_ble_eq_true rfl⟩ (fun σ23 H locs e_σ23 hG => ?_)
        have hf := bnd_p e_σ23 hf
        refine lv_goto (tgt := 381) S.1 S.2.1 dX5_begins_334 (by decide) ?_
        exact r_vret S hr hlocks hG _ rfl hf dX5_begins_381
  have hf := ite_n c_43_7 hf
  refine (Decidable.em ((σ5 11 x2.toNatClampNeg) = 8)).elim (fun c_43_8 => ?_) (fun c_43_8 => ?_)
  · have hf := ite_p c_43_8 hf
    refine lv_tableIn (off := 304) (tgt := 347) S.1 S.2.1 dX5_begins_43 (by rw [c_43_8]; decide) (by rw [c_43_8]; decide) (by rw [c_43_8]; rfl) (by decide) ?_
    refine lv_aload_n S.1 S.2.1 dX5_begins_347 rfl (lv_at hl 3 rfl) ?_
    refine M_get S hin hK hG 0 (by decide) (by decide +kernel) rfl dX5_begins_348 ?_
    refine lv_iload_n S.1 S.2.1 dX5_begins_351 rfl (lv_at hl 2 rfl) ?_
    refine lv_aload_n S.1 S.2.1 dX5_begins_352 rfl (lv_at hl 3 rfl) ?_
    refine M_get S hin hK hG 1 (by decide) (by decide +kernel) rfl dX5_begins_353 ?_
    refine lv_iload S.1 S.2.1 dX5_begins_356 (lv_at hl 1 rfl) ?_
    refine r_iald S hK hG 2 0 rfl rfl (by rw [e_v2]; exact (k8 (by rw [e_σ5, e_σ4] at c_43_8; exact c_43_8)).2) dX5_begins_358 ?_
    refine M_ast S hK hG 1 1 8 rfl (by rw [e_v1]; exact (k8 (by rw [e_σ5, e_σ4] at c_43_8; exact c_43_8)).1) (RWs_1 _ _ _ _ _) dX5_begins_359 (fun σ24 H locs e_σ24 hG => ?_)
    have hf := bnd_p e_σ24 hf
    refine lv_aload_n S.1 S.2.1 dX5_begins_360 rfl (lv_at hl 3 rfl) ?_
    refine lv_aload_n S.1 S.2.1 dX5_begins_361 rfl (lv_at hl 3 rfl) ?_
    refine M_get S hin hK hG 1 (by decide) (by decide +kernel) rfl dX5_begins_362 ?_
    refine lv_iload S.1 S.2.1 dX5_begins_365 (lv_at hl 1 rfl) ?_
    refine r_iald S hK hG 2 0 rfl rfl (by rw [e_v2]; exact (k8 (by rw [e_σ5, e_σ4] at c_43_8; exact c_43_8)).2) dX5_begins_367 ?_
    refine r_callVv S hK hA hG (k_X5_ends l _ _ _ _ _) (cwV 1 S.2.2.2.2 gX5_begins_X5_ends rfl rfl rfl (by decide +kernel) ⟨Nat.le_of_ble_eq_true rfl, Nat.le_of_ble_eq_true rfl⟩) (va_recv hK hG.1 (ci := 5) (q0 := 0) rfl rfl) rfl hl.1 rfl (Nat.le_of_ble_eq_true rfl) dX5_begins_368 ⟨Nat.le_of_ble_eq_true rfl, Nat.le_of_ble_eq_true rfl⟩ (fun σ25 H locs e_σ25 hG => ?_)
    have hf := bnd_p e_σ25 hf
    refine lv_goto (tgt := 381) S.1 S.2.1 dX5_begins_371 (by decide) ?_
    exact r_vret S hr hlocks hG _ rfl hf dX5_begins_381
  have hf := ite_n c_43_8 hf
  refine lv_tableOut (tgt := 374) S.1 S.2.1 dX5_begins_43 (by have h0 := sw_ne (z := 0) rfl c_43_0; have h1 := sw_ne (z := 1) rfl c_43_1; have h2 := sw_ne (z := 2) rfl c_43_2; have h3 := sw_ne (z := 3) rfl c_43_3; have h4 := sw_ne (z := 4) rfl c_43_4; have h5 := sw_ne (z := 5) rfl c_43_5; have h6 := sw_ne (z := 6) rfl c_43_6; have h7 := sw_ne (z := 7) rfl c_43_7; have h8 := sw_ne (z := 8) rfl c_43_8; omega) (by decide) ?_
  refine lv_aload_n S.1 S.2.1 dX5_begins_374 rfl (lv_at hl 3 rfl) ?_
  refine lv_iload_n S.1 S.2.1 dX5_begins_375 rfl (lv_at hl 4 rfl) ?_
  refine lv_iconst (v := 1) S.1 S.2.1 dX5_begins_376 (by decide) ?_
  refine lv_iload_n S.1 S.2.1 dX5_begins_377 rfl (lv_at hl 2 rfl) ?_
  refine r_callVv S hK hA hG (k_X5_goOn l _ _ _ _ _ _ _ hat (by rw [e_σ5, e_σ4]; exact ht)) (cwV 3 S.2.2.2.2 gX5_begins_X5_goOn rfl rfl rfl (by decide +kernel) ⟨Nat.le_of_ble_eq_true rfl, Nat.le_of_ble_eq_true rfl⟩) (va_recv hK hG.1 (ci := 5) (q0 := 0) rfl rfl) rfl hl.1 rfl (Nat.le_of_ble_eq_true rfl) dX5_begins_378 ⟨Nat.le_of_ble_eq_true rfl, Nat.le_of_ble_eq_true rfl⟩ (fun σ26 H locs e_σ26 hG => ?_)
  have hf := bnd_p e_σ26 hf
  exact r_vret S hr hlocks hG _ rfl hf dX5_begins_381
theorem k_X5_begins (l : Launch) (D : va_G) (cI : ClassId) (ad : Nat → Nat) (σ : Mem) (x1 : Int32) (x2 : Int32) (hat : vp_in x1 300) (hxi : vp_in x2 40) (k0 : σ 11 x2.toNatClampNeg = 0 → vp_in (σ 12 x2.toNatClampNeg) 6) (k1 : σ 11 x2.toNatClampNeg = 1 → vp_in (σ 12 x2.toNatClampNeg) 6 ∧ vp_in (σ 13 x2.toNatClampNeg) 6) (k8 : σ 11 x2.toNatClampNeg = 8 → vp_in (σ 12 x2.toNatClampNeg) 8 ∧ vp_in (σ 13 x2.toNatClampNeg) 6) (ht : ¬ σ 0 26 = 300 → vp_in (σ 0 25) 300) (hw : ¬ 60 ≤ σ 0 14 → vp_in (σ 0 14) 60) : CMv l yX5_begins wsX5_begins ({ frames := 2, cells := 0, slots := 0, locals := 45 } : Room) D vwCl [(cI, .int)] (RW ad cI σ) [.ref (ad 0), .int x1, .int x2] (fun (u : Mem) => u = (f_X5_begins σ x1 x2)) (fun u => RW ad cI u) :=
  r_met (by decide) rfl (Nat.le_of_ble_eq_true rfl) (fun p e s m args below meth c ls S hr hlocks _ hK hA hG hl => b_X5_begins_0 S hr hlocks hK hA σ x1 x2 hat hxi k0 k1 k8 ht hw rfl _ _ hG ls hl)
theorem in_X5_goAct : ∀ w ∈ wsX50, w ∈ wsX5_goAct := by decide +kernel
def f_X5_goAct_102 (σ : Mem) (x1 : Int32) (x2 : Int32) (kd : Int32) : Mem :=
  (if (σ 0 35) = 0 then
  (if kd ≤ 5 then
  (if kd = 2 then
  (if (σ 0 34) = 1 then
  bnd (σ 13 x2.toNatClampNeg) fun v14 =>
  (if (σ 30 x1.toNatClampNeg) = 2 then
  bnd (f_X5_passes σ) fun σ17 =>
  σ17
  else
  (if v14 = (-1) then
  bnd (f_X5_ends σ 0) fun σ16 =>
  σ16
  else
  bnd (f_X5_goOn σ x1 1 v14) fun σ15 =>
  σ15))
  else
  bnd (σ 14 x2.toNatClampNeg) fun v10 =>
  (if (σ 30 x1.toNatClampNeg) = 2 then
  bnd (f_X5_passes σ) fun σ13 =>
  σ13
  else
  (if v10 = (-1) then
  bnd (f_X5_ends σ 0) fun σ12 =>
  σ12
  else
  bnd (f_X5_goOn σ x1 1 v10) fun σ11 =>
  σ11)))
  else
  bnd (mset σ 31 x1.toNatClampNeg ((σ 31 x1.toNatClampNeg) + (σ 0 34))) fun σ2 =>
  bnd (mset σ2 32 x1.toNatClampNeg ((σ2 32 x1.toNatClampNeg) + 1)) fun σ3 =>
  (if kd = 3 then
  (if (σ3 32 x1.toNatClampNeg) = 2 then
  bnd (f_X5_ends σ3 (σ3 31 x1.toNatClampNeg)) fun σ9 =>
  σ9
  else
  (if kd = 3 then
  bnd (f_X5_goOn σ3 x1 1 (σ3 13 x2.toNatClampNeg)) fun σ8 =>
  σ8
  else
  bnd (f_X5_goOn σ3 x1 1 (σ3 12 x2.toNatClampNeg)) fun σ7 =>
  σ7))
  else
  (if (σ3 32 x1.toNatClampNeg) = (σ3 13 x2.toNatClampNeg) then
  bnd (f_X5_ends σ3 (σ3 31 x1.toNatClampNeg)) fun σ6 =>
  σ6
  else
  (if kd = 3 then
  bnd (f_X5_goOn σ3 x1 1 (σ3 13 x2.toNatClampNeg)) fun σ5 =>
  σ5
  else
  bnd (f_X5_goOn σ3 x1 1 (σ3 12 x2.toNatClampNeg)) fun σ4 =>
  σ4))))
  else
  bnd (f_X5_passes σ) fun σ18 =>
  σ18)
  else
  bnd (f_X5_passes σ) fun σ1 =>
  σ1)
set_option maxRecDepth 100000 in
set_option maxHeartbeats 4000000 in
theorem b_X5_goAct_102 {p : Program} {l : Launch} {e : Env} {s : State} {m : MethodId} {args : Array Value} {below : List Frame} {meth : Method} {c : Code} {D : va_G} {cI : ClassId} {ad : Nat → Nat} {w0 : va_W} {X : Mem} (S : CallFix p m c cX5_goAct 5 s args wsX5_goAct RX5) (hr : meth.sig.returnType = none) (hlocks : meth.locks = false) (hK : va_K D vwCl [(cI, .int)] s) (hA : ∀ q, s.heap.size ≤ q → va_A w0 s.heap.size q) (σ : Mem) (x1 : Int32) (x2 : Int32) (kd : Int32) (hat : vp_in x1 300) (hxi : vp_in x2 40) (ht : ¬ σ 0 26 = 300 → vp_in (σ 0 25) 300) (hf : f_X5_goAct_102 σ x1 x2 kd = X) (H : Heap) (locs : List Loc) (hG : wI D vwCl (va_A w0 s.heap.size) s.heap H locs (RW ad cI σ)) (ls : Array Slot) (hl : lv_has ls 5 [(0, .ref (ad 0)), (1, .int x1), (2, .int x2), (3, .int kd)]) : W p l e ({ frames := 3, cells := 0, slots := 0, locals := 71 } : Room) s m args below meth c H locs 0 0 (MQ below (va_Qv (fun (u : Mem) => u = X) (fun u t => wPost D vwCl w0 s.heap.size ((fun u => RW ad cI u) u) t) (va_A w0 s.heap.size)) args s 0 0 (va_A w0 s.heap.size)) (F0 m 102 ls []) := by
  have hin := in_X5_goAct
  unfold f_X5_goAct_102 at hf
  refine lv_aload_n S.1 S.2.1 dX5_goAct_102 rfl (lv_at hl 0 rfl) ?_
  refine M_get S hin hK hG 35 (by decide) (by decide +kernel) rfl dX5_goAct_103 ?_
  refine lv_if_ne (tgt := 114) S.1 S.2.1 dX5_goAct_106 (by decide) (fun c_106 => ?_) (fun c_106 => ?_)
  · have hf := ite_n c_106 hf
    refine lv_aload_n S.1 S.2.1 dX5_goAct_114 rfl (lv_at hl 0 rfl) ?_
    refine r_callVv S hK hA hG (k_X5_passes l _ _ _ _) (cwV 0 S.2.2.2.2 gX5_goAct_X5_passes rfl rfl rfl (by decide +kernel) ⟨Nat.le_of_ble_eq_true rfl, Nat.le_of_ble_eq_true rfl⟩) (va_recv hK hG.1 (ci := 5) (q0 := 0) rfl rfl) rfl hl.1 rfl (Nat.le_of_ble_eq_true rfl) dX5_goAct_115 ⟨Nat.le_of_ble_eq_true rfl, Nat.le_of_ble_eq_true rfl⟩ (fun σ1 H locs e_σ1 hG => ?_)
    have hf := bnd_p e_σ1 hf
    exact r_vret S hr hlocks hG _ rfl hf dX5_goAct_118
  · have hf := ite_p c_106 hf
    refine lv_iload_n S.1 S.2.1 dX5_goAct_109 rfl (lv_at hl 3 rfl) ?_
    refine lv_iconst (v := 5) S.1 S.2.1 dX5_goAct_110 (by decide) ?_
    refine lv_icmp_le (tgt := 119) S.1 S.2.1 dX5_goAct_111 (by decide) (fun c_111 => ?_) (fun c_111 => ?_)
    · have hf := ite_p c_111 hf
      refine lv_iload_n S.1 S.2.1 dX5_goAct_119 rfl (lv_at hl 3 rfl) ?_
      refine lv_iconst (v := 2) S.1 S.2.1 dX5_goAct_120 (by decide) ?_
      refine lv_icmp_ne (tgt := 189) S.1 S.2.1 dX5_goAct_121 (by decide) (fun c_121 => ?_) (fun c_121 => ?_)
      · have hf := ite_n c_121 hf
        refine lv_aload_n S.1 S.2.1 dX5_goAct_189 rfl (lv_at hl 0 rfl) ?_
        refine M_get S hin hK hG 30 (by decide) (by decide +kernel) rfl dX5_goAct_190 ?_
        refine lv_iload_n S.1 S.2.1 dX5_goAct_193 rfl (lv_at hl 1 rfl) ?_
        refine lv_dup2_11 S.1 S.2.1 dX5_goAct_194 rfl rfl ?_
        refine r_iald S hK hG 20 0 rfl rfl hat dX5_goAct_195 ?_
        refine lv_aload_n S.1 S.2.1 dX5_goAct_196 rfl (lv_at hl 0 rfl) ?_
        refine M_get S hin hK hG 34 (by decide) (by decide +kernel) rfl dX5_goAct_197 ?_
        refine lv_iadd S.1 S.2.1 dX5_goAct_200 ?_
        refine M_ast S hK hG 31 20 300 rfl hat (RWs_31 _ _ _ _ _) dX5_goAct_201 (fun σ2 H locs e_σ2 hG => ?_)
        have hf := bnd_p e_σ2 hf
        refine lv_aload_n S.1 S.2.1 dX5_goAct_202 rfl (lv_at hl 0 rfl) ?_
        refine M_get S hin hK hG 31 (by decide) (by decide +kernel) rfl dX5_goAct_203 ?_
        refine lv_iload_n S.1 S.2.1 dX5_goAct_206 rfl (lv_at hl 1 rfl) ?_
        refine lv_dup2_11 S.1 S.2.1 dX5_goAct_207 rfl rfl ?_
        refine r_iald S hK hG 21 0 rfl rfl hat dX5_goAct_208 ?_
        refine lv_iconst (v := 1) S.1 S.2.1 dX5_goAct_209 (by decide) ?_
        refine lv_iadd S.1 S.2.1 dX5_goAct_210 ?_
        refine M_ast S hK hG 32 21 300 rfl hat (RWs_32 _ _ _ _ _) dX5_goAct_211 (fun σ3 H locs e_σ3 hG => ?_)
        have hf := bnd_p e_σ3 hf
        refine lv_aload_n S.1 S.2.1 dX5_goAct_212 rfl (lv_at hl 0 rfl) ?_
        refine M_get S hin hK hG 31 (by decide) (by decide +kernel) rfl dX5_goAct_213 ?_
        refine lv_iload_n S.1 S.2.1 dX5_goAct_216 rfl (lv_at hl 1 rfl) ?_
        refine r_iald S hK hG 21 0 rfl rfl hat dX5_goAct_217 ?_
        refine lv_iload_n S.1 S.2.1 dX5_goAct_218 rfl (lv_at hl 3 rfl) ?_
        refine lv_iconst (v := 3) S.1 S.2.1 dX5_goAct_219 (by decide) ?_
        refine lv_icmp_ne (tgt := 227) S.1 S.2.1 dX5_goAct_220 (by decide) (fun c_220 => ?_) (fun c_220 => ?_)
        · have hf := ite_n c_220 hf
          refine lv_aload_n S.1 S.2.1 dX5_goAct_227 rfl (lv_at hl 0 rfl) ?_
          refine M_get S hin hK hG 12 (by decide) (by decide +kernel) rfl dX5_goAct_228 ?_
          refine lv_iload_n S.1 S.2.1 dX5_goAct_231 rfl (lv_at hl 2 rfl) ?_
          refine r_iald S hK hG 10 0 rfl rfl hxi dX5_goAct_232 ?_
          refine lv_icmp_ne (tgt := 249) S.1 S.2.1 dX5_goAct_233 (by decide) (fun c_233 => ?_) (fun c_233 => ?_)
          · have hf := ite_n c_233 hf
            refine lv_aload_n S.1 S.2.1 dX5_goAct_249 rfl (lv_at hl 0 rfl) ?_
            refine lv_iload_n S.1 S.2.1 dX5_goAct_250 rfl (lv_at hl 1 rfl) ?_
            refine lv_iconst (v := 1) S.1 S.2.1 dX5_goAct_251 (by decide) ?_
            refine lv_iload_n S.1 S.2.1 dX5_goAct_252 rfl (lv_at hl 3 rfl) ?_
            refine lv_iconst (v := 3) S.1 S.2.1 dX5_goAct_253 (by decide) ?_
            refine lv_icmp_ne (tgt := 266) S.1 S.2.1 dX5_goAct_254 (by decide) (fun c_254 => ?_) (fun c_254 => ?_)
            · have hf := ite_n c_254 hf
              refine lv_aload_n S.1 S.2.1 dX5_goAct_266 rfl (lv_at hl 0 rfl) ?_
              refine M_get S hin hK hG 11 (by decide) (by decide +kernel) rfl dX5_goAct_267 ?_
              refine lv_iload_n S.1 S.2.1 dX5_goAct_270 rfl (lv_at hl 2 rfl) ?_
              refine r_iald S hK hG 9 0 rfl rfl hxi dX5_goAct_271 ?_
              refine r_callVv S hK hA hG (k_X5_goOn l _ _ _ _ _ _ _ hat (by rw [e_σ3, e_σ2]; exact ht)) (cwV 3 S.2.2.2.2 gX5_goAct_X5_goOn rfl rfl rfl (by decide +kernel) ⟨Nat.le_of_ble_eq_true rfl, Nat.le_of_ble_eq_true rfl⟩) (va_recv hK hG.1 (ci := 5) (q0 := 0) rfl rfl) rfl hl.1 rfl (Nat.le_of_ble_eq_true rfl) dX5_goAct_272 ⟨Nat.le_of_ble_eq_true rfl, Nat.le_of_ble_eq_true rfl⟩ (fun σ4 H locs e_σ4 hG => ?_)
              have hf := bnd_p e_σ4 hf
              exact r_vret S hr hlocks hG _ rfl hf dX5_goAct_275
            · have hf := ite_p c_254 hf
              refine lv_aload_n S.1 S.2.1 dX5_goAct_257 rfl (lv_at hl 0 rfl) ?_
              refine M_get S hin hK hG 12 (by decide) (by decide +kernel) rfl dX5_goAct_258 ?_
              refine lv_iload_n S.1 S.2.1 dX5_goAct_261 rfl (lv_at hl 2 rfl) ?_
              refine r_iald S hK hG 10 0 rfl rfl hxi dX5_goAct_262 ?_
              refine lv_goto (tgt := 272) S.1 S.2.1 dX5_goAct_263 (by decide) ?_
              refine r_callVv S hK hA hG (k_X5_goOn l _ _ _ _ _ _ _ hat (by rw [e_σ3, e_σ2]; exact ht)) (cwV 3 S.2.2.2.2 gX5_goAct_X5_goOn rfl rfl rfl (by decide +kernel) ⟨Nat.le_of_ble_eq_true rfl, Nat.le_of_ble_eq_true rfl⟩) (va_recv hK hG.1 (ci := 5) (q0 := 0) rfl rfl) rfl hl.1 rfl (Nat.le_of_ble_eq_true rfl) dX5_goAct_272 ⟨Nat.le_of_ble_eq_true rfl, Nat.le_of_ble_eq_true rfl⟩ (fun σ5 H locs e_σ5 hG => ?_)
              have hf := bnd_p e_σ5 hf
              exact r_vret S hr hlocks hG _ rfl hf dX5_goAct_275
          · have hf := ite_p c_233 hf
            refine lv_aload_n S.1 S.2.1 dX5_goAct_236 rfl (lv_at hl 0 rfl) ?_
            refine lv_aload_n S.1 S.2.1 dX5_goAct_237 rfl (lv_at hl 0 rfl) ?_
            refine M_get S hin hK hG 30 (by decide) (by decide +kernel) rfl dX5_goAct_238 ?_
            refine lv_iload_n S.1 S.2.1 dX5_goAct_241 rfl (lv_at hl 1 rfl) ?_
            refine r_iald S hK hG 20 0 rfl rfl hat dX5_goAct_242 ?_
            refine r_callVv S hK hA hG (k_X5_ends l _ _ _ _ _) (cwV 1 S.2.2.2.2 gX5_goAct_X5_ends rfl rfl rfl (by decide +kernel) ⟨Nat.le_of_ble_eq_true rfl, Nat.le_of_ble_eq_true rfl⟩) (va_recv hK hG.1 (ci := 5) (q0 := 0) rfl rfl) rfl hl.1 rfl (Nat.le_of_ble_eq_true rfl) dX5_goAct_243 ⟨Nat.le_of_ble_eq_true rfl, Nat.le_of_ble_eq_true rfl⟩ (fun σ6 H locs e_σ6 hG => ?_)
            have hf := bnd_p e_σ6 hf
            refine lv_goto (tgt := 275) S.1 S.2.1 dX5_goAct_246 (by decide) ?_
            exact r_vret S hr hlocks hG _ rfl hf dX5_goAct_275
        · have hf := ite_p c_220 hf
          refine lv_iconst (v := 2) S.1 S.2.1 dX5_goAct_223 (by decide) ?_
          refine lv_goto (tgt := 233) S.1 S.2.1 dX5_goAct_224 (by decide) ?_
          refine lv_icmp_ne (tgt := 249) S.1 S.2.1 dX5_goAct_233 (by decide) (fun c_233 => ?_) (fun c_233 => ?_)
          · have hf := ite_n c_233 hf
            refine lv_aload_n S.1 S.2.1 dX5_goAct_249 rfl (lv_at hl 0 rfl) ?_
            refine lv_iload_n S.1 S.2.1 dX5_goAct_250 rfl (lv_at hl 1 rfl) ?_
            refine lv_iconst (v := 1) S.1 S.2.1 dX5_goAct_251 (by decide) ?_
            refine lv_iload_n S.1 S.2.1 dX5_goAct_252 rfl (lv_at hl 3 rfl) ?_
            refine lv_iconst (v := 3) S.1 S.2.1 dX5_goAct_253 (by decide) ?_
            refine lv_icmp_ne (tgt := 266) S.1 S.2.1 dX5_goAct_254 (by decide) (fun c_254 => ?_) (fun c_254 => ?_)
            · have hf := ite_n c_254 hf
              refine lv_aload_n S.1 S.2.1 dX5_goAct_266 rfl (lv_at hl 0 rfl) ?_
              refine M_get S hin hK hG 11 (by decide) (by decide +kernel) rfl dX5_goAct_267 ?_
              refine lv_iload_n S.1 S.2.1 dX5_goAct_270 rfl (lv_at hl 2 rfl) ?_
              refine r_iald S hK hG 9 0 rfl rfl hxi dX5_goAct_271 ?_
              refine r_callVv S hK hA hG (k_X5_goOn l _ _ _ _ _ _ _ hat (by rw [e_σ3, e_σ2]; exact ht)) (cwV 3 S.2.2.2.2 gX5_goAct_X5_goOn rfl rfl rfl (by decide +kernel) ⟨Nat.le_of_ble_eq_true rfl, Nat.le_of_ble_eq_true rfl⟩) (va_recv hK hG.1 (ci := 5) (q0 := 0) rfl rfl) rfl hl.1 rfl (Nat.le_of_ble_eq_true rfl) dX5_goAct_272 ⟨Nat.le_of_ble_eq_true rfl, Nat.le_of_ble_eq_true rfl⟩ (fun σ7 H locs e_σ7 hG => ?_)
              have hf := bnd_p e_σ7 hf
              exact r_vret S hr hlocks hG _ rfl hf dX5_goAct_275
            · have hf := ite_p c_254 hf
              refine lv_aload_n S.1 S.2.1 dX5_goAct_257 rfl (lv_at hl 0 rfl) ?_
              refine M_get S hin hK hG 12 (by decide) (by decide +kernel) rfl dX5_goAct_258 ?_
              refine lv_iload_n S.1 S.2.1 dX5_goAct_261 rfl (lv_at hl 2 rfl) ?_
              refine r_iald S hK hG 10 0 rfl rfl hxi dX5_goAct_262 ?_
              refine lv_goto (tgt := 272) S.1 S.2.1 dX5_goAct_263 (by decide) ?_
              refine r_callVv S hK hA hG (k_X5_goOn l _ _ _ _ _ _ _ hat (by rw [e_σ3, e_σ2]; exact ht)) (cwV 3 S.2.2.2.2 gX5_goAct_X5_goOn rfl rfl rfl (by decide +kernel) ⟨Nat.le_of_ble_eq_true rfl, Nat.le_of_ble_eq_true rfl⟩) (va_recv hK hG.1 (ci := 5) (q0 := 0) rfl rfl) rfl hl.1 rfl (Nat.le_of_ble_eq_true rfl) dX5_goAct_272 ⟨Nat.le_of_ble_eq_true rfl, Nat.le_of_ble_eq_true rfl⟩ (fun σ8 H locs e_σ8 hG => ?_)
              have hf := bnd_p e_σ8 hf
              exact r_vret S hr hlocks hG _ rfl hf dX5_goAct_275
          · have hf := ite_p c_233 hf
            refine lv_aload_n S.1 S.2.1 dX5_goAct_236 rfl (lv_at hl 0 rfl) ?_
            refine lv_aload_n S.1 S.2.1 dX5_goAct_237 rfl (lv_at hl 0 rfl) ?_
            refine M_get S hin hK hG 30 (by decide) (by decide +kernel) rfl dX5_goAct_238 ?_
            refine lv_iload_n S.1 S.2.1 dX5_goAct_241 rfl (lv_at hl 1 rfl) ?_
            refine r_iald S hK hG 20 0 rfl rfl hat dX5_goAct_242 ?_
            refine r_callVv S hK hA hG (k_X5_ends l _ _ _ _ _) (cwV 1 S.2.2.2.2 gX5_goAct_X5_ends rfl rfl rfl (by decide +kernel) ⟨Nat.le_of_ble_eq_true rfl, Nat.le_of_ble_eq_true rfl⟩) (va_recv hK hG.1 (ci := 5) (q0 := 0) rfl rfl) rfl hl.1 rfl (Nat.le_of_ble_eq_true rfl) dX5_goAct_243 ⟨Nat.le_of_ble_eq_true rfl, Nat.le_of_ble_eq_true rfl⟩ (fun σ9 H locs e_σ9 hG => ?_)
            have hf := bnd_p e_σ9 hf
            refine lv_goto (tgt := 275) S.1 S.2.1 dX5_goAct_246 (by decide) ?_
            exact r_vret S hr hlocks hG _ rfl hf dX5_goAct_275
      · have hf := ite_p c_121 hf
        refine lv_aload_n S.1 S.2.1 dX5_goAct_124 rfl (lv_at hl 0 rfl) ?_
        refine M_get S hin hK hG 34 (by decide) (by decide +kernel) rfl dX5_goAct_125 ?_
        refine lv_iconst (v := 1) S.1 S.2.1 dX5_goAct_128 (by decide) ?_
        refine lv_icmp_ne (tgt := 141) S.1 S.2.1 dX5_goAct_129 (by decide) (fun c_129 => ?_) (fun c_129 => ?_)
        · have hf := ite_n c_129 hf
          refine lv_aload_n S.1 S.2.1 dX5_goAct_141 rfl (lv_at hl 0 rfl) ?_
          refine M_get S hin hK hG 13 (by decide) (by decide +kernel) rfl dX5_goAct_142 ?_
          refine lv_iload_n S.1 S.2.1 dX5_goAct_145 rfl (lv_at hl 2 rfl) ?_
          refine r_iald S hK hG 11 0 rfl rfl hxi dX5_goAct_146 ?_
          refine lv_topi (fun v10 e_v10 => ?_)
          have hf := bnd_p e_v10 hf
          refine lv_istore (lv' := [(4, .int v10), (0, .ref (ad 0)), (1, .int x1), (2, .int x2), (3, .int kd)]) S.1 S.2.1 dX5_goAct_147 hl (by decide) rfl (fun ls hl => ?_)
          refine lv_aload_n S.1 S.2.1 dX5_goAct_149 rfl (lv_at hl 1 rfl) ?_
          refine M_get S hin hK hG 29 (by decide) (by decide +kernel) rfl dX5_goAct_150 ?_
          refine lv_iload_n S.1 S.2.1 dX5_goAct_153 rfl (lv_at hl 2 rfl) ?_
          refine r_iald S hK hG 19 0 rfl rfl hat dX5_goAct_154 ?_
          refine lv_iconst (v := 2) S.1 S.2.1 dX5_goAct_155 (by decide) ?_
          refine lv_icmp_ne (tgt := 166) S.1 S.2.1 dX5_goAct_156 (by decide) (fun c_156 => ?_) (fun c_156 => ?_)
          · have hf := ite_n c_156 hf
            refine lv_iload S.1 S.2.1 dX5_goAct_166 (lv_at hl 0 rfl) ?_
            refine lv_iconst (v := (-1)) S.1 S.2.1 dX5_goAct_168 (by decide) ?_
            refine lv_icmp_ne (tgt := 180) S.1 S.2.1 dX5_goAct_169 (by decide) (fun c_169 => ?_) (fun c_169 => ?_)
            · have hf := ite_n c_169 hf
              refine lv_aload_n S.1 S.2.1 dX5_goAct_180 rfl (lv_at hl 1 rfl) ?_
              refine lv_iload_n S.1 S.2.1 dX5_goAct_181 rfl (lv_at hl 2 rfl) ?_
              refine lv_iconst (v := 1) S.1 S.2.1 dX5_goAct_182 (by decide) ?_
              refine lv_iload S.1 S.2.1 dX5_goAct_183 (lv_at hl 0 rfl) ?_
              refine r_callVv S hK hA hG (k_X5_goOn l _ _ _ _ _ _ _ hat ht) (cwV 3 S.2.2.2.2 gX5_goAct_X5_goOn rfl rfl rfl (by decide +kernel) ⟨Nat.le_of_ble_eq_true rfl, Nat.le_of_ble_eq_true rfl⟩) (va_recv hK hG.1 (ci := 5) (q0 := 0) rfl rfl) rfl hl.1 rfl (Nat.le_of_ble_eq_true rfl) dX5_goAct_185 ⟨Nat.le_of_ble_eq_true rfl, Nat.le_of_ble_eq_true rfl⟩ (fun σ11 H locs e_σ11 hG => ?_)
              have hf := bnd_p e_σ11 hf
              exact r_vret S hr hlocks hG _ rfl hf dX5_goAct_188
            · have hf := ite_p c_169 hf
              refine lv_aload_n S.1 S.2.1 dX5_goAct_172 rfl (lv_at hl 1 rfl) ?_
              refine lv_iconst (v := 0) S.1 S.2.1 dX5_goAct_173 (by decide) ?_
              refine r_callVv S hK hA hG (k_X5_ends l _ _ _ _ _) (cwV 1 S.2.2.2.2 gX5_goAct_X5_ends rfl rfl rfl (by decide +kernel) ⟨Nat.le_of_ble_eq_true rfl, Nat.le_of_ble_eq_true rfl⟩) (va_recv hK hG.1 (ci := 5) (q0 := 0) rfl rfl) rfl hl.1 rfl (Nat.le_of_ble_eq_true rfl) dX5_goAct_174 ⟨Nat.le_of_ble_eq_true rfl, Nat.le_of_ble_eq_true rfl⟩ (fun σ12 H locs e_σ12 hG => ?_)
              have hf := bnd_p e_σ12 hf
              refine lv_goto (tgt := 188) S.1 S.2.1 dX5_goAct_177 (by decide) ?_
              exact r_vret S hr hlocks hG _ rfl hf dX5_goAct_188
          · have hf := ite_p c_156 hf
            refine lv_aload_n S.1 S.2.1 dX5_goAct_159 rfl (lv_at hl 1 rfl) ?_
            refine r_callVv S hK hA hG (k_X5_passes l _ _ _ _) (cwV 0 S.2.2.2.2 gX5_goAct_X5_passes rfl rfl rfl (by decide +kernel) ⟨Nat.le_of_ble_eq_true rfl, Nat.le_of_ble_eq_true rfl⟩) (va_recv hK hG.1 (ci := 5) (q0 := 0) rfl rfl) rfl hl.1 rfl (Nat.le_of_ble_eq_true rfl) dX5_goAct_160 ⟨Nat.le_of_ble_eq_true rfl, Nat.le_of_ble_eq_true rfl⟩ (fun σ13 H locs e_σ13 hG => ?_)
            have hf := bnd_p e_σ13 hf
            refine lv_goto (tgt := 188) S.1 S.2.1 dX5_goAct_163 (by decide) ?_
            exact r_vret S hr hlocks hG _ rfl hf dX5_goAct_188
        · have hf := ite_p c_129 hf
          refine lv_aload_n S.1 S.2.1 dX5_goAct_132 rfl (lv_at hl 0 rfl) ?_
          refine M_get S hin hK hG 12 (by decide) (by decide +kernel) rfl dX5_goAct_133 ?_
          refine lv_iload_n S.1 S.2.1 dX5_goAct_136 rfl (lv_at hl 2 rfl) ?_
          refine r_iald S hK hG 10 0 rfl rfl hxi dX5_goAct_137 ?_
          refine lv_goto (tgt := 147) S.1 S.2.1 dX5_goAct_138 (by decide) ?_
          refine lv_topi (fun v14 e_v14 => ?_)
          have hf := bnd_p e_v14 hf
          refine lv_istore (lv' := [(4, .int v14), (0, .ref (ad 0)), (1, .int x1), (2, .int x2), (3, .int kd)]) S.1 S.2.1 dX5_goAct_147 hl (by decide) rfl (fun ls hl => ?_)
          refine lv_aload_n S.1 S.2.1 dX5_goAct_149 rfl (lv_at hl 1 rfl) ?_
          refine M_get S hin hK hG 29 (by decide) (by decide +kernel) rfl dX5_goAct_150 ?_
          refine lv_iload_n S.1 S.2.1 dX5_goAct_153 rfl (lv_at hl 2 rfl) ?_
          refine r_iald S hK hG 19 0 rfl rfl hat dX5_goAct_154 ?_
          refine lv_iconst (v := 2) S.1 S.2.1 dX5_goAct_155 (by decide) ?_
          refine lv_icmp_ne (tgt := 166) S.1 S.2.1 dX5_goAct_156 (by decide) (fun c_156 => ?_) (fun c_156 => ?_)
          · have hf := ite_n c_156 hf
            refine lv_iload S.1 S.2.1 dX5_goAct_166 (lv_at hl 0 rfl) ?_
            refine lv_iconst (v := (-1)) S.1 S.2.1 dX5_goAct_168 (by decide) ?_
            refine lv_icmp_ne (tgt := 180) S.1 S.2.1 dX5_goAct_169 (by decide) (fun c_169 => ?_) (fun c_169 => ?_)
            · have hf := ite_n c_169 hf
              refine lv_aload_n S.1 S.2.1 dX5_goAct_180 rfl (lv_at hl 1 rfl) ?_
              refine lv_iload_n S.1 S.2.1 dX5_goAct_181 rfl (lv_at hl 2 rfl) ?_
              refine lv_iconst (v := 1) S.1 S.2.1 dX5_goAct_182 (by decide) ?_
              refine lv_iload S.1 S.2.1 dX5_goAct_183 (lv_at hl 0 rfl) ?_
              refine r_callVv S hK hA hG (k_X5_goOn l _ _ _ _ _ _ _ hat ht) (cwV 3 S.2.2.2.2 gX5_goAct_X5_goOn rfl rfl rfl (by decide +kernel) ⟨Nat.le_of_ble_eq_true rfl, Nat.le_of_ble_eq_true rfl⟩) (va_recv hK hG.1 (ci := 5) (q0 := 0) rfl rfl) rfl hl.1 rfl (Nat.le_of_ble_eq_true rfl) dX5_goAct_185 ⟨Nat.le_of_ble_eq_true rfl, Nat.le_of_ble_eq_true rfl⟩ (fun σ15 H locs e_σ15 hG => ?_)
              have hf := bnd_p e_σ15 hf
              exact r_vret S hr hlocks hG _ rfl hf dX5_goAct_188
            · have hf := ite_p c_169 hf
              refine lv_aload_n S.1 S.2.1 dX5_goAct_172 rfl (lv_at hl 1 rfl) ?_
              refine lv_iconst (v := 0) S.1 S.2.1 dX5_goAct_173 (by decide) ?_
              refine r_callVv S hK hA hG (k_X5_ends l _ _ _ _ _) (cwV 1 S.2.2.2.2 gX5_goAct_X5_ends rfl rfl rfl (by decide +kernel) ⟨Nat.le_of_ble_eq_true rfl, Nat.le_of_ble_eq_true rfl⟩) (va_recv hK hG.1 (ci := 5) (q0 := 0) rfl rfl) rfl hl.1 rfl (Nat.le_of_ble_eq_true rfl) dX5_goAct_174 ⟨Nat.le_of_ble_eq_true rfl, Nat.le_of_ble_eq_true rfl⟩ (fun σ16 H locs e_σ16 hG => ?_)
              have hf := bnd_p e_σ16 hf
              refine lv_goto (tgt := 188) S.1 S.2.1 dX5_goAct_177 (by decide) ?_
              exact r_vret S hr hlocks hG _ rfl hf dX5_goAct_188
          · have hf := ite_p c_156 hf
            refine lv_aload_n S.1 S.2.1 dX5_goAct_159 rfl (lv_at hl 1 rfl) ?_
            refine r_callVv S hK hA hG (k_X5_passes l _ _ _ _) (cwV 0 S.2.2.2.2 gX5_goAct_X5_passes rfl rfl rfl (by decide +kernel) ⟨Nat.le_of_ble_eq_true rfl, Nat.le_of_ble_eq_true rfl⟩) (va_recv hK hG.1 (ci := 5) (q0 := 0) rfl rfl) rfl hl.1 rfl (Nat.le_of_ble_eq_true rfl) dX5_goAct_160 ⟨Nat.le_of_ble_eq_true rfl, Nat.le_of_ble_eq_true rfl⟩ (fun σ17 H locs e_σ17 hG => ?_)
            have hf := bnd_p e_σ17 hf
            refine lv_goto (tgt := 188) S.1 S.2.1 dX5_goAct_163 (by decide) ?_
            exact r_vret S hr hlocks hG _ rfl hf dX5_goAct_188
    · have hf := ite_n c_111 hf
      refine lv_aload_n S.1 S.2.1 dX5_goAct_114 rfl (lv_at hl 0 rfl) ?_
      refine r_callVv S hK hA hG (k_X5_passes l _ _ _ _) (cwV 0 S.2.2.2.2 gX5_goAct_X5_passes rfl rfl rfl (by decide +kernel) ⟨Nat.le_of_ble_eq_true rfl, Nat.le_of_ble_eq_true rfl⟩) (va_recv hK hG.1 (ci := 5) (q0 := 0) rfl rfl) rfl hl.1 rfl (Nat.le_of_ble_eq_true rfl) dX5_goAct_115 ⟨Nat.le_of_ble_eq_true rfl, Nat.le_of_ble_eq_true rfl⟩ (fun σ18 H locs e_σ18 hG => ?_)
      have hf := bnd_p e_σ18 hf
      exact r_vret S hr hlocks hG _ rfl hf dX5_goAct_118
def f_X5_goAct_57 : Nat → Mem → Int32 → Int32 → Int32 → Int32 → Mem
  | 0, σ, _, _, _, _ => σ
  | n + 1, σ, x1, x2, kd, t =>
  (if 6 ≤ t then
  bnd (f_X5_goOn σ x1 1 (σ 13 x2.toNatClampNeg)) fun σ1 =>
  σ1
  else
  bnd (mset σ 2 t.toNatClampNeg (σ 33 ((6 * x1) + t).toNatClampNeg)) fun σ2 =>
  bnd (t + 1) fun v3 =>
  f_X5_goAct_57 n σ2 x1 x2 kd v3)
set_option maxRecDepth 100000 in
set_option maxHeartbeats 4000000 in
theorem b_X5_goAct_57 {p : Program} {l : Launch} {e : Env} {s : State} {m : MethodId} {args : Array Value} {below : List Frame} {meth : Method} {c : Code} {D : va_G} {cI : ClassId} {ad : Nat → Nat} {w0 : va_W} {X : Mem} (S : CallFix p m c cX5_goAct 5 s args wsX5_goAct RX5) (hr : meth.sig.returnType = none) (hlocks : meth.locks = false) (hK : va_K D vwCl [(cI, .int)] s) (hA : ∀ q, s.heap.size ≤ q → va_A w0 s.heap.size q) : ∀ (n : Nat) (σ : Mem) (x1 : Int32) (x2 : Int32) (kd : Int32) (t : Int32) (hat : vp_in x1 300) (hxi : vp_in x2 40) (ht : ¬ σ 0 26 = 300 → vp_in (σ 0 25) 300) (hi : ∃ k : Nat, t = nI k ∧ k ≤ 6 ∧ 7 ≤ k + n), f_X5_goAct_57 n σ x1 x2 kd t = X → ∀ (H : Heap) (locs : List Loc), wI D vwCl (va_A w0 s.heap.size) s.heap H locs (RW ad cI σ) → ∀ (ls : Array Slot), lv_has ls 5 [(0, .ref (ad 0)), (1, .int x1), (2, .int x2), (3, .int kd), (4, .int t)] → W p l e ({ frames := 3, cells := 0, slots := 0, locals := 71 } : Room) s m args below meth c H locs 0 0 (MQ below (va_Qv (fun (u : Mem) => u = X) (fun u t => wPost D vwCl w0 s.heap.size ((fun u => RW ad cI u) u) t) (va_A w0 s.heap.size)) args s 0 0 (va_A w0 s.heap.size)) (F0 m 57 ls []) := by
  have hin := in_X5_goAct
  intro n
  induction n with
  | zero =>
    intro σ x1 x2 kd t hat hxi ht hi
    exact (by obtain ⟨k, -, h1, h2⟩ := hi; omega)
  | succ n ih =>
    intro σ x1 x2 kd t hat hxi ht hi hf H locs hG ls hl
    unfold f_X5_goAct_57 at hf
    refine lv_iload S.1 S.2.1 dX5_goAct_57 (lv_at hl 4 rfl) ?_
    refine lv_bipush (v := 6) S.1 S.2.1 dX5_goAct_59 (by decide) ?_
    refine lv_icmp_ge (tgt := 89) S.1 S.2.1 dX5_goAct_61 (by decide) (fun c_61 => ?_) (fun c_61 => ?_)
    · have hf := ite_p c_61 hf
      refine lv_aload_n S.1 S.2.1 dX5_goAct_89 rfl (lv_at hl 0 rfl) ?_
      refine lv_iload_n S.1 S.2.1 dX5_goAct_90 rfl (lv_at hl 1 rfl) ?_
      refine lv_iconst (v := 1) S.1 S.2.1 dX5_goAct_91 (by decide) ?_
      refine lv_aload_n S.1 S.2.1 dX5_goAct_92 rfl (lv_at hl 0 rfl) ?_
      refine M_get S hin hK hG 12 (by decide) (by decide +kernel) rfl dX5_goAct_93 ?_
      refine lv_iload_n S.1 S.2.1 dX5_goAct_96 rfl (lv_at hl 2 rfl) ?_
      refine r_iald S hK hG 10 0 rfl rfl hxi dX5_goAct_97 ?_
      refine r_callVv S hK hA hG (k_X5_goOn l _ _ _ _ _ _ _ hat ht) (cwV 3 S.2.2.2.2 gX5_goAct_X5_goOn rfl rfl rfl (by decide +kernel) ⟨Nat.le_of_ble_eq_true rfl, Nat.le_of_ble_eq_true rfl⟩) (va_recv hK hG.1 (ci := 5) (q0 := 0) rfl rfl) rfl hl.1 rfl (Nat.le_of_ble_eq_true rfl) dX5_goAct_98 ⟨Nat.le_of_ble_eq_true rfl, Nat.le_of_ble_eq_true rfl⟩ (fun σ1 H locs e_σ1 hG => ?_)
      have hf := bnd_p e_σ1 hf
      exact r_vret S hr hlocks hG _ rfl hf dX5_goAct_101
    · have hf := ite_n c_61 hf
      refine lv_aload_n S.1 S.2.1 dX5_goAct_64 rfl (lv_at hl 0 rfl) ?_
      refine M_get S hin hK hG 1 (by decide) (by decide +kernel) rfl dX5_goAct_65 ?_
      refine lv_iload S.1 S.2.1 dX5_goAct_68 (lv_at hl 4 rfl) ?_
      refine lv_aload_n S.1 S.2.1 dX5_goAct_70 rfl (lv_at hl 0 rfl) ?_
      refine M_get S hin hK hG 32 (by decide) (by decide +kernel) rfl dX5_goAct_71 ?_
      refine lv_bipush (v := 6) S.1 S.2.1 dX5_goAct_74 (by decide) ?_
      refine lv_iload_n S.1 S.2.1 dX5_goAct_76 rfl (lv_at hl 1 rfl) ?_
      refine lv_imul S.1 S.2.1 dX5_goAct_77 ?_
      refine lv_iload S.1 S.2.1 dX5_goAct_78 (lv_at hl 4 rfl) ?_
      refine lv_iadd S.1 S.2.1 dX5_goAct_80 ?_
      refine r_iald S hK hG 22 0 rfl rfl (ri_sav hat hi c_61) dX5_goAct_81 ?_
      refine M_ast S hK hG 2 2 6 rfl (ri_t6 hi c_61) (RWs_2 _ _ _ _ _) dX5_goAct_82 (fun σ2 H locs e_σ2 hG => ?_)
      have hf := bnd_p e_σ2 hf
      obtain ⟨v3, e_v3⟩ : ∃ z : Int32, z = t + 1 := ⟨_, rfl⟩
      have hf := bnd_p e_v3 hf
      refine lv_iinc (v := v3) (lv' := [(4, .int v3), (0, .ref (ad 0)), (1, .int x1), (2, .int x2), (3, .int kd)]) S.1 S.2.1 dX5_goAct_83 hl (k := 4) rfl (by rw [e_v3]; rfl) (by decide) rfl (fun ls hl => ?_)
      refine lv_goto (tgt := 57) S.1 S.2.1 dX5_goAct_86 (by decide) ?_
      exact ih σ2 x1 x2 kd v3 (hat) (hxi) (by rw [e_σ2]; exact ht) (ri_loop hi c_61 e_v3) hf H locs hG ls (lv_sub hl [1, 2, 3, 4, 0] rfl)
def f_X5_goAct (σ : Mem) (x1 : Int32) (x2 : Int32) : Mem :=
  (if (σ 30 x1.toNatClampNeg) = 0 then
  bnd (f_X5_begins σ x1 x2) fun σ2 =>
  σ2
  else
  bnd (σ 11 x2.toNatClampNeg) fun v1 =>
  (if v1 = 6 then
  (if (σ 30 x1.toNatClampNeg) = 1 then
  (if (σ 0 35) = 0 then
  f_X5_goAct_102 σ x1 x2 v1
  else
  (if (σ 0 35) = 5 then
  f_X5_goAct_102 σ x1 x2 v1
  else
  f_X5_goAct_57 7 σ x1 x2 v1 0))
  else
  f_X5_goAct_102 σ x1 x2 v1)
  else
  f_X5_goAct_102 σ x1 x2 v1))
set_option maxRecDepth 100000 in
set_option maxHeartbeats 4000000 in
theorem b_X5_goAct_0 {p : Program} {l : Launch} {e : Env} {s : State} {m : MethodId} {args : Array Value} {below : List Frame} {meth : Method} {c : Code} {D : va_G} {cI : ClassId} {ad : Nat → Nat} {w0 : va_W} {X : Mem} (S : CallFix p m c cX5_goAct 5 s args wsX5_goAct RX5) (hr : meth.sig.returnType = none) (hlocks : meth.locks = false) (hK : va_K D vwCl [(cI, .int)] s) (hA : ∀ q, s.heap.size ≤ q → va_A w0 s.heap.size q) (σ : Mem) (x1 : Int32) (x2 : Int32) (hat : vp_in x1 300) (hxi : vp_in x2 40) (k0 : σ 11 x2.toNatClampNeg = 0 → vp_in (σ 12 x2.toNatClampNeg) 6) (k1 : σ 11 x2.toNatClampNeg = 1 → vp_in (σ 12 x2.toNatClampNeg) 6 ∧ vp_in (σ 13 x2.toNatClampNeg) 6) (k8 : σ 11 x2.toNatClampNeg = 8 → vp_in (σ 12 x2.toNatClampNeg) 8 ∧ vp_in (σ 13 x2.toNatClampNeg) 6) (ht : ¬ σ 0 26 = 300 → vp_in (σ 0 25) 300) (hw : ¬ 60 ≤ σ 0 14 → vp_in (σ 0 14) 60) (hf : f_X5_goAct σ x1 x2 = X) (H : Heap) (locs : List Loc) (hG : wI D vwCl (va_A w0 s.heap.size) s.heap H locs (RW ad cI σ)) (ls : Array Slot) (hl : lv_has ls 5 [(0, .ref (ad 0)), (1, .int x1), (2, .int x2)]) : W p l e ({ frames := 3, cells := 0, slots := 0, locals := 71 } : Room) s m args below meth c H locs 0 0 (MQ below (va_Qv (fun (u : Mem) => u = X) (fun u t => wPost D vwCl w0 s.heap.size ((fun u => RW ad cI u) u) t) (va_A w0 s.heap.size)) args s 0 0 (va_A w0 s.heap.size)) (F0 m 0 ls []) := by
  have hin := in_X5_goAct
  unfold f_X5_goAct at hf
  refine lv_aload_n S.1 S.2.1 dX5_goAct_0 rfl (lv_at hl 0 rfl) ?_
  refine M_get S hin hK hG 29 (by decide) (by decide +kernel) rfl dX5_goAct_1 ?_
  refine lv_iload_n S.1 S.2.1 dX5_goAct_4 rfl (lv_at hl 1 rfl) ?_
  refine r_iald S hK hG 19 0 rfl rfl hat dX5_goAct_5 ?_
  refine lv_if_ne (tgt := 16) S.1 S.2.1 dX5_goAct_6 (by decide) (fun c_6 => ?_) (fun c_6 => ?_)
  · have hf := ite_n c_6 hf
    refine lv_aload_n S.1 S.2.1 dX5_goAct_16 rfl (lv_at hl 0 rfl) ?_
    refine M_get S hin hK hG 10 (by decide) (by decide +kernel) rfl dX5_goAct_17 ?_
    refine lv_iload_n S.1 S.2.1 dX5_goAct_20 rfl (lv_at hl 2 rfl) ?_
    refine r_iald S hK hG 8 0 rfl rfl hxi dX5_goAct_21 ?_
    refine lv_topi (fun v1 e_v1 => ?_)
    have hf := bnd_p e_v1 hf
    refine lv_istore_n (lv' := [(3, .int v1), (0, .ref (ad 0)), (1, .int x1), (2, .int x2)]) S.1 S.2.1 dX5_goAct_22 rfl hl (by decide) rfl (fun ls hl => ?_)
    refine lv_iload_n S.1 S.2.1 dX5_goAct_23 rfl (lv_at hl 0 rfl) ?_
    refine lv_bipush (v := 6) S.1 S.2.1 dX5_goAct_24 (by decide) ?_
    refine lv_icmp_ne (tgt := 102) S.1 S.2.1 dX5_goAct_26 (by decide) (fun c_26 => ?_) (fun c_26 => ?_)
    · have hf := ite_n c_26 hf
      exact b_X5_goAct_102 S hr hlocks hK hA σ x1 x2 v1 (hat) (hxi) (ht) hf H locs hG ls (lv_sub hl [1, 2, 3, 0] rfl)
    · have hf := ite_p c_26 hf
      refine lv_aload_n S.1 S.2.1 dX5_goAct_29 rfl (lv_at hl 1 rfl) ?_
      refine M_get S hin hK hG 29 (by decide) (by decide +kernel) rfl dX5_goAct_30 ?_
      refine lv_iload_n S.1 S.2.1 dX5_goAct_33 rfl (lv_at hl 2 rfl) ?_
      refine r_iald S hK hG 19 0 rfl rfl hat dX5_goAct_34 ?_
      refine lv_iconst (v := 1) S.1 S.2.1 dX5_goAct_35 (by decide) ?_
      refine lv_icmp_ne (tgt := 102) S.1 S.2.1 dX5_goAct_36 (by decide) (fun c_36 => ?_) (fun c_36 => ?_)
      · have hf := ite_n c_36 hf
        exact b_X5_goAct_102 S hr hlocks hK hA σ x1 x2 v1 (hat) (hxi) (ht) hf H locs hG ls (lv_sub hl [1, 2, 3, 0] rfl)
      · have hf := ite_p c_36 hf
        refine lv_aload_n S.1 S.2.1 dX5_goAct_39 rfl (lv_at hl 1 rfl) ?_
        refine M_get S hin hK hG 35 (by decide) (by decide +kernel) rfl dX5_goAct_40 ?_
        refine lv_if_eq (tgt := 102) S.1 S.2.1 dX5_goAct_43 (by decide) (fun c_43 => ?_) (fun c_43 => ?_)
        · have hf := ite_p c_43 hf
          exact b_X5_goAct_102 S hr hlocks hK hA σ x1 x2 v1 (hat) (hxi) (ht) hf H locs hG ls (lv_sub hl [1, 2, 3, 0] rfl)
        · have hf := ite_n c_43 hf
          refine lv_aload_n S.1 S.2.1 dX5_goAct_46 rfl (lv_at hl 1 rfl) ?_
          refine M_get S hin hK hG 35 (by decide) (by decide +kernel) rfl dX5_goAct_47 ?_
          refine lv_iconst (v := 5) S.1 S.2.1 dX5_goAct_50 (by decide) ?_
          refine lv_icmp_eq (tgt := 102) S.1 S.2.1 dX5_goAct_51 (by decide) (fun c_51 => ?_) (fun c_51 => ?_)
          · have hf := ite_p c_51 hf
            exact b_X5_goAct_102 S hr hlocks hK hA σ x1 x2 v1 (hat) (hxi) (ht) hf H locs hG ls (lv_sub hl [1, 2, 3, 0] rfl)
          · have hf := ite_n c_51 hf
            refine lv_iconst (v := 0) S.1 S.2.1 dX5_goAct_54 (by decide) ?_
            refine lv_istore (lv' := [(4, .int 0), (3, .int v1), (0, .ref (ad 0)), (1, .int x1), (2, .int x2)]) S.1 S.2.1 dX5_goAct_55 hl (by decide) rfl (fun ls hl => ?_)
            exact b_X5_goAct_57 S hr hlocks hK hA 7 σ x1 x2 v1 0 (hat) (hxi) (ht) (⟨0, rfl, by omega, by omega⟩) hf H locs hG ls (lv_sub hl [2, 3, 4, 1, 0] rfl)
  · have hf := ite_p c_6 hf
    refine lv_aload_n S.1 S.2.1 dX5_goAct_9 rfl (lv_at hl 0 rfl) ?_
    refine lv_iload_n S.1 S.2.1 dX5_goAct_10 rfl (lv_at hl 1 rfl) ?_
    refine lv_iload_n S.1 S.2.1 dX5_goAct_11 rfl (lv_at hl 2 rfl) ?_
    refine r_callVv S hK hA hG (k_X5_begins l _ _ _ _ _ _ hat hxi k0 k1 k8 ht hw) (cwV 2 S.2.2.2.2 gX5_goAct_X5_begins rfl rfl rfl (by decide +kernel) ⟨Nat.le_of_ble_eq_true rfl, Nat.le_of_ble_eq_true rfl⟩) (va_recv hK hG.1 (ci := 5) (q0 := 0) rfl rfl) rfl hl.1 rfl (Nat.le_of_ble_eq_true rfl) dX5_goAct_12 ⟨Nat.le_of_ble_eq_true rfl, Nat.le_of_ble_eq_true rfl⟩ (fun σ2 H locs e_σ2 hG => ?_)
    have hf := bnd_p e_σ2 hf
    exact r_vret S hr hlocks hG _ rfl hf dX5_goAct_15
theorem k_X5_goAct (l : Launch) (D : va_G) (cI : ClassId) (ad : Nat → Nat) (σ : Mem) (x1 : Int32) (x2 : Int32) (hat : vp_in x1 300) (hxi : vp_in x2 40) (k0 : σ 11 x2.toNatClampNeg = 0 → vp_in (σ 12 x2.toNatClampNeg) 6) (k1 : σ 11 x2.toNatClampNeg = 1 → vp_in (σ 12 x2.toNatClampNeg) 6 ∧ vp_in (σ 13 x2.toNatClampNeg) 6) (k8 : σ 11 x2.toNatClampNeg = 8 → vp_in (σ 12 x2.toNatClampNeg) 8 ∧ vp_in (σ 13 x2.toNatClampNeg) 6) (ht : ¬ σ 0 26 = 300 → vp_in (σ 0 25) 300) (hw : ¬ 60 ≤ σ 0 14 → vp_in (σ 0 14) 60) : CMv l yX5_goAct wsX5_goAct ({ frames := 3, cells := 0, slots := 0, locals := 71 } : Room) D vwCl [(cI, .int)] (RW ad cI σ) [.ref (ad 0), .int x1, .int x2] (fun (u : Mem) => u = (f_X5_goAct σ x1 x2)) (fun u => RW ad cI u) :=
  r_met (by decide) rfl (Nat.le_of_ble_eq_true rfl) (fun p e s m args below meth c ls S hr hlocks _ hK hA hG hl => b_X5_goAct_0 S hr hlocks hK hA σ x1 x2 hat hxi k0 k1 k8 ht hw rfl _ _ hG ls hl)
