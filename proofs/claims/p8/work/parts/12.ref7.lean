def atK (σ : Mem) (k : Int32) : Prop := ∃ j w : Nat, k = nI j ∧ σ 0 14 = nI w ∧ j < w ∧ w ≤ 60
theorem atK_in {σ : Mem} {k : Int32} (h : atK σ k) : vp_in k 60 := by
  obtain ⟨j, w, rfl, -, h1, h2⟩ := h
  exact vp_in_nI (by omega) (by decide)
theorem WV.w16 {σ : Mem} {k : Nat} {x : Int32} (h : WV σ) (hx : vp_in x 40) : WV (mset σ 16 k x) := by
  refine ⟨h.1, fun j hj => ?_⟩
  show vp_in (upd (σ 16) k x j) 40
  by_cases e : j = k
  · subst e; rw [pk_us]; exact hx
  · rw [pk_un e]; exact h.2 j hj
theorem WV.at {σ : Mem} {x : Int32} (h : WV σ) (hx : vp_in x 60) : vp_in (σ 16 x.toNatClampNeg) 40 := h.2 _ (Nat.not_le.mp fun q => hx (Or.inr q))
def cmI (n : Nat) (σ : Mem) (i : Int32) : Prop := ∃ j w : Nat, i = nI j ∧ σ 0 14 = nI w ∧ j ≤ w ∧ w ≤ 59 ∧ 60 ≤ j + n
theorem cm_in {n : Nat} {σ : Mem} {i : Int32} (h : cmI (n + 1) σ i) (c : ¬ σ 0 14 ≤ i) : vp_in i 60 ∧ vp_in (i + 1) 60 ∧ ∀ (v : Int32) (τ : Mem), v = i + 1 → τ 0 14 = σ 0 14 → cmI n τ v := by
  obtain ⟨j, w, rfl, hw, h1, h2, h3⟩ := h
  have hlt : j < w := by
    rcases Nat.lt_or_ge j w with q | q
    · exact q
    · exact absurd (by rw [hw]; exact nI_le q (by omega)) c
  rw [nI_1]
  exact ⟨vp_in_nI (by omega) (by decide), vp_in_nI (by omega) (by decide), fun v τ e et => ⟨j + 1, w, e, by rw [et]; exact hw, by omega, h2, by omega⟩⟩
theorem kp_in {σ τ : Mem} {a b : Int32} (hv : RV σ) (hw : WV σ) (hid : vp_in b 40) (hk : ∃ k : Nat, k ≤ 30 ∧ σ 0 17 = nI k) (e : τ = f_X5_go σ a b) (c : ¬ 30 ≤ τ 0 17) : vp_in (τ 0 17) 30 := by
  have h := (go_all a b hv hw hid).2.2 17 (by omega)
  rw [← e] at h
  obtain ⟨k, h1, h2⟩ := hk
  rw [h, h2] at c ⊢
  rcases Nat.lt_or_ge k 30 with q | q
  · exact vp_in_nI q (by decide)
  · exact absurd (nI_le (a := 30) q (by omega)) c
theorem cm_0 {σ τ : Mem} {x : Int32} (h : atK σ x) (e : τ = mset σ 0 14 (σ 0 14 - 1)) : cmI 61 τ x ∧ (WV σ → WV τ) := by
  obtain ⟨j, w, rfl, hw, h1, h2⟩ := h
  have hx : τ 0 14 = nI (w - 1) := by
    rw [e]
    show σ 0 14 - 1 = _
    rw [hw, nI_p (by omega)]
  refine ⟨⟨j, w - 1, rfl, hx, by omega, by omega, by omega⟩, fun q => ⟨⟨w - 1, by omega, hx⟩, ?_⟩⟩
  rw [e]
  exact q.2
theorem in_X5_comes : ∀ w ∈ wsX50, w ∈ wsX5_comes := by decide +kernel
def f_X5_comes_19 : Nat → Mem → Int32 → Int32 → Int32 → Mem
  | 0, σ, _, _, _ => σ
  | n + 1, σ, x1, x, i =>
  (if (σ 0 14) ≤ i then
  bnd (f_X5_go σ 1 x) fun σ1 =>
  (if (σ1 0 35) = 0 then
  σ1
  else
  (if 30 ≤ (σ1 0 17) then
  σ1
  else
  bnd (mset σ1 19 (σ1 0 17).toNatClampNeg x) fun σ2 =>
  bnd (mset σ2 20 (σ1 0 17).toNatClampNeg (σ1 0 35)) fun σ3 =>
  bnd (mset σ3 21 (σ1 0 17).toNatClampNeg (σ3 0 2)) fun σ4 =>
  bnd (mset σ4 0 17 ((σ1 0 17) + 1)) fun σ5 =>
  σ5))
  else
  bnd (mset σ 16 i.toNatClampNeg (σ 16 (i + 1).toNatClampNeg)) fun σ6 =>
  bnd (mset σ6 17 i.toNatClampNeg (σ6 17 (i + 1).toNatClampNeg)) fun σ7 =>
  bnd (i + 1) fun v8 =>
  f_X5_comes_19 n σ7 x1 x v8)
set_option maxRecDepth 100000 in
set_option maxHeartbeats 4000000 in
theorem b_X5_comes_19 {p : Program} {l : Launch} {e : Env} {s : State} {m : MethodId} {args : Array Value} {below : List Frame} {meth : Method} {c : Code} {D : va_G} {cI : ClassId} {ad : Nat → Nat} {w0 : va_W} {X : Mem} (S : CallFix p m c cX5_comes 4 s args wsX5_comes RX5) (hr : meth.sig.returnType = none) (hlocks : meth.locks = false) (hK : va_K D vwCl [(cI, .int)] s) (hA : ∀ q, s.heap.size ≤ q → va_A w0 s.heap.size q) : ∀ (n : Nat) (σ : Mem) (x1 : Int32) (x : Int32) (i : Int32) (hv : RV σ) (hw : WV σ) (hid : vp_in x 40) (hkp : ∃ k : Nat, k ≤ 30 ∧ σ 0 17 = nI k) (hi : cmI n σ i), f_X5_comes_19 n σ x1 x i = X → ∀ (H : Heap) (locs : List Loc), wI D vwCl (va_A w0 s.heap.size) s.heap H locs (RW ad cI σ) → ∀ (ls : Array Slot), lv_has ls 4 [(0, .ref (ad 0)), (1, .int x1), (2, .int x), (3, .int i)] → W p l e ({ frames := 5, cells := 0, slots := 0, locals := 118 } : Room) s m args below meth c H locs 0 0 (MQ below (va_Qv (fun (u : Mem) => u = X) (fun u t => wPost D vwCl w0 s.heap.size ((fun u => RW ad cI u) u) t) (va_A w0 s.heap.size)) args s 0 0 (va_A w0 s.heap.size)) (F0 m 19 ls []) := by
  have hin := in_X5_comes
  intro n
  induction n with
  | zero =>
    intro σ x1 x i hv hw hid hkp hi
    exact (by obtain ⟨j, w, -, -, h1, h2, h3⟩ := hi; omega)
  | succ n ih =>
    intro σ x1 x i hv hw hid hkp hi hf H locs hG ls hl
    unfold f_X5_comes_19 at hf
    refine lv_iload_n S.1 S.2.1 dX5_comes_19 rfl (lv_at hl 3 rfl) ?_
    refine lv_aload_n S.1 S.2.1 dX5_comes_20 rfl (lv_at hl 0 rfl) ?_
    refine M_get S hin hK hG 14 (by decide) (by decide +kernel) rfl dX5_comes_21 ?_
    refine lv_icmp_ge (tgt := 61) S.1 S.2.1 dX5_comes_24 (by decide) (fun c_24 => ?_) (fun c_24 => ?_)
    · have hf := ite_p c_24 hf
      refine lv_aload_n S.1 S.2.1 dX5_comes_61 rfl (lv_at hl 0 rfl) ?_
      refine lv_iconst (v := 1) S.1 S.2.1 dX5_comes_62 (by decide) ?_
      refine lv_iload_n S.1 S.2.1 dX5_comes_63 rfl (lv_at hl 2 rfl) ?_
      refine r_callVv S hK hA hG (k_X5_go l _ _ _ _ _ _ hv hw hid) (cwV 2 S.2.2.2.2 gX5_comes_X5_go rfl rfl rfl (by decide +kernel) ⟨Nat.le_of_ble_eq_true rfl, Nat.le_of_ble_eq_true rfl⟩) (va_recv hK hG.1 (ci := 5) (q0 := 0) rfl rfl) rfl hl.1 rfl (Nat.le_of_ble_eq_true rfl) dX5_comes_64 ⟨Nat.le_of_ble_eq_true rfl, Nat.le_of_ble_eq_true rfl⟩ (fun σ1 H locs e_σ1 hG => ?_)
      have hf := bnd_p e_σ1 hf
      refine lv_aload_n S.1 S.2.1 dX5_comes_67 rfl (lv_at hl 0 rfl) ?_
      refine M_get S hin hK hG 35 (by decide) (by decide +kernel) rfl dX5_comes_68 ?_
      refine lv_if_eq (tgt := 129) S.1 S.2.1 dX5_comes_71 (by decide) (fun c_71 => ?_) (fun c_71 => ?_)
      · have hf := ite_p c_71 hf
        exact r_vret S hr hlocks hG _ rfl hf dX5_comes_129
      · have hf := ite_n c_71 hf
        refine lv_aload_n S.1 S.2.1 dX5_comes_74 rfl (lv_at hl 0 rfl) ?_
        refine M_get S hin hK hG 17 (by decide) (by decide +kernel) rfl dX5_comes_75 ?_
        refine lv_bipush (v := 30) S.1 S.2.1 dX5_comes_78 (by decide) ?_
        refine lv_icmp_ge (tgt := 129) S.1 S.2.1 dX5_comes_80 (by decide) (fun c_80 => ?_) (fun c_80 => ?_)
        · have hf := ite_p c_80 hf
          exact r_vret S hr hlocks hG _ rfl hf dX5_comes_129
        · have hf := ite_n c_80 hf
          refine lv_aload_n S.1 S.2.1 dX5_comes_83 rfl (lv_at hl 0 rfl) ?_
          refine M_get S hin hK hG 18 (by decide) (by decide +kernel) rfl dX5_comes_84 ?_
          refine lv_aload_n S.1 S.2.1 dX5_comes_87 rfl (lv_at hl 0 rfl) ?_
          refine M_get S hin hK hG 17 (by decide) (by decide +kernel) rfl dX5_comes_88 ?_
          refine lv_iload_n S.1 S.2.1 dX5_comes_91 rfl (lv_at hl 2 rfl) ?_
          refine M_ast S hK hG 19 14 30 rfl (kp_in hv hw hid hkp e_σ1 c_80) (RWs_19 _ _ _ _ _) dX5_comes_92 (fun σ2 H locs e_σ2 hG => ?_)
          have hf := bnd_p e_σ2 hf
          refine lv_aload_n S.1 S.2.1 dX5_comes_93 rfl (lv_at hl 0 rfl) ?_
          refine M_get S hin hK hG 19 (by decide) (by decide +kernel) rfl dX5_comes_94 ?_
          refine lv_aload_n S.1 S.2.1 dX5_comes_97 rfl (lv_at hl 0 rfl) ?_
          refine M_get S hin hK hG 17 (v := .int (σ1 0 17)) (by decide) (by decide +kernel) (by rw [e_σ2]; rfl) dX5_comes_98 ?_
          refine lv_aload_n S.1 S.2.1 dX5_comes_101 rfl (lv_at hl 0 rfl) ?_
          refine M_get S hin hK hG 35 (v := .int (σ1 0 35)) (by decide) (by decide +kernel) (by rw [e_σ2]; rfl) dX5_comes_102 ?_
          refine M_ast S hK hG 20 15 30 rfl (kp_in hv hw hid hkp e_σ1 c_80) (RWs_20 _ _ _ _ _) dX5_comes_105 (fun σ3 H locs e_σ3 hG => ?_)
          have hf := bnd_p e_σ3 hf
          refine lv_aload_n S.1 S.2.1 dX5_comes_106 rfl (lv_at hl 0 rfl) ?_
          refine M_get S hin hK hG 20 (by decide) (by decide +kernel) rfl dX5_comes_107 ?_
          refine lv_aload_n S.1 S.2.1 dX5_comes_110 rfl (lv_at hl 0 rfl) ?_
          refine M_get S hin hK hG 17 (v := .int (σ1 0 17)) (by decide) (by decide +kernel) (by rw [e_σ3, e_σ2]; rfl) dX5_comes_111 ?_
          refine lv_aload_n S.1 S.2.1 dX5_comes_114 rfl (lv_at hl 0 rfl) ?_
          refine M_get S hin hK hG 2 (by decide) (by decide +kernel) rfl dX5_comes_115 ?_
          refine M_ast S hK hG 21 16 30 rfl (kp_in hv hw hid hkp e_σ1 c_80) (RWs_21 _ _ _ _ _) dX5_comes_118 (fun σ4 H locs e_σ4 hG => ?_)
          have hf := bnd_p e_σ4 hf
          refine lv_aload_n S.1 S.2.1 dX5_comes_119 rfl (lv_at hl 0 rfl) ?_
          refine lv_dup S.1 S.2.1 dX5_comes_120 rfl ?_
          refine M_get S hin hK hG 17 (v := .int (σ1 0 17)) (by decide) (by decide +kernel) (by rw [e_σ4, e_σ3, e_σ2]; rfl) dX5_comes_121 ?_
          refine lv_iconst (v := 1) S.1 S.2.1 dX5_comes_124 (by decide) ?_
          refine lv_iadd S.1 S.2.1 dX5_comes_125 ?_
          refine M_put S hin hK hG 17 (by decide) (by decide +kernel) rfl rfl rfl (RWp_17 _ _ _ _) dX5_comes_126 (fun σ5 H locs e_σ5 hG => ?_)
          have hf := bnd_p e_σ5 hf
          exact r_vret S hr hlocks hG _ rfl hf dX5_comes_129
    · have hf := ite_n c_24 hf
      refine lv_aload_n S.1 S.2.1 dX5_comes_27 rfl (lv_at hl 0 rfl) ?_
      refine M_get S hin hK hG 15 (by decide) (by decide +kernel) rfl dX5_comes_28 ?_
      refine lv_iload_n S.1 S.2.1 dX5_comes_31 rfl (lv_at hl 3 rfl) ?_
      refine lv_aload_n S.1 S.2.1 dX5_comes_32 rfl (lv_at hl 0 rfl) ?_
      refine M_get S hin hK hG 15 (by decide) (by decide +kernel) rfl dX5_comes_33 ?_
      refine lv_iload_n S.1 S.2.1 dX5_comes_36 rfl (lv_at hl 3 rfl) ?_
      refine lv_iconst (v := 1) S.1 S.2.1 dX5_comes_37 (by decide) ?_
      refine lv_iadd S.1 S.2.1 dX5_comes_38 ?_
      refine r_iald S hK hG 12 0 rfl rfl (cm_in hi c_24).2.1 dX5_comes_39 ?_
      refine M_ast S hK hG 16 12 60 rfl (cm_in hi c_24).1 (RWs_16 _ _ _ _ _) dX5_comes_40 (fun σ6 H locs e_σ6 hG => ?_)
      have hf := bnd_p e_σ6 hf
      refine lv_aload_n S.1 S.2.1 dX5_comes_41 rfl (lv_at hl 0 rfl) ?_
      refine M_get S hin hK hG 16 (by decide) (by decide +kernel) rfl dX5_comes_42 ?_
      refine lv_iload_n S.1 S.2.1 dX5_comes_45 rfl (lv_at hl 3 rfl) ?_
      refine lv_aload_n S.1 S.2.1 dX5_comes_46 rfl (lv_at hl 0 rfl) ?_
      refine M_get S hin hK hG 16 (by decide) (by decide +kernel) rfl dX5_comes_47 ?_
      refine lv_iload_n S.1 S.2.1 dX5_comes_50 rfl (lv_at hl 3 rfl) ?_
      refine lv_iconst (v := 1) S.1 S.2.1 dX5_comes_51 (by decide) ?_
      refine lv_iadd S.1 S.2.1 dX5_comes_52 ?_
      refine r_iald S hK hG 13 0 rfl rfl (cm_in hi c_24).2.1 dX5_comes_53 ?_
      refine M_ast S hK hG 17 13 60 rfl (cm_in hi c_24).1 (RWs_17 _ _ _ _ _) dX5_comes_54 (fun σ7 H locs e_σ7 hG => ?_)
      have hf := bnd_p e_σ7 hf
      obtain ⟨v8, e_v8⟩ : ∃ z : Int32, z = i + 1 := ⟨_, rfl⟩
      have hf := bnd_p e_v8 hf
      refine lv_iinc (v := v8) (lv' := [(3, .int v8), (0, .ref (ad 0)), (1, .int x1), (2, .int x)]) S.1 S.2.1 dX5_comes_55 hl (k := 3) rfl (by rw [e_v8]; rfl) (by decide) rfl (fun ls hl => ?_)
      refine lv_goto (tgt := 19) S.1 S.2.1 dX5_comes_58 (by decide) ?_
      exact ih σ7 x1 x v8 (by rw [e_σ7, e_σ6]; exact hv) (by rw [e_σ7, e_σ6]; exact (hw.w16 (hw.at (cm_in hi c_24).2.1)).row (by decide)) (hid) (by rw [e_σ7, e_σ6]; exact hkp) ((cm_in hi c_24).2.2 _ _ (by assumption) (by rw [e_σ7, e_σ6]; rfl)) hf H locs hG ls (lv_sub hl [1, 2, 3, 0] rfl)
def f_X5_comes (σ : Mem) (x1 : Int32) : Mem :=
  bnd (σ 16 x1.toNatClampNeg) fun v1 =>
  bnd (mset σ 0 14 ((σ 0 14) - 1)) fun σ2 =>
  f_X5_comes_19 61 σ2 x1 v1 x1
set_option maxRecDepth 100000 in
set_option maxHeartbeats 4000000 in
theorem b_X5_comes_0 {p : Program} {l : Launch} {e : Env} {s : State} {m : MethodId} {args : Array Value} {below : List Frame} {meth : Method} {c : Code} {D : va_G} {cI : ClassId} {ad : Nat → Nat} {w0 : va_W} {nr nx : Nat} {wy : Int32} {X : Mem} (S : CallFix p m c cX5_comes 4 s args wsX5_comes RX5) (hr : meth.sig.returnType = none) (hlocks : meth.locks = false) (hK : va_K D vwCl [(cI, .int)] s) (hA : ∀ q, s.heap.size ≤ q → va_A w0 s.heap.size q) (σ : Mem) (x1 : Int32) (hI : RInv nr nx wy σ) (hk : atK σ x1) (hf : f_X5_comes σ x1 = X) (H : Heap) (locs : List Loc) (hG : wI D vwCl (va_A w0 s.heap.size) s.heap H locs (RW ad cI σ)) (ls : Array Slot) (hl : lv_has ls 4 [(0, .ref (ad 0)), (1, .int x1)]) : W p l e ({ frames := 5, cells := 0, slots := 0, locals := 118 } : Room) s m args below meth c H locs 0 0 (MQ below (va_Qv (fun (u : Mem) => u = X) (fun u t => wPost D vwCl w0 s.heap.size ((fun u => RW ad cI u) u) t) (va_A w0 s.heap.size)) args s 0 0 (va_A w0 s.heap.size)) (F0 m 0 ls []) := by
  have hin := in_X5_comes
  unfold f_X5_comes at hf
  refine lv_aload_n S.1 S.2.1 dX5_comes_0 rfl (lv_at hl 0 rfl) ?_
  refine M_get S hin hK hG 15 (by decide) (by decide +kernel) rfl dX5_comes_1 ?_
  refine lv_iload_n S.1 S.2.1 dX5_comes_4 rfl (lv_at hl 1 rfl) ?_
  refine r_iald S hK hG 12 0 rfl rfl (atK_in hk) dX5_comes_5 ?_
  refine lv_topi (fun v1 e_v1 => ?_)
  have hf := bnd_p e_v1 hf
  refine lv_istore_n (lv' := [(2, .int v1), (0, .ref (ad 0)), (1, .int x1)]) S.1 S.2.1 dX5_comes_6 rfl hl (by decide) rfl (fun ls hl => ?_)
  refine lv_aload_n S.1 S.2.1 dX5_comes_7 rfl (lv_at hl 1 rfl) ?_
  refine lv_dup S.1 S.2.1 dX5_comes_8 rfl ?_
  refine M_get S hin hK hG 14 (by decide) (by decide +kernel) rfl dX5_comes_9 ?_
  refine lv_iconst (v := 1) S.1 S.2.1 dX5_comes_12 (by decide) ?_
  refine lv_isub S.1 S.2.1 dX5_comes_13 ?_
  refine M_put S hin hK hG 14 (by decide) (by decide +kernel) rfl rfl rfl (RWp_14 _ _ _ _) dX5_comes_14 (fun σ2 H locs e_σ2 hG => ?_)
  have hf := bnd_p e_σ2 hf
  refine lv_iload_n S.1 S.2.1 dX5_comes_17 rfl (lv_at hl 2 rfl) ?_
  refine lv_istore_n (lv' := [(3, .int x1), (2, .int v1), (0, .ref (ad 0)), (1, .int x1)]) S.1 S.2.1 dX5_comes_18 rfl hl (by decide) rfl (fun ls hl => ?_)
  exact b_X5_comes_19 S hr hlocks hK hA 61 σ2 x1 v1 x1 (by rw [e_σ2]; exact hI.1) ((cm_0 hk e_σ2).2 hI.2.1) (by rw [e_v1]; exact hI.2.1.at (atK_in hk)) (by rw [e_σ2]; exact hI.2.2.2.2.2) ((cm_0 hk e_σ2).1) hf H locs hG ls (lv_sub hl [2, 3, 1, 0] rfl)
theorem k_X5_comes (l : Launch) (D : va_G) (cI : ClassId) (ad : Nat → Nat) (σ : Mem) (x1 : Int32) {nr nx : Nat} {wy : Int32} (hI : RInv nr nx wy σ) (hk : atK σ x1) : CMv l yX5_comes wsX5_comes ({ frames := 5, cells := 0, slots := 0, locals := 118 } : Room) D vwCl [(cI, .int)] (RW ad cI σ) [.ref (ad 0), .int x1] (fun (u : Mem) => u = (f_X5_comes σ x1)) (fun u => RW ad cI u) :=
  r_met (by decide) rfl (Nat.le_of_ble_eq_true rfl) (fun p e s m args below meth c ls S hr hlocks _ hK hA hG hl => b_X5_comes_0 S hr hlocks hK hA σ x1 hI hk rfl _ _ hG ls hl)
