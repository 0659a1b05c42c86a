def cpy6 (f g : Nat → Int32) : Nat → Int32 := va_cpy f g (0 : Int32).toNatClampNeg (0 : Int32).toNatClampNeg (6 : Int32).toNatClampNeg
section CW2
variable {p : Program} {l : Launch} {e : Env} {R : Room} {s : State} {m : MethodId} {args : Array Value} {below : List Frame} {meth : Method} {c : Code} {H : Heap} {locs : List Loc} {cells slots : Nat} {Q : State → Prop} {cc : ByteArray} {nL : Nat} {Ts : List Cond} {own : String} {D : va_G} {A : Nat → Prop} {pc : Nat} {ls : Array Slot} {rest : List Value} {ad : Nat → Nat} {cs : Nat → ClassId} {nr nx : Nat} {σ : Mem}
theorem C_aah (S : CallFix p m c cc nL s args Ts own) (hK : va_K D vwCl (gT cs) s) (hG : wI D vwCl A s.heap H locs (GW ad cs nr nx σ)) {i : Int32} (hin : vp_in i 40) (hdg : decode cc pc = .ok (.aaload, 1))
    (kk : W p l e R s m args below meth c H locs cells slots Q (F0 m (pc + 1) ls (.ref (ad (100 + i.toNatClampNeg)) :: rest))) : W p l e R s m args below meth c H locs cells slots Q (F0 m pc ls (.int i :: .ref (ad 3) :: rest)) := by
  have hlt : i.toNatClampNeg < 40 := Nat.not_le.mp fun q => hin (Or.inr q)
  have hv : va_rf (Gup ad 100 40 i.toNatClampNeg) = .ref (ad (100 + i.toNatClampNeg)) := by rw [show Gup ad 100 40 i.toNatClampNeg = some (ad (100 + i.toNatClampNeg)) from if_pos hlt]; rfl
  have hcell : H[ad 3]? = some (arrV (cs 3) 40 (fun j => va_rf (Gup ad 100 40 j))) := hG.1 3 (ad 3, .inl (cs 3, 40, .inr (.inr (.inr (.inr (Gup ad 100 40)))))) rfl
  have harr : s.isArrayOf (arrV (cs 3) 40 (fun j => va_rf (Gup ad 100 40 j))) (.array .int) := (hK.2 3 (cs 3, .array .int) rfl).1 40 _
  have hsl : (arrV (cs 3) 40 (fun j => va_rf (Gup ad 100 40 j))).slots[i.toNatClampNeg]? = some (.ref (ad (100 + i.toNatClampNeg))) := by rw [arrV_read _ _ hlt, hv]
  have hin2 : ¬ (i < 0 ∨ (arrV (cs 3) 40 (fun j => va_rf (Gup ad 100 40 j))).slots.size ≤ i.toNatClampNeg) := by rw [arrV_size]; exact hin
  have hkn : (arrV (cs 3) 40 (fun j => va_rf (Gup ad 100 40 j))).vm ≠ .unknown := fun q => by cases q
  generalize arrV (cs 3) 40 (fun j => va_rf (Gup ad 100 40 j)) = cell at hcell harr hsl hin2 hkn
  exact W.aald (ty := .array .int) S.1 S.2.1 hcell harr rfl hkn hin2 hsl rfl rfl hdg kk
theorem C_cpyS (S : CallFix p m c cc nL s args Ts own) {index : Nat} (h1 : Cond.methodLink own index arraycopyName ∈ Ts) (h2 : Cond.native arraycopyName ∈ Ts) (h3 : Cond.static arraycopyName ∈ Ts) (h4 : Cond.initialized "java/lang/System" ∈ Ts) (hK : va_K D vwCl (gT cs) s) (hG : wI D vwCl A s.heap H locs (GW ad cs nr nx σ)) {j : Nat} (hj : j < 40) (hfr : 1 ≤ R.frames) (hlo : (rest.map fun v => v.category).sum + (nativeFrameWords "java/lang/System" "arraycopy" 5 + 11) ≤ R.locals) (hsz : ls.size = nL) (hdg : decode cc pc = .ok (.invokestatic index, 3))
    (kk : ∀ (τ : Mem) (H1 : Heap) (locs1 : List Loc), τ = mrow σ (100 + j) (cpy6 (σ 2) (σ (100 + j))) → wI D vwCl A s.heap H1 locs1 (GW ad cs nr nx τ) → W p l e R s m args below meth c H1 locs1 cells slots Q (F0 m (pc + 3) ls rest)) : W p l e R s m args below meth c H locs cells slots Q (F0 m pc ls (.int 6 :: .int 0 :: .ref (ad (100 + j)) :: .int 0 :: .ref (ad 2) :: rest)) := by
  have ht := S.2.2.2.2
  refine va_copyi S.1 S.2.1 (S.2.2.1.trans hsz.symm) S.2.2.2.1 (ht _ h1) (ht _ h2) (ht _ h3) (ht _ h4) hK hG.1 hG.2.1 hG.2.2 2 (13 + j) 0 0 rfl (GW_ah _ _ _ _ _ hj) rfl rfl rfl (by decide) (by decide) (by decide) (by decide) (by decide) (fun _ _ => rfl) hfr hlo hdg (fun H1 locs1 a1 a2 a3 => ?_)
  refine kk _ H1 locs1 rfl ?_
  rw [← GWs_ah ad cs σ hj]
  exact ⟨a1, a2, a3⟩
theorem C_cpyR (S : CallFix p m c cc nL s args Ts own) {index : Nat} (h1 : Cond.methodLink own index arraycopyName ∈ Ts) (h2 : Cond.native arraycopyName ∈ Ts) (h3 : Cond.static arraycopyName ∈ Ts) (h4 : Cond.initialized "java/lang/System" ∈ Ts) (hK : va_K D vwCl (gT cs) s) (hG : wI D vwCl A s.heap H locs (GW ad cs nr nx σ)) {j : Nat} (hj : j < 40) (hfr : 1 ≤ R.frames) (hlo : (rest.map fun v => v.category).sum + (nativeFrameWords "java/lang/System" "arraycopy" 5 + 11) ≤ R.locals) (hsz : ls.size = nL) (hdg : decode cc pc = .ok (.invokestatic index, 3))
    (kk : ∀ (τ : Mem) (H1 : Heap) (locs1 : List Loc), τ = mrow σ 2 (cpy6 (σ (100 + j)) (σ 2)) → wI D vwCl A s.heap H1 locs1 (GW ad cs nr nx τ) → W p l e R s m args below meth c H1 locs1 cells slots Q (F0 m (pc + 3) ls rest)) : W p l e R s m args below meth c H locs cells slots Q (F0 m pc ls (.int 6 :: .int 0 :: .ref (ad 2) :: .int 0 :: .ref (ad (100 + j)) :: rest)) := by
  have ht := S.2.2.2.2
  refine va_copyi S.1 S.2.1 (S.2.2.1.trans hsz.symm) S.2.2.2.1 (ht _ h1) (ht _ h2) (ht _ h3) (ht _ h4) hK hG.1 hG.2.1 hG.2.2 (13 + j) 2 0 0 (GW_ah _ _ _ _ _ hj) rfl rfl rfl rfl (by decide) (by decide) (by decide) (by decide) (by decide) (fun _ _ => rfl) hfr hlo hdg (fun H1 locs1 a1 a2 a3 => ?_)
  refine kk _ H1 locs1 rfl ?_
  rw [← GWs_2 ad cs nr nx σ]
  exact ⟨a1, a2, a3⟩
end CW2
abbrev HDoes (l : Launch) (D : va_G) (cs : Nat → ClassId) (ad : Nat → Nat) (nr nx n : Nat) (rec : Mem → Int32 → Int32 → Int32 × Mem) : Prop := ∀ (σ : Mem) (x d : Int32) (wy : Int32) (T : Mem), CInv nr nx wy T σ → dOK n d → CMi l yX4_does wsX4_does ({ frames := 2 * n + 92, cells := 0, slots := 0, locals := 60 * n + 2300 } : Room) D vwCl (gT cs) (GW ad cs nr nx σ) [.ref (ad 0), .int x, .int d] (fun (r : Int32) (u : Mem) => (r, u) = rec σ x d ∧ CInv nr nx wy T u) (fun u => GW ad cs nr nx u)
/-- the loop of TIMES: its counter against what the ACT was told with -/
def lpT (b : Int32) (n : Nat) (i : Int32) : Prop := ∃ k : Nat, i = nI k ∧ k ≤ b.toNatClampNeg ∧ b.toNatClampNeg + 1 ≤ k + n
theorem clamp_lt (b : Int32) : b.toNatClampNeg < 2 ^ 31 := by
  by_cases h : b < 0
  · rw [show b.toNatClampNeg = 0 from by
      rw [Int32.lt_iff_toInt_lt, Int32.toInt_zero] at h
      show b.toInt.toNat = 0
      omega]
    decide
  · obtain ⟨j, hj, rfl⟩ := nI_of h
    rw [nI_clamp hj]; exact hj
theorem lpT_s {b i v : Int32} {n : Nat} (h : lpT b (n + 1) i) (hc : ¬ b ≤ i) (e : v = i + 1) : lpT b n v := by
  obtain ⟨k, rfl, h1, h2⟩ := h
  have hb := clamp_lt b
  refine ⟨k + 1, by rw [e]; exact nI_1 k, ?_, by omega⟩
  rcases Nat.lt_or_ge k b.toNatClampNeg with q | q
  · omega
  · refine absurd ?_ hc
    by_cases hn : b < 0
    · rw [Int32.lt_iff_toInt_lt, Int32.toInt_zero] at hn
      rw [Int32.le_iff_toInt_le, nI_toInt (by omega)]
      omega
    · obtain ⟨j, hj, rfl⟩ := nI_of hn
      rw [nI_clamp hj] at q
      exact nI_le q (by omega)
theorem cw_in {v lo hi : Int32} (h : ¬ bI (f_X4_isWithin v lo hi) = 0) : lo ≤ v ∧ v ≤ hi := by
  have h := bI_t h
  unfold f_X4_isWithin at h
  by_cases h1 : v < lo
  · rw [if_pos h1] at h; cases h
  · rw [if_neg h1] at h
    by_cases h2 : hi < v
    · rw [if_pos h2] at h; cases h
    · exact ⟨Int32.not_lt.mp h1, Int32.not_lt.mp h2⟩
theorem cw_vp {v hi : Int32} {n : Nat} (h : ¬ bI (f_X4_isWithin v 0 hi) = 0) (hn : hi.toInt < n) : vp_in v n := by
  obtain ⟨h1, h2⟩ := cw_in h
  rw [Int32.le_iff_toInt_le] at h1 h2
  exact vp_in_iff.mpr ⟨h1, by omega⟩
theorem vp_lt {x : Int32} {n : Nat} (h : vp_in x n) : x.toNatClampNeg < n := Nat.not_le.mp fun q => h (Or.inr q)
theorem in_X4_doesWhen_X0 : ∀ w ∈ wsX00, w ∈ wsX4_doesWhen := by decide +kernel
theorem in_X4_doesWhen_X4 : ∀ w ∈ wsX40, w ∈ wsX4_doesWhen := by decide +kernel
def f_X4_doesWhen (rec : Mem → Int32 → Int32 → Int32 × Mem) (σ : Mem) (i : Nat) (x2 : Int32) : Int32 × Mem :=
  bnd2 (f_X4_says 41 σ (σ (300 + i) 1) 0) fun b2 σ1 =>
  (if (σ1 0 13) = 0 then
  (if (bI b2) = 0 then
  bnd (σ1 (300 + i) 3) fun v3 =>
  (if v3 = (-1) then
  (0, σ1)
  else
  bnd2 (rec σ1 v3 (x2 + 1)) fun r5 σ4 =>
  (r5, σ4))
  else
  bnd (σ1 (300 + i) 2) fun v6 =>
  (if v6 = (-1) then
  (0, σ1)
  else
  bnd2 (rec σ1 v6 (x2 + 1)) fun r8 σ7 =>
  (r8, σ7)))
  else
  (0, σ1))
set_option maxRecDepth 100000 in
set_option maxHeartbeats 4000000 in
theorem b_X4_doesWhen_0 {p : Program} {l : Launch} {e : Env} {s : State} {m : MethodId} {args : Array Value} {below : List Frame} {meth : Method} {c : Code} {D : va_G} {cs : Nat → ClassId} {ad : Nat → Nat} {nr nx : Nat} {wy : Int32} {T : Mem} {w0 : va_W} {n : Nat} {rec : Mem → Int32 → Int32 → Int32 × Mem} (hrec : HDoes l D cs ad nr nx n rec) {X : Int32 × Mem} (S : CallFix p m c cX4_doesWhen 5 s args wsX4_doesWhen RX4) (hr : meth.sig.returnType = (some .int)) (hlocks : meth.locks = false) (hK : va_K D vwCl (gT cs) s) (hA : ∀ q, s.heap.size ≤ q → va_A w0 s.heap.size q) (σ : Mem) (i : Nat) (x2 : Int32) (hc : CInv nr nx wy T σ) (hd : dOK n (x2 + 1)) (hi : i < nx) (hf : f_X4_doesWhen rec σ i x2 = X) (H : Heap) (locs : List Loc) (hG : wI D vwCl (va_A w0 s.heap.size) s.heap H locs (GW ad cs nr nx σ)) (ls : Array Slot) (hl : lv_has ls 5 [(0, .ref (ad 0)), (1, .ref (ad (300 + i))), (2, .int x2)]) : W p l e ({ frames := 2 * n + 93, cells := 0, slots := 0, locals := 60 * n + 2330 } : Room) s m args below meth c H locs 0 0 (MQ below (va_Qi (fun (r : Int32) (u : Mem) => (r, u) = X ∧ CInv nr nx wy T u) (fun u t => wPost D vwCl w0 s.heap.size ((fun u => GW ad cs nr nx u) u) t) (va_A w0 s.heap.size)) args s 0 0 (va_A w0 s.heap.size)) (F0 m 0 ls []) := by
  have hinX0 := in_X4_doesWhen_X0
  have hinX4 := in_X4_doesWhen_X4
  unfold f_X4_doesWhen at hf
  refine lv_aload_n S.1 S.2.1 dX4_doesWhen_0 rfl (lv_at hl 0 rfl) ?_
  refine lv_aload_n S.1 S.2.1 dX4_doesWhen_1 rfl (lv_at hl 1 rfl) ?_
  refine r_get S hK hG hinX0 (53 + nr + i) (GW_ac _ _ _ _ _ hi) rfl 1 (by decide) (by decide +kernel) rfl dX4_doesWhen_2 ?_
  refine lv_iconst (v := 0) S.1 S.2.1 dX4_doesWhen_5 (by decide) ?_
  refine r_callVi S hK hA hG (k_X4_says l _ _ _ _ _ 41 _ _ _ _ _ hc dOK_0) (cwV 2 S.2.2.2.2 gX4_doesWhen_X4_says rfl rfl rfl (by decide +kernel) ⟨by try dsimp only; omega, by try dsimp only; omega⟩) (va_recv hK hG.1 (ci := 4) (q0 := 0) rfl rfl) rfl hl.1 rfl (Nat.le_of_ble_eq_true rfl) dX4_doesWhen_6 ⟨Nat.le_of_ble_eq_true rfl, Nat.le_of_ble_eq_true rfl⟩ (fun r_ σ1 H locs hw hG => ?_)
  obtain ⟨⟨b2, rfl, e_σ1⟩, hc⟩ := hw
  have hf := bnd2_p e_σ1 hf
  refine lv_istore_n (lv' := [(3, .int (bI b2)), (0, .ref (ad 0)), (1, .ref (ad (300 + i))), (2, .int x2)]) S.1 S.2.1 dX4_doesWhen_9 rfl hl (by decide) rfl (fun ls hl => ?_)
  refine lv_aload_n S.1 S.2.1 dX4_doesWhen_10 rfl (lv_at hl 1 rfl) ?_
  refine r_get S hK hG hinX4 0 rfl rfl 13 (by decide) (by decide +kernel) rfl dX4_doesWhen_11 ?_
  refine lv_if_eq (tgt := 19) S.1 S.2.1 dX4_doesWhen_14 (by decide) (fun c_14 => ?_) (fun c_14 => ?_)
  · have hf := ite_p c_14 hf
    refine lv_iload_n S.1 S.2.1 dX4_doesWhen_19 rfl (lv_at hl 0 rfl) ?_
    refine lv_if_eq (tgt := 30) S.1 S.2.1 dX4_doesWhen_20 (by decide) (fun c_20 => ?_) (fun c_20 => ?_)
    · have hf := ite_p c_20 hf
      refine lv_aload_n S.1 S.2.1 dX4_doesWhen_30 rfl (lv_at hl 2 rfl) ?_
      refine r_get S hK hG hinX0 (53 + nr + i) (GW_ac _ _ _ _ _ hi) rfl 3 (by decide) (by decide +kernel) rfl dX4_doesWhen_31 ?_
      refine lv_topi (fun v3 e_v3 => ?_)
      have hf := bnd_p e_v3 hf
      refine lv_istore (lv' := [(4, .int v3), (3, .int (bI b2)), (0, .ref (ad 0)), (1, .ref (ad (300 + i))), (2, .int x2)]) S.1 S.2.1 dX4_doesWhen_34 hl (by decide) rfl (fun ls hl => ?_)
      refine lv_iload S.1 S.2.1 dX4_doesWhen_36 (lv_at hl 0 rfl) ?_
      refine lv_iconst (v := (-1)) S.1 S.2.1 dX4_doesWhen_38 (by decide) ?_
      refine lv_icmp_ne (tgt := 46) S.1 S.2.1 dX4_doesWhen_39 (by decide) (fun c_39 => ?_) (fun c_39 => ?_)
      · have hf := ite_n c_39 hf
        refine lv_aload_n S.1 S.2.1 dX4_doesWhen_46 rfl (lv_at hl 2 rfl) ?_
        refine lv_iload S.1 S.2.1 dX4_doesWhen_47 (lv_at hl 0 rfl) ?_
        refine lv_iload_n S.1 S.2.1 dX4_doesWhen_49 rfl (lv_at hl 4 rfl) ?_
        refine lv_iconst (v := 1) S.1 S.2.1 dX4_doesWhen_50 (by decide) ?_
        refine lv_iadd S.1 S.2.1 dX4_doesWhen_51 ?_
        refine r_callVi S hK hA hG (hrec _ _ _ _ _ hc hd) (cwV 2 S.2.2.2.2 gX4_doesWhen_X4_does rfl rfl rfl (by decide +kernel) ⟨by try dsimp only; omega, by try dsimp only; omega⟩) (va_recv hK hG.1 (ci := 4) (q0 := 0) rfl rfl) rfl hl.1 rfl (Nat.le_of_ble_eq_true rfl) dX4_doesWhen_52 ⟨Nat.le_of_ble_eq_true rfl, Nat.le_of_ble_eq_true rfl⟩ (fun r5 σ4 H locs hw hG => ?_)
        obtain ⟨e_σ4, hc⟩ := hw
        have hf := bnd2_p e_σ4 hf
        exact r_iret S hr hlocks hG _ rfl ⟨hf, hc⟩ rfl dX4_doesWhen_55
      · have hf := ite_p c_39 hf
        refine lv_iconst (v := 0) S.1 S.2.1 dX4_doesWhen_42 (by decide) ?_
        refine lv_goto (tgt := 55) S.1 S.2.1 dX4_doesWhen_43 (by decide) ?_
        exact r_iret S hr hlocks hG _ rfl ⟨hf, hc⟩ rfl dX4_doesWhen_55
    · have hf := ite_n c_20 hf
      refine lv_aload_n S.1 S.2.1 dX4_doesWhen_23 rfl (lv_at hl 2 rfl) ?_
      refine r_get S hK hG hinX0 (53 + nr + i) (GW_ac _ _ _ _ _ hi) rfl 2 (by decide) (by decide +kernel) rfl dX4_doesWhen_24 ?_
      refine lv_goto (tgt := 34) S.1 S.2.1 dX4_doesWhen_27 (by decide) ?_
      refine lv_topi (fun v6 e_v6 => ?_)
      have hf := bnd_p e_v6 hf
      refine lv_istore (lv' := [(4, .int v6), (3, .int (bI b2)), (0, .ref (ad 0)), (1, .ref (ad (300 + i))), (2, .int x2)]) S.1 S.2.1 dX4_doesWhen_34 hl (by decide) rfl (fun ls hl => ?_)
      refine lv_iload S.1 S.2.1 dX4_doesWhen_36 (lv_at hl 0 rfl) ?_
      refine lv_iconst (v := (-1)) S.1 S.2.1 dX4_doesWhen_38 (by decide) ?_
      refine lv_icmp_ne (tgt := 46) S.1 S.2.1 dX4_doesWhen_39 (by decide) (fun c_39 => ?_) (fun c_39 => ?_)
      · have hf := ite_n c_39 hf
        refine lv_aload_n S.1 S.2.1 dX4_doesWhen_46 rfl (lv_at hl 2 rfl) ?_
        refine lv_iload S.1 S.2.1 dX4_doesWhen_47 (lv_at hl 0 rfl) ?_
        refine lv_iload_n S.1 S.2.1 dX4_doesWhen_49 rfl (lv_at hl 4 rfl) ?_
        refine lv_iconst (v := 1) S.1 S.2.1 dX4_doesWhen_50 (by decide) ?_
        refine lv_iadd S.1 S.2.1 dX4_doesWhen_51 ?_
        refine r_callVi S hK hA hG (hrec _ _ _ _ _ hc hd) (cwV 2 S.2.2.2.2 gX4_doesWhen_X4_does rfl rfl rfl (by decide +kernel) ⟨by try dsimp only; omega, by try dsimp only; omega⟩) (va_recv hK hG.1 (ci := 4) (q0 := 0) rfl rfl) rfl hl.1 rfl (Nat.le_of_ble_eq_true rfl) dX4_doesWhen_52 ⟨Nat.le_of_ble_eq_true rfl, Nat.le_of_ble_eq_true rfl⟩ (fun r8 σ7 H locs hw hG => ?_)
        obtain ⟨e_σ7, hc⟩ := hw
        have hf := bnd2_p e_σ7 hf
        exact r_iret S hr hlocks hG _ rfl ⟨hf, hc⟩ rfl dX4_doesWhen_55
      · have hf := ite_p c_39 hf
        refine lv_iconst (v := 0) S.1 S.2.1 dX4_doesWhen_42 (by decide) ?_
        refine lv_goto (tgt := 55) S.1 S.2.1 dX4_doesWhen_43 (by decide) ?_
        exact r_iret S hr hlocks hG _ rfl ⟨hf, hc⟩ rfl dX4_doesWhen_55
  · have hf := ite_n c_14 hf
    refine lv_iconst (v := 0) S.1 S.2.1 dX4_doesWhen_17 (by decide) ?_
    exact r_iret S hr hlocks hG _ rfl ⟨hf, hc⟩ rfl dX4_doesWhen_18
theorem k_X4_doesWhen (l : Launch) (D : va_G) (cs : Nat → ClassId) (ad : Nat → Nat) (nr nx : Nat) (σ : Mem) (i : Nat) (x2 : Int32) {wy : Int32} {T : Mem} {n : Nat} {rec : Mem → Int32 → Int32 → Int32 × Mem} (hrec : HDoes l D cs ad nr nx n rec) (hc : CInv nr nx wy T σ) (hd : dOK n (x2 + 1)) (hi : i < nx) : CMi l yX4_doesWhen wsX4_doesWhen ({ frames := 2 * n + 93, cells := 0, slots := 0, locals := 60 * n + 2330 } : Room) D vwCl (gT cs) (GW ad cs nr nx σ) [.ref (ad 0), .ref (ad (300 + i)), .int x2] (fun (r : Int32) (u : Mem) => (r, u) = (f_X4_doesWhen rec σ i x2) ∧ CInv nr nx wy T u) (fun u => GW ad cs nr nx u) :=
  r_met (by decide) rfl (Nat.le_of_ble_eq_true rfl) (fun p e s m args below meth c ls S hr hlocks _ hK hA hG hl => b_X4_doesWhen_0 hrec S hr hlocks hK hA σ i x2 hc hd hi rfl _ _ hG ls hl)
theorem in_X4_doesThen_X0 : ∀ w ∈ wsX00, w ∈ wsX4_doesThen := by decide +kernel
theorem in_X4_doesThen_X4 : ∀ w ∈ wsX40, w ∈ wsX4_doesThen := by decide +kernel
def f_X4_doesThen (rec : Mem → Int32 → Int32 → Int32 × Mem) (σ : Mem) (i : Nat) (x2 : Int32) : Int32 × Mem :=
  bnd2 (rec σ (σ (300 + i) 1) (x2 + 1)) fun r2 σ1 =>
  (if (σ1 0 13) = 0 then
  bnd2 (rec σ1 (σ1 (300 + i) 2) (x2 + 1)) fun r4 σ3 =>
  (r2 + r4, σ3)
  else
  (0, σ1))
set_option maxRecDepth 100000 in
set_option maxHeartbeats 4000000 in
theorem b_X4_doesThen_0 {p : Program} {l : Launch} {e : Env} {s : State} {m : MethodId} {args : Array Value} {below : List Frame} {meth : Method} {c : Code} {D : va_G} {cs : Nat → ClassId} {ad : Nat → Nat} {nr nx : Nat} {wy : Int32} {T : Mem} {w0 : va_W} {n : Nat} {rec : Mem → Int32 → Int32 → Int32 × Mem} (hrec : HDoes l D cs ad nr nx n rec) {X : Int32 × Mem} (S : CallFix p m c cX4_doesThen 4 s args wsX4_doesThen RX4) (hr : meth.sig.returnType = (some .int)) (hlocks : meth.locks = false) (hK : va_K D vwCl (gT cs) s) (hA : ∀ q, s.heap.size ≤ q → va_A w0 s.heap.size q) (σ : Mem) (i : Nat) (x2 : Int32) (hc : CInv nr nx wy T σ) (hd : dOK n (x2 + 1)) (hi : i < nx) (hf : f_X4_doesThen rec σ i x2 = X) (H : Heap) (locs : List Loc) (hG : wI D vwCl (va_A w0 s.heap.size) s.heap H locs (GW ad cs nr nx σ)) (ls : Array Slot) (hl : lv_has ls 4 [(0, .ref (ad 0)), (1, .ref (ad (300 + i))), (2, .int x2)]) : W p l e ({ frames := 2 * n + 93, cells := 0, slots := 0, locals := 60 * n + 2330 } : Room) s m args below meth c H locs 0 0 (MQ below (va_Qi (fun (r : Int32) (u : Mem) => (r, u) = X ∧ CInv nr nx wy T u) (fun u t => wPost D vwCl w0 s.heap.size ((fun u => GW ad cs nr nx u) u) t) (va_A w0 s.heap.size)) args s 0 0 (va_A w0 s.heap.size)) (F0 m 0 ls []) := by
  have hinX0 := in_X4_doesThen_X0
  have hinX4 := in_X4_doesThen_X4
  unfold f_X4_doesThen at hf
  refine lv_aload_n S.1 S.2.1 dX4_doesThen_0 rfl (lv_at hl 0 rfl) ?_
  refine lv_aload_n S.1 S.2.1 dX4_doesThen_1 rfl (lv_at hl 1 rfl) ?_
  refine r_get S hK hG hinX0 (53 + nr + i) (GW_ac _ _ _ _ _ hi) rfl 1 (by decide) (by decide +kernel) rfl dX4_doesThen_2 ?_
  refine lv_iload_n S.1 S.2.1 dX4_doesThen_5 rfl (lv_at hl 2 rfl) ?_
  refine lv_iconst (v := 1) S.1 S.2.1 dX4_doesThen_6 (by decide) ?_
  refine lv_iadd S.1 S.2.1 dX4_doesThen_7 ?_
  refine r_callVi S hK hA hG (hrec _ _ _ _ _ hc hd) (cwV 2 S.2.2.2.2 gX4_doesThen_X4_does rfl rfl rfl (by decide +kernel) ⟨by try dsimp only; omega, by try dsimp only; omega⟩) (va_recv hK hG.1 (ci := 4) (q0 := 0) rfl rfl) rfl hl.1 rfl (Nat.le_of_ble_eq_true rfl) dX4_doesThen_8 ⟨Nat.le_of_ble_eq_true rfl, Nat.le_of_ble_eq_true rfl⟩ (fun r2 σ1 H locs hw hG => ?_)
  obtain ⟨e_σ1, hc⟩ := hw
  have hf := bnd2_p e_σ1 hf
  refine lv_istore_n (lv' := [(3, .int r2), (0, .ref (ad 0)), (1, .ref (ad (300 + i))), (2, .int x2)]) S.1 S.2.1 dX4_doesThen_11 rfl hl (by decide) rfl (fun ls hl => ?_)
  refine lv_aload_n S.1 S.2.1 dX4_doesThen_12 rfl (lv_at hl 1 rfl) ?_
  refine r_get S hK hG hinX4 0 rfl rfl 13 (by decide) (by decide +kernel) rfl dX4_doesThen_13 ?_
  refine lv_if_eq (tgt := 21) S.1 S.2.1 dX4_doesThen_16 (by decide) (fun c_16 => ?_) (fun c_16 => ?_)
  · have hf := ite_p c_16 hf
    refine lv_iload_n S.1 S.2.1 dX4_doesThen_21 rfl (lv_at hl 0 rfl) ?_
    refine lv_aload_n S.1 S.2.1 dX4_doesThen_22 rfl (lv_at hl 1 rfl) ?_
    refine lv_aload_n S.1 S.2.1 dX4_doesThen_23 rfl (lv_at hl 2 rfl) ?_
    refine r_get S hK hG hinX0 (53 + nr + i) (GW_ac _ _ _ _ _ hi) rfl 2 (by decide) (by decide +kernel) rfl dX4_doesThen_24 ?_
    refine lv_iload_n S.1 S.2.1 dX4_doesThen_27 rfl (lv_at hl 3 rfl) ?_
    refine lv_iconst (v := 1) S.1 S.2.1 dX4_doesThen_28 (by decide) ?_
    refine lv_iadd S.1 S.2.1 dX4_doesThen_29 ?_
    refine r_callVi S hK hA hG (hrec _ _ _ _ _ hc hd) (cwV 2 S.2.2.2.2 gX4_doesThen_X4_does rfl rfl rfl (by decide +kernel) ⟨by try dsimp only; omega, by try dsimp only; omega⟩) (va_recv hK hG.1 (ci := 4) (q0 := 0) rfl rfl) rfl hl.1 rfl (Nat.le_of_ble_eq_true rfl) dX4_doesThen_30 ⟨Nat.le_of_ble_eq_true rfl, Nat.le_of_ble_eq_true rfl⟩ (fun r4 σ3 H locs hw hG => ?_)
    obtain ⟨e_σ3, hc⟩ := hw
    have hf := bnd2_p e_σ3 hf
    refine lv_iadd S.1 S.2.1 dX4_doesThen_33 ?_
    exact r_iret S hr hlocks hG _ rfl ⟨hf, hc⟩ rfl dX4_doesThen_34
  · have hf := ite_n c_16 hf
    refine lv_iconst (v := 0) S.1 S.2.1 dX4_doesThen_19 (by decide) ?_
    exact r_iret S hr hlocks hG _ rfl ⟨hf, hc⟩ rfl dX4_doesThen_20
theorem k_X4_doesThen (l : Launch) (D : va_G) (cs : Nat → ClassId) (ad : Nat → Nat) (nr nx : Nat) (σ : Mem) (i : Nat) (x2 : Int32) {wy : Int32} {T : Mem} {n : Nat} {rec : Mem → Int32 → Int32 → Int32 × Mem} (hrec : HDoes l D cs ad nr nx n rec) (hc : CInv nr nx wy T σ) (hd : dOK n (x2 + 1)) (hi : i < nx) : CMi l yX4_doesThen wsX4_doesThen ({ frames := 2 * n + 93, cells := 0, slots := 0, locals := 60 * n + 2330 } : Room) D vwCl (gT cs) (GW ad cs nr nx σ) [.ref (ad 0), .ref (ad (300 + i)), .int x2] (fun (r : Int32) (u : Mem) => (r, u) = (f_X4_doesThen rec σ i x2) ∧ CInv nr nx wy T u) (fun u => GW ad cs nr nx u) :=
  r_met (by decide) rfl (Nat.le_of_ble_eq_true rfl) (fun p e s m args below meth c ls S hr hlocks _ hK hA hG hl => b_X4_doesThen_0 hrec S hr hlocks hK hA σ i x2 hc hd hi rfl _ _ hG ls hl)
theorem in_X4_doesTimes_X0 : ∀ w ∈ wsX00, w ∈ wsX4_doesTimes := by decide +kernel
theorem in_X4_doesTimes_X4 : ∀ w ∈ wsX40, w ∈ wsX4_doesTimes := by decide +kernel
def f_X4_doesTimes_5 (rec : Mem → Int32 → Int32 → Int32 × Mem) : Nat → Mem → Nat → Int32 → Int32 → Int32 → Int32 × Mem
  | 0, σ, _, _, _, _ => (0, σ)
  | k + 1, σ, i, x2, sum, j =>
  (if (σ (300 + i) 2) ≤ j then
  (sum, σ)
  else
  (if (σ 0 13) = 0 then
  bnd2 (rec σ (σ (300 + i) 1) (x2 + 1)) fun r2 σ1 =>
  bnd (sum + r2) fun v3 =>
  bnd (j + 1) fun v4 =>
  f_X4_doesTimes_5 rec k σ1 i x2 v3 v4
  else
  (sum, σ)))
set_option maxRecDepth 100000 in
set_option maxHeartbeats 4000000 in
theorem b_X4_doesTimes_5 {p : Program} {l : Launch} {e : Env} {s : State} {m : MethodId} {args : Array Value} {below : List Frame} {meth : Method} {c : Code} {D : va_G} {cs : Nat → ClassId} {ad : Nat → Nat} {nr nx : Nat} {wy : Int32} {T : Mem} {w0 : va_W} {n : Nat} {rec : Mem → Int32 → Int32 → Int32 × Mem} (hrec : HDoes l D cs ad nr nx n rec) {X : Int32 × Mem} (S : CallFix p m c cX4_doesTimes 5 s args wsX4_doesTimes RX4) (hr : meth.sig.returnType = (some .int)) (hlocks : meth.locks = false) (hK : va_K D vwCl (gT cs) s) (hA : ∀ q, s.heap.size ≤ q → va_A w0 s.heap.size q) : ∀ (k : Nat) (σ : Mem) (i : Nat) (x2 : Int32) (sum : Int32) (j : Int32) (hc : CInv nr nx wy T σ) (hi : i < nx) (hd : dOK n (x2 + 1)) (hj : lpT (T (300 + i) 2) k j), f_X4_doesTimes_5 rec k σ i x2 sum j = X → ∀ (H : Heap) (locs : List Loc), wI D vwCl (va_A w0 s.heap.size) s.heap H locs (GW ad cs nr nx σ) → ∀ (ls : Array Slot), lv_has ls 5 [(0, .ref (ad 0)), (1, .ref (ad (300 + i))), (2, .int x2), (3, .int sum), (4, .int j)] → W p l e ({ frames := 2 * n + 93, cells := 0, slots := 0, locals := 60 * n + 2330 } : Room) s m args below meth c H locs 0 0 (MQ below (va_Qi (fun (r : Int32) (u : Mem) => (r, u) = X ∧ CInv nr nx wy T u) (fun u t => wPost D vwCl w0 s.heap.size ((fun u => GW ad cs nr nx u) u) t) (va_A w0 s.heap.size)) args s 0 0 (va_A w0 s.heap.size)) (F0 m 5 ls []) := by
  have hinX0 := in_X4_doesTimes_X0
  have hinX4 := in_X4_doesTimes_X4
  intro k
  induction k with
  | zero =>
    intro σ i x2 sum j hc hi hd hj
    exact (by obtain ⟨q, -, h1, h2⟩ := hj; omega)
  | succ k ih =>
    intro σ i x2 sum j hc hi hd hj hf H locs hG ls hl
    unfold f_X4_doesTimes_5 at hf
    have hq : CInv nr nx wy T σ := hc
    refine lv_iload S.1 S.2.1 dX4_doesTimes_5 (lv_at hl 4 rfl) ?_
    refine lv_aload_n S.1 S.2.1 dX4_doesTimes_7 rfl (lv_at hl 1 rfl) ?_
    refine r_get S hK hG hinX0 (53 + nr + i) (GW_ac _ _ _ _ _ hi) rfl 2 (by decide) (by decide +kernel) rfl dX4_doesTimes_8 ?_
    refine lv_icmp_ge (tgt := 41) S.1 S.2.1 dX4_doesTimes_11 (by decide) (fun c_11 => ?_) (fun c_11 => ?_)
    · have hf := ite_p c_11 hf
      refine lv_iload_n S.1 S.2.1 dX4_doesTimes_41 rfl (lv_at hl 3 rfl) ?_
      exact r_iret S hr hlocks hG _ rfl ⟨hf, hc⟩ rfl dX4_doesTimes_42
    · have hf := ite_n c_11 hf
      refine lv_aload_n S.1 S.2.1 dX4_doesTimes_14 rfl (lv_at hl 0 rfl) ?_
      refine r_get S hK hG hinX4 0 rfl rfl 13 (by decide) (by decide +kernel) rfl dX4_doesTimes_15 ?_
      refine lv_if_ne (tgt := 41) S.1 S.2.1 dX4_doesTimes_18 (by decide) (fun c_18 => ?_) (fun c_18 => ?_)
      · have hf := ite_n c_18 hf
        refine lv_iload_n S.1 S.2.1 dX4_doesTimes_41 rfl (lv_at hl 3 rfl) ?_
        exact r_iret S hr hlocks hG _ rfl ⟨hf, hc⟩ rfl dX4_doesTimes_42
      · have hf := ite_p c_18 hf
        refine lv_iload_n S.1 S.2.1 dX4_doesTimes_21 rfl (lv_at hl 3 rfl) ?_
        refine lv_aload_n S.1 S.2.1 dX4_doesTimes_22 rfl (lv_at hl 0 rfl) ?_
        refine lv_aload_n S.1 S.2.1 dX4_doesTimes_23 rfl (lv_at hl 1 rfl) ?_
        refine r_get S hK hG hinX0 (53 + nr + i) (GW_ac _ _ _ _ _ hi) rfl 1 (by decide) (by decide +kernel) rfl dX4_doesTimes_24 ?_
        refine lv_iload_n S.1 S.2.1 dX4_doesTimes_27 rfl (lv_at hl 2 rfl) ?_
        refine lv_iconst (v := 1) S.1 S.2.1 dX4_doesTimes_28 (by decide) ?_
        refine lv_iadd S.1 S.2.1 dX4_doesTimes_29 ?_
        refine r_callVi S hK hA hG (hrec _ _ _ _ _ hc hd) (cwV 2 S.2.2.2.2 gX4_doesTimes_X4_does rfl rfl rfl (by decide +kernel) ⟨by try dsimp only; omega, by try dsimp only; omega⟩) (va_recv hK hG.1 (ci := 4) (q0 := 0) rfl rfl) rfl hl.1 rfl (Nat.le_of_ble_eq_true rfl) dX4_doesTimes_30 ⟨Nat.le_of_ble_eq_true rfl, Nat.le_of_ble_eq_true rfl⟩ (fun r2 σ1 H locs hw hG => ?_)
        obtain ⟨e_σ1, hc⟩ := hw
        have hf := bnd2_p e_σ1 hf
        refine lv_iadd S.1 S.2.1 dX4_doesTimes_33 ?_
        refine lv_topi (fun v3 e_v3 => ?_)
        have hf := bnd_p e_v3 hf
        refine lv_istore_n (lv' := [(3, .int v3), (0, .ref (ad 0)), (1, .ref (ad (300 + i))), (2, .int x2), (4, .int j)]) S.1 S.2.1 dX4_doesTimes_34 rfl hl (by decide) rfl (fun ls hl => ?_)
        obtain ⟨v4, e_v4⟩ : ∃ z : Int32, z = j + 1 := ⟨_, rfl⟩
        have hf := bnd_p e_v4 hf
        refine lv_iinc (v := v4) (lv' := [(4, .int v4), (3, .int v3), (0, .ref (ad 0)), (1, .ref (ad (300 + i))), (2, .int x2)]) S.1 S.2.1 dX4_doesTimes_35 hl (k := 4) rfl (by rw [e_v4]; rfl) (by decide) rfl (fun ls hl => ?_)
        refine lv_goto (tgt := 5) S.1 S.2.1 dX4_doesTimes_38 (by decide) ?_
        exact ih σ1 i x2 v3 v4 (hc) (hi) (hd) (lpT_s hj (by rw [← hq.2.2.2.2.2.1 i 2]; exact c_11) e_v4) hf H locs hG ls (lv_sub hl [2, 3, 4, 1, 0] rfl)
def f_X4_doesTimes (rec : Mem → Int32 → Int32 → Int32 × Mem) (σ : Mem) (i : Nat) (x2 : Int32) : Int32 × Mem :=
  f_X4_doesTimes_5 rec ((σ (300 + i) 2).toNatClampNeg + 1) σ i x2 0 0
set_option maxRecDepth 100000 in
set_option maxHeartbeats 4000000 in
theorem b_X4_doesTimes_0 {p : Program} {l : Launch} {e : Env} {s : State} {m : MethodId} {args : Array Value} {below : List Frame} {meth : Method} {c : Code} {D : va_G} {cs : Nat → ClassId} {ad : Nat → Nat} {nr nx : Nat} {wy : Int32} {T : Mem} {w0 : va_W} {n : Nat} {rec : Mem → Int32 → Int32 → Int32 × Mem} (hrec : HDoes l D cs ad nr nx n rec) {X : Int32 × Mem} (S : CallFix p m c cX4_doesTimes 5 s args wsX4_doesTimes RX4) (hr : meth.sig.returnType = (some .int)) (hlocks : meth.locks = false) (hK : va_K D vwCl (gT cs) s) (hA : ∀ q, s.heap.size ≤ q → va_A w0 s.heap.size q) (σ : Mem) (i : Nat) (x2 : Int32) (hc : CInv nr nx wy T σ) (hd : dOK n (x2 + 1)) (hi : i < nx) (hf : f_X4_doesTimes rec σ i x2 = X) (H : Heap) (locs : List Loc) (hG : wI D vwCl (va_A w0 s.heap.size) s.heap H locs (GW ad cs nr nx σ)) (ls : Array Slot) (hl : lv_has ls 5 [(0, .ref (ad 0)), (1, .ref (ad (300 + i))), (2, .int x2)]) : W p l e ({ frames := 2 * n + 93, cells := 0, slots := 0, locals := 60 * n + 2330 } : Room) s m args below meth c H locs 0 0 (MQ below (va_Qi (fun (r : Int32) (u : Mem) => (r, u) = X ∧ CInv nr nx wy T u) (fun u t => wPost D vwCl w0 s.heap.size ((fun u => GW ad cs nr nx u) u) t) (va_A w0 s.heap.size)) args s 0 0 (va_A w0 s.heap.size)) (F0 m 0 ls []) := by
  have hinX0 := in_X4_doesTimes_X0
  have hinX4 := in_X4_doesTimes_X4
  unfold f_X4_doesTimes at hf
  refine lv_iconst (v := 0) S.1 S.2.1 dX4_doesTimes_0 (by decide) ?_
  refine lv_istore_n (lv' := [(3, .int 0), (0, .ref (ad 0)), (1, .ref (ad (300 + i))), (2, .int x2)]) S.1 S.2.1 dX4_doesTimes_1 rfl hl (by decide) rfl (fun ls hl => ?_)
  refine lv_iconst (v := 0) S.1 S.2.1 dX4_doesTimes_2 (by decide) ?_
  refine lv_istore (lv' := [(4, .int 0), (3, .int 0), (0, .ref (ad 0)), (1, .ref (ad (300 + i))), (2, .int x2)]) S.1 S.2.1 dX4_doesTimes_3 hl (by decide) rfl (fun ls hl => ?_)
  exact b_X4_doesTimes_5 hrec S hr hlocks hK hA ((σ (300 + i) 2).toNatClampNeg + 1) σ i x2 0 0 (hc) (hi) (hd) (by rw [hc.2.2.2.2.2.1 i 2]; exact ⟨0, rfl, by omega, by omega⟩) hf H locs hG ls (lv_sub hl [2, 3, 4, 1, 0] rfl)
theorem k_X4_doesTimes (l : Launch) (D : va_G) (cs : Nat → ClassId) (ad : Nat → Nat) (nr nx : Nat) (σ : Mem) (i : Nat) (x2 : Int32) {wy : Int32} {T : Mem} {n : Nat} {rec : Mem → Int32 → Int32 → Int32 × Mem} (hrec : HDoes l D cs ad nr nx n rec) (hc : CInv nr nx wy T σ) (hd : dOK n (x2 + 1)) (hi : i < nx) : CMi l yX4_doesTimes wsX4_doesTimes ({ frames := 2 * n + 93, cells := 0, slots := 0, locals := 60 * n + 2330 } : Room) D vwCl (gT cs) (GW ad cs nr nx σ) [.ref (ad 0), .ref (ad (300 + i)), .int x2] (fun (r : Int32) (u : Mem) => (r, u) = (f_X4_doesTimes rec σ i x2) ∧ CInv nr nx wy T u) (fun u => GW ad cs nr nx u) :=
  r_met (by decide) rfl (Nat.le_of_ble_eq_true rfl) (fun p e s m args below meth c ls S hr hlocks _ hK hA hG hl => b_X4_doesTimes_0 hrec S hr hlocks hK hA σ i x2 hc hd hi rfl _ _ hG ls hl)
theorem in_X4_doesTry_X0 : ∀ w ∈ wsX00, w ∈ wsX4_doesTry := by decide +kernel
theorem in_X4_doesTry_X4 : ∀ w ∈ wsX40, w ∈ wsX4_doesTry := by decide +kernel
def f_X4_doesTry (rec : Mem → Int32 → Int32 → Int32 × Mem) (σ : Mem) (i : Nat) (x2 : Int32) : Int32 × Mem :=
  (if (bI (f_X4_isWithin x2 0 39)) = 0 then
  (0, σ)
  else
  bnd (mrow σ (100 + x2.toNatClampNeg) (cpy6 (σ 2) (σ (100 + x2.toNatClampNeg)))) fun σ1 =>
  bnd2 (rec σ1 (σ1 (300 + i) 1) (x2 + 1)) fun r3 σ2 =>
  (if (bI (f_X4_canBeCaught σ2)) = 0 then
  (r3, σ2)
  else
  bnd (mrow σ2 2 (cpy6 (σ2 (100 + x2.toNatClampNeg)) (σ2 2))) fun σ4 =>
  bnd (mset σ4 0 13 0) fun σ5 =>
  bnd2 (rec σ5 (σ5 (300 + i) 2) (x2 + 1)) fun r7 σ6 =>
  (r7, σ6)))
set_option maxRecDepth 100000 in
set_option maxHeartbeats 4000000 in
theorem b_X4_doesTry_0 {p : Program} {l : Launch} {e : Env} {s : State} {m : MethodId} {args : Array Value} {below : List Frame} {meth : Method} {c : Code} {D : va_G} {cs : Nat → ClassId} {ad : Nat → Nat} {nr nx : Nat} {wy : Int32} {T : Mem} {w0 : va_W} {n : Nat} {rec : Mem → Int32 → Int32 → Int32 × Mem} (hrec : HDoes l D cs ad nr nx n rec) {X : Int32 × Mem} (S : CallFix p m c cX4_doesTry 5 s args wsX4_doesTry RX4) (hr : meth.sig.returnType = (some .int)) (hlocks : meth.locks = false) (hK : va_K D vwCl (gT cs) s) (hA : ∀ q, s.heap.size ≤ q → va_A w0 s.heap.size q) (σ : Mem) (i : Nat) (x2 : Int32) (hc : CInv nr nx wy T σ) (hd : dOK n (x2 + 1)) (hi : i < nx) (hf : f_X4_doesTry rec σ i x2 = X) (H : Heap) (locs : List Loc) (hG : wI D vwCl (va_A w0 s.heap.size) s.heap H locs (GW ad cs nr nx σ)) (ls : Array Slot) (hl : lv_has ls 5 [(0, .ref (ad 0)), (1, .ref (ad (300 + i))), (2, .int x2)]) : W p l e ({ frames := 2 * n + 93, cells := 0, slots := 0, locals := 60 * n + 2330 } : Room) s m args below meth c H locs 0 0 (MQ below (va_Qi (fun (r : Int32) (u : Mem) => (r, u) = X ∧ CInv nr nx wy T u) (fun u t => wPost D vwCl w0 s.heap.size ((fun u => GW ad cs nr nx u) u) t) (va_A w0 s.heap.size)) args s 0 0 (va_A w0 s.heap.size)) (F0 m 0 ls []) := by
  have hinX0 := in_X4_doesTry_X0
  have hinX4 := in_X4_doesTry_X4
  unfold f_X4_doesTry at hf
  refine lv_iload_n S.1 S.2.1 dX4_doesTry_0 rfl (lv_at hl 2 rfl) ?_
  refine lv_iconst (v := 0) S.1 S.2.1 dX4_doesTry_1 (by decide) ?_
  refine lv_bipush (v := 39) S.1 S.2.1 dX4_doesTry_2 (by decide) ?_
  refine r_callSi S hK hA hG (k_X4_isWithin l _ _ _ _ _ _ _) (cwS 3 S.2.2.2.2 gX4_doesTry_X4_isWithin rfl rfl rfl (by decide +kernel) ⟨by try dsimp only; omega, by try dsimp only; omega⟩) rfl hl.1 rfl (Nat.le_of_ble_eq_true rfl) dX4_doesTry_4 ⟨Nat.le_of_ble_eq_true rfl, Nat.le_of_ble_eq_true rfl⟩ (fun r4 _ H locs hw hG => ?_)
  obtain rfl := hw
  refine lv_if_ne (tgt := 12) S.1 S.2.1 dX4_doesTry_7 (by decide) (fun c_7 => ?_) (fun c_7 => ?_)
  · have hf := ite_n c_7 hf
    refine lv_aload_n S.1 S.2.1 dX4_doesTry_12 rfl (lv_at hl 0 rfl) ?_
    refine r_get S hK hG hinX4 0 rfl rfl 2 (by decide) (by decide +kernel) rfl dX4_doesTry_13 ?_
    refine lv_iload_n S.1 S.2.1 dX4_doesTry_16 rfl (lv_at hl 2 rfl) ?_
    refine C_aah S hK hG (cw_vp c_7 (by decide)) dX4_doesTry_17 ?_
    refine lv_astore_n (lv' := [(3, .ref (ad (100 + x2.toNatClampNeg))), (0, .ref (ad 0)), (1, .ref (ad (300 + i))), (2, .int x2)]) S.1 S.2.1 dX4_doesTry_18 rfl hl (by decide) rfl (fun ls hl => ?_)
    refine lv_aload_n S.1 S.2.1 dX4_doesTry_19 rfl (lv_at hl 1 rfl) ?_
    refine r_get S hK hG hinX4 0 rfl rfl 1 (by decide) (by decide +kernel) rfl dX4_doesTry_20 ?_
    refine lv_iconst (v := 0) S.1 S.2.1 dX4_doesTry_23 (by decide) ?_
    refine lv_aload_n S.1 S.2.1 dX4_doesTry_24 rfl (lv_at hl 0 rfl) ?_
    refine lv_iconst (v := 0) S.1 S.2.1 dX4_doesTry_25 (by decide) ?_
    refine lv_bipush (v := 6) S.1 S.2.1 dX4_doesTry_26 (by decide) ?_
    refine C_cpyS S (by decide +kernel) (by decide +kernel) (by decide +kernel) (by decide +kernel) hK hG (vp_lt (cw_vp c_7 (n := 40) (by decide))) (by try dsimp only; omega) (by show 0 + (nativeFrameWords "java/lang/System" "arraycopy" 5 + 11) ≤ _; have h9 : nativeFrameWords "java/lang/System" "arraycopy" 5 ≤ 100 := (by decide +kernel); try dsimp only; omega) hl.1 dX4_doesTry_28 (fun σ1 H locs e_σ1 hG => ?_)
    have hf := bnd_p e_σ1 hf
    have hc := ci_mrow (by have := (vp_lt (cw_vp c_7 (n := 40) (by decide))); omega) e_σ1 hc
    refine lv_aload_n S.1 S.2.1 dX4_doesTry_31 rfl (lv_at hl 1 rfl) ?_
    refine lv_aload_n S.1 S.2.1 dX4_doesTry_32 rfl (lv_at hl 2 rfl) ?_
    refine r_get S hK hG hinX0 (53 + nr + i) (GW_ac _ _ _ _ _ hi) rfl 1 (by decide) (by decide +kernel) rfl dX4_doesTry_33 ?_
    refine lv_iload_n S.1 S.2.1 dX4_doesTry_36 rfl (lv_at hl 3 rfl) ?_
    refine lv_iconst (v := 1) S.1 S.2.1 dX4_doesTry_37 (by decide) ?_
    refine lv_iadd S.1 S.2.1 dX4_doesTry_38 ?_
    refine r_callVi S hK hA hG (hrec _ _ _ _ _ hc hd) (cwV 2 S.2.2.2.2 gX4_doesTry_X4_does rfl rfl rfl (by decide +kernel) ⟨by try dsimp only; omega, by try dsimp only; omega⟩) (va_recv hK hG.1 (ci := 4) (q0 := 0) rfl rfl) rfl hl.1 rfl (Nat.le_of_ble_eq_true rfl) dX4_doesTry_39 ⟨Nat.le_of_ble_eq_true rfl, Nat.le_of_ble_eq_true rfl⟩ (fun r3 σ2 H locs hw hG => ?_)
    obtain ⟨e_σ2, hc⟩ := hw
    have hf := bnd2_p e_σ2 hf
    refine lv_istore (lv' := [(4, .int r3), (3, .ref (ad (100 + x2.toNatClampNeg))), (0, .ref (ad 0)), (1, .ref (ad (300 + i))), (2, .int x2)]) S.1 S.2.1 dX4_doesTry_42 hl (by decide) rfl (fun ls hl => ?_)
    refine lv_aload_n S.1 S.2.1 dX4_doesTry_44 rfl (lv_at hl 2 rfl) ?_
    refine r_callVi S hK hA hG (k_X4_canBeCaught l _ _ _ _ _ _ hc) (cwV 0 S.2.2.2.2 gX4_doesTry_X4_canBeCaught rfl rfl rfl (by decide +kernel) ⟨by try dsimp only; omega, by try dsimp only; omega⟩) (va_recv hK hG.1 (ci := 4) (q0 := 0) rfl rfl) rfl hl.1 rfl (Nat.le_of_ble_eq_true rfl) dX4_doesTry_45 ⟨Nat.le_of_ble_eq_true rfl, Nat.le_of_ble_eq_true rfl⟩ (fun r45 _ H locs hw hG => ?_)
    obtain rfl := hw
    refine lv_if_ne (tgt := 54) S.1 S.2.1 dX4_doesTry_48 (by decide) (fun c_48 => ?_) (fun c_48 => ?_)
    · have hf := ite_n c_48 hf
      refine lv_aload_n S.1 S.2.1 dX4_doesTry_54 rfl (lv_at hl 1 rfl) ?_
      refine lv_iconst (v := 0) S.1 S.2.1 dX4_doesTry_55 (by decide) ?_
      refine lv_aload_n S.1 S.2.1 dX4_doesTry_56 rfl (lv_at hl 2 rfl) ?_
      refine r_get S hK hG hinX4 0 rfl rfl 1 (by decide) (by decide +kernel) rfl dX4_doesTry_57 ?_
      refine lv_iconst (v := 0) S.1 S.2.1 dX4_doesTry_60 (by decide) ?_
      refine lv_bipush (v := 6) S.1 S.2.1 dX4_doesTry_61 (by decide) ?_
      refine C_cpyR S (by decide +kernel) (by decide +kernel) (by decide +kernel) (by decide +kernel) hK hG (vp_lt (cw_vp c_7 (n := 40) (by decide))) (by try dsimp only; omega) (by show 0 + (nativeFrameWords "java/lang/System" "arraycopy" 5 + 11) ≤ _; have h9 : nativeFrameWords "java/lang/System" "arraycopy" 5 ≤ 100 := (by decide +kernel); try dsimp only; omega) hl.1 dX4_doesTry_63 (fun σ4 H locs e_σ4 hG => ?_)
      have hf := bnd_p e_σ4 hf
      have hc := ci_mrow (by decide) e_σ4 hc
      refine lv_aload_n S.1 S.2.1 dX4_doesTry_66 rfl (lv_at hl 2 rfl) ?_
      refine lv_iconst (v := 0) S.1 S.2.1 dX4_doesTry_67 (by decide) ?_
      refine C_put S hK hG hinX4 tyX4 tyX4_ok nmX4 0 rfl rfl 13 (by decide) (by decide +kernel) rfl rfl rfl (Nat.le_of_ble_eq_true rfl) (GWp_0_13 _ _ _ _ _ _) dX4_doesTry_68 (fun σ5 H locs e_σ5 hG => ?_)
      have hf := bnd_p e_σ5 hf
      have hc := ci_p0 (k := 13) (by decide) e_σ5 hc
      refine lv_aload_n S.1 S.2.1 dX4_doesTry_71 rfl (lv_at hl 2 rfl) ?_
      refine lv_aload_n S.1 S.2.1 dX4_doesTry_72 rfl (lv_at hl 3 rfl) ?_
      refine r_get S hK hG hinX0 (53 + nr + i) (GW_ac _ _ _ _ _ hi) rfl 2 (by decide) (by decide +kernel) rfl dX4_doesTry_73 ?_
      refine lv_iload_n S.1 S.2.1 dX4_doesTry_76 rfl (lv_at hl 4 rfl) ?_
      refine lv_iconst (v := 1) S.1 S.2.1 dX4_doesTry_77 (by decide) ?_
      refine lv_iadd S.1 S.2.1 dX4_doesTry_78 ?_
      refine r_callVi S hK hA hG (hrec _ _ _ _ _ hc hd) (cwV 2 S.2.2.2.2 gX4_doesTry_X4_does rfl rfl rfl (by decide +kernel) ⟨by try dsimp only; omega, by try dsimp only; omega⟩) (va_recv hK hG.1 (ci := 4) (q0 := 0) rfl rfl) rfl hl.1 rfl (Nat.le_of_ble_eq_true rfl) dX4_doesTry_79 ⟨Nat.le_of_ble_eq_true rfl, Nat.le_of_ble_eq_true rfl⟩ (fun r7 σ6 H locs hw hG => ?_)
      obtain ⟨e_σ6, hc⟩ := hw
      have hf := bnd2_p e_σ6 hf
      exact r_iret S hr hlocks hG _ rfl ⟨hf, hc⟩ rfl dX4_doesTry_82
    · have hf := ite_p c_48 hf
      refine lv_iload S.1 S.2.1 dX4_doesTry_51 (lv_at hl 0 rfl) ?_
      exact r_iret S hr hlocks hG _ rfl ⟨hf, hc⟩ rfl dX4_doesTry_53
  · have hf := ite_p c_7 hf
    refine lv_iconst (v := 0) S.1 S.2.1 dX4_doesTry_10 (by decide) ?_
    exact r_iret S hr hlocks hG _ rfl ⟨hf, hc⟩ rfl dX4_doesTry_11
theorem k_X4_doesTry (l : Launch) (D : va_G) (cs : Nat → ClassId) (ad : Nat → Nat) (nr nx : Nat) (σ : Mem) (i : Nat) (x2 : Int32) {wy : Int32} {T : Mem} {n : Nat} {rec : Mem → Int32 → Int32 → Int32 × Mem} (hrec : HDoes l D cs ad nr nx n rec) (hc : CInv nr nx wy T σ) (hd : dOK n (x2 + 1)) (hi : i < nx) : CMi l yX4_doesTry wsX4_doesTry ({ frames := 2 * n + 93, cells := 0, slots := 0, locals := 60 * n + 2330 } : Room) D vwCl (gT cs) (GW ad cs nr nx σ) [.ref (ad 0), .ref (ad (300 + i)), .int x2] (fun (r : Int32) (u : Mem) => (r, u) = (f_X4_doesTry rec σ i x2) ∧ CInv nr nx wy T u) (fun u => GW ad cs nr nx u) :=
  r_met (by decide) rfl (Nat.le_of_ble_eq_true rfl) (fun p e s m args below meth c ls S hr hlocks _ hK hA hG hl => b_X4_doesTry_0 hrec S hr hlocks hK hA σ i x2 hc hd hi rfl _ _ hG ls hl)
theorem in_X4_does_X0 : ∀ w ∈ wsX00, w ∈ wsX4_does := by decide +kernel
theorem in_X4_does_X4 : ∀ w ∈ wsX40, w ∈ wsX4_does := by decide +kernel
def f_X4_does : Nat → Mem → Int32 → Int32 → Int32 × Mem
  | 0, σ, _, _ => (0, σ)
  | n + 1, σ, x1, x2 =>
  bnd2 (f_X4_begins σ) fun b2 σ1 =>
  (if (bI b2) = 0 then
  (0, σ1)
  else
  (optE (f_X4_actAt σ1 x1) (bnd (mset σ1 0 13 4) fun σ3 =>
  (0, σ3)) fun i_11 =>
  (if x2 < 40 then
  (if (σ1 (300 + i_11) 0) = 0 then
  bnd2 (f_X4_doesPour σ1 i_11) fun r5 σ4 =>
  (r5, σ4)
  else
  (if (σ1 (300 + i_11) 0) = 1 then
  bnd2 (f_X4_doesMove σ1 i_11) fun r7 σ6 =>
  (r7, σ6)
  else
  (if (σ1 (300 + i_11) 0) = 2 then
  bnd2 (f_X4_doesWhen (f_X4_does n) σ1 i_11 x2) fun r9 σ8 =>
  (r9, σ8)
  else
  (if (σ1 (300 + i_11) 0) = 3 then
  bnd2 (f_X4_doesThen (f_X4_does n) σ1 i_11 x2) fun r11 σ10 =>
  (r11, σ10)
  else
  (if (σ1 (300 + i_11) 0) = 4 then
  bnd2 (f_X4_doesTimes (f_X4_does n) σ1 i_11 x2) fun r13 σ12 =>
  (r13, σ12)
  else
  (if (σ1 (300 + i_11) 0) = 5 then
  bnd2 (f_X4_doesLater σ1 i_11) fun r15 σ14 =>
  (r15, σ14)
  else
  (if (σ1 (300 + i_11) 0) = 6 then
  bnd2 (f_X4_doesTry (f_X4_does n) σ1 i_11 x2) fun r17 σ16 =>
  (r17, σ16)
  else
  (if (σ1 (300 + i_11) 0) = 7 then
  bnd2 (f_X4_does n σ1 (σ1 (300 + i_11) 1) (x2 + 1)) fun r19 σ18 =>
  (r19, σ18)
  else
  bnd2 (f_X4_doesShow σ1 i_11) fun r21 σ20 =>
  (r21, σ20)))))))))
  else
  bnd (mset σ1 0 13 4) fun σ22 =>
  (0, σ22))))
set_option maxRecDepth 100000 in
set_option maxHeartbeats 4000000 in
theorem b_X4_does_0 {p : Program} {l : Launch} {e : Env} {s : State} {m : MethodId} {args : Array Value} {below : List Frame} {meth : Method} {c : Code} {D : va_G} {cs : Nat → ClassId} {ad : Nat → Nat} {nr nx : Nat} {wy : Int32} {T : Mem} {w0 : va_W} {n : Nat} (hrec : HDoes l D cs ad nr nx n (f_X4_does n)) {X : Int32 × Mem} (S : CallFix p m c cX4_does 4 s args wsX4_does RX4) (hr : meth.sig.returnType = (some .int)) (hlocks : meth.locks = false) (hK : va_K D vwCl (gT cs) s) (hA : ∀ q, s.heap.size ≤ q → va_A w0 s.heap.size q) (σ : Mem) (x1 : Int32) (x2 : Int32) (hc : CInv nr nx wy T σ) (hd : dOK (n + 1) x2) (hf : f_X4_does (n + 1) σ x1 x2 = X) (H : Heap) (locs : List Loc) (hG : wI D vwCl (va_A w0 s.heap.size) s.heap H locs (GW ad cs nr nx σ)) (ls : Array Slot) (hl : lv_has ls 4 [(0, .ref (ad 0)), (1, .int x1), (2, .int x2)]) : W p l e ({ frames := 2 * (n + 1) + 92, cells := 0, slots := 0, locals := 60 * (n + 1) + 2300 } : Room) s m args below meth c H locs 0 0 (MQ below (va_Qi (fun (r : Int32) (u : Mem) => (r, u) = X ∧ CInv nr nx wy T u) (fun u t => wPost D vwCl w0 s.heap.size ((fun u => GW ad cs nr nx u) u) t) (va_A w0 s.heap.size)) args s 0 0 (va_A w0 s.heap.size)) (F0 m 0 ls []) := by
  have hinX0 := in_X4_does_X0
  have hinX4 := in_X4_does_X4
  unfold f_X4_does at hf
  refine lv_aload_n S.1 S.2.1 dX4_does_0 rfl (lv_at hl 0 rfl) ?_
  refine r_callVi S hK hA hG (k_X4_begins l _ _ _ _ _ _ hc) (cwV 0 S.2.2.2.2 gX4_does_X4_begins rfl rfl rfl (by decide +kernel) ⟨by try dsimp only; omega, by try dsimp only; omega⟩) (va_recv hK hG.1 (ci := 4) (q0 := 0) rfl rfl) rfl hl.1 rfl (Nat.le_of_ble_eq_true rfl) dX4_does_1 ⟨Nat.le_of_ble_eq_true rfl, Nat.le_of_ble_eq_true rfl⟩ (fun r_ σ1 H locs hw hG => ?_)
  obtain ⟨⟨b2, rfl, e_σ1⟩, hc⟩ := hw
  have hf := bnd2_p e_σ1 hf
  refine lv_if_ne (tgt := 9) S.1 S.2.1 dX4_does_4 (by decide) (fun c_4 => ?_) (fun c_4 => ?_)
  · have hf := ite_n c_4 hf
    refine lv_aload_n S.1 S.2.1 dX4_does_9 rfl (lv_at hl 0 rfl) ?_
    refine lv_iload_n S.1 S.2.1 dX4_does_10 rfl (lv_at hl 1 rfl) ?_
    refine r_callVq S hK hA hG (k_X4_actAt l _ _ _ _ _ _ _ hc) (cwV 1 S.2.2.2.2 gX4_does_X4_actAt rfl rfl rfl (by decide +kernel) ⟨by try dsimp only; omega, by try dsimp only; omega⟩) (va_recv hK hG.1 (ci := 4) (q0 := 0) rfl rfl) rfl hl.1 rfl (Nat.le_of_ble_eq_true rfl) dX4_does_11 ⟨Nat.le_of_ble_eq_true rfl, Nat.le_of_ble_eq_true rfl⟩ (fun r11 _ H locs hw hG => ?_)
    obtain rfl := hw
    refine C_opt (fun ho_11 => ?_) (fun i_11 ho_11 => ?_)
    · have hf := opt_n ho_11 hf
      refine lv_astore_nN (lv' := [(3, .null), (0, .ref (ad 0)), (1, .int x1), (2, .int x2)]) S.1 S.2.1 dX4_does_14 rfl hl (by decide) rfl (fun ls hl => ?_)
      refine lv_aload_nN S.1 S.2.1 dX4_does_15 rfl (lv_at hl 0 rfl) ?_
      refine lv_ifnullN (tgt := 25) S.1 S.2.1 dX4_does_16 (by decide) ?_
      refine lv_aload_n S.1 S.2.1 dX4_does_25 rfl (lv_at hl 1 rfl) ?_
      refine lv_iconst (v := 4) S.1 S.2.1 dX4_does_26 (by decide) ?_
      refine C_put S hK hG hinX4 tyX4 tyX4_ok nmX4 0 rfl rfl 13 (by decide) (by decide +kernel) rfl rfl rfl (Nat.le_of_ble_eq_true rfl) (GWp_0_13 _ _ _ _ _ _) dX4_does_27 (fun σ3 H locs e_σ3 hG => ?_)
      have hf := bnd_p e_σ3 hf
      have hc := ci_p0 (k := 13) (by decide) e_σ3 hc
      refine lv_iconst (v := 0) S.1 S.2.1 dX4_does_30 (by decide) ?_
      exact r_iret S hr hlocks hG _ rfl ⟨hf, hc⟩ rfl dX4_does_31
    · have hf := opt_s ho_11 hf
      have hi_11 : i_11 < nx := xa_lt ho_11 hc
      refine lv_astore_n (lv' := [(3, .ref (ad (300 + i_11))), (0, .ref (ad 0)), (1, .int x1), (2, .int x2)]) S.1 S.2.1 dX4_does_14 rfl hl (by decide) rfl (fun ls hl => ?_)
      refine lv_aload_n S.1 S.2.1 dX4_does_15 rfl (lv_at hl 0 rfl) ?_
      refine lv_ifnull S.1 S.2.1 dX4_does_16 ?_
      refine lv_iload_n S.1 S.2.1 dX4_does_19 rfl (lv_at hl 3 rfl) ?_
      refine lv_bipush (v := 40) S.1 S.2.1 dX4_does_20 (by decide) ?_
      refine lv_icmp_lt (tgt := 32) S.1 S.2.1 dX4_does_22 (by decide) (fun c_22 => ?_) (fun c_22 => ?_)
      · have hf := ite_p c_22 hf
        refine lv_aload_n S.1 S.2.1 dX4_does_32 rfl (lv_at hl 0 rfl) ?_
        refine r_get S hK hG hinX0 (53 + nr + i_11) (GW_ac _ _ _ _ _ hi_11) rfl 0 (by decide) (by decide +kernel) rfl dX4_does_33 ?_
        refine (Decidable.em ((σ1 (300 + i_11) 0) = 0)).elim (fun c_36_0 => ?_) (fun c_36_0 => ?_)
        · have hf := ite_p c_36_0 hf
          refine lv_tableIn (off := 48) (tgt := 84) S.1 S.2.1 dX4_does_36 (by rw [c_36_0]; decide) (by rw [c_36_0]; decide) (by rw [c_36_0]; rfl) (by decide) ?_
          refine lv_aload_n S.1 S.2.1 dX4_does_84 rfl (lv_at hl 1 rfl) ?_
          refine lv_aload_n S.1 S.2.1 dX4_does_85 rfl (lv_at hl 0 rfl) ?_
          refine r_callVi S hK hA hG (k_X4_doesPour l _ _ _ _ _ _ _ hc hi_11) (cwV 1 S.2.2.2.2 gX4_does_X4_doesPour rfl rfl rfl (by decide +kernel) ⟨by try dsimp only; omega, by try dsimp only; omega⟩) (va_recv hK hG.1 (ci := 4) (q0 := 0) rfl rfl) rfl hl.1 rfl (Nat.le_of_ble_eq_true rfl) dX4_does_86 ⟨Nat.le_of_ble_eq_true rfl, Nat.le_of_ble_eq_true rfl⟩ (fun r5 σ4 H locs hw hG => ?_)
          obtain ⟨e_σ4, hc⟩ := hw
          have hf := bnd2_p e_σ4 hf
          exact r_iret S hr hlocks hG _ rfl ⟨hf, hc⟩ rfl dX4_does_89
        have hf := ite_n c_36_0 hf
        refine (Decidable.em ((σ1 (300 + i_11) 0) = 1)).elim (fun c_36_1 => ?_) (fun c_36_1 => ?_)
        · have hf := ite_p c_36_1 hf
          refine lv_tableIn (off := 54) (tgt := 90) S.1 S.2.1 dX4_does_36 (by rw [c_36_1]; decide) (by rw [c_36_1]; decide) (by rw [c_36_1]; rfl) (by decide) ?_
          refine lv_aload_n S.1 S.2.1 dX4_does_90 rfl (lv_at hl 1 rfl) ?_
          refine lv_aload_n S.1 S.2.1 dX4_does_91 rfl (lv_at hl 0 rfl) ?_
          refine r_callVi S hK hA hG (k_X4_doesMove l _ _ _ _ _ _ _ hc hi_11) (cwV 1 S.2.2.2.2 gX4_does_X4_doesMove rfl rfl rfl (by decide +kernel) ⟨by try dsimp only; omega, by try dsimp only; omega⟩) (va_recv hK hG.1 (ci := 4) (q0 := 0) rfl rfl) rfl hl.1 rfl (Nat.le_of_ble_eq_true rfl) dX4_does_92 ⟨Nat.le_of_ble_eq_true rfl, Nat.le_of_ble_eq_true rfl⟩ (fun r7 σ6 H locs hw hG => ?_)
          obtain ⟨e_σ6, hc⟩ := hw
          have hf := bnd2_p e_σ6 hf
          exact r_iret S hr hlocks hG _ rfl ⟨hf, hc⟩ rfl dX4_does_95
        have hf := ite_n c_36_1 hf
        refine (Decidable.em ((σ1 (300 + i_11) 0) = 2)).elim (fun c_36_2 => ?_) (fun c_36_2 => ?_)
        · have hf := ite_p c_36_2 hf
          refine lv_tableIn (off := 60) (tgt := 96) S.1 S.2.1 dX4_does_36 (by rw [c_36_2]; decide) (by rw [c_36_2]; decide) (by rw [c_36_2]; rfl) (by decide) ?_
          refine lv_aload_n S.1 S.2.1 dX4_does_96 rfl (lv_at hl 1 rfl) ?_
          refine lv_aload_n S.1 S.2.1 dX4_does_97 rfl (lv_at hl 0 rfl) ?_
          refine lv_iload_n S.1 S.2.1 dX4_does_98 rfl (lv_at hl 3 rfl) ?_
          refine r_callVi S hK hA hG (k_X4_doesWhen l _ _ _ _ _ _ _ _ hrec hc (dOK_s hd c_22) hi_11) (cwV 2 S.2.2.2.2 gX4_does_X4_doesWhen rfl rfl rfl (by decide +kernel) ⟨by try dsimp only; omega, by try dsimp only; omega⟩) (va_recv hK hG.1 (ci := 4) (q0 := 0) rfl rfl) rfl hl.1 rfl (Nat.le_of_ble_eq_true rfl) dX4_does_99 ⟨Nat.le_of_ble_eq_true rfl, Nat.le_of_ble_eq_true rfl⟩ (fun r9 σ8 H locs hw hG => ?_)
          obtain ⟨e_σ8, hc⟩ := hw
          have hf := bnd2_p e_σ8 hf
          exact r_iret S hr hlocks hG _ rfl ⟨hf, hc⟩ rfl dX4_does_102
        have hf := ite_n c_36_2 hf
        refine (Decidable.em ((σ1 (300 + i_11) 0) = 3)).elim (fun c_36_3 => ?_) (fun c_36_3 => ?_)
        · have hf := ite_p c_36_3 hf
          refine lv_tableIn (off := 67) (tgt := 103) S.1 S.2.1 dX4_does_36 (by rw [c_36_3]; decide) (by rw [c_36_3]; decide) (by rw [c_36_3]; rfl) (by decide) ?_
          refine lv_aload_n S.1 S.2.1 dX4_does_103 rfl (lv_at hl 1 rfl) ?_
          refine lv_aload_n S.1 S.2.1 dX4_does_104 rfl (lv_at hl 0 rfl) ?_
          refine lv_iload_n S.1 S.2.1 dX4_does_105 rfl (lv_at hl 3 rfl) ?_
          refine r_callVi S hK hA hG (k_X4_doesThen l _ _ _ _ _ _ _ _ hrec hc (dOK_s hd c_22) hi_11) (cwV 2 S.2.2.2.2 gX4_does_X4_doesThen rfl rfl rfl (by decide +kernel) ⟨by try dsimp only; omega, by try dsimp only; omega⟩) (va_recv hK hG.1 (ci := 4) (q0 := 0) rfl rfl) rfl hl.1 rfl (Nat.le_of_ble_eq_true rfl) dX4_does_106 ⟨Nat.le_of_ble_eq_true rfl, Nat.le_of_ble_eq_true rfl⟩ (fun r11 σ10 H locs hw hG => ?_)
          obtain ⟨e_σ10, hc⟩ := hw
          have hf := bnd2_p e_σ10 hf
          exact r_iret S hr hlocks hG _ rfl ⟨hf, hc⟩ rfl dX4_does_109
        have hf := ite_n c_36_3 hf
        refine (Decidable.em ((σ1 (300 + i_11) 0) = 4)).elim (fun c_36_4 => ?_) (fun c_36_4 => ?_)
        · have hf := ite_p c_36_4 hf
          refine lv_tableIn (off := 74) (tgt := 110) S.1 S.2.1 dX4_does_36 (by rw [c_36_4]; decide) (by rw [c_36_4]; decide) (by rw [c_36_4]; rfl) (by decide) ?_
          refine lv_aload_n S.1 S.2.1 dX4_does_110 rfl (lv_at hl 1 rfl) ?_
          refine lv_aload_n S.1 S.2.1 dX4_does_111 rfl (lv_at hl 0 rfl) ?_
          refine lv_iload_n S.1 S.2.1 dX4_does_112 rfl (lv_at hl 3 rfl) ?_
          refine r_callVi S hK hA hG (k_X4_doesTimes l _ _ _ _ _ _ _ _ hrec hc (dOK_s hd c_22) hi_11) (cwV 2 S.2.2.2.2 gX4_does_X4_doesTimes rfl rfl rfl (by decide +kernel) ⟨by try dsimp only; omega, by try dsimp only; omega⟩) (va_recv hK hG.1 (ci := 4) (q0 := 0) rfl rfl) rfl hl.1 rfl (Nat.le_of_ble_eq_true rfl) dX4_does_113 ⟨Nat.le_of_ble_eq_true rfl, Nat.le_of_ble_eq_true rfl⟩ (fun r13 σ12 H locs hw hG => ?_)
          obtain ⟨e_σ12, hc⟩ := hw
          have hf := bnd2_p e_σ12 hf
          exact r_iret S hr hlocks hG _ rfl ⟨hf, hc⟩ rfl dX4_does_116
        have hf := ite_n c_36_4 hf
        refine (Decidable.em ((σ1 (300 + i_11) 0) = 5)).elim (fun c_36_5 => ?_) (fun c_36_5 => ?_)
        · have hf := ite_p c_36_5 hf
          refine lv_tableIn (off := 81) (tgt := 117) S.1 S.2.1 dX4_does_36 (by rw [c_36_5]; decide) (by rw [c_36_5]; decide) (by rw [c_36_5]; rfl) (by decide) ?_
          refine lv_aload_n S.1 S.2.1 dX4_does_117 rfl (lv_at hl 1 rfl) ?_
          refine lv_aload_n S.1 S.2.1 dX4_does_118 rfl (lv_at hl 0 rfl) ?_
          refine r_callVi S hK hA hG (k_X4_doesLater l _ _ _ _ _ _ _ hc hi_11) (cwV 1 S.2.2.2.2 gX4_does_X4_doesLater rfl rfl rfl (by decide +kernel) ⟨by try dsimp only; omega, by try dsimp only; omega⟩) (va_recv hK hG.1 (ci := 4) (q0 := 0) rfl rfl) rfl hl.1 rfl (Nat.le_of_ble_eq_true rfl) dX4_does_119 ⟨Nat.le_of_ble_eq_true rfl, Nat.le_of_ble_eq_true rfl⟩ (fun r15 σ14 H locs hw hG => ?_)
          obtain ⟨e_σ14, hc⟩ := hw
          have hf := bnd2_p e_σ14 hf
          exact r_iret S hr hlocks hG _ rfl ⟨hf, hc⟩ rfl dX4_does_122
        have hf := ite_n c_36_5 hf
        refine (Decidable.em ((σ1 (300 + i_11) 0) = 6)).elim (fun c_36_6 => ?_) (fun c_36_6 => ?_)
        · have hf := ite_p c_36_6 hf
          refine lv_tableIn (off := 87) (tgt := 123) S.1 S.2.1 dX4_does_36 (by rw [c_36_6]; decide) (by rw [c_36_6]; decide) (by rw [c_36_6]; rfl) (by decide) ?_
          refine lv_aload_n S.1 S.2.1 dX4_does_123 rfl (lv_at hl 1 rfl) ?_
          refine lv_aload_n S.1 S.2.1 dX4_does_124 rfl (lv_at hl 0 rfl) ?_
          refine lv_iload_n S.1 S.2.1 dX4_does_125 rfl (lv_at hl 3 rfl) ?_
          refine r_callVi S hK hA hG (k_X4_doesTry l _ _ _ _ _ _ _ _ hrec hc (dOK_s hd c_22) hi_11) (cwV 2 S.2.2.2.2 gX4_does_X4_doesTry rfl rfl rfl (by decide +kernel) ⟨by try dsimp only; omega, by try dsimp only; omega⟩) (va_recv hK hG.1 (ci := 4) (q0 := 0) rfl rfl) rfl hl.1 rfl (Nat.le_of_ble_eq_true rfl) dX4_does_126 ⟨Nat.le_of_ble_eq_true rfl, Nat.le_of_ble_eq_true rfl⟩ (fun r17 σ16 H locs hw hG => ?_)
          obtain ⟨e_σ16, hc⟩ := hw
          have hf := bnd2_p e_σ16 hf
          exact r_iret S hr hlocks hG _ rfl ⟨hf, hc⟩ rfl dX4_does_129
        have hf := ite_n c_36_6 hf
        refine (Decidable.em ((σ1 (300 + i_11) 0) = 7)).elim (fun c_36_7 => ?_) (fun c_36_7 => ?_)
        · have hf := ite_p c_36_7 hf
          refine lv_tableIn (off := 94) (tgt := 130) S.1 S.2.1 dX4_does_36 (by rw [c_36_7]; decide) (by rw [c_36_7]; decide) (by rw [c_36_7]; rfl) (by decide) ?_
          refine lv_aload_n S.1 S.2.1 dX4_does_130 rfl (lv_at hl 1 rfl) ?_
          refine lv_aload_n S.1 S.2.1 dX4_does_131 rfl (lv_at hl 0 rfl) ?_
          refine r_get S hK hG hinX0 (53 + nr + i_11) (GW_ac _ _ _ _ _ hi_11) rfl 1 (by decide) (by decide +kernel) rfl dX4_does_132 ?_
          refine lv_iload_n S.1 S.2.1 dX4_does_135 rfl (lv_at hl 3 rfl) ?_
          refine lv_iconst (v := 1) S.1 S.2.1 dX4_does_136 (by decide) ?_
          refine lv_iadd S.1 S.2.1 dX4_does_137 ?_
          refine r_callVi S hK hA hG (hrec _ _ _ _ _ hc (dOK_s hd c_22)) (cwV 2 S.2.2.2.2 gX4_does_X4_does rfl rfl rfl (by decide +kernel) ⟨by try dsimp only; omega, by try dsimp only; omega⟩) (va_recv hK hG.1 (ci := 4) (q0 := 0) rfl rfl) rfl hl.1 rfl (Nat.le_of_ble_eq_true rfl) dX4_does_138 ⟨Nat.le_of_ble_eq_true rfl, Nat.le_of_ble_eq_true rfl⟩ (fun r19 σ18 H locs hw hG => ?_)
          obtain ⟨e_σ18, hc⟩ := hw
          have hf := bnd2_p e_σ18 hf
          exact r_iret S hr hlocks hG _ rfl ⟨hf, hc⟩ rfl dX4_does_141
        have hf := ite_n c_36_7 hf
        refine lv_tableOut (tgt := 142) S.1 S.2.1 dX4_does_36 (by have h0 := sw_ne (z := 0) rfl c_36_0; have h1 := sw_ne (z := 1) rfl c_36_1; have h2 := sw_ne (z := 2) rfl c_36_2; have h3 := sw_ne (z := 3) rfl c_36_3; have h4 := sw_ne (z := 4) rfl c_36_4; have h5 := sw_ne (z := 5) rfl c_36_5; have h6 := sw_ne (z := 6) rfl c_36_6; have h7 := sw_ne (z := 7) rfl c_36_7; omega) (by decide) ?_
        refine lv_aload_n S.1 S.2.1 dX4_does_142 rfl (lv_at hl 1 rfl) ?_
        refine lv_aload_n S.1 S.2.1 dX4_does_143 rfl (lv_at hl 0 rfl) ?_
        refine r_callVi S hK hA hG (k_X4_doesShow l _ _ _ _ _ _ _ hc hi_11) (cwV 1 S.2.2.2.2 gX4_does_X4_doesShow rfl rfl rfl (by decide +kernel) ⟨by try dsimp only; omega, by try dsimp only; omega⟩) (va_recv hK hG.1 (ci := 4) (q0 := 0) rfl rfl) rfl hl.1 rfl (Nat.le_of_ble_eq_true rfl) dX4_does_144 ⟨Nat.le_of_ble_eq_true rfl, Nat.le_of_ble_eq_true rfl⟩ (fun r21 σ20 H locs hw hG => ?_)
        obtain ⟨e_σ20, hc⟩ := hw
        have hf := bnd2_p e_σ20 hf
        exact r_iret S hr hlocks hG _ rfl ⟨hf, hc⟩ rfl dX4_does_147
      · have hf := ite_n c_22 hf
        refine lv_aload_n S.1 S.2.1 dX4_does_25 rfl (lv_at hl 1 rfl) ?_
        refine lv_iconst (v := 4) S.1 S.2.1 dX4_does_26 (by decide) ?_
        refine C_put S hK hG hinX4 tyX4 tyX4_ok nmX4 0 rfl rfl 13 (by decide) (by decide +kernel) rfl rfl rfl (Nat.le_of_ble_eq_true rfl) (GWp_0_13 _ _ _ _ _ _) dX4_does_27 (fun σ22 H locs e_σ22 hG => ?_)
        have hf := bnd_p e_σ22 hf
        have hc := ci_p0 (k := 13) (by decide) e_σ22 hc
        refine lv_iconst (v := 0) S.1 S.2.1 dX4_does_30 (by decide) ?_
        exact r_iret S hr hlocks hG _ rfl ⟨hf, hc⟩ rfl dX4_does_31
  · have hf := ite_p c_4 hf
    refine lv_iconst (v := 0) S.1 S.2.1 dX4_does_7 (by decide) ?_
    exact r_iret S hr hlocks hG _ rfl ⟨hf, hc⟩ rfl dX4_does_8
theorem k_X4_does (l : Launch) (D : va_G) (cs : Nat → ClassId) (ad : Nat → Nat) (nr nx : Nat) : ∀ n : Nat, HDoes l D cs ad nr nx n (f_X4_does n) := by
  intro n
  induction n with
  | zero =>
    intro σ x d wy T hc hd
    obtain ⟨j, -, h1, h2⟩ := hd
    exact absurd h2 (by omega)
  | succ n ih =>
    intro σ x d wy T hc hd
    exact r_met (by decide) rfl (Nat.le_of_ble_eq_true rfl) (fun p e s m args below meth c ls S hr hlocks _ hK hA hG hl => b_X4_does_0 ih S hr hlocks hK hA σ x d hc hd rfl _ _ hG ls hl)
