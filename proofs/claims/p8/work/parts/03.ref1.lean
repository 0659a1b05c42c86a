/-- the reference: its fields, its cells -/
abbrev Rfs (ad : Nat → Nat) (σ : Mem) : List Value := [.ref (ad 1), .ref (ad 2), .int (σ 0 2), .int (σ 0 3), .ref (ad 5), .ref (ad 6), .ref (ad 7), .ref (ad 8), .ref (ad 9), .int (σ 0 9), .ref (ad 11), .ref (ad 12), .ref (ad 13), .ref (ad 14), .int (σ 0 14), .ref (ad 16), .ref (ad 17), .int (σ 0 17), .ref (ad 19), .ref (ad 20), .ref (ad 21), .int (σ 0 21), .int (σ 0 22), .int (σ 0 23), .int (σ 0 24), .int (σ 0 25), .int (σ 0 26), .ref (ad 28), .ref (ad 29), .ref (ad 30), .ref (ad 31), .ref (ad 32), .ref (ad 33), .int (σ 0 33), .int (σ 0 34), .int (σ 0 35)]
abbrev RWl (ad : Nat → Nat) (cI : ClassId) (σ : Mem) : va_W := [(ad 0, .inr (5, Rfs ad σ)), (ad 1, .inl (cI, 8, .inl (σ 1))), (ad 2, .inl (cI, 6, .inl (σ 2))), (ad 5, .inl (cI, 40, .inl (σ 5))), (ad 6, .inl (cI, 40, .inl (σ 6))), (ad 7, .inl (cI, 40, .inl (σ 7))), (ad 8, .inl (cI, 40, .inl (σ 8))), (ad 9, .inl (cI, 40, .inl (σ 9))), (ad 11, .inl (cI, 40, .inl (σ 11))), (ad 12, .inl (cI, 40, .inl (σ 12))), (ad 13, .inl (cI, 40, .inl (σ 13))), (ad 14, .inl (cI, 40, .inl (σ 14))), (ad 16, .inl (cI, 60, .inl (σ 16))), (ad 17, .inl (cI, 60, .inl (σ 17))), (ad 19, .inl (cI, 30, .inl (σ 19))), (ad 20, .inl (cI, 30, .inl (σ 20))), (ad 21, .inl (cI, 30, .inl (σ 21))), (ad 28, .inl (cI, 300, .inl (σ 28))), (ad 29, .inl (cI, 300, .inl (σ 29))), (ad 30, .inl (cI, 300, .inl (σ 30))), (ad 31, .inl (cI, 300, .inl (σ 31))), (ad 32, .inl (cI, 300, .inl (σ 32))), (ad 33, .inl (cI, 1800, .inl (σ 33)))]
def RW (ad : Nat → Nat) (cI : ClassId) (σ : Mem) : va_W := RWl ad cI σ
theorem RWs_1 (ad : Nat → Nat) (cI : ClassId) (σ : Mem) (k : Nat) (x : Int32) : (RW ad cI σ).set 1 (ad 1, .inl (cI, 8, .inl (upd (σ 1) k x))) = RW ad cI (mset σ 1 k x) := rfl
theorem RWs_2 (ad : Nat → Nat) (cI : ClassId) (σ : Mem) (k : Nat) (x : Int32) : (RW ad cI σ).set 2 (ad 2, .inl (cI, 6, .inl (upd (σ 2) k x))) = RW ad cI (mset σ 2 k x) := rfl
theorem RWp_2 (ad : Nat → Nat) (cI : ClassId) (σ : Mem) (x : Int32) : (RW ad cI σ).set 0 (ad 0, .inr (5, (Rfs ad σ).set 2 (.int x))) = RW ad cI (mset σ 0 2 x) := rfl
theorem RWp_3 (ad : Nat → Nat) (cI : ClassId) (σ : Mem) (x : Int32) : (RW ad cI σ).set 0 (ad 0, .inr (5, (Rfs ad σ).set 3 (.int x))) = RW ad cI (mset σ 0 3 x) := rfl
theorem RWs_5 (ad : Nat → Nat) (cI : ClassId) (σ : Mem) (k : Nat) (x : Int32) : (RW ad cI σ).set 3 (ad 5, .inl (cI, 40, .inl (upd (σ 5) k x))) = RW ad cI (mset σ 5 k x) := rfl
theorem RWs_6 (ad : Nat → Nat) (cI : ClassId) (σ : Mem) (k : Nat) (x : Int32) : (RW ad cI σ).set 4 (ad 6, .inl (cI, 40, .inl (upd (σ 6) k x))) = RW ad cI (mset σ 6 k x) := rfl
theorem RWs_7 (ad : Nat → Nat) (cI : ClassId) (σ : Mem) (k : Nat) (x : Int32) : (RW ad cI σ).set 5 (ad 7, .inl (cI, 40, .inl (upd (σ 7) k x))) = RW ad cI (mset σ 7 k x) := rfl
theorem RWs_8 (ad : Nat → Nat) (cI : ClassId) (σ : Mem) (k : Nat) (x : Int32) : (RW ad cI σ).set 6 (ad 8, .inl (cI, 40, .inl (upd (σ 8) k x))) = RW ad cI (mset σ 8 k x) := rfl
theorem RWs_9 (ad : Nat → Nat) (cI : ClassId) (σ : Mem) (k : Nat) (x : Int32) : (RW ad cI σ).set 7 (ad 9, .inl (cI, 40, .inl (upd (σ 9) k x))) = RW ad cI (mset σ 9 k x) := rfl
theorem RWp_9 (ad : Nat → Nat) (cI : ClassId) (σ : Mem) (x : Int32) : (RW ad cI σ).set 0 (ad 0, .inr (5, (Rfs ad σ).set 9 (.int x))) = RW ad cI (mset σ 0 9 x) := rfl
theorem RWs_11 (ad : Nat → Nat) (cI : ClassId) (σ : Mem) (k : Nat) (x : Int32) : (RW ad cI σ).set 8 (ad 11, .inl (cI, 40, .inl (upd (σ 11) k x))) = RW ad cI (mset σ 11 k x) := rfl
theorem RWs_12 (ad : Nat → Nat) (cI : ClassId) (σ : Mem) (k : Nat) (x : Int32) : (RW ad cI σ).set 9 (ad 12, .inl (cI, 40, .inl (upd (σ 12) k x))) = RW ad cI (mset σ 12 k x) := rfl
theorem RWs_13 (ad : Nat → Nat) (cI : ClassId) (σ : Mem) (k : Nat) (x : Int32) : (RW ad cI σ).set 10 (ad 13, .inl (cI, 40, .inl (upd (σ 13) k x))) = RW ad cI (mset σ 13 k x) := rfl
theorem RWs_14 (ad : Nat → Nat) (cI : ClassId) (σ : Mem) (k : Nat) (x : Int32) : (RW ad cI σ).set 11 (ad 14, .inl (cI, 40, .inl (upd (σ 14) k x))) = RW ad cI (mset σ 14 k x) := rfl
theorem RWp_14 (ad : Nat → Nat) (cI : ClassId) (σ : Mem) (x : Int32) : (RW ad cI σ).set 0 (ad 0, .inr (5, (Rfs ad σ).set 14 (.int x))) = RW ad cI (mset σ 0 14 x) := rfl
theorem RWs_16 (ad : Nat → Nat) (cI : ClassId) (σ : Mem) (k : Nat) (x : Int32) : (RW ad cI σ).set 12 (ad 16, .inl (cI, 60, .inl (upd (σ 16) k x))) = RW ad cI (mset σ 16 k x) := rfl
theorem RWs_17 (ad : Nat → Nat) (cI : ClassId) (σ : Mem) (k : Nat) (x : Int32) : (RW ad cI σ).set 13 (ad 17, .inl (cI, 60, .inl (upd (σ 17) k x))) = RW ad cI (mset σ 17 k x) := rfl
theorem RWp_17 (ad : Nat → Nat) (cI : ClassId) (σ : Mem) (x : Int32) : (RW ad cI σ).set 0 (ad 0, .inr (5, (Rfs ad σ).set 17 (.int x))) = RW ad cI (mset σ 0 17 x) := rfl
theorem RWs_19 (ad : Nat → Nat) (cI : ClassId) (σ : Mem) (k : Nat) (x : Int32) : (RW ad cI σ).set 14 (ad 19, .inl (cI, 30, .inl (upd (σ 19) k x))) = RW ad cI (mset σ 19 k x) := rfl
theorem RWs_20 (ad : Nat → Nat) (cI : ClassId) (σ : Mem) (k : Nat) (x : Int32) : (RW ad cI σ).set 15 (ad 20, .inl (cI, 30, .inl (upd (σ 20) k x))) = RW ad cI (mset σ 20 k x) := rfl
theorem RWs_21 (ad : Nat → Nat) (cI : ClassId) (σ : Mem) (k : Nat) (x : Int32) : (RW ad cI σ).set 16 (ad 21, .inl (cI, 30, .inl (upd (σ 21) k x))) = RW ad cI (mset σ 21 k x) := rfl
theorem RWp_21 (ad : Nat → Nat) (cI : ClassId) (σ : Mem) (x : Int32) : (RW ad cI σ).set 0 (ad 0, .inr (5, (Rfs ad σ).set 21 (.int x))) = RW ad cI (mset σ 0 21 x) := rfl
theorem RWp_22 (ad : Nat → Nat) (cI : ClassId) (σ : Mem) (x : Int32) : (RW ad cI σ).set 0 (ad 0, .inr (5, (Rfs ad σ).set 22 (.int x))) = RW ad cI (mset σ 0 22 x) := rfl
theorem RWp_23 (ad : Nat → Nat) (cI : ClassId) (σ : Mem) (x : Int32) : (RW ad cI σ).set 0 (ad 0, .inr (5, (Rfs ad σ).set 23 (.int x))) = RW ad cI (mset σ 0 23 x) := rfl
theorem RWp_24 (ad : Nat → Nat) (cI : ClassId) (σ : Mem) (x : Int32) : (RW ad cI σ).set 0 (ad 0, .inr (5, (Rfs ad σ).set 24 (.int x))) = RW ad cI (mset σ 0 24 x) := rfl
theorem RWp_25 (ad : Nat → Nat) (cI : ClassId) (σ : Mem) (x : Int32) : (RW ad cI σ).set 0 (ad 0, .inr (5, (Rfs ad σ).set 25 (.int x))) = RW ad cI (mset σ 0 25 x) := rfl
theorem RWp_26 (ad : Nat → Nat) (cI : ClassId) (σ : Mem) (x : Int32) : (RW ad cI σ).set 0 (ad 0, .inr (5, (Rfs ad σ).set 26 (.int x))) = RW ad cI (mset σ 0 26 x) := rfl
theorem RWs_28 (ad : Nat → Nat) (cI : ClassId) (σ : Mem) (k : Nat) (x : Int32) : (RW ad cI σ).set 17 (ad 28, .inl (cI, 300, .inl (upd (σ 28) k x))) = RW ad cI (mset σ 28 k x) := rfl
theorem RWs_29 (ad : Nat → Nat) (cI : ClassId) (σ : Mem) (k : Nat) (x : Int32) : (RW ad cI σ).set 18 (ad 29, .inl (cI, 300, .inl (upd (σ 29) k x))) = RW ad cI (mset σ 29 k x) := rfl
theorem RWs_30 (ad : Nat → Nat) (cI : ClassId) (σ : Mem) (k : Nat) (x : Int32) : (RW ad cI σ).set 19 (ad 30, .inl (cI, 300, .inl (upd (σ 30) k x))) = RW ad cI (mset σ 30 k x) := rfl
theorem RWs_31 (ad : Nat → Nat) (cI : ClassId) (σ : Mem) (k : Nat) (x : Int32) : (RW ad cI σ).set 20 (ad 31, .inl (cI, 300, .inl (upd (σ 31) k x))) = RW ad cI (mset σ 31 k x) := rfl
theorem RWs_32 (ad : Nat → Nat) (cI : ClassId) (σ : Mem) (k : Nat) (x : Int32) : (RW ad cI σ).set 21 (ad 32, .inl (cI, 300, .inl (upd (σ 32) k x))) = RW ad cI (mset σ 32 k x) := rfl
theorem RWs_33 (ad : Nat → Nat) (cI : ClassId) (σ : Mem) (k : Nat) (x : Int32) : (RW ad cI σ).set 22 (ad 33, .inl (cI, 1800, .inl (upd (σ 33) k x))) = RW ad cI (mset σ 33 k x) := rfl
theorem RWp_33 (ad : Nat → Nat) (cI : ClassId) (σ : Mem) (x : Int32) : (RW ad cI σ).set 0 (ad 0, .inr (5, (Rfs ad σ).set 33 (.int x))) = RW ad cI (mset σ 0 33 x) := rfl
theorem RWp_34 (ad : Nat → Nat) (cI : ClassId) (σ : Mem) (x : Int32) : (RW ad cI σ).set 0 (ad 0, .inr (5, (Rfs ad σ).set 34 (.int x))) = RW ad cI (mset σ 0 34 x) := rfl
theorem RWp_35 (ad : Nat → Nat) (cI : ClassId) (σ : Mem) (x : Int32) : (RW ad cI σ).set 0 (ad 0, .inr (5, (Rfs ad σ).set 35 (.int x))) = RW ad cI (mset σ 0 35 x) := rfl
section M1
variable {p : Program} {l : Launch} {e : Env} {R : Room} {s : State} {m : MethodId} {args : Array Value} {below : List Frame} {meth : Method} {c : Code} {H : Heap} {locs : List Loc} {cells slots : Nat} {Q : State → Prop} {cc : ByteArray} {nL : Nat} {Ts : List Cond} {own : String} {D : va_G} {tys : List (ClassId × FieldType)} {A : Nat → Prop} {pc : Nat} {ls : Array Slot} {rest : List Value} {ad : Nat → Nat} {cI : ClassId} {σ : Mem}
theorem M_get (S : CallFix p m c cc nL s args Ts RX5) (hin : ∀ w ∈ wsX50, w ∈ Ts) (hK : va_K D vwCl tys s) (hG : wI D vwCl A s.heap H locs (RW ad cI σ)) (k : Nat) (hk : k < 36) {index : Nat} (hl : Cond.fieldLink RX5 index (TX5 k).1 (TX5 k).2.1 (TX5 k).2.2.1 ∈ Ts) {v : Value} (hv : (Rfs ad σ)[k]? = some v) (hdg : decode cc pc = .ok (.getfield index, 3))
    (kk : W p l e R s m args below meth c H locs cells slots Q (F0 m (pc + 3) ls (v :: rest))) : W p l e R s m args below meth c H locs cells slots Q (F0 m pc ls (.ref (ad 0) :: rest)) :=
  r_get S hK hG hin 0 rfl rfl k hk hl hv hdg kk
theorem M_put (S : CallFix p m c cc nL s args Ts RX5) (hin : ∀ w ∈ wsX50, w ∈ Ts) (hK : va_K D vwCl tys s) (hG : wI D vwCl A s.heap H locs (RW ad cI σ)) (k : Nat) (hk : k < 36) {index : Nat} (hl : Cond.fieldLink RX5 index (TX5 k).1 (TX5 k).2.1 (TX5 k).2.2.1 ∈ Ts) {x : Int32} (hfin : (TX5 k).2.2.2 = false) (hn : narrow (tyX5 k) (.int x) = .int x) (hfit : fits (tyX5 k) (.int x) = true) (hw : (RW ad cI σ).set 0 (ad 0, .inr (5, (Rfs ad σ).set k (.int x))) = RW ad cI (mset σ 0 k x)) (hdg : decode cc pc = .ok (.putfield index, 3))
    (kk : ∀ (σ1 : Mem) (H1 : Heap) (locs1 : List Loc), σ1 = mset σ 0 k x → wI D vwCl A s.heap H1 locs1 (RW ad cI σ1) → W p l e R s m args below meth c H1 locs1 cells slots Q (F0 m (pc + 3) ls rest)) : W p l e R s m args below meth c H locs cells slots Q (F0 m pc ls (.int x :: .ref (ad 0) :: rest)) :=
  r_put S hK hG hin tyX5 tyX5_ok nmX5 0 rfl rfl k hk hl hfin hn hfit hk hw hdg (fun H1 locs1 h => kk _ H1 locs1 rfl h)
theorem M_ast (S : CallFix p m c cc nL s args Ts own) (hK : va_K D vwCl [(cI, .int)] s) (hG : wI D vwCl A s.heap H locs (RW ad cI σ)) (r q0 n : Nat) (he : (RW ad cI σ)[q0]? = some (ad r, .inl (cI, n, .inl (σ r)))) {i x : Int32} (hin : vp_in i n) (hw : (RW ad cI σ).set q0 (ad r, .inl (cI, n, .inl (upd (σ r) i.toNatClampNeg x))) = RW ad cI (mset σ r i.toNatClampNeg x)) (hdg : decode cc pc = .ok (.iastore, 1))
    (kk : ∀ (σ1 : Mem) (H1 : Heap) (locs1 : List Loc), σ1 = mset σ r i.toNatClampNeg x → wI D vwCl A s.heap H1 locs1 (RW ad cI σ1) → W p l e R s m args below meth c H1 locs1 cells slots Q (F0 m (pc + 1) ls rest)) : W p l e R s m args below meth c H locs cells slots Q (F0 m pc ls (.int x :: .int i :: .ref (ad r) :: rest)) :=
  r_iast S hK hG q0 0 he rfl hin hw hdg (fun H1 locs1 h => kk _ H1 locs1 rfl h)
end M1
def f_X5_in (v : Int32) (lo : Int32) (hi : Int32) : Bool :=
  (if v < lo then
  false
  else
  (if hi < v then
  false
  else
  true))
set_option maxRecDepth 100000 in
set_option maxHeartbeats 4000000 in
theorem b_X5_in_0 {p : Program} {l : Launch} {e : Env} {s : State} {m : MethodId} {args : Array Value} {below : List Frame} {meth : Method} {c : Code} {D : va_G} {cl : List vw_C} {tys : List (ClassId × FieldType)} {w w0 : va_W} {X : Bool} (S : CallFix p m c cX5_in 3 s args wsX5_in RX5) (hr : meth.sig.returnType = (some .boolean)) (hlocks : meth.locks = false) (hK : va_K D cl tys s) (hA : ∀ q, s.heap.size ≤ q → va_A w0 s.heap.size q) (v : Int32) (lo : Int32) (hi : Int32) (hf : f_X5_in v lo hi = X) (H : Heap) (locs : List Loc) (hG : wI D cl (va_A w0 s.heap.size) s.heap H locs w) (ls : Array Slot) (hl : lv_has ls 3 [(0, .int v), (1, .int lo), (2, .int hi)]) : W p l e ({ frames := 0, cells := 0, slots := 0, locals := 0 } : Room) s m args below meth c H locs 0 0 (MQ below (va_Qi (fun (r : Int32) (_ : Unit) => r = bI X) (fun u t => wPost D cl w0 s.heap.size ((fun _ => w) u) t) (va_A w0 s.heap.size)) args s 0 0 (va_A w0 s.heap.size)) (F0 m 0 ls []) := by
  unfold f_X5_in at hf
  refine lv_iload_n S.1 S.2.1 dX5_in_0 rfl (lv_at hl 0 rfl) ?_
  refine lv_iload_n S.1 S.2.1 dX5_in_1 rfl (lv_at hl 1 rfl) ?_
  refine lv_icmp_lt (tgt := 14) S.1 S.2.1 dX5_in_2 (by decide) (fun c_2 => ?_) (fun c_2 => ?_)
  · have hf := ite_p c_2 hf
    refine lv_iconst (v := 0) S.1 S.2.1 dX5_in_14 (by decide) ?_
    exact r_iret S hr hlocks hG () rfl (congrArg bI hf) (bI_nar false) dX5_in_15
  · have hf := ite_n c_2 hf
    refine lv_iload_n S.1 S.2.1 dX5_in_5 rfl (lv_at hl 0 rfl) ?_
    refine lv_iload_n S.1 S.2.1 dX5_in_6 rfl (lv_at hl 2 rfl) ?_
    refine lv_icmp_gt (tgt := 14) S.1 S.2.1 dX5_in_7 (by decide) (fun c_7 => ?_) (fun c_7 => ?_)
    · have hf := ite_p c_7 hf
      refine lv_iconst (v := 0) S.1 S.2.1 dX5_in_14 (by decide) ?_
      exact r_iret S hr hlocks hG () rfl (congrArg bI hf) (bI_nar false) dX5_in_15
    · have hf := ite_n c_7 hf
      refine lv_iconst (v := 1) S.1 S.2.1 dX5_in_10 (by decide) ?_
      refine lv_goto (tgt := 15) S.1 S.2.1 dX5_in_11 (by decide) ?_
      exact r_iret S hr hlocks hG () rfl (congrArg bI hf) (bI_nar true) dX5_in_15
theorem k_X5_in (l : Launch) (D : va_G) (cl : List vw_C) (tys : List (ClassId × FieldType)) (w : va_W) (v : Int32) (lo : Int32) (hi : Int32) : CMi l yX5_in wsX5_in ({ frames := 0, cells := 0, slots := 0, locals := 0 } : Room) D cl tys w [.int v, .int lo, .int hi] (fun (r : Int32) (_ : Unit) => r = bI (f_X5_in v lo hi)) (fun _ => w) :=
  r_met (by decide) rfl (Nat.le_of_ble_eq_true rfl) (fun p e s m args below meth c ls S hr hlocks _ hK hA hG hl => b_X5_in_0 S hr hlocks hK hA v lo hi rfl _ _ hG ls hl)
/-- the pure words of 'in' -/
theorem ri_in {v lo hi : Int32} (h : ¬ bI (f_X5_in v lo hi) = 0) : lo ≤ v ∧ v ≤ hi := by
  have h := bI_t h
  unfold f_X5_in at h
  by_cases h1 : v < lo
  · rw [if_pos h1] at h; cases h
  · rw [if_neg h1] at h
    by_cases h2 : hi < v
    · rw [if_pos h2] at h; cases h
    · exact ⟨Int32.not_lt.mp h1, Int32.not_lt.mp h2⟩
theorem ri_vp {v hi : Int32} {n : Nat} (h : ¬ bI (f_X5_in v 0 hi) = 0) (hn : hi.toInt < n) : vp_in v n := by
  obtain ⟨h1, h2⟩ := ri_in h
  rw [Int32.le_iff_toInt_le] at h1 h2
  exact vp_in_iff.mpr ⟨h1, by omega⟩
/-- counts below their bound; places of the saving loops -/
theorem ri_cnt {x : Int32} (h : ∃ n : Nat, n ≤ 40 ∧ x = nI n) (hn : ¬ x = 40) : vp_in x 40 := by
  obtain ⟨n, h1, rfl⟩ := h
  refine vp_in_nI (Nat.lt_of_le_of_ne h1 (fun q => hn ?_)) (by decide)
  subst q; rfl
theorem ri_loop {t v : Int32} {n : Nat} (h : ∃ k : Nat, t = nI k ∧ k ≤ 6 ∧ 7 ≤ k + (n + 1)) (hc : ¬ 6 ≤ t) (e : v = t + 1) : ∃ k : Nat, v = nI k ∧ k ≤ 6 ∧ 7 ≤ k + n := by
  obtain ⟨k, rfl, h1, h2⟩ := h
  refine ⟨k + 1, by rw [e]; exact nI_1 k, ?_, by omega⟩
  rcases Nat.lt_or_ge k 6 with q | q
  · omega
  · exact absurd (show nI 6 ≤ nI k from nI_le q (by omega)) hc
theorem ri_t6 {t : Int32} {n : Nat} (h : ∃ k : Nat, t = nI k ∧ k ≤ 6 ∧ 7 ≤ k + (n + 1)) (hc : ¬ 6 ≤ t) : vp_in t 6 := by
  obtain ⟨k, rfl, h1, h2⟩ := h
  rcases Nat.lt_or_ge k 6 with q | q
  · exact vp_in_nI q (by decide)
  · exact absurd (show nI 6 ≤ nI k from nI_le q (by omega)) hc
theorem ri_sav {a t : Int32} {n : Nat} (ha : vp_in a 300) (h : ∃ k : Nat, t = nI k ∧ k ≤ 6 ∧ 7 ≤ k + (n + 1)) (hc : ¬ 6 ≤ t) : vp_in (6 * a + t) 1800 := by
  obtain ⟨j, hj, rfl⟩ := vp_in_of ha (by decide)
  have h6 := ri_t6 h hc
  obtain ⟨k, hk, rfl⟩ := vp_in_of h6 (by decide)
  have e : (6 : Int32) * nI j + nI k = nI (6 * j + k) := by
    rw [show (6 : Int32) = nI 6 from rfl, pk_mul, nI_add]
  rw [e]
  exact vp_in_nI (by omega) (by decide)
def f_X5_isSensor (x1 : Int32) : Bool :=
  (f_X5_in x1 0 7)
set_option maxRecDepth 100000 in
set_option maxHeartbeats 4000000 in
theorem b_X5_isSensor_0 {p : Program} {l : Launch} {e : Env} {s : State} {m : MethodId} {args : Array Value} {below : List Frame} {meth : Method} {c : Code} {D : va_G} {cl : List vw_C} {tys : List (ClassId × FieldType)} {w w0 : va_W} {X : Bool} (S : CallFix p m c cX5_isSensor 1 s args wsX5_isSensor RX5) (hr : meth.sig.returnType = (some .boolean)) (hlocks : meth.locks = false) (hK : va_K D cl tys s) (hA : ∀ q, s.heap.size ≤ q → va_A w0 s.heap.size q) (x1 : Int32) (hf : f_X5_isSensor x1 = X) (H : Heap) (locs : List Loc) (hG : wI D cl (va_A w0 s.heap.size) s.heap H locs w) (ls : Array Slot) (hl : lv_has ls 1 [(0, .int x1)]) : W p l e ({ frames := 1, cells := 0, slots := 0, locals := 22 } : Room) s m args below meth c H locs 0 0 (MQ below (va_Qi (fun (r : Int32) (_ : Unit) => r = bI X) (fun u t => wPost D cl w0 s.heap.size ((fun _ => w) u) t) (va_A w0 s.heap.size)) args s 0 0 (va_A w0 s.heap.size)) (F0 m 0 ls []) := by
  unfold f_X5_isSensor at hf
  refine lv_iload_n S.1 S.2.1 dX5_isSensor_0 rfl (lv_at hl 0 rfl) ?_
  refine lv_iconst (v := 0) S.1 S.2.1 dX5_isSensor_1 (by decide) ?_
  refine lv_bipush (v := 7) S.1 S.2.1 dX5_isSensor_2 (by decide) ?_
  refine r_callSi S hK hA hG (k_X5_in l _ _ _ _ _ _ _) (cwS 3 S.2.2.2.2 gX5_isSensor_X5_in rfl rfl rfl (by decide +kernel) ⟨Nat.le_of_ble_eq_true rfl, Nat.le_of_ble_eq_true rfl⟩) rfl hl.1 rfl (Nat.le_of_ble_eq_true rfl) dX5_isSensor_4 ⟨Nat.le_of_ble_eq_true rfl, Nat.le_of_ble_eq_true rfl⟩ (fun r4 _ H locs hw hG => ?_)
  obtain rfl := hw
  exact r_iret S hr hlocks hG () rfl (congrArg bI hf) (bI_nar (f_X5_in x1 0 7)) dX5_isSensor_7
theorem k_X5_isSensor (l : Launch) (D : va_G) (cl : List vw_C) (tys : List (ClassId × FieldType)) (w : va_W) (x1 : Int32) : CMi l yX5_isSensor wsX5_isSensor ({ frames := 1, cells := 0, slots := 0, locals := 22 } : Room) D cl tys w [.int x1] (fun (r : Int32) (_ : Unit) => r = bI (f_X5_isSensor x1)) (fun _ => w) :=
  r_met (by decide) rfl (Nat.le_of_ble_eq_true rfl) (fun p e s m args below meth c ls S hr hlocks _ hK hA hG hl => b_X5_isSensor_0 S hr hlocks hK hA x1 rfl _ _ hG ls hl)
def f_X5_isTank (x1 : Int32) : Bool :=
  (f_X5_in x1 0 5)
set_option maxRecDepth 100000 in
set_option maxHeartbeats 4000000 in
theorem b_X5_isTank_0 {p : Program} {l : Launch} {e : Env} {s : State} {m : MethodId} {args : Array Value} {below : List Frame} {meth : Method} {c : Code} {D : va_G} {cl : List vw_C} {tys : List (ClassId × FieldType)} {w w0 : va_W} {X : Bool} (S : CallFix p m c cX5_isTank 1 s args wsX5_isTank RX5) (hr : meth.sig.returnType = (some .boolean)) (hlocks : meth.locks = false) (hK : va_K D cl tys s) (hA : ∀ q, s.heap.size ≤ q → va_A w0 s.heap.size q) (x1 : Int32) (hf : f_X5_isTank x1 = X) (H : Heap) (locs : List Loc) (hG : wI D cl (va_A w0 s.heap.size) s.heap H locs w) (ls : Array Slot) (hl : lv_has ls 1 [(0, .int x1)]) : W p l e ({ frames := 1, cells := 0, slots := 0, locals := 22 } : Room) s m args below meth c H locs 0 0 (MQ below (va_Qi (fun (r : Int32) (_ : Unit) => r = bI X) (fun u t => wPost D cl w0 s.heap.size ((fun _ => w) u) t) (va_A w0 s.heap.size)) args s 0 0 (va_A w0 s.heap.size)) (F0 m 0 ls []) := by
  unfold f_X5_isTank at hf
  refine lv_iload_n S.1 S.2.1 dX5_isTank_0 rfl (lv_at hl 0 rfl) ?_
  refine lv_iconst (v := 0) S.1 S.2.1 dX5_isTank_1 (by decide) ?_
  refine lv_iconst (v := 5) S.1 S.2.1 dX5_isTank_2 (by decide) ?_
  refine r_callSi S hK hA hG (k_X5_in l _ _ _ _ _ _ _) (cwS 3 S.2.2.2.2 gX5_isTank_X5_in rfl rfl rfl (by decide +kernel) ⟨Nat.le_of_ble_eq_true rfl, Nat.le_of_ble_eq_true rfl⟩) rfl hl.1 rfl (Nat.le_of_ble_eq_true rfl) dX5_isTank_3 ⟨Nat.le_of_ble_eq_true rfl, Nat.le_of_ble_eq_true rfl⟩ (fun r3 _ H locs hw hG => ?_)
  obtain rfl := hw
  exact r_iret S hr hlocks hG () rfl (congrArg bI hf) (bI_nar (f_X5_in x1 0 5)) dX5_isTank_6
theorem k_X5_isTank (l : Launch) (D : va_G) (cl : List vw_C) (tys : List (ClassId × FieldType)) (w : va_W) (x1 : Int32) : CMi l yX5_isTank wsX5_isTank ({ frames := 1, cells := 0, slots := 0, locals := 22 } : Room) D cl tys w [.int x1] (fun (r : Int32) (_ : Unit) => r = bI (f_X5_isTank x1)) (fun _ => w) :=
  r_met (by decide) rfl (Nat.le_of_ble_eq_true rfl) (fun p e s m args below meth c ls S hr hlocks _ hK hA hG hl => b_X5_isTank_0 S hr hlocks hK hA x1 rfl _ _ hG ls hl)
theorem in_X5_show : ∀ w ∈ wsX50, w ∈ wsX5_show := by decide +kernel
def f_X5_show (σ : Mem) (x1 : Int32) (x2 : Int32) : Int32 × Mem :=
  (if (bI (f_X5_isSensor x1)) = 0 then
  bnd (mset σ 0 24 (-2)) fun σ1 =>
  (0, σ1)
  else
  bnd (mset σ 0 24 0) fun σ2 =>
  bnd (σ2 1 x1.toNatClampNeg) fun v3 =>
  bnd (mset σ2 1 x1.toNatClampNeg x2) fun σ4 =>
  (v3, σ4))
set_option maxRecDepth 100000 in
set_option maxHeartbeats 4000000 in
theorem b_X5_show_0 {p : Program} {l : Launch} {e : Env} {s : State} {m : MethodId} {args : Array Value} {below : List Frame} {meth : Method} {c : Code} {D : va_G} {cI : ClassId} {ad : Nat → Nat} {w0 : va_W} {X : Int32 × Mem} (S : CallFix p m c cX5_show 4 s args wsX5_show RX5) (hr : meth.sig.returnType = (some .int)) (hlocks : meth.locks = false) (hK : va_K D vwCl [(cI, .int)] s) (hA : ∀ q, s.heap.size ≤ q → va_A w0 s.heap.size q) (σ : Mem) (x1 : Int32) (x2 : Int32) (hf : f_X5_show σ x1 x2 = X) (H : Heap) (locs : List Loc) (hG : wI D vwCl (va_A w0 s.heap.size) s.heap H locs (RW ad cI σ)) (ls : Array Slot) (hl : lv_has ls 4 [(0, .ref (ad 0)), (1, .int x1), (2, .int x2)]) : W p l e ({ frames := 2, cells := 0, slots := 0, locals := 42 } : Room) s m args below meth c H locs 0 0 (MQ below (va_Qi (fun (r : Int32) (u : Mem) => (r, u) = X) (fun u t => wPost D vwCl w0 s.heap.size ((fun u => RW ad cI u) u) t) (va_A w0 s.heap.size)) args s 0 0 (va_A w0 s.heap.size)) (F0 m 0 ls []) := by
  have hin := in_X5_show
  unfold f_X5_show at hf
  refine lv_aload_n S.1 S.2.1 dX5_show_0 rfl (lv_at hl 0 rfl) ?_
  refine lv_iload_n S.1 S.2.1 dX5_show_1 rfl (lv_at hl 1 rfl) ?_
  refine r_callSi S hK hA hG (k_X5_isSensor l _ _ _ _ _) (cwS 1 S.2.2.2.2 gX5_show_X5_isSensor rfl rfl rfl (by decide +kernel) ⟨Nat.le_of_ble_eq_true rfl, Nat.le_of_ble_eq_true rfl⟩) rfl hl.1 rfl (Nat.le_of_ble_eq_true rfl) dX5_show_2 ⟨Nat.le_of_ble_eq_true rfl, Nat.le_of_ble_eq_true rfl⟩ (fun r2 _ H locs hw hG => ?_)
  obtain rfl := hw
  refine lv_if_eq (tgt := 12) S.1 S.2.1 dX5_show_5 (by decide) (fun c_5 => ?_) (fun c_5 => ?_)
  · have hf := ite_p c_5 hf
    refine lv_bipush (v := (-2)) S.1 S.2.1 dX5_show_12 (by decide) ?_
    refine M_put S hin hK hG 24 (by decide) (by decide +kernel) rfl rfl rfl (RWp_24 _ _ _ _) dX5_show_14 (fun σ1 H locs e_σ1 hG => ?_)
    have hf := bnd_p e_σ1 hf
    refine lv_aload_n S.1 S.2.1 dX5_show_17 rfl (lv_at hl 0 rfl) ?_
    refine M_get S hin hK hG 24 (v := .int ((-2))) (by decide) (by decide +kernel) (by rw [e_σ1]; rfl) dX5_show_18 ?_
    refine lv_if_ge (tgt := 26) S.1 S.2.1 dX5_show_21 (by decide) (fun c_ => absurd c_ (by decide)) (fun _ => ?_)
    refine lv_iconst (v := 0) S.1 S.2.1 dX5_show_24 (by decide) ?_
    exact r_iret S hr hlocks hG _ rfl hf rfl dX5_show_25
  · have hf := ite_n c_5 hf
    refine lv_iconst (v := 0) S.1 S.2.1 dX5_show_8 (by decide) ?_
    refine lv_goto (tgt := 14) S.1 S.2.1 dX5_show_9 (by decide) ?_
    refine M_put S hin hK hG 24 (by decide) (by decide +kernel) rfl rfl rfl (RWp_24 _ _ _ _) dX5_show_14 (fun σ2 H locs e_σ2 hG => ?_)
    have hf := bnd_p e_σ2 hf
    refine lv_aload_n S.1 S.2.1 dX5_show_17 rfl (lv_at hl 0 rfl) ?_
    refine M_get S hin hK hG 24 (v := .int 0) (by decide) (by decide +kernel) (by rw [e_σ2]; rfl) dX5_show_18 ?_
    refine lv_if_ge (tgt := 26) S.1 S.2.1 dX5_show_21 (by decide) (fun _ => ?_) (fun c_ => absurd c_ (by decide))
    refine lv_aload_n S.1 S.2.1 dX5_show_26 rfl (lv_at hl 0 rfl) ?_
    refine M_get S hin hK hG 0 (by decide) (by decide +kernel) rfl dX5_show_27 ?_
    refine lv_iload_n S.1 S.2.1 dX5_show_30 rfl (lv_at hl 1 rfl) ?_
    refine r_iald S hK hG 1 0 rfl rfl (ri_vp c_5 (by decide)) dX5_show_31 ?_
    refine lv_topi (fun v3 e_v3 => ?_)
    have hf := bnd_p e_v3 hf
    refine lv_istore_n (lv' := [(3, .int v3), (0, .ref (ad 0)), (1, .int x1), (2, .int x2)]) S.1 S.2.1 dX5_show_32 rfl hl (by decide) rfl (fun ls hl => ?_)
    refine lv_aload_n S.1 S.2.1 dX5_show_33 rfl (lv_at hl 1 rfl) ?_
    refine M_get S hin hK hG 0 (by decide) (by decide +kernel) rfl dX5_show_34 ?_
    refine lv_iload_n S.1 S.2.1 dX5_show_37 rfl (lv_at hl 2 rfl) ?_
    refine lv_iload_n S.1 S.2.1 dX5_show_38 rfl (lv_at hl 3 rfl) ?_
    refine M_ast S hK hG 1 1 8 rfl (ri_vp c_5 (by decide)) (RWs_1 _ _ _ _ _) dX5_show_39 (fun σ4 H locs e_σ4 hG => ?_)
    have hf := bnd_p e_σ4 hf
    refine lv_iload_n S.1 S.2.1 dX5_show_40 rfl (lv_at hl 0 rfl) ?_
    exact r_iret S hr hlocks hG _ rfl hf rfl dX5_show_41
theorem k_X5_show (l : Launch) (D : va_G) (cI : ClassId) (ad : Nat → Nat) (σ : Mem) (x1 : Int32) (x2 : Int32) : CMi l yX5_show wsX5_show ({ frames := 2, cells := 0, slots := 0, locals := 42 } : Room) D vwCl [(cI, .int)] (RW ad cI σ) [.ref (ad 0), .int x1, .int x2] (fun (r : Int32) (u : Mem) => (r, u) = (f_X5_show σ x1 x2)) (fun u => RW ad cI u) :=
  r_met (by decide) rfl (Nat.le_of_ble_eq_true rfl) (fun p e s m args below meth c ls S hr hlocks _ hK hA hG hl => b_X5_show_0 S hr hlocks hK hA σ x1 x2 rfl _ _ hG ls hl)
theorem in_X5_shown : ∀ w ∈ wsX50, w ∈ wsX5_shown := by decide +kernel
def f_X5_shown (σ : Mem) (x1 : Int32) : Int32 × Mem :=
  (if (bI (f_X5_isSensor x1)) = 0 then
  bnd (mset σ 0 24 (-2)) fun σ1 =>
  (0, σ1)
  else
  bnd (mset σ 0 24 0) fun σ2 =>
  (σ2 1 x1.toNatClampNeg, σ2))
set_option maxRecDepth 100000 in
set_option maxHeartbeats 4000000 in
theorem b_X5_shown_0 {p : Program} {l : Launch} {e : Env} {s : State} {m : MethodId} {args : Array Value} {below : List Frame} {meth : Method} {c : Code} {D : va_G} {cI : ClassId} {ad : Nat → Nat} {w0 : va_W} {X : Int32 × Mem} (S : CallFix p m c cX5_shown 2 s args wsX5_shown RX5) (hr : meth.sig.returnType = (some .int)) (hlocks : meth.locks = false) (hK : va_K D vwCl [(cI, .int)] s) (hA : ∀ q, s.heap.size ≤ q → va_A w0 s.heap.size q) (σ : Mem) (x1 : Int32) (hf : f_X5_shown σ x1 = X) (H : Heap) (locs : List Loc) (hG : wI D vwCl (va_A w0 s.heap.size) s.heap H locs (RW ad cI σ)) (ls : Array Slot) (hl : lv_has ls 2 [(0, .ref (ad 0)), (1, .int x1)]) : W p l e ({ frames := 2, cells := 0, slots := 0, locals := 42 } : Room) s m args below meth c H locs 0 0 (MQ below (va_Qi (fun (r : Int32) (u : Mem) => (r, u) = X) (fun u t => wPost D vwCl w0 s.heap.size ((fun u => RW ad cI u) u) t) (va_A w0 s.heap.size)) args s 0 0 (va_A w0 s.heap.size)) (F0 m 0 ls []) := by
  have hin := in_X5_shown
  unfold f_X5_shown at hf
  refine lv_aload_n S.1 S.2.1 dX5_shown_0 rfl (lv_at hl 0 rfl) ?_
  refine lv_iload_n S.1 S.2.1 dX5_shown_1 rfl (lv_at hl 1 rfl) ?_
  refine r_callSi S hK hA hG (k_X5_isSensor l _ _ _ _ _) (cwS 1 S.2.2.2.2 gX5_shown_X5_isSensor rfl rfl rfl (by decide +kernel) ⟨Nat.le_of_ble_eq_true rfl, Nat.le_of_ble_eq_true rfl⟩) rfl hl.1 rfl (Nat.le_of_ble_eq_true rfl) dX5_shown_2 ⟨Nat.le_of_ble_eq_true rfl, Nat.le_of_ble_eq_true rfl⟩ (fun r2 _ H locs hw hG => ?_)
  obtain rfl := hw
  refine lv_if_eq (tgt := 12) S.1 S.2.1 dX5_shown_5 (by decide) (fun c_5 => ?_) (fun c_5 => ?_)
  · have hf := ite_p c_5 hf
    refine lv_bipush (v := (-2)) S.1 S.2.1 dX5_shown_12 (by decide) ?_
    refine M_put S hin hK hG 24 (by decide) (by decide +kernel) rfl rfl rfl (RWp_24 _ _ _ _) dX5_shown_14 (fun σ1 H locs e_σ1 hG => ?_)
    have hf := bnd_p e_σ1 hf
    refine lv_aload_n S.1 S.2.1 dX5_shown_17 rfl (lv_at hl 0 rfl) ?_
    refine M_get S hin hK hG 24 (v := .int ((-2))) (by decide) (by decide +kernel) (by rw [e_σ1]; rfl) dX5_shown_18 ?_
    refine lv_if_ge (tgt := 28) S.1 S.2.1 dX5_shown_21 (by decide) (fun c_ => absurd c_ (by decide)) (fun _ => ?_)
    refine lv_iconst (v := 0) S.1 S.2.1 dX5_shown_24 (by decide) ?_
    refine lv_goto (tgt := 34) S.1 S.2.1 dX5_shown_25 (by decide) ?_
    exact r_iret S hr hlocks hG _ rfl hf rfl dX5_shown_34
  · have hf := ite_n c_5 hf
    refine lv_iconst (v := 0) S.1 S.2.1 dX5_shown_8 (by decide) ?_
    refine lv_goto (tgt := 14) S.1 S.2.1 dX5_shown_9 (by decide) ?_
    refine M_put S hin hK hG 24 (by decide) (by decide +kernel) rfl rfl rfl (RWp_24 _ _ _ _) dX5_shown_14 (fun σ2 H locs e_σ2 hG => ?_)
    have hf := bnd_p e_σ2 hf
    refine lv_aload_n S.1 S.2.1 dX5_shown_17 rfl (lv_at hl 0 rfl) ?_
    refine M_get S hin hK hG 24 (v := .int 0) (by decide) (by decide +kernel) (by rw [e_σ2]; rfl) dX5_shown_18 ?_
    refine lv_if_ge (tgt := 28) S.1 S.2.1 dX5_shown_21 (by decide) (fun _ => ?_) (fun c_ => absurd c_ (by decide))
    refine lv_aload_n S.1 S.2.1 dX5_shown_28 rfl (lv_at hl 0 rfl) ?_
    refine M_get S hin hK hG 0 (by decide) (by decide +kernel) rfl dX5_shown_29 ?_
    refine lv_iload_n S.1 S.2.1 dX5_shown_32 rfl (lv_at hl 1 rfl) ?_
    refine r_iald S hK hG 1 0 rfl rfl (ri_vp c_5 (by decide)) dX5_shown_33 ?_
    exact r_iret S hr hlocks hG _ rfl hf rfl dX5_shown_34
theorem k_X5_shown (l : Launch) (D : va_G) (cI : ClassId) (ad : Nat → Nat) (σ : Mem) (x1 : Int32) : CMi l yX5_shown wsX5_shown ({ frames := 2, cells := 0, slots := 0, locals := 42 } : Room) D vwCl [(cI, .int)] (RW ad cI σ) [.ref (ad 0), .int x1] (fun (r : Int32) (u : Mem) => (r, u) = (f_X5_shown σ x1)) (fun u => RW ad cI u) :=
  r_met (by decide) rfl (Nat.le_of_ble_eq_true rfl) (fun p e s m args below meth c ls S hr hlocks _ hK hA hG hl => b_X5_shown_0 S hr hlocks hK hA σ x1 rfl _ _ hG ls hl)
theorem in_X5_fill : ∀ w ∈ wsX50, w ∈ wsX5_fill := by decide +kernel
def f_X5_fill (σ : Mem) (x1 : Int32) (x2 : Int32) : Int32 × Mem :=
  (if (bI (f_X5_isTank x1)) = 0 then
  ((-2), σ)
  else
  (if (bI (f_X5_in x2 0 1000000)) = 0 then
  ((-3), σ)
  else
  bnd (σ 2 x1.toNatClampNeg) fun v1 =>
  bnd (mset σ 2 x1.toNatClampNeg x2) fun σ2 =>
  (v1, σ2)))
set_option maxRecDepth 100000 in
set_option maxHeartbeats 4000000 in
theorem b_X5_fill_0 {p : Program} {l : Launch} {e : Env} {s : State} {m : MethodId} {args : Array Value} {below : List Frame} {meth : Method} {c : Code} {D : va_G} {cI : ClassId} {ad : Nat → Nat} {w0 : va_W} {X : Int32 × Mem} (S : CallFix p m c cX5_fill 4 s args wsX5_fill RX5) (hr : meth.sig.returnType = (some .int)) (hlocks : meth.locks = false) (hK : va_K D vwCl [(cI, .int)] s) (hA : ∀ q, s.heap.size ≤ q → va_A w0 s.heap.size q) (σ : Mem) (x1 : Int32) (x2 : Int32) (hf : f_X5_fill σ x1 x2 = X) (H : Heap) (locs : List Loc) (hG : wI D vwCl (va_A w0 s.heap.size) s.heap H locs (RW ad cI σ)) (ls : Array Slot) (hl : lv_has ls 4 [(0, .ref (ad 0)), (1, .int x1), (2, .int x2)]) : W p l e ({ frames := 2, cells := 0, slots := 0, locals := 42 } : Room) s m args below meth c H locs 0 0 (MQ below (va_Qi (fun (r : Int32) (u : Mem) => (r, u) = X) (fun u t => wPost D vwCl w0 s.heap.size ((fun u => RW ad cI u) u) t) (va_A w0 s.heap.size)) args s 0 0 (va_A w0 s.heap.size)) (F0 m 0 ls []) := by
  have hin := in_X5_fill
  unfold f_X5_fill at hf
  refine lv_iload_n S.1 S.2.1 dX5_fill_0 rfl (lv_at hl 1 rfl) ?_
  refine r_callSi S hK hA hG (k_X5_isTank l _ _ _ _ _) (cwS 1 S.2.2.2.2 gX5_fill_X5_isTank rfl rfl rfl (by decide +kernel) ⟨Nat.le_of_ble_eq_true rfl, Nat.le_of_ble_eq_true rfl⟩) rfl hl.1 rfl (Nat.le_of_ble_eq_true rfl) dX5_fill_1 ⟨Nat.le_of_ble_eq_true rfl, Nat.le_of_ble_eq_true rfl⟩ (fun r1 _ H locs hw hG => ?_)
  obtain rfl := hw
  refine lv_if_ne (tgt := 10) S.1 S.2.1 dX5_fill_4 (by decide) (fun c_4 => ?_) (fun c_4 => ?_)
  · have hf := ite_n c_4 hf
    refine lv_iload_n S.1 S.2.1 dX5_fill_10 rfl (lv_at hl 2 rfl) ?_
    refine lv_iconst (v := 0) S.1 S.2.1 dX5_fill_11 (by decide) ?_
    refine lv_ldc (v := 1000000) S.1 S.2.1 S.2.2.2.1 (S.2.2.2.2 (.constant RX5 91 1000000) (by decide +kernel)) dX5_fill_12 ?_
    refine r_callSi S hK hA hG (k_X5_in l _ _ _ _ _ _ _) (cwS 3 S.2.2.2.2 gX5_fill_X5_in rfl rfl rfl (by decide +kernel) ⟨Nat.le_of_ble_eq_true rfl, Nat.le_of_ble_eq_true rfl⟩) rfl hl.1 rfl (Nat.le_of_ble_eq_true rfl) dX5_fill_14 ⟨Nat.le_of_ble_eq_true rfl, Nat.le_of_ble_eq_true rfl⟩ (fun r14 _ H locs hw hG => ?_)
    obtain rfl := hw
    refine lv_if_ne (tgt := 23) S.1 S.2.1 dX5_fill_17 (by decide) (fun c_17 => ?_) (fun c_17 => ?_)
    · have hf := ite_n c_17 hf
      refine lv_aload_n S.1 S.2.1 dX5_fill_23 rfl (lv_at hl 0 rfl) ?_
      refine M_get S hin hK hG 1 (by decide) (by decide +kernel) rfl dX5_fill_24 ?_
      refine lv_iload_n S.1 S.2.1 dX5_fill_27 rfl (lv_at hl 1 rfl) ?_
      refine r_iald S hK hG 2 0 rfl rfl (ri_vp c_4 (by decide)) dX5_fill_28 ?_
      refine lv_topi (fun v1 e_v1 => ?_)
      have hf := bnd_p e_v1 hf
      refine lv_istore_n (lv' := [(3, .int v1), (0, .ref (ad 0)), (1, .int x1), (2, .int x2)]) S.1 S.2.1 dX5_fill_29 rfl hl (by decide) rfl (fun ls hl => ?_)
      refine lv_aload_n S.1 S.2.1 dX5_fill_30 rfl (lv_at hl 1 rfl) ?_
      refine M_get S hin hK hG 1 (by decide) (by decide +kernel) rfl dX5_fill_31 ?_
      refine lv_iload_n S.1 S.2.1 dX5_fill_34 rfl (lv_at hl 2 rfl) ?_
      refine lv_iload_n S.1 S.2.1 dX5_fill_35 rfl (lv_at hl 3 rfl) ?_
      refine M_ast S hK hG 2 2 6 rfl (ri_vp c_4 (by decide)) (RWs_2 _ _ _ _ _) dX5_fill_36 (fun σ2 H locs e_σ2 hG => ?_)
      have hf := bnd_p e_σ2 hf
      refine lv_iload_n S.1 S.2.1 dX5_fill_37 rfl (lv_at hl 0 rfl) ?_
      exact r_iret S hr hlocks hG _ rfl hf rfl dX5_fill_38
    · have hf := ite_p c_17 hf
      refine lv_bipush (v := (-3)) S.1 S.2.1 dX5_fill_20 (by decide) ?_
      exact r_iret S hr hlocks hG _ rfl hf rfl dX5_fill_22
  · have hf := ite_p c_4 hf
    refine lv_bipush (v := (-2)) S.1 S.2.1 dX5_fill_7 (by decide) ?_
    exact r_iret S hr hlocks hG _ rfl hf rfl dX5_fill_9
theorem k_X5_fill (l : Launch) (D : va_G) (cI : ClassId) (ad : Nat → Nat) (σ : Mem) (x1 : Int32) (x2 : Int32) : CMi l yX5_fill wsX5_fill ({ frames := 2, cells := 0, slots := 0, locals := 42 } : Room) D vwCl [(cI, .int)] (RW ad cI σ) [.ref (ad 0), .int x1, .int x2] (fun (r : Int32) (u : Mem) => (r, u) = (f_X5_fill σ x1 x2)) (fun u => RW ad cI u) :=
  r_met (by decide) rfl (Nat.le_of_ble_eq_true rfl) (fun p e s m args below meth c ls S hr hlocks _ hK hA hG hl => b_X5_fill_0 S hr hlocks hK hA σ x1 x2 rfl _ _ hG ls hl)
theorem in_X5_tank : ∀ w ∈ wsX50, w ∈ wsX5_tank := by decide +kernel
def f_X5_tank (σ : Mem) (x1 : Int32) : Int32 :=
  (if (bI (f_X5_isTank x1)) = 0 then
  (-2)
  else
  σ 2 x1.toNatClampNeg)
set_option maxRecDepth 100000 in
set_option maxHeartbeats 4000000 in
theorem b_X5_tank_0 {p : Program} {l : Launch} {e : Env} {s : State} {m : MethodId} {args : Array Value} {below : List Frame} {meth : Method} {c : Code} {D : va_G} {cI : ClassId} {ad : Nat → Nat} {w0 : va_W} {X : Int32} (S : CallFix p m c cX5_tank 2 s args wsX5_tank RX5) (hr : meth.sig.returnType = (some .int)) (hlocks : meth.locks = false) (hK : va_K D vwCl [(cI, .int)] s) (hA : ∀ q, s.heap.size ≤ q → va_A w0 s.heap.size q) (σ : Mem) (x1 : Int32) (hf : f_X5_tank σ x1 = X) (H : Heap) (locs : List Loc) (hG : wI D vwCl (va_A w0 s.heap.size) s.heap H locs (RW ad cI σ)) (ls : Array Slot) (hl : lv_has ls 2 [(0, .ref (ad 0)), (1, .int x1)]) : W p l e ({ frames := 2, cells := 0, slots := 0, locals := 42 } : Room) s m args below meth c H locs 0 0 (MQ below (va_Qi (fun (r : Int32) (_ : Unit) => r = X) (fun u t => wPost D vwCl w0 s.heap.size ((fun _ => RW ad cI σ) u) t) (va_A w0 s.heap.size)) args s 0 0 (va_A w0 s.heap.size)) (F0 m 0 ls []) := by
  have hin := in_X5_tank
  unfold f_X5_tank at hf
  refine lv_iload_n S.1 S.2.1 dX5_tank_0 rfl (lv_at hl 1 rfl) ?_
  refine r_callSi S hK hA hG (k_X5_isTank l _ _ _ _ _) (cwS 1 S.2.2.2.2 gX5_tank_X5_isTank rfl rfl rfl (by decide +kernel) ⟨Nat.le_of_ble_eq_true rfl, Nat.le_of_ble_eq_true rfl⟩) rfl hl.1 rfl (Nat.le_of_ble_eq_true rfl) dX5_tank_1 ⟨Nat.le_of_ble_eq_true rfl, Nat.le_of_ble_eq_true rfl⟩ (fun r1 _ H locs hw hG => ?_)
  obtain rfl := hw
  refine lv_if_eq (tgt := 16) S.1 S.2.1 dX5_tank_4 (by decide) (fun c_4 => ?_) (fun c_4 => ?_)
  · have hf := ite_p c_4 hf
    refine lv_bipush (v := (-2)) S.1 S.2.1 dX5_tank_16 (by decide) ?_
    exact r_iret S hr hlocks hG () rfl hf rfl dX5_tank_18
  · have hf := ite_n c_4 hf
    refine lv_aload_n S.1 S.2.1 dX5_tank_7 rfl (lv_at hl 0 rfl) ?_
    refine M_get S hin hK hG 1 (by decide) (by decide +kernel) rfl dX5_tank_8 ?_
    refine lv_iload_n S.1 S.2.1 dX5_tank_11 rfl (lv_at hl 1 rfl) ?_
    refine r_iald S hK hG 2 0 rfl rfl (ri_vp c_4 (by decide)) dX5_tank_12 ?_
    refine lv_goto (tgt := 18) S.1 S.2.1 dX5_tank_13 (by decide) ?_
    exact r_iret S hr hlocks hG () rfl hf rfl dX5_tank_18
theorem k_X5_tank (l : Launch) (D : va_G) (cI : ClassId) (ad : Nat → Nat) (σ : Mem) (x1 : Int32) : CMi l yX5_tank wsX5_tank ({ frames := 2, cells := 0, slots := 0, locals := 42 } : Room) D vwCl [(cI, .int)] (RW ad cI σ) [.ref (ad 0), .int x1] (fun (r : Int32) (_ : Unit) => r = (f_X5_tank σ x1)) (fun _ => RW ad cI σ) :=
  r_met (by decide) rfl (Nat.le_of_ble_eq_true rfl) (fun p e s m args below meth c ls S hr hlocks _ hK hA hG hl => b_X5_tank_0 S hr hlocks hK hA σ x1 rfl _ _ hG ls hl)
theorem in_X5_isRule : ∀ w ∈ wsX50, w ∈ wsX5_isRule := by decide +kernel
def f_X5_isRule (σ : Mem) (x1 : Int32) : Bool :=
  (f_X5_in x1 0 ((σ 0 3) - 1))
set_option maxRecDepth 100000 in
set_option maxHeartbeats 4000000 in
theorem b_X5_isRule_0 {p : Program} {l : Launch} {e : Env} {s : State} {m : MethodId} {args : Array Value} {below : List Frame} {meth : Method} {c : Code} {D : va_G} {cI : ClassId} {ad : Nat → Nat} {w0 : va_W} {X : Bool} (S : CallFix p m c cX5_isRule 2 s args wsX5_isRule RX5) (hr : meth.sig.returnType = (some .boolean)) (hlocks : meth.locks = false) (hK : va_K D vwCl [(cI, .int)] s) (hA : ∀ q, s.heap.size ≤ q → va_A w0 s.heap.size q) (σ : Mem) (x1 : Int32) (hf : f_X5_isRule σ x1 = X) (H : Heap) (locs : List Loc) (hG : wI D vwCl (va_A w0 s.heap.size) s.heap H locs (RW ad cI σ)) (ls : Array Slot) (hl : lv_has ls 2 [(0, .ref (ad 0)), (1, .int x1)]) : W p l e ({ frames := 1, cells := 0, slots := 0, locals := 22 } : Room) s m args below meth c H locs 0 0 (MQ below (va_Qi (fun (r : Int32) (_ : Unit) => r = bI X) (fun u t => wPost D vwCl w0 s.heap.size ((fun _ => RW ad cI σ) u) t) (va_A w0 s.heap.size)) args s 0 0 (va_A w0 s.heap.size)) (F0 m 0 ls []) := by
  have hin := in_X5_isRule
  unfold f_X5_isRule at hf
  refine lv_iload_n S.1 S.2.1 dX5_isRule_0 rfl (lv_at hl 1 rfl) ?_
  refine lv_iconst (v := 0) S.1 S.2.1 dX5_isRule_1 (by decide) ?_
  refine lv_aload_n S.1 S.2.1 dX5_isRule_2 rfl (lv_at hl 0 rfl) ?_
  refine M_get S hin hK hG 3 (by decide) (by decide +kernel) rfl dX5_isRule_3 ?_
  refine lv_iconst (v := 1) S.1 S.2.1 dX5_isRule_6 (by decide) ?_
  refine lv_isub S.1 S.2.1 dX5_isRule_7 ?_
  refine r_callSi S hK hA hG (k_X5_in l _ _ _ _ _ _ _) (cwS 3 S.2.2.2.2 gX5_isRule_X5_in rfl rfl rfl (by decide +kernel) ⟨Nat.le_of_ble_eq_true rfl, Nat.le_of_ble_eq_true rfl⟩) rfl hl.1 rfl (Nat.le_of_ble_eq_true rfl) dX5_isRule_8 ⟨Nat.le_of_ble_eq_true rfl, Nat.le_of_ble_eq_true rfl⟩ (fun r8 _ H locs hw hG => ?_)
  obtain rfl := hw
  exact r_iret S hr hlocks hG () rfl (congrArg bI hf) (bI_nar (f_X5_in x1 0 ((σ 0 3) - 1))) dX5_isRule_11
theorem k_X5_isRule (l : Launch) (D : va_G) (cI : ClassId) (ad : Nat → Nat) (σ : Mem) (x1 : Int32) : CMi l yX5_isRule wsX5_isRule ({ frames := 1, cells := 0, slots := 0, locals := 22 } : Room) D vwCl [(cI, .int)] (RW ad cI σ) [.ref (ad 0), .int x1] (fun (r : Int32) (_ : Unit) => r = bI (f_X5_isRule σ x1)) (fun _ => RW ad cI σ) :=
  r_met (by decide) rfl (Nat.le_of_ble_eq_true rfl) (fun p e s m args below meth c ls S hr hlocks _ hK hA hG hl => b_X5_isRule_0 S hr hlocks hK hA σ x1 rfl _ _ hG ls hl)
theorem in_X5_isAct : ∀ w ∈ wsX50, w ∈ wsX5_isAct := by decide +kernel
def f_X5_isAct (σ : Mem) (x1 : Int32) : Bool :=
  (f_X5_in x1 0 ((σ 0 9) - 1))
set_option maxRecDepth 100000 in
set_option maxHeartbeats 4000000 in
theorem b_X5_isAct_0 {p : Program} {l : Launch} {e : Env} {s : State} {m : MethodId} {args : Array Value} {below : List Frame} {meth : Method} {c : Code} {D : va_G} {cI : ClassId} {ad : Nat → Nat} {w0 : va_W} {X : Bool} (S : CallFix p m c cX5_isAct 2 s args wsX5_isAct RX5) (hr : meth.sig.returnType = (some .boolean)) (hlocks : meth.locks = false) (hK : va_K D vwCl [(cI, .int)] s) (hA : ∀ q, s.heap.size ≤ q → va_A w0 s.heap.size q) (σ : Mem) (x1 : Int32) (hf : f_X5_isAct σ x1 = X) (H : Heap) (locs : List Loc) (hG : wI D vwCl (va_A w0 s.heap.size) s.heap H locs (RW ad cI σ)) (ls : Array Slot) (hl : lv_has ls 2 [(0, .ref (ad 0)), (1, .int x1)]) : W p l e ({ frames := 1, cells := 0, slots := 0, locals := 22 } : Room) s m args below meth c H locs 0 0 (MQ below (va_Qi (fun (r : Int32) (_ : Unit) => r = bI X) (fun u t => wPost D vwCl w0 s.heap.size ((fun _ => RW ad cI σ) u) t) (va_A w0 s.heap.size)) args s 0 0 (va_A w0 s.heap.size)) (F0 m 0 ls []) := by
  have hin := in_X5_isAct
  unfold f_X5_isAct at hf
  refine lv_iload_n S.1 S.2.1 dX5_isAct_0 rfl (lv_at hl 1 rfl) ?_
  refine lv_iconst (v := 0) S.1 S.2.1 dX5_isAct_1 (by decide) ?_
  refine lv_aload_n S.1 S.2.1 dX5_isAct_2 rfl (lv_at hl 0 rfl) ?_
  refine M_get S hin hK hG 9 (by decide) (by decide +kernel) rfl dX5_isAct_3 ?_
  refine lv_iconst (v := 1) S.1 S.2.1 dX5_isAct_6 (by decide) ?_
  refine lv_isub S.1 S.2.1 dX5_isAct_7 ?_
  refine r_callSi S hK hA hG (k_X5_in l _ _ _ _ _ _ _) (cwS 3 S.2.2.2.2 gX5_isAct_X5_in rfl rfl rfl (by decide +kernel) ⟨Nat.le_of_ble_eq_true rfl, Nat.le_of_ble_eq_true rfl⟩) rfl hl.1 rfl (Nat.le_of_ble_eq_true rfl) dX5_isAct_8 ⟨Nat.le_of_ble_eq_true rfl, Nat.le_of_ble_eq_true rfl⟩ (fun r8 _ H locs hw hG => ?_)
  obtain rfl := hw
  exact r_iret S hr hlocks hG () rfl (congrArg bI hf) (bI_nar (f_X5_in x1 0 ((σ 0 9) - 1))) dX5_isAct_11
theorem k_X5_isAct (l : Launch) (D : va_G) (cI : ClassId) (ad : Nat → Nat) (σ : Mem) (x1 : Int32) : CMi l yX5_isAct wsX5_isAct ({ frames := 1, cells := 0, slots := 0, locals := 22 } : Room) D vwCl [(cI, .int)] (RW ad cI σ) [.ref (ad 0), .int x1] (fun (r : Int32) (_ : Unit) => r = bI (f_X5_isAct σ x1)) (fun _ => RW ad cI σ) :=
  r_met (by decide) rfl (Nat.le_of_ble_eq_true rfl) (fun p e s m args below meth c ls S hr hlocks _ hK hA hG hl => b_X5_isAct_0 S hr hlocks hK hA σ x1 rfl _ _ hG ls hl)
theorem in_X5_isActOrNone : ∀ w ∈ wsX50, w ∈ wsX5_isActOrNone := by decide +kernel
def f_X5_isActOrNone (σ : Mem) (x1 : Int32) : Bool :=
  (if x1 = (-1) then
  true
  else
  (if (bI (f_X5_isAct σ x1)) = 0 then
  false
  else
  true))
set_option maxRecDepth 100000 in
set_option maxHeartbeats 4000000 in
theorem b_X5_isActOrNone_0 {p : Program} {l : Launch} {e : Env} {s : State} {m : MethodId} {args : Array Value} {below : List Frame} {meth : Method} {c : Code} {D : va_G} {cI : ClassId} {ad : Nat → Nat} {w0 : va_W} {X : Bool} (S : CallFix p m c cX5_isActOrNone 2 s args wsX5_isActOrNone RX5) (hr : meth.sig.returnType = (some .boolean)) (hlocks : meth.locks = false) (hK : va_K D vwCl [(cI, .int)] s) (hA : ∀ q, s.heap.size ≤ q → va_A w0 s.heap.size q) (σ : Mem) (x1 : Int32) (hf : f_X5_isActOrNone σ x1 = X) (H : Heap) (locs : List Loc) (hG : wI D vwCl (va_A w0 s.heap.size) s.heap H locs (RW ad cI σ)) (ls : Array Slot) (hl : lv_has ls 2 [(0, .ref (ad 0)), (1, .int x1)]) : W p l e ({ frames := 2, cells := 0, slots := 0, locals := 43 } : Room) s m args below meth c H locs 0 0 (MQ below (va_Qi (fun (r : Int32) (_ : Unit) => r = bI X) (fun u t => wPost D vwCl w0 s.heap.size ((fun _ => RW ad cI σ) u) t) (va_A w0 s.heap.size)) args s 0 0 (va_A w0 s.heap.size)) (F0 m 0 ls []) := by
  have hin := in_X5_isActOrNone
  unfold f_X5_isActOrNone at hf
  refine lv_iload_n S.1 S.2.1 dX5_isActOrNone_0 rfl (lv_at hl 1 rfl) ?_
  refine lv_iconst (v := (-1)) S.1 S.2.1 dX5_isActOrNone_1 (by decide) ?_
  refine lv_icmp_eq (tgt := 13) S.1 S.2.1 dX5_isActOrNone_2 (by decide) (fun c_2 => ?_) (fun c_2 => ?_)
  · have hf := ite_p c_2 hf
    refine lv_iconst (v := 1) S.1 S.2.1 dX5_isActOrNone_13 (by decide) ?_
    refine lv_goto (tgt := 18) S.1 S.2.1 dX5_isActOrNone_14 (by decide) ?_
    exact r_iret S hr hlocks hG () rfl (congrArg bI hf) (bI_nar true) dX5_isActOrNone_18
  · have hf := ite_n c_2 hf
    refine lv_aload_n S.1 S.2.1 dX5_isActOrNone_5 rfl (lv_at hl 0 rfl) ?_
    refine lv_iload_n S.1 S.2.1 dX5_isActOrNone_6 rfl (lv_at hl 1 rfl) ?_
    refine r_callVi S hK hA hG (k_X5_isAct l _ _ _ _ _) (cwV 1 S.2.2.2.2 gX5_isActOrNone_X5_isAct rfl rfl rfl (by decide +kernel) ⟨Nat.le_of_ble_eq_true rfl, Nat.le_of_ble_eq_true rfl⟩) (va_recv hK hG.1 (ci := 5) (q0 := 0) rfl rfl) rfl hl.1 rfl (Nat.le_of_ble_eq_true rfl) dX5_isActOrNone_7 ⟨Nat.le_of_ble_eq_true rfl, Nat.le_of_ble_eq_true rfl⟩ (fun r7 _ H locs hw hG => ?_)
    obtain rfl := hw
    refine lv_if_eq (tgt := 17) S.1 S.2.1 dX5_isActOrNone_10 (by decide) (fun c_10 => ?_) (fun c_10 => ?_)
    · have hf := ite_p c_10 hf
      refine lv_iconst (v := 0) S.1 S.2.1 dX5_isActOrNone_17 (by decide) ?_
      exact r_iret S hr hlocks hG () rfl (congrArg bI hf) (bI_nar false) dX5_isActOrNone_18
    · have hf := ite_n c_10 hf
      refine lv_iconst (v := 1) S.1 S.2.1 dX5_isActOrNone_13 (by decide) ?_
      refine lv_goto (tgt := 18) S.1 S.2.1 dX5_isActOrNone_14 (by decide) ?_
      exact r_iret S hr hlocks hG () rfl (congrArg bI hf) (bI_nar true) dX5_isActOrNone_18
theorem k_X5_isActOrNone (l : Launch) (D : va_G) (cI : ClassId) (ad : Nat → Nat) (σ : Mem) (x1 : Int32) : CMi l yX5_isActOrNone wsX5_isActOrNone ({ frames := 2, cells := 0, slots := 0, locals := 43 } : Room) D vwCl [(cI, .int)] (RW ad cI σ) [.ref (ad 0), .int x1] (fun (r : Int32) (_ : Unit) => r = bI (f_X5_isActOrNone σ x1)) (fun _ => RW ad cI σ) :=
  r_met (by decide) rfl (Nat.le_of_ble_eq_true rfl) (fun p e s m args below meth c ls S hr hlocks _ hK hA hG hl => b_X5_isActOrNone_0 S hr hlocks hK hA σ x1 rfl _ _ hG ls hl)
theorem in_X5_amount : ∀ w ∈ wsX50, w ∈ wsX5_amount := by decide +kernel
def f_X5_amount (σ : Mem) : Int32 :=
  σ 0 21
set_option maxRecDepth 100000 in
set_option maxHeartbeats 4000000 in
theorem b_X5_amount_0 {p : Program} {l : Launch} {e : Env} {s : State} {m : MethodId} {args : Array Value} {below : List Frame} {meth : Method} {c : Code} {D : va_G} {cI : ClassId} {ad : Nat → Nat} {w0 : va_W} {X : Int32} (S : CallFix p m c cX5_amount 1 s args wsX5_amount RX5) (hr : meth.sig.returnType = (some .int)) (hlocks : meth.locks = false) (hK : va_K D vwCl [(cI, .int)] s) (hA : ∀ q, s.heap.size ≤ q → va_A w0 s.heap.size q) (σ : Mem) (hf : f_X5_amount σ = X) (H : Heap) (locs : List Loc) (hG : wI D vwCl (va_A w0 s.heap.size) s.heap H locs (RW ad cI σ)) (ls : Array Slot) (hl : lv_has ls 1 [(0, .ref (ad 0))]) : W p l e ({ frames := 0, cells := 0, slots := 0, locals := 0 } : Room) s m args below meth c H locs 0 0 (MQ below (va_Qi (fun (r : Int32) (_ : Unit) => r = X) (fun u t => wPost D vwCl w0 s.heap.size ((fun _ => RW ad cI σ) u) t) (va_A w0 s.heap.size)) args s 0 0 (va_A w0 s.heap.size)) (F0 m 0 ls []) := by
  have hin := in_X5_amount
  unfold f_X5_amount at hf
  refine lv_aload_n S.1 S.2.1 dX5_amount_0 rfl (lv_at hl 0 rfl) ?_
  refine M_get S hin hK hG 21 (by decide) (by decide +kernel) rfl dX5_amount_1 ?_
  exact r_iret S hr hlocks hG () rfl hf rfl dX5_amount_4
theorem k_X5_amount (l : Launch) (D : va_G) (cI : ClassId) (ad : Nat → Nat) (σ : Mem) : CMi l yX5_amount wsX5_amount ({ frames := 0, cells := 0, slots := 0, locals := 0 } : Room) D vwCl [(cI, .int)] (RW ad cI σ) [.ref (ad 0)] (fun (r : Int32) (_ : Unit) => r = (f_X5_amount σ)) (fun _ => RW ad cI σ) :=
  r_met (by decide) rfl (Nat.le_of_ble_eq_true rfl) (fun p e s m args below meth c ls S hr hlocks _ hK hA hG hl => b_X5_amount_0 S hr hlocks hK hA σ rfl _ _ hG ls hl)
theorem in_X5_why : ∀ w ∈ wsX50, w ∈ wsX5_why := by decide +kernel
def f_X5_why (σ : Mem) : Int32 :=
  σ 0 24
set_option maxRecDepth 100000 in
set_option maxHeartbeats 4000000 in
theorem b_X5_why_0 {p : Program} {l : Launch} {e : Env} {s : State} {m : MethodId} {args : Array Value} {below : List Frame} {meth : Method} {c : Code} {D : va_G} {cI : ClassId} {ad : Nat → Nat} {w0 : va_W} {X : Int32} (S : CallFix p m c cX5_why 1 s args wsX5_why RX5) (hr : meth.sig.returnType = (some .int)) (hlocks : meth.locks = false) (hK : va_K D vwCl [(cI, .int)] s) (hA : ∀ q, s.heap.size ≤ q → va_A w0 s.heap.size q) (σ : Mem) (hf : f_X5_why σ = X) (H : Heap) (locs : List Loc) (hG : wI D vwCl (va_A w0 s.heap.size) s.heap H locs (RW ad cI σ)) (ls : Array Slot) (hl : lv_has ls 1 [(0, .ref (ad 0))]) : W p l e ({ frames := 0, cells := 0, slots := 0, locals := 0 } : Room) s m args below meth c H locs 0 0 (MQ below (va_Qi (fun (r : Int32) (_ : Unit) => r = X) (fun u t => wPost D vwCl w0 s.heap.size ((fun _ => RW ad cI σ) u) t) (va_A w0 s.heap.size)) args s 0 0 (va_A w0 s.heap.size)) (F0 m 0 ls []) := by
  have hin := in_X5_why
  unfold f_X5_why at hf
  refine lv_aload_n S.1 S.2.1 dX5_why_0 rfl (lv_at hl 0 rfl) ?_
  refine M_get S hin hK hG 24 (by decide) (by decide +kernel) rfl dX5_why_1 ?_
  exact r_iret S hr hlocks hG () rfl hf rfl dX5_why_4
theorem k_X5_why (l : Launch) (D : va_G) (cI : ClassId) (ad : Nat → Nat) (σ : Mem) : CMi l yX5_why wsX5_why ({ frames := 0, cells := 0, slots := 0, locals := 0 } : Room) D vwCl [(cI, .int)] (RW ad cI σ) [.ref (ad 0)] (fun (r : Int32) (_ : Unit) => r = (f_X5_why σ)) (fun _ => RW ad cI σ) :=
  r_met (by decide) rfl (Nat.le_of_ble_eq_true rfl) (fun p e s m args below meth c ls S hr hlocks _ hK hA hG hl => b_X5_why_0 S hr hlocks hK hA σ rfl _ _ hG ls hl)
theorem in_X5_count : ∀ w ∈ wsX50, w ∈ wsX5_count := by decide +kernel
def f_X5_count (σ : Mem) (x1 : Int32) : Int32 :=
  (if x1 = 0 then
  σ 0 3
  else
  (if x1 = 1 then
  σ 0 9
  else
  (if x1 = 2 then
  σ 0 14
  else
  (if x1 = 3 then
  σ 0 2
  else
  (if x1 = 4 then
  σ 0 17
  else
  (if x1 = 5 then
  σ 0 22
  else
  (if x1 = 6 then
  σ 0 23
  else
  (-3))))))))
set_option maxRecDepth 100000 in
set_option maxHeartbeats 4000000 in
theorem b_X5_count_0 {p : Program} {l : Launch} {e : Env} {s : State} {m : MethodId} {args : Array Value} {below : List Frame} {meth : Method} {c : Code} {D : va_G} {cI : ClassId} {ad : Nat → Nat} {w0 : va_W} {X : Int32} (S : CallFix p m c cX5_count 2 s args wsX5_count RX5) (hr : meth.sig.returnType = (some .int)) (hlocks : meth.locks = false) (hK : va_K D vwCl [(cI, .int)] s) (hA : ∀ q, s.heap.size ≤ q → va_A w0 s.heap.size q) (σ : Mem) (x1 : Int32) (hf : f_X5_count σ x1 = X) (H : Heap) (locs : List Loc) (hG : wI D vwCl (va_A w0 s.heap.size) s.heap H locs (RW ad cI σ)) (ls : Array Slot) (hl : lv_has ls 2 [(0, .ref (ad 0)), (1, .int x1)]) : W p l e ({ frames := 0, cells := 0, slots := 0, locals := 0 } : Room) s m args below meth c H locs 0 0 (MQ below (va_Qi (fun (r : Int32) (_ : Unit) => r = X) (fun u t => wPost D vwCl w0 s.heap.size ((fun _ => RW ad cI σ) u) t) (va_A w0 s.heap.size)) args s 0 0 (va_A w0 s.heap.size)) (F0 m 0 ls []) := by
  have hin := in_X5_count
  unfold f_X5_count at hf
  refine lv_iload_n S.1 S.2.1 dX5_count_0 rfl (lv_at hl 1 rfl) ?_
  refine (Decidable.em (x1 = 0)).elim (fun c_1_0 => ?_) (fun c_1_0 => ?_)
  · have hf := ite_p c_1_0 hf
    refine lv_tableIn (off := 43) (tgt := 44) S.1 S.2.1 dX5_count_1 (by rw [c_1_0]; decide) (by rw [c_1_0]; decide) (by rw [c_1_0]; rfl) (by decide) ?_
    refine lv_aload_n S.1 S.2.1 dX5_count_44 rfl (lv_at hl 0 rfl) ?_
    refine M_get S hin hK hG 3 (by decide) (by decide +kernel) rfl dX5_count_45 ?_
    exact r_iret S hr hlocks hG () rfl hf rfl dX5_count_48
  have hf := ite_n c_1_0 hf
  refine (Decidable.em (x1 = 1)).elim (fun c_1_1 => ?_) (fun c_1_1 => ?_)
  · have hf := ite_p c_1_1 hf
    refine lv_tableIn (off := 48) (tgt := 49) S.1 S.2.1 dX5_count_1 (by rw [c_1_1]; decide) (by rw [c_1_1]; decide) (by rw [c_1_1]; rfl) (by decide) ?_
    refine lv_aload_n S.1 S.2.1 dX5_count_49 rfl (lv_at hl 0 rfl) ?_
    refine M_get S hin hK hG 9 (by decide) (by decide +kernel) rfl dX5_count_50 ?_
    exact r_iret S hr hlocks hG () rfl hf rfl dX5_count_53
  have hf := ite_n c_1_1 hf
  refine (Decidable.em (x1 = 2)).elim (fun c_1_2 => ?_) (fun c_1_2 => ?_)
  · have hf := ite_p c_1_2 hf
    refine lv_tableIn (off := 53) (tgt := 54) S.1 S.2.1 dX5_count_1 (by rw [c_1_2]; decide) (by rw [c_1_2]; decide) (by rw [c_1_2]; rfl) (by decide) ?_
    refine lv_aload_n S.1 S.2.1 dX5_count_54 rfl (lv_at hl 0 rfl) ?_
    refine M_get S hin hK hG 14 (by decide) (by decide +kernel) rfl dX5_count_55 ?_
    exact r_iret S hr hlocks hG () rfl hf rfl dX5_count_58
  have hf := ite_n c_1_2 hf
  refine (Decidable.em (x1 = 3)).elim (fun c_1_3 => ?_) (fun c_1_3 => ?_)
  · have hf := ite_p c_1_3 hf
    refine lv_tableIn (off := 58) (tgt := 59) S.1 S.2.1 dX5_count_1 (by rw [c_1_3]; decide) (by rw [c_1_3]; decide) (by rw [c_1_3]; rfl) (by decide) ?_
    refine lv_aload_n S.1 S.2.1 dX5_count_59 rfl (lv_at hl 0 rfl) ?_
    refine M_get S hin hK hG 2 (by decide) (by decide +kernel) rfl dX5_count_60 ?_
    exact r_iret S hr hlocks hG () rfl hf rfl dX5_count_63
  have hf := ite_n c_1_3 hf
  refine (Decidable.em (x1 = 4)).elim (fun c_1_4 => ?_) (fun c_1_4 => ?_)
  · have hf := ite_p c_1_4 hf
    refine lv_tableIn (off := 63) (tgt := 64) S.1 S.2.1 dX5_count_1 (by rw [c_1_4]; decide) (by rw [c_1_4]; decide) (by rw [c_1_4]; rfl) (by decide) ?_
    refine lv_aload_n S.1 S.2.1 dX5_count_64 rfl (lv_at hl 0 rfl) ?_
    refine M_get S hin hK hG 17 (by decide) (by decide +kernel) rfl dX5_count_65 ?_
    exact r_iret S hr hlocks hG () rfl hf rfl dX5_count_68
  have hf := ite_n c_1_4 hf
  refine (Decidable.em (x1 = 5)).elim (fun c_1_5 => ?_) (fun c_1_5 => ?_)
  · have hf := ite_p c_1_5 hf
    refine lv_tableIn (off := 68) (tgt := 69) S.1 S.2.1 dX5_count_1 (by rw [c_1_5]; decide) (by rw [c_1_5]; decide) (by rw [c_1_5]; rfl) (by decide) ?_
    refine lv_aload_n S.1 S.2.1 dX5_count_69 rfl (lv_at hl 0 rfl) ?_
    refine M_get S hin hK hG 22 (by decide) (by decide +kernel) rfl dX5_count_70 ?_
    exact r_iret S hr hlocks hG () rfl hf rfl dX5_count_73
  have hf := ite_n c_1_5 hf
  refine (Decidable.em (x1 = 6)).elim (fun c_1_6 => ?_) (fun c_1_6 => ?_)
  · have hf := ite_p c_1_6 hf
    refine lv_tableIn (off := 73) (tgt := 74) S.1 S.2.1 dX5_count_1 (by rw [c_1_6]; decide) (by rw [c_1_6]; decide) (by rw [c_1_6]; rfl) (by decide) ?_
    refine lv_aload_n S.1 S.2.1 dX5_count_74 rfl (lv_at hl 0 rfl) ?_
    refine M_get S hin hK hG 23 (by decide) (by decide +kernel) rfl dX5_count_75 ?_
    exact r_iret S hr hlocks hG () rfl hf rfl dX5_count_78
  have hf := ite_n c_1_6 hf
  refine lv_tableOut (tgt := 79) S.1 S.2.1 dX5_count_1 (by have h0 := sw_ne (z := 0) rfl c_1_0; have h1 := sw_ne (z := 1) rfl c_1_1; have h2 := sw_ne (z := 2) rfl c_1_2; have h3 := sw_ne (z := 3) rfl c_1_3; have h4 := sw_ne (z := 4) rfl c_1_4; have h5 := sw_ne (z := 5) rfl c_1_5; have h6 := sw_ne (z := 6) rfl c_1_6; omega) (by decide) ?_
  refine lv_bipush (v := (-3)) S.1 S.2.1 dX5_count_79 (by decide) ?_
  exact r_iret S hr hlocks hG () rfl hf rfl dX5_count_81
theorem k_X5_count (l : Launch) (D : va_G) (cI : ClassId) (ad : Nat → Nat) (σ : Mem) (x1 : Int32) : CMi l yX5_count wsX5_count ({ frames := 0, cells := 0, slots := 0, locals := 0 } : Room) D vwCl [(cI, .int)] (RW ad cI σ) [.ref (ad 0), .int x1] (fun (r : Int32) (_ : Unit) => r = (f_X5_count σ x1)) (fun _ => RW ad cI σ) :=
  r_met (by decide) rfl (Nat.le_of_ble_eq_true rfl) (fun p e s m args below meth c ls S hr hlocks _ hK hA hG hl => b_X5_count_0 S hr hlocks hK hA σ x1 rfl _ _ hG ls hl)
