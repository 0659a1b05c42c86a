section RN1
variable {p : Program} {l : Launch} {e : Env} {R : Room} {s : State} {m : MethodId} {args : Array Value} {below : List Frame} {meth : Method} {c : Code} {H : Heap} {locs : List Loc} {cells slots : Nat} {Q : State → Prop} {cc : ByteArray} {nL : Nat} {Ts : List Cond} {own : String} {D : va_G} {cl : List vw_C} {tys : List (ClassId × FieldType)} {A : Nat → Prop} {w : va_W} {pc : Nat} {ls : Array Slot} {rest : List Value} {a : Nat}
theorem r_getN (S : CallFix p m c cc nL s args Ts own) (hK : va_K D cl tys s) (hG : wI D cl A s.heap H locs w) {C host : String} {T : u_T} {N ci index : Nat} (hin : ∀ w ∈ u_ws C T N, w ∈ Ts) {ref name desc : String} (hl : va_Nw (.fieldLinkNest own index ref name desc host) s) (q0 : Nat) {fs : List Value} (he : w[q0]? = some (a, .inr (ci, fs))) (hc : cl[ci]? = some (C, T, N)) (k : Nat) (hk : k < N) (hT : ((T k).1, (T k).2.1, (T k).2.2.1) = (ref, name, desc)) {v : Value} (hv : fs[k]? = some v) (hdg : decode cc pc = .ok (.getfield index, 3))
    (kk : W p l e R s m args below meth c H locs cells slots Q (F0 m (pc + 3) ls (v :: rest))) : W p l e R s m args below meth c H locs cells slots Q (F0 m pc ls (.ref a :: rest)) := by
  have h1 : (T k).1 = ref := congrArg Prod.fst hT
  have h2 : (T k).2.1 = name := congrArg (fun x => x.2.1) hT
  have h3 : (T k).2.2.1 = desc := congrArg (fun x => x.2.2) hT
  subst h1; subst h2; subst h3
  exact va_getN S.1 S.2.1 S.2.2.2.2 hin S.2.2.2.1 hK hG.1 q0 he hc k hk (va_Nw.use rfl hl) (fun _ h => h) hv hdg kk
end RN1
theorem in_X4_count_X1 : ∀ w ∈ wsX10, w ∈ wsX4_count := by decide +kernel
theorem in_X4_count_X3 : ∀ w ∈ wsX30, w ∈ wsX4_count := by decide +kernel
theorem in_X4_count_X4 : ∀ w ∈ wsX40, w ∈ wsX4_count := by decide +kernel
def f_X4_count (σ : Mem) (x1 : Int32) : Int32 :=
  (if x1 = 0 then
  σ 0 7
  else
  (if x1 = 1 then
  σ 0 8
  else
  (if x1 = 2 then
  σ 6 2
  else
  (if x1 = 3 then
  σ 0 9
  else
  (if x1 = 4 then
  σ 7 3
  else
  (if x1 = 5 then
  σ 0 11
  else
  (if x1 = 6 then
  σ 0 12
  else
  (-3))))))))
set_option maxRecDepth 100000 in
set_option maxHeartbeats 4000000 in
theorem b_X4_count_0 {p : Program} {l : Launch} {e : Env} {s : State} {m : MethodId} {args : Array Value} {below : List Frame} {meth : Method} {c : Code} {D : va_G} {cs : Nat → ClassId} {ad : Nat → Nat} {nr nx : Nat} {wy : Int32} {T : Mem} {w0 : va_W} (hN : gN s) {X : Int32} (S : CallFix p m c cX4_count 2 s args wsX4_count RX4) (hr : meth.sig.returnType = (some .int)) (hlocks : meth.locks = false) (hK : va_K D vwCl (gT cs) s) (hA : ∀ q, s.heap.size ≤ q → va_A w0 s.heap.size q) (σ : Mem) (x1 : Int32) (hc : CInv nr nx wy T σ) (hf : f_X4_count σ x1 = X) (H : Heap) (locs : List Loc) (hG : wI D vwCl (va_A w0 s.heap.size) s.heap H locs (GW ad cs nr nx σ)) (ls : Array Slot) (hl : lv_has ls 2 [(0, .ref (ad 0)), (1, .int x1)]) : W p l e ({ frames := 0, cells := 0, slots := 0, locals := 0 } : Room) s m args below meth c H locs 0 0 (MQ below (va_Qi (fun (r : Int32) (_ : Unit) => r = X) (fun u t => wPost D vwCl w0 s.heap.size ((fun _ => GW ad cs nr nx σ) u) t) (va_A w0 s.heap.size)) args s 0 0 (va_A w0 s.heap.size)) (F0 m 0 ls []) := by
  have hinX1 := in_X4_count_X1
  have hinX3 := in_X4_count_X3
  have hinX4 := in_X4_count_X4
  unfold f_X4_count at hf
  refine lv_iload_n S.1 S.2.1 dX4_count_0 rfl (lv_at hl 1 rfl) ?_
  refine (Decidable.em (x1 = 0)).elim (fun c_1_0 => ?_) (fun c_1_0 => ?_)
  · have hf := ite_p c_1_0 hf
    refine lv_tableIn (off := 43) (tgt := 44) S.1 S.2.1 dX4_count_1 (by rw [c_1_0]; decide) (by rw [c_1_0]; decide) (by rw [c_1_0]; rfl) (by decide) ?_
    refine lv_aload_n S.1 S.2.1 dX4_count_44 rfl (lv_at hl 0 rfl) ?_
    refine r_get S hK hG hinX4 0 rfl rfl 7 (by decide) (by decide +kernel) rfl dX4_count_45 ?_
    exact r_iret S hr hlocks hG () rfl hf rfl dX4_count_48
  have hf := ite_n c_1_0 hf
  refine (Decidable.em (x1 = 1)).elim (fun c_1_1 => ?_) (fun c_1_1 => ?_)
  · have hf := ite_p c_1_1 hf
    refine lv_tableIn (off := 48) (tgt := 49) S.1 S.2.1 dX4_count_1 (by rw [c_1_1]; decide) (by rw [c_1_1]; decide) (by rw [c_1_1]; rfl) (by decide) ?_
    refine lv_aload_n S.1 S.2.1 dX4_count_49 rfl (lv_at hl 0 rfl) ?_
    refine r_get S hK hG hinX4 0 rfl rfl 8 (by decide) (by decide +kernel) rfl dX4_count_50 ?_
    exact r_iret S hr hlocks hG () rfl hf rfl dX4_count_53
  have hf := ite_n c_1_1 hf
  refine (Decidable.em (x1 = 2)).elim (fun c_1_2 => ?_) (fun c_1_2 => ?_)
  · have hf := ite_p c_1_2 hf
    refine lv_tableIn (off := 53) (tgt := 54) S.1 S.2.1 dX4_count_1 (by rw [c_1_2]; decide) (by rw [c_1_2]; decide) (by rw [c_1_2]; rfl) (by decide) ?_
    refine lv_aload_n S.1 S.2.1 dX4_count_54 rfl (lv_at hl 0 rfl) ?_
    refine r_get S hK hG hinX4 0 rfl rfl 5 (by decide) (by decide +kernel) rfl dX4_count_55 ?_
    refine r_getN S hK hG hinX3 hN.2.2.2.2.2.1 6 rfl rfl 2 (by decide) rfl rfl dX4_count_58 ?_
    exact r_iret S hr hlocks hG () rfl hf rfl dX4_count_61
  have hf := ite_n c_1_2 hf
  refine (Decidable.em (x1 = 3)).elim (fun c_1_3 => ?_) (fun c_1_3 => ?_)
  · have hf := ite_p c_1_3 hf
    refine lv_tableIn (off := 61) (tgt := 62) S.1 S.2.1 dX4_count_1 (by rw [c_1_3]; decide) (by rw [c_1_3]; decide) (by rw [c_1_3]; rfl) (by decide) ?_
    refine lv_aload_n S.1 S.2.1 dX4_count_62 rfl (lv_at hl 0 rfl) ?_
    refine r_get S hK hG hinX4 0 rfl rfl 9 (by decide) (by decide +kernel) rfl dX4_count_63 ?_
    exact r_iret S hr hlocks hG () rfl hf rfl dX4_count_66
  have hf := ite_n c_1_3 hf
  refine (Decidable.em (x1 = 4)).elim (fun c_1_4 => ?_) (fun c_1_4 => ?_)
  · have hf := ite_p c_1_4 hf
    refine lv_tableIn (off := 66) (tgt := 67) S.1 S.2.1 dX4_count_1 (by rw [c_1_4]; decide) (by rw [c_1_4]; decide) (by rw [c_1_4]; rfl) (by decide) ?_
    refine lv_aload_n S.1 S.2.1 dX4_count_67 rfl (lv_at hl 0 rfl) ?_
    refine r_get S hK hG hinX4 0 rfl rfl 6 (by decide) (by decide +kernel) rfl dX4_count_68 ?_
    refine r_getN S hK hG hinX1 hN.2.2.2.2.2.2 7 rfl rfl 3 (by decide) rfl rfl dX4_count_71 ?_
    exact r_iret S hr hlocks hG () rfl hf rfl dX4_count_74
  have hf := ite_n c_1_4 hf
  refine (Decidable.em (x1 = 5)).elim (fun c_1_5 => ?_) (fun c_1_5 => ?_)
  · have hf := ite_p c_1_5 hf
    refine lv_tableIn (off := 74) (tgt := 75) S.1 S.2.1 dX4_count_1 (by rw [c_1_5]; decide) (by rw [c_1_5]; decide) (by rw [c_1_5]; rfl) (by decide) ?_
    refine lv_aload_n S.1 S.2.1 dX4_count_75 rfl (lv_at hl 0 rfl) ?_
    refine r_get S hK hG hinX4 0 rfl rfl 11 (by decide) (by decide +kernel) rfl dX4_count_76 ?_
    exact r_iret S hr hlocks hG () rfl hf rfl dX4_count_79
  have hf := ite_n c_1_5 hf
  refine (Decidable.em (x1 = 6)).elim (fun c_1_6 => ?_) (fun c_1_6 => ?_)
  · have hf := ite_p c_1_6 hf
    refine lv_tableIn (off := 79) (tgt := 80) S.1 S.2.1 dX4_count_1 (by rw [c_1_6]; decide) (by rw [c_1_6]; decide) (by rw [c_1_6]; rfl) (by decide) ?_
    refine lv_aload_n S.1 S.2.1 dX4_count_80 rfl (lv_at hl 0 rfl) ?_
    refine r_get S hK hG hinX4 0 rfl rfl 12 (by decide) (by decide +kernel) rfl dX4_count_81 ?_
    exact r_iret S hr hlocks hG () rfl hf rfl dX4_count_84
  have hf := ite_n c_1_6 hf
  refine lv_tableOut (tgt := 85) S.1 S.2.1 dX4_count_1 (by have h0 := sw_ne (z := 0) rfl c_1_0; have h1 := sw_ne (z := 1) rfl c_1_1; have h2 := sw_ne (z := 2) rfl c_1_2; have h3 := sw_ne (z := 3) rfl c_1_3; have h4 := sw_ne (z := 4) rfl c_1_4; have h5 := sw_ne (z := 5) rfl c_1_5; have h6 := sw_ne (z := 6) rfl c_1_6; omega) (by decide) ?_
  refine lv_bipush (v := (-3)) S.1 S.2.1 dX4_count_85 (by decide) ?_
  exact r_iret S hr hlocks hG () rfl hf rfl dX4_count_87
theorem k_X4_count (l : Launch) (D : va_G) (cs : Nat → ClassId) (ad : Nat → Nat) (nr nx : Nat) (σ : Mem) (x1 : Int32) {wy : Int32} {T : Mem} (hc : CInv nr nx wy T σ) : ∀ sz : Nat, Met l yX4_count wsX4_count ({ frames := 0, cells := 0, slots := 0, locals := 0 } : Room) (va_Pc [.ref (ad 0), .int x1] (wPreN D vwCl (gT cs) gN (GW ad cs nr nx σ) sz)) (va_Qi (fun (r : Int32) (_ : Unit) => r = f_X4_count σ x1) (fun _ t => wPost D vwCl (GW ad cs nr nx σ) sz (GW ad cs nr nx σ) t) (va_A (GW ad cs nr nx σ) sz)) 0 0 (va_A (GW ad cs nr nx σ) sz) :=
  r_metN (by decide) rfl (Nat.le_of_ble_eq_true rfl) (fun p e s m args below meth c ls S hr hlocks _ hK hN hA hG hl => b_X4_count_0 hN S hr hlocks hK hA σ x1 hc rfl _ _ hG ls hl)
