theorem in_X4_knowsPartsOfRule_X4 : ∀ w ∈ wsX40, w ∈ wsX4_knowsPartsOfRule := by decide +kernel
def f_X4_knowsPartsOfRule (σ : Mem) (x1 : Int32) (x2 : Int32) (x3 : Int32) : Bool :=
  (if x1 = 3 then
  (if (bI (f_X4_isSensor x2)) = 0 then
  false
  else
  (if (bI (f_X4_isSensor x3)) = 0 then
  false
  else
  true))
  else
  (if x1 = 4 then
  (f_X4_isSensor x2)
  else
  (if x1 = 5 then
  (f_X4_isRule σ x2)
  else
  (if x1 = 6 then
  (if (bI (f_X4_isRule σ x2)) = 0 then
  false
  else
  (if (bI (f_X4_isRule σ x3)) = 0 then
  false
  else
  true))
  else
  (if x1 = 7 then
  (if (bI (f_X4_isRule σ x2)) = 0 then
  false
  else
  (if (bI (f_X4_isRule σ x3)) = 0 then
  false
  else
  true))
  else
  (if x1 = 8 then
  (f_X4_isRule σ x2)
  else
  (if x1 = 9 then
  (if (bI (f_X4_isRule σ x2)) = 0 then
  false
  else
  (if (bI (f_X4_isRule σ x3)) = 0 then
  false
  else
  true))
  else
  (f_X4_isSensor x2))))))))
set_option maxRecDepth 100000 in
set_option maxHeartbeats 4000000 in
theorem b_X4_knowsPartsOfRule_0 {p : Program} {l : Launch} {e : Env} {s : State} {m : MethodId} {args : Array Value} {below : List Frame} {meth : Method} {c : Code} {D : va_G} {cs : Nat → ClassId} {ad : Nat → Nat} {nr nx : Nat} {wy : Int32} {T : Mem} {w0 : va_W} {X : Bool} (S : CallFix p m c cX4_knowsPartsOfRule 4 s args wsX4_knowsPartsOfRule RX4) (hr : meth.sig.returnType = (some .boolean)) (hlocks : meth.locks = false) (hK : va_K D vwCl (gT cs) s) (hA : ∀ q, s.heap.size ≤ q → va_A w0 s.heap.size q) (σ : Mem) (x1 : Int32) (x2 : Int32) (x3 : Int32) (hc : CInv nr nx wy T σ) (hf : f_X4_knowsPartsOfRule σ x1 x2 x3 = X) (H : Heap) (locs : List Loc) (hG : wI D vwCl (va_A w0 s.heap.size) s.heap H locs (GW ad cs nr nx σ)) (ls : Array Slot) (hl : lv_has ls 4 [(0, .ref (ad 0)), (1, .int x1), (2, .int x2), (3, .int x3)]) : W p l e ({ frames := 2, cells := 0, slots := 0, locals := 42 } : Room) s m args below meth c H locs 0 0 (MQ below (va_Qi (fun (r : Int32) (_ : Unit) => r = bI X) (fun u t => wPost D vwCl w0 s.heap.size ((fun _ => GW ad cs nr nx σ) u) t) (va_A w0 s.heap.size)) args s 0 0 (va_A w0 s.heap.size)) (F0 m 0 ls []) := by
  have hinX4 := in_X4_knowsPartsOfRule_X4
  unfold f_X4_knowsPartsOfRule at hf
  refine lv_iload_n S.1 S.2.1 dX4_knowsPartsOfRule_0 rfl (lv_at hl 1 rfl) ?_
  refine (Decidable.em (x1 = 3)).elim (fun c_1_3 => ?_) (fun c_1_3 => ?_)
  · have hf := ite_p c_1_3 hf
    refine lv_tableIn (off := 43) (tgt := 44) S.1 S.2.1 dX4_knowsPartsOfRule_1 (by rw [c_1_3]; decide) (by rw [c_1_3]; decide) (by rw [c_1_3]; rfl) (by decide) ?_
    refine lv_iload_n S.1 S.2.1 dX4_knowsPartsOfRule_44 rfl (lv_at hl 2 rfl) ?_
    refine r_callSi S hK hA hG (k_X4_isSensor l _ _ _ _ _) (cwS 1 S.2.2.2.2 gX4_knowsPartsOfRule_X4_isSensor rfl rfl rfl (by decide +kernel) ⟨Nat.le_of_ble_eq_true rfl, Nat.le_of_ble_eq_true rfl⟩) rfl hl.1 rfl (Nat.le_of_ble_eq_true rfl) dX4_knowsPartsOfRule_45 ⟨Nat.le_of_ble_eq_true rfl, Nat.le_of_ble_eq_true rfl⟩ (fun r45 _ H locs hw hG => ?_)
    obtain rfl := hw
    refine lv_if_eq (tgt := 62) S.1 S.2.1 dX4_knowsPartsOfRule_48 (by decide) (fun c_48 => ?_) (fun c_48 => ?_)
    · have hf := ite_p c_48 hf
      refine lv_iconst (v := 0) S.1 S.2.1 dX4_knowsPartsOfRule_62 (by decide) ?_
      exact r_iret S hr hlocks hG () rfl (congrArg bI hf) (bI_nar false) dX4_knowsPartsOfRule_63
    · have hf := ite_n c_48 hf
      refine lv_iload_n S.1 S.2.1 dX4_knowsPartsOfRule_51 rfl (lv_at hl 3 rfl) ?_
      refine r_callSi S hK hA hG (k_X4_isSensor l _ _ _ _ _) (cwS 1 S.2.2.2.2 gX4_knowsPartsOfRule_X4_isSensor rfl rfl rfl (by decide +kernel) ⟨Nat.le_of_ble_eq_true rfl, Nat.le_of_ble_eq_true rfl⟩) rfl hl.1 rfl (Nat.le_of_ble_eq_true rfl) dX4_knowsPartsOfRule_52 ⟨Nat.le_of_ble_eq_true rfl, Nat.le_of_ble_eq_true rfl⟩ (fun r52 _ H locs hw hG => ?_)
      obtain rfl := hw
      refine lv_if_eq (tgt := 62) S.1 S.2.1 dX4_knowsPartsOfRule_55 (by decide) (fun c_55 => ?_) (fun c_55 => ?_)
      · have hf := ite_p c_55 hf
        refine lv_iconst (v := 0) S.1 S.2.1 dX4_knowsPartsOfRule_62 (by decide) ?_
        exact r_iret S hr hlocks hG () rfl (congrArg bI hf) (bI_nar false) dX4_knowsPartsOfRule_63
      · have hf := ite_n c_55 hf
        refine lv_iconst (v := 1) S.1 S.2.1 dX4_knowsPartsOfRule_58 (by decide) ?_
        refine lv_goto (tgt := 63) S.1 S.2.1 dX4_knowsPartsOfRule_59 (by decide) ?_
        exact r_iret S hr hlocks hG () rfl (congrArg bI hf) (bI_nar true) dX4_knowsPartsOfRule_63
  have hf := ite_n c_1_3 hf
  refine (Decidable.em (x1 = 4)).elim (fun c_1_4 => ?_) (fun c_1_4 => ?_)
  · have hf := ite_p c_1_4 hf
    refine lv_tableIn (off := 91) (tgt := 92) S.1 S.2.1 dX4_knowsPartsOfRule_1 (by rw [c_1_4]; decide) (by rw [c_1_4]; decide) (by rw [c_1_4]; rfl) (by decide) ?_
    refine lv_iload_n S.1 S.2.1 dX4_knowsPartsOfRule_92 rfl (lv_at hl 2 rfl) ?_
    refine r_callSi S hK hA hG (k_X4_isSensor l _ _ _ _ _) (cwS 1 S.2.2.2.2 gX4_knowsPartsOfRule_X4_isSensor rfl rfl rfl (by decide +kernel) ⟨Nat.le_of_ble_eq_true rfl, Nat.le_of_ble_eq_true rfl⟩) rfl hl.1 rfl (Nat.le_of_ble_eq_true rfl) dX4_knowsPartsOfRule_93 ⟨Nat.le_of_ble_eq_true rfl, Nat.le_of_ble_eq_true rfl⟩ (fun r93 _ H locs hw hG => ?_)
    obtain rfl := hw
    exact r_iret S hr hlocks hG () rfl (congrArg bI hf) (bI_nar (f_X4_isSensor x2)) dX4_knowsPartsOfRule_96
  have hf := ite_n c_1_4 hf
  refine (Decidable.em (x1 = 5)).elim (fun c_1_5 => ?_) (fun c_1_5 => ?_)
  · have hf := ite_p c_1_5 hf
    refine lv_tableIn (off := 63) (tgt := 64) S.1 S.2.1 dX4_knowsPartsOfRule_1 (by rw [c_1_5]; decide) (by rw [c_1_5]; decide) (by rw [c_1_5]; rfl) (by decide) ?_
    refine lv_aload_n S.1 S.2.1 dX4_knowsPartsOfRule_64 rfl (lv_at hl 0 rfl) ?_
    refine lv_iload_n S.1 S.2.1 dX4_knowsPartsOfRule_65 rfl (lv_at hl 2 rfl) ?_
    refine r_callVi S hK hA hG (k_X4_isRule l _ _ _ _ _ _ _ hc) (cwV 1 S.2.2.2.2 gX4_knowsPartsOfRule_X4_isRule rfl rfl rfl (by decide +kernel) ⟨Nat.le_of_ble_eq_true rfl, Nat.le_of_ble_eq_true rfl⟩) (va_recv hK hG.1 (ci := 4) (q0 := 0) rfl rfl) rfl hl.1 rfl (Nat.le_of_ble_eq_true rfl) dX4_knowsPartsOfRule_66 ⟨Nat.le_of_ble_eq_true rfl, Nat.le_of_ble_eq_true rfl⟩ (fun r66 _ H locs hw hG => ?_)
    obtain rfl := hw
    exact r_iret S hr hlocks hG () rfl (congrArg bI hf) (bI_nar (f_X4_isRule σ x2)) dX4_knowsPartsOfRule_69
  have hf := ite_n c_1_5 hf
  refine (Decidable.em (x1 = 6)).elim (fun c_1_6 => ?_) (fun c_1_6 => ?_)
  · have hf := ite_p c_1_6 hf
    refine lv_tableIn (off := 69) (tgt := 70) S.1 S.2.1 dX4_knowsPartsOfRule_1 (by rw [c_1_6]; decide) (by rw [c_1_6]; decide) (by rw [c_1_6]; rfl) (by decide) ?_
    refine lv_aload_n S.1 S.2.1 dX4_knowsPartsOfRule_70 rfl (lv_at hl 0 rfl) ?_
    refine lv_iload_n S.1 S.2.1 dX4_knowsPartsOfRule_71 rfl (lv_at hl 2 rfl) ?_
    refine r_callVi S hK hA hG (k_X4_isRule l _ _ _ _ _ _ _ hc) (cwV 1 S.2.2.2.2 gX4_knowsPartsOfRule_X4_isRule rfl rfl rfl (by decide +kernel) ⟨Nat.le_of_ble_eq_true rfl, Nat.le_of_ble_eq_true rfl⟩) (va_recv hK hG.1 (ci := 4) (q0 := 0) rfl rfl) rfl hl.1 rfl (Nat.le_of_ble_eq_true rfl) dX4_knowsPartsOfRule_72 ⟨Nat.le_of_ble_eq_true rfl, Nat.le_of_ble_eq_true rfl⟩ (fun r72 _ H locs hw hG => ?_)
    obtain rfl := hw
    refine lv_if_eq (tgt := 90) S.1 S.2.1 dX4_knowsPartsOfRule_75 (by decide) (fun c_75 => ?_) (fun c_75 => ?_)
    · have hf := ite_p c_75 hf
      refine lv_iconst (v := 0) S.1 S.2.1 dX4_knowsPartsOfRule_90 (by decide) ?_
      exact r_iret S hr hlocks hG () rfl (congrArg bI hf) (bI_nar false) dX4_knowsPartsOfRule_91
    · have hf := ite_n c_75 hf
      refine lv_aload_n S.1 S.2.1 dX4_knowsPartsOfRule_78 rfl (lv_at hl 0 rfl) ?_
      refine lv_iload_n S.1 S.2.1 dX4_knowsPartsOfRule_79 rfl (lv_at hl 3 rfl) ?_
      refine r_callVi S hK hA hG (k_X4_isRule l _ _ _ _ _ _ _ hc) (cwV 1 S.2.2.2.2 gX4_knowsPartsOfRule_X4_isRule rfl rfl rfl (by decide +kernel) ⟨Nat.le_of_ble_eq_true rfl, Nat.le_of_ble_eq_true rfl⟩) (va_recv hK hG.1 (ci := 4) (q0 := 0) rfl rfl) rfl hl.1 rfl (Nat.le_of_ble_eq_true rfl) dX4_knowsPartsOfRule_80 ⟨Nat.le_of_ble_eq_true rfl, Nat.le_of_ble_eq_true rfl⟩ (fun r80 _ H locs hw hG => ?_)
      obtain rfl := hw
      refine lv_if_eq (tgt := 90) S.1 S.2.1 dX4_knowsPartsOfRule_83 (by decide) (fun c_83 => ?_) (fun c_83 => ?_)
      · have hf := ite_p c_83 hf
        refine lv_iconst (v := 0) S.1 S.2.1 dX4_knowsPartsOfRule_90 (by decide) ?_
        exact r_iret S hr hlocks hG () rfl (congrArg bI hf) (bI_nar false) dX4_knowsPartsOfRule_91
      · have hf := ite_n c_83 hf
        refine lv_iconst (v := 1) S.1 S.2.1 dX4_knowsPartsOfRule_86 (by decide) ?_
        refine lv_goto (tgt := 91) S.1 S.2.1 dX4_knowsPartsOfRule_87 (by decide) ?_
        exact r_iret S hr hlocks hG () rfl (congrArg bI hf) (bI_nar true) dX4_knowsPartsOfRule_91
  have hf := ite_n c_1_6 hf
  refine (Decidable.em (x1 = 7)).elim (fun c_1_7 => ?_) (fun c_1_7 => ?_)
  · have hf := ite_p c_1_7 hf
    refine lv_tableIn (off := 69) (tgt := 70) S.1 S.2.1 dX4_knowsPartsOfRule_1 (by rw [c_1_7]; decide) (by rw [c_1_7]; decide) (by rw [c_1_7]; rfl) (by decide) ?_
    refine lv_aload_n S.1 S.2.1 dX4_knowsPartsOfRule_70 rfl (lv_at hl 0 rfl) ?_
    refine lv_iload_n S.1 S.2.1 dX4_knowsPartsOfRule_71 rfl (lv_at hl 2 rfl) ?_
    refine r_callVi S hK hA hG (k_X4_isRule l _ _ _ _ _ _ _ hc) (cwV 1 S.2.2.2.2 gX4_knowsPartsOfRule_X4_isRule rfl rfl rfl (by decide +kernel) ⟨Nat.le_of_ble_eq_true rfl, Nat.le_of_ble_eq_true rfl⟩) (va_recv hK hG.1 (ci := 4) (q0 := 0) rfl rfl) rfl hl.1 rfl (Nat.le_of_ble_eq_true rfl) dX4_knowsPartsOfRule_72 ⟨Nat.le_of_ble_eq_true rfl, Nat.le_of_ble_eq_true rfl⟩ (fun r72 _ H locs hw hG => ?_)
    obtain rfl := hw
    refine lv_if_eq (tgt := 90) S.1 S.2.1 dX4_knowsPartsOfRule_75 (by decide) (fun c_75 => ?_) (fun c_75 => ?_)
    · have hf := ite_p c_75 hf
      refine lv_iconst (v := 0) S.1 S.2.1 dX4_knowsPartsOfRule_90 (by decide) ?_
      exact r_iret S hr hlocks hG () rfl (congrArg bI hf) (bI_nar false) dX4_knowsPartsOfRule_91
    · have hf := ite_n c_75 hf
      refine lv_aload_n S.1 S.2.1 dX4_knowsPartsOfRule_78 rfl (lv_at hl 0 rfl) ?_
      refine lv_iload_n S.1 S.2.1 dX4_knowsPartsOfRule_79 rfl (lv_at hl 3 rfl) ?_
      refine r_callVi S hK hA hG (k_X4_isRule l _ _ _ _ _ _ _ hc) (cwV 1 S.2.2.2.2 gX4_knowsPartsOfRule_X4_isRule rfl rfl rfl (by decide +kernel) ⟨Nat.le_of_ble_eq_true rfl, Nat.le_of_ble_eq_true rfl⟩) (va_recv hK hG.1 (ci := 4) (q0 := 0) rfl rfl) rfl hl.1 rfl (Nat.le_of_ble_eq_true rfl) dX4_knowsPartsOfRule_80 ⟨Nat.le_of_ble_eq_true rfl, Nat.le_of_ble_eq_true rfl⟩ (fun r80 _ H locs hw hG => ?_)
      obtain rfl := hw
      refine lv_if_eq (tgt := 90) S.1 S.2.1 dX4_knowsPartsOfRule_83 (by decide) (fun c_83 => ?_) (fun c_83 => ?_)
      · have hf := ite_p c_83 hf
        refine lv_iconst (v := 0) S.1 S.2.1 dX4_knowsPartsOfRule_90 (by decide) ?_
        exact r_iret S hr hlocks hG () rfl (congrArg bI hf) (bI_nar false) dX4_knowsPartsOfRule_91
      · have hf := ite_n c_83 hf
        refine lv_iconst (v := 1) S.1 S.2.1 dX4_knowsPartsOfRule_86 (by decide) ?_
        refine lv_goto (tgt := 91) S.1 S.2.1 dX4_knowsPartsOfRule_87 (by decide) ?_
        exact r_iret S hr hlocks hG () rfl (congrArg bI hf) (bI_nar true) dX4_knowsPartsOfRule_91
  have hf := ite_n c_1_7 hf
  refine (Decidable.em (x1 = 8)).elim (fun c_1_8 => ?_) (fun c_1_8 => ?_)
  · have hf := ite_p c_1_8 hf
    refine lv_tableIn (off := 63) (tgt := 64) S.1 S.2.1 dX4_knowsPartsOfRule_1 (by rw [c_1_8]; decide) (by rw [c_1_8]; decide) (by rw [c_1_8]; rfl) (by decide) ?_
    refine lv_aload_n S.1 S.2.1 dX4_knowsPartsOfRule_64 rfl (lv_at hl 0 rfl) ?_
    refine lv_iload_n S.1 S.2.1 dX4_knowsPartsOfRule_65 rfl (lv_at hl 2 rfl) ?_
    refine r_callVi S hK hA hG (k_X4_isRule l _ _ _ _ _ _ _ hc) (cwV 1 S.2.2.2.2 gX4_knowsPartsOfRule_X4_isRule rfl rfl rfl (by decide +kernel) ⟨Nat.le_of_ble_eq_true rfl, Nat.le_of_ble_eq_true rfl⟩) (va_recv hK hG.1 (ci := 4) (q0 := 0) rfl rfl) rfl hl.1 rfl (Nat.le_of_ble_eq_true rfl) dX4_knowsPartsOfRule_66 ⟨Nat.le_of_ble_eq_true rfl, Nat.le_of_ble_eq_true rfl⟩ (fun r66 _ H locs hw hG => ?_)
    obtain rfl := hw
    exact r_iret S hr hlocks hG () rfl (congrArg bI hf) (bI_nar (f_X4_isRule σ x2)) dX4_knowsPartsOfRule_69
  have hf := ite_n c_1_8 hf
  refine (Decidable.em (x1 = 9)).elim (fun c_1_9 => ?_) (fun c_1_9 => ?_)
  · have hf := ite_p c_1_9 hf
    refine lv_tableIn (off := 69) (tgt := 70) S.1 S.2.1 dX4_knowsPartsOfRule_1 (by rw [c_1_9]; decide) (by rw [c_1_9]; decide) (by rw [c_1_9]; rfl) (by decide) ?_
    refine lv_aload_n S.1 S.2.1 dX4_knowsPartsOfRule_70 rfl (lv_at hl 0 rfl) ?_
    refine lv_iload_n S.1 S.2.1 dX4_knowsPartsOfRule_71 rfl (lv_at hl 2 rfl) ?_
    refine r_callVi S hK hA hG (k_X4_isRule l _ _ _ _ _ _ _ hc) (cwV 1 S.2.2.2.2 gX4_knowsPartsOfRule_X4_isRule rfl rfl rfl (by decide +kernel) ⟨Nat.le_of_ble_eq_true rfl, Nat.le_of_ble_eq_true rfl⟩) (va_recv hK hG.1 (ci := 4) (q0 := 0) rfl rfl) rfl hl.1 rfl (Nat.le_of_ble_eq_true rfl) dX4_knowsPartsOfRule_72 ⟨Nat.le_of_ble_eq_true rfl, Nat.le_of_ble_eq_true rfl⟩ (fun r72 _ H locs hw hG => ?_)
    obtain rfl := hw
    refine lv_if_eq (tgt := 90) S.1 S.2.1 dX4_knowsPartsOfRule_75 (by decide) (fun c_75 => ?_) (fun c_75 => ?_)
    · have hf := ite_p c_75 hf
      refine lv_iconst (v := 0) S.1 S.2.1 dX4_knowsPartsOfRule_90 (by decide) ?_
      exact r_iret S hr hlocks hG () rfl (congrArg bI hf) (bI_nar false) dX4_knowsPartsOfRule_91
    · have hf := ite_n c_75 hf
      refine lv_aload_n S.1 S.2.1 dX4_knowsPartsOfRule_78 rfl (lv_at hl 0 rfl) ?_
      refine lv_iload_n S.1 S.2.1 dX4_knowsPartsOfRule_79 rfl (lv_at hl 3 rfl) ?_
      refine r_callVi S hK hA hG (k_X4_isRule l _ _ _ _ _ _ _ hc) (cwV 1 S.2.2.2.2 gX4_knowsPartsOfRule_X4_isRule rfl rfl rfl (by decide +kernel) ⟨Nat.le_of_ble_eq_true rfl, Nat.le_of_ble_eq_true rfl⟩) (va_recv hK hG.1 (ci := 4) (q0 := 0) rfl rfl) rfl hl.1 rfl (Nat.le_of_ble_eq_true rfl) dX4_knowsPartsOfRule_80 ⟨Nat.le_of_ble_eq_true rfl, Nat.le_of_ble_eq_true rfl⟩ (fun r80 _ H locs hw hG => ?_)
      obtain rfl := hw
      refine lv_if_eq (tgt := 90) S.1 S.2.1 dX4_knowsPartsOfRule_83 (by decide) (fun c_83 => ?_) (fun c_83 => ?_)
      · have hf := ite_p c_83 hf
        refine lv_iconst (v := 0) S.1 S.2.1 dX4_knowsPartsOfRule_90 (by decide) ?_
        exact r_iret S hr hlocks hG () rfl (congrArg bI hf) (bI_nar false) dX4_knowsPartsOfRule_91
      · have hf := ite_n c_83 hf
        refine lv_iconst (v := 1) S.1 S.2.1 dX4_knowsPartsOfRule_86 (by decide) ?_
        refine lv_goto (tgt := 91) S.1 S.2.1 dX4_knowsPartsOfRule_87 (by decide) ?_
        exact r_iret S hr hlocks hG () rfl (congrArg bI hf) (bI_nar true) dX4_knowsPartsOfRule_91
  have hf := ite_n c_1_9 hf
  refine lv_tableOut (tgt := 92) S.1 S.2.1 dX4_knowsPartsOfRule_1 (by have h0 := sw_ne (z := 3) rfl c_1_3; have h1 := sw_ne (z := 4) rfl c_1_4; have h2 := sw_ne (z := 5) rfl c_1_5; have h3 := sw_ne (z := 6) rfl c_1_6; have h4 := sw_ne (z := 7) rfl c_1_7; have h5 := sw_ne (z := 8) rfl c_1_8; have h6 := sw_ne (z := 9) rfl c_1_9; omega) (by decide) ?_
  refine lv_iload_n S.1 S.2.1 dX4_knowsPartsOfRule_92 rfl (lv_at hl 2 rfl) ?_
  refine r_callSi S hK hA hG (k_X4_isSensor l _ _ _ _ _) (cwS 1 S.2.2.2.2 gX4_knowsPartsOfRule_X4_isSensor rfl rfl rfl (by decide +kernel) ⟨Nat.le_of_ble_eq_true rfl, Nat.le_of_ble_eq_true rfl⟩) rfl hl.1 rfl (Nat.le_of_ble_eq_true rfl) dX4_knowsPartsOfRule_93 ⟨Nat.le_of_ble_eq_true rfl, Nat.le_of_ble_eq_true rfl⟩ (fun r93 _ H locs hw hG => ?_)
  obtain rfl := hw
  exact r_iret S hr hlocks hG () rfl (congrArg bI hf) (bI_nar (f_X4_isSensor x2)) dX4_knowsPartsOfRule_96
theorem k_X4_knowsPartsOfRule (l : Launch) (D : va_G) (cs : Nat → ClassId) (ad : Nat → Nat) (nr nx : Nat) (σ : Mem) (x1 : Int32) (x2 : Int32) (x3 : Int32) {wy : Int32} {T : Mem} (hc : CInv nr nx wy T σ) : CMi l yX4_knowsPartsOfRule wsX4_knowsPartsOfRule ({ frames := 2, cells := 0, slots := 0, locals := 42 } : Room) D vwCl (gT cs) (GW ad cs nr nx σ) [.ref (ad 0), .int x1, .int x2, .int x3] (fun (r : Int32) (_ : Unit) => r = bI (f_X4_knowsPartsOfRule σ x1 x2 x3)) (fun _ => GW ad cs nr nx σ) :=
  r_met (by decide) rfl (Nat.le_of_ble_eq_true rfl) (fun p e s m args below meth c ls S hr hlocks _ hK hA hG hl => b_X4_knowsPartsOfRule_0 S hr hlocks hK hA σ x1 x2 x3 hc rfl _ _ hG ls hl)
theorem in_X4_knowsPartsOfAct_X4 : ∀ w ∈ wsX40, w ∈ wsX4_knowsPartsOfAct := by decide +kernel
def f_X4_knowsPartsOfAct (σ : Mem) (x1 : Int32) (x2 : Int32) (x3 : Int32) (x4 : Int32) : Bool :=
  (if x1 = 0 then
  (f_X4_isTank x2)
  else
  (if x1 = 1 then
  (if (bI (f_X4_isTank x2)) = 0 then
  false
  else
  (if (bI (f_X4_isTank x3)) = 0 then
  false
  else
  true))
  else
  (if x1 = 2 then
  (if (bI (f_X4_isRule σ x2)) = 0 then
  false
  else
  (if (bI (f_X4_isActOrNone σ x3)) = 0 then
  false
  else
  (if (bI (f_X4_isActOrNone σ x4)) = 0 then
  false
  else
  true)))
  else
  (if x1 = 3 then
  (if (bI (f_X4_isAct σ x2)) = 0 then
  false
  else
  (if (bI (f_X4_isAct σ x3)) = 0 then
  false
  else
  true))
  else
  (if x1 = 4 then
  (f_X4_isAct σ x2)
  else
  (if x1 = 5 then
  (f_X4_isAct σ x2)
  else
  (if x1 = 6 then
  (if (bI (f_X4_isAct σ x2)) = 0 then
  false
  else
  (if (bI (f_X4_isAct σ x3)) = 0 then
  false
  else
  true))
  else
  (if x1 = 7 then
  true
  else
  (if x1 = 8 then
  (if (bI (f_X4_isSensor x2)) = 0 then
  false
  else
  (if (bI (f_X4_isTank x3)) = 0 then
  false
  else
  true))
  else
  true)))))))))
set_option maxRecDepth 100000 in
set_option maxHeartbeats 4000000 in
theorem b_X4_knowsPartsOfAct_0 {p : Program} {l : Launch} {e : Env} {s : State} {m : MethodId} {args : Array Value} {below : List Frame} {meth : Method} {c : Code} {D : va_G} {cs : Nat → ClassId} {ad : Nat → Nat} {nr nx : Nat} {wy : Int32} {T : Mem} {w0 : va_W} {X : Bool} (S : CallFix p m c cX4_knowsPartsOfAct 5 s args wsX4_knowsPartsOfAct RX4) (hr : meth.sig.returnType = (some .boolean)) (hlocks : meth.locks = false) (hK : va_K D vwCl (gT cs) s) (hA : ∀ q, s.heap.size ≤ q → va_A w0 s.heap.size q) (σ : Mem) (x1 : Int32) (x2 : Int32) (x3 : Int32) (x4 : Int32) (hc : CInv nr nx wy T σ) (hf : f_X4_knowsPartsOfAct σ x1 x2 x3 x4 = X) (H : Heap) (locs : List Loc) (hG : wI D vwCl (va_A w0 s.heap.size) s.heap H locs (GW ad cs nr nx σ)) (ls : Array Slot) (hl : lv_has ls 5 [(0, .ref (ad 0)), (1, .int x1), (2, .int x2), (3, .int x3), (4, .int x4)]) : W p l e ({ frames := 3, cells := 0, slots := 0, locals := 63 } : Room) s m args below meth c H locs 0 0 (MQ below (va_Qi (fun (r : Int32) (_ : Unit) => r = bI X) (fun u t => wPost D vwCl w0 s.heap.size ((fun _ => GW ad cs nr nx σ) u) t) (va_A w0 s.heap.size)) args s 0 0 (va_A w0 s.heap.size)) (F0 m 0 ls []) := by
  have hinX4 := in_X4_knowsPartsOfAct_X4
  unfold f_X4_knowsPartsOfAct at hf
  refine lv_iload_n S.1 S.2.1 dX4_knowsPartsOfAct_0 rfl (lv_at hl 1 rfl) ?_
  refine (Decidable.em (x1 = 0)).elim (fun c_1_0 => ?_) (fun c_1_0 => ?_)
  · have hf := ite_p c_1_0 hf
    refine lv_tableIn (off := 51) (tgt := 52) S.1 S.2.1 dX4_knowsPartsOfAct_1 (by rw [c_1_0]; decide) (by rw [c_1_0]; decide) (by rw [c_1_0]; rfl) (by decide) ?_
    refine lv_iload_n S.1 S.2.1 dX4_knowsPartsOfAct_52 rfl (lv_at hl 2 rfl) ?_
    refine r_callSi S hK hA hG (k_X4_isTank l _ _ _ _ _) (cwS 1 S.2.2.2.2 gX4_knowsPartsOfAct_X4_isTank rfl rfl rfl (by decide +kernel) ⟨Nat.le_of_ble_eq_true rfl, Nat.le_of_ble_eq_true rfl⟩) rfl hl.1 rfl (Nat.le_of_ble_eq_true rfl) dX4_knowsPartsOfAct_53 ⟨Nat.le_of_ble_eq_true rfl, Nat.le_of_ble_eq_true rfl⟩ (fun r53 _ H locs hw hG => ?_)
    obtain rfl := hw
    exact r_iret S hr hlocks hG () rfl (congrArg bI hf) (bI_nar (f_X4_isTank x2)) dX4_knowsPartsOfAct_56
  have hf := ite_n c_1_0 hf
  refine (Decidable.em (x1 = 1)).elim (fun c_1_1 => ?_) (fun c_1_1 => ?_)
  · have hf := ite_p c_1_1 hf
    refine lv_tableIn (off := 56) (tgt := 57) S.1 S.2.1 dX4_knowsPartsOfAct_1 (by rw [c_1_1]; decide) (by rw [c_1_1]; decide) (by rw [c_1_1]; rfl) (by decide) ?_
    refine lv_iload_n S.1 S.2.1 dX4_knowsPartsOfAct_57 rfl (lv_at hl 2 rfl) ?_
    refine r_callSi S hK hA hG (k_X4_isTank l _ _ _ _ _) (cwS 1 S.2.2.2.2 gX4_knowsPartsOfAct_X4_isTank rfl rfl rfl (by decide +kernel) ⟨Nat.le_of_ble_eq_true rfl, Nat.le_of_ble_eq_true rfl⟩) rfl hl.1 rfl (Nat.le_of_ble_eq_true rfl) dX4_knowsPartsOfAct_58 ⟨Nat.le_of_ble_eq_true rfl, Nat.le_of_ble_eq_true rfl⟩ (fun r58 _ H locs hw hG => ?_)
    obtain rfl := hw
    refine lv_if_eq (tgt := 75) S.1 S.2.1 dX4_knowsPartsOfAct_61 (by decide) (fun c_61 => ?_) (fun c_61 => ?_)
    · have hf := ite_p c_61 hf
      refine lv_iconst (v := 0) S.1 S.2.1 dX4_knowsPartsOfAct_75 (by decide) ?_
      exact r_iret S hr hlocks hG () rfl (congrArg bI hf) (bI_nar false) dX4_knowsPartsOfAct_76
    · have hf := ite_n c_61 hf
      refine lv_iload_n S.1 S.2.1 dX4_knowsPartsOfAct_64 rfl (lv_at hl 3 rfl) ?_
      refine r_callSi S hK hA hG (k_X4_isTank l _ _ _ _ _) (cwS 1 S.2.2.2.2 gX4_knowsPartsOfAct_X4_isTank rfl rfl rfl (by decide +kernel) ⟨Nat.le_of_ble_eq_true rfl, Nat.le_of_ble_eq_true rfl⟩) rfl hl.1 rfl (Nat.le_of_ble_eq_true rfl) dX4_knowsPartsOfAct_65 ⟨Nat.le_of_ble_eq_true rfl, Nat.le_of_ble_eq_true rfl⟩ (fun r65 _ H locs hw hG => ?_)
      obtain rfl := hw
      refine lv_if_eq (tgt := 75) S.1 S.2.1 dX4_knowsPartsOfAct_68 (by decide) (fun c_68 => ?_) (fun c_68 => ?_)
      · have hf := ite_p c_68 hf
        refine lv_iconst (v := 0) S.1 S.2.1 dX4_knowsPartsOfAct_75 (by decide) ?_
        exact r_iret S hr hlocks hG () rfl (congrArg bI hf) (bI_nar false) dX4_knowsPartsOfAct_76
      · have hf := ite_n c_68 hf
        refine lv_iconst (v := 1) S.1 S.2.1 dX4_knowsPartsOfAct_71 (by decide) ?_
        refine lv_goto (tgt := 76) S.1 S.2.1 dX4_knowsPartsOfAct_72 (by decide) ?_
        exact r_iret S hr hlocks hG () rfl (congrArg bI hf) (bI_nar true) dX4_knowsPartsOfAct_76
  have hf := ite_n c_1_1 hf
  refine (Decidable.em (x1 = 2)).elim (fun c_1_2 => ?_) (fun c_1_2 => ?_)
  · have hf := ite_p c_1_2 hf
    refine lv_tableIn (off := 76) (tgt := 77) S.1 S.2.1 dX4_knowsPartsOfAct_1 (by rw [c_1_2]; decide) (by rw [c_1_2]; decide) (by rw [c_1_2]; rfl) (by decide) ?_
    refine lv_aload_n S.1 S.2.1 dX4_knowsPartsOfAct_77 rfl (lv_at hl 0 rfl) ?_
    refine lv_iload_n S.1 S.2.1 dX4_knowsPartsOfAct_78 rfl (lv_at hl 2 rfl) ?_
    refine r_callVi S hK hA hG (k_X4_isRule l _ _ _ _ _ _ _ hc) (cwV 1 S.2.2.2.2 gX4_knowsPartsOfAct_X4_isRule rfl rfl rfl (by decide +kernel) ⟨Nat.le_of_ble_eq_true rfl, Nat.le_of_ble_eq_true rfl⟩) (va_recv hK hG.1 (ci := 4) (q0 := 0) rfl rfl) rfl hl.1 rfl (Nat.le_of_ble_eq_true rfl) dX4_knowsPartsOfAct_79 ⟨Nat.le_of_ble_eq_true rfl, Nat.le_of_ble_eq_true rfl⟩ (fun r79 _ H locs hw hG => ?_)
    obtain rfl := hw
    refine lv_if_eq (tgt := 106) S.1 S.2.1 dX4_knowsPartsOfAct_82 (by decide) (fun c_82 => ?_) (fun c_82 => ?_)
    · have hf := ite_p c_82 hf
      refine lv_iconst (v := 0) S.1 S.2.1 dX4_knowsPartsOfAct_106 (by decide) ?_
      exact r_iret S hr hlocks hG () rfl (congrArg bI hf) (bI_nar false) dX4_knowsPartsOfAct_107
    · have hf := ite_n c_82 hf
      refine lv_aload_n S.1 S.2.1 dX4_knowsPartsOfAct_85 rfl (lv_at hl 0 rfl) ?_
      refine lv_iload_n S.1 S.2.1 dX4_knowsPartsOfAct_86 rfl (lv_at hl 3 rfl) ?_
      refine r_callVi S hK hA hG (k_X4_isActOrNone l _ _ _ _ _ _ _ hc) (cwV 1 S.2.2.2.2 gX4_knowsPartsOfAct_X4_isActOrNone rfl rfl rfl (by decide +kernel) ⟨Nat.le_of_ble_eq_true rfl, Nat.le_of_ble_eq_true rfl⟩) (va_recv hK hG.1 (ci := 4) (q0 := 0) rfl rfl) rfl hl.1 rfl (Nat.le_of_ble_eq_true rfl) dX4_knowsPartsOfAct_87 ⟨Nat.le_of_ble_eq_true rfl, Nat.le_of_ble_eq_true rfl⟩ (fun r87 _ H locs hw hG => ?_)
      obtain rfl := hw
      refine lv_if_eq (tgt := 106) S.1 S.2.1 dX4_knowsPartsOfAct_90 (by decide) (fun c_90 => ?_) (fun c_90 => ?_)
      · have hf := ite_p c_90 hf
        refine lv_iconst (v := 0) S.1 S.2.1 dX4_knowsPartsOfAct_106 (by decide) ?_
        exact r_iret S hr hlocks hG () rfl (congrArg bI hf) (bI_nar false) dX4_knowsPartsOfAct_107
      · have hf := ite_n c_90 hf
        refine lv_aload_n S.1 S.2.1 dX4_knowsPartsOfAct_93 rfl (lv_at hl 0 rfl) ?_
        refine lv_iload S.1 S.2.1 dX4_knowsPartsOfAct_94 (lv_at hl 4 rfl) ?_
        refine r_callVi S hK hA hG (k_X4_isActOrNone l _ _ _ _ _ _ _ hc) (cwV 1 S.2.2.2.2 gX4_knowsPartsOfAct_X4_isActOrNone rfl rfl rfl (by decide +kernel) ⟨Nat.le_of_ble_eq_true rfl, Nat.le_of_ble_eq_true rfl⟩) (va_recv hK hG.1 (ci := 4) (q0 := 0) rfl rfl) rfl hl.1 rfl (Nat.le_of_ble_eq_true rfl) dX4_knowsPartsOfAct_96 ⟨Nat.le_of_ble_eq_true rfl, Nat.le_of_ble_eq_true rfl⟩ (fun r96 _ H locs hw hG => ?_)
        obtain rfl := hw
        refine lv_if_eq (tgt := 106) S.1 S.2.1 dX4_knowsPartsOfAct_99 (by decide) (fun c_99 => ?_) (fun c_99 => ?_)
        · have hf := ite_p c_99 hf
          refine lv_iconst (v := 0) S.1 S.2.1 dX4_knowsPartsOfAct_106 (by decide) ?_
          exact r_iret S hr hlocks hG () rfl (congrArg bI hf) (bI_nar false) dX4_knowsPartsOfAct_107
        · have hf := ite_n c_99 hf
          refine lv_iconst (v := 1) S.1 S.2.1 dX4_knowsPartsOfAct_102 (by decide) ?_
          refine lv_goto (tgt := 107) S.1 S.2.1 dX4_knowsPartsOfAct_103 (by decide) ?_
          exact r_iret S hr hlocks hG () rfl (congrArg bI hf) (bI_nar true) dX4_knowsPartsOfAct_107
  have hf := ite_n c_1_2 hf
  refine (Decidable.em (x1 = 3)).elim (fun c_1_3 => ?_) (fun c_1_3 => ?_)
  · have hf := ite_p c_1_3 hf
    refine lv_tableIn (off := 107) (tgt := 108) S.1 S.2.1 dX4_knowsPartsOfAct_1 (by rw [c_1_3]; decide) (by rw [c_1_3]; decide) (by rw [c_1_3]; rfl) (by decide) ?_
    refine lv_aload_n S.1 S.2.1 dX4_knowsPartsOfAct_108 rfl (lv_at hl 0 rfl) ?_
    refine lv_iload_n S.1 S.2.1 dX4_knowsPartsOfAct_109 rfl (lv_at hl 2 rfl) ?_
    refine r_callVi S hK hA hG (k_X4_isAct l _ _ _ _ _ _ _ hc) (cwV 1 S.2.2.2.2 gX4_knowsPartsOfAct_X4_isAct rfl rfl rfl (by decide +kernel) ⟨Nat.le_of_ble_eq_true rfl, Nat.le_of_ble_eq_true rfl⟩) (va_recv hK hG.1 (ci := 4) (q0 := 0) rfl rfl) rfl hl.1 rfl (Nat.le_of_ble_eq_true rfl) dX4_knowsPartsOfAct_110 ⟨Nat.le_of_ble_eq_true rfl, Nat.le_of_ble_eq_true rfl⟩ (fun r110 _ H locs hw hG => ?_)
    obtain rfl := hw
    refine lv_if_eq (tgt := 128) S.1 S.2.1 dX4_knowsPartsOfAct_113 (by decide) (fun c_113 => ?_) (fun c_113 => ?_)
    · have hf := ite_p c_113 hf
      refine lv_iconst (v := 0) S.1 S.2.1 dX4_knowsPartsOfAct_128 (by decide) ?_
      exact r_iret S hr hlocks hG () rfl (congrArg bI hf) (bI_nar false) dX4_knowsPartsOfAct_129
    · have hf := ite_n c_113 hf
      refine lv_aload_n S.1 S.2.1 dX4_knowsPartsOfAct_116 rfl (lv_at hl 0 rfl) ?_
      refine lv_iload_n S.1 S.2.1 dX4_knowsPartsOfAct_117 rfl (lv_at hl 3 rfl) ?_
      refine r_callVi S hK hA hG (k_X4_isAct l _ _ _ _ _ _ _ hc) (cwV 1 S.2.2.2.2 gX4_knowsPartsOfAct_X4_isAct rfl rfl rfl (by decide +kernel) ⟨Nat.le_of_ble_eq_true rfl, Nat.le_of_ble_eq_true rfl⟩) (va_recv hK hG.1 (ci := 4) (q0 := 0) rfl rfl) rfl hl.1 rfl (Nat.le_of_ble_eq_true rfl) dX4_knowsPartsOfAct_118 ⟨Nat.le_of_ble_eq_true rfl, Nat.le_of_ble_eq_true rfl⟩ (fun r118 _ H locs hw hG => ?_)
      obtain rfl := hw
      refine lv_if_eq (tgt := 128) S.1 S.2.1 dX4_knowsPartsOfAct_121 (by decide) (fun c_121 => ?_) (fun c_121 => ?_)
      · have hf := ite_p c_121 hf
        refine lv_iconst (v := 0) S.1 S.2.1 dX4_knowsPartsOfAct_128 (by decide) ?_
        exact r_iret S hr hlocks hG () rfl (congrArg bI hf) (bI_nar false) dX4_knowsPartsOfAct_129
      · have hf := ite_n c_121 hf
        refine lv_iconst (v := 1) S.1 S.2.1 dX4_knowsPartsOfAct_124 (by decide) ?_
        refine lv_goto (tgt := 129) S.1 S.2.1 dX4_knowsPartsOfAct_125 (by decide) ?_
        exact r_iret S hr hlocks hG () rfl (congrArg bI hf) (bI_nar true) dX4_knowsPartsOfAct_129
  have hf := ite_n c_1_3 hf
  refine (Decidable.em (x1 = 4)).elim (fun c_1_4 => ?_) (fun c_1_4 => ?_)
  · have hf := ite_p c_1_4 hf
    refine lv_tableIn (off := 129) (tgt := 130) S.1 S.2.1 dX4_knowsPartsOfAct_1 (by rw [c_1_4]; decide) (by rw [c_1_4]; decide) (by rw [c_1_4]; rfl) (by decide) ?_
    refine lv_aload_n S.1 S.2.1 dX4_knowsPartsOfAct_130 rfl (lv_at hl 0 rfl) ?_
    refine lv_iload_n S.1 S.2.1 dX4_knowsPartsOfAct_131 rfl (lv_at hl 2 rfl) ?_
    refine r_callVi S hK hA hG (k_X4_isAct l _ _ _ _ _ _ _ hc) (cwV 1 S.2.2.2.2 gX4_knowsPartsOfAct_X4_isAct rfl rfl rfl (by decide +kernel) ⟨Nat.le_of_ble_eq_true rfl, Nat.le_of_ble_eq_true rfl⟩) (va_recv hK hG.1 (ci := 4) (q0 := 0) rfl rfl) rfl hl.1 rfl (Nat.le_of_ble_eq_true rfl) dX4_knowsPartsOfAct_132 ⟨Nat.le_of_ble_eq_true rfl, Nat.le_of_ble_eq_true rfl⟩ (fun r132 _ H locs hw hG => ?_)
    obtain rfl := hw
    exact r_iret S hr hlocks hG () rfl (congrArg bI hf) (bI_nar (f_X4_isAct σ x2)) dX4_knowsPartsOfAct_135
  have hf := ite_n c_1_4 hf
  refine (Decidable.em (x1 = 5)).elim (fun c_1_5 => ?_) (fun c_1_5 => ?_)
  · have hf := ite_p c_1_5 hf
    refine lv_tableIn (off := 129) (tgt := 130) S.1 S.2.1 dX4_knowsPartsOfAct_1 (by rw [c_1_5]; decide) (by rw [c_1_5]; decide) (by rw [c_1_5]; rfl) (by decide) ?_
    refine lv_aload_n S.1 S.2.1 dX4_knowsPartsOfAct_130 rfl (lv_at hl 0 rfl) ?_
    refine lv_iload_n S.1 S.2.1 dX4_knowsPartsOfAct_131 rfl (lv_at hl 2 rfl) ?_
    refine r_callVi S hK hA hG (k_X4_isAct l _ _ _ _ _ _ _ hc) (cwV 1 S.2.2.2.2 gX4_knowsPartsOfAct_X4_isAct rfl rfl rfl (by decide +kernel) ⟨Nat.le_of_ble_eq_true rfl, Nat.le_of_ble_eq_true rfl⟩) (va_recv hK hG.1 (ci := 4) (q0 := 0) rfl rfl) rfl hl.1 rfl (Nat.le_of_ble_eq_true rfl) dX4_knowsPartsOfAct_132 ⟨Nat.le_of_ble_eq_true rfl, Nat.le_of_ble_eq_true rfl⟩ (fun r132 _ H locs hw hG => ?_)
    obtain rfl := hw
    exact r_iret S hr hlocks hG () rfl (congrArg bI hf) (bI_nar (f_X4_isAct σ x2)) dX4_knowsPartsOfAct_135
  have hf := ite_n c_1_5 hf
  refine (Decidable.em (x1 = 6)).elim (fun c_1_6 => ?_) (fun c_1_6 => ?_)
  · have hf := ite_p c_1_6 hf
    refine lv_tableIn (off := 107) (tgt := 108) S.1 S.2.1 dX4_knowsPartsOfAct_1 (by rw [c_1_6]; decide) (by rw [c_1_6]; decide) (by rw [c_1_6]; rfl) (by decide) ?_
    refine lv_aload_n S.1 S.2.1 dX4_knowsPartsOfAct_108 rfl (lv_at hl 0 rfl) ?_
    refine lv_iload_n S.1 S.2.1 dX4_knowsPartsOfAct_109 rfl (lv_at hl 2 rfl) ?_
    refine r_callVi S hK hA hG (k_X4_isAct l _ _ _ _ _ _ _ hc) (cwV 1 S.2.2.2.2 gX4_knowsPartsOfAct_X4_isAct rfl rfl rfl (by decide +kernel) ⟨Nat.le_of_ble_eq_true rfl, Nat.le_of_ble_eq_true rfl⟩) (va_recv hK hG.1 (ci := 4) (q0 := 0) rfl rfl) rfl hl.1 rfl (Nat.le_of_ble_eq_true rfl) dX4_knowsPartsOfAct_110 ⟨Nat.le_of_ble_eq_true rfl, Nat.le_of_ble_eq_true rfl⟩ (fun r110 _ H locs hw hG => ?_)
    obtain rfl := hw
    refine lv_if_eq (tgt := 128) S.1 S.2.1 dX4_knowsPartsOfAct_113 (by decide) (fun c_113 => ?_) (fun c_113 => ?_)
    · have hf := ite_p c_113 hf
      refine lv_iconst (v := 0) S.1 S.2.1 dX4_knowsPartsOfAct_128 (by decide) ?_
      exact r_iret S hr hlocks hG () rfl (congrArg bI hf) (bI_nar false) dX4_knowsPartsOfAct_129
    · have hf := ite_n c_113 hf
      refine lv_aload_n S.1 S.2.1 dX4_knowsPartsOfAct_116 rfl (lv_at hl 0 rfl) ?_
      refine lv_iload_n S.1 S.2.1 dX4_knowsPartsOfAct_117 rfl (lv_at hl 3 rfl) ?_
      refine r_callVi S hK hA hG (k_X4_isAct l _ _ _ _ _ _ _ hc) (cwV 1 S.2.2.2.2 gX4_knowsPartsOfAct_X4_isAct rfl rfl rfl (by decide +kernel) ⟨Nat.le_of_ble_eq_true rfl, Nat.le_of_ble_eq_true rfl⟩) (va_recv hK hG.1 (ci := 4) (q0 := 0) rfl rfl) rfl hl.1 rfl (Nat.le_of_ble_eq_true rfl) dX4_knowsPartsOfAct_118 ⟨Nat.le_of_ble_eq_true rfl, Nat.le_of_ble_eq_true rfl⟩ (fun r118 _ H locs hw hG => ?_)
      obtain rfl := hw
      refine lv_if_eq (tgt := 128) S.1 S.2.1 dX4_knowsPartsOfAct_121 (by decide) (fun c_121 => ?_) (fun c_121 => ?_)
      · have hf := ite_p c_121 hf
        refine lv_iconst (v := 0) S.1 S.2.1 dX4_knowsPartsOfAct_128 (by decide) ?_
        exact r_iret S hr hlocks hG () rfl (congrArg bI hf) (bI_nar false) dX4_knowsPartsOfAct_129
      · have hf := ite_n c_121 hf
        refine lv_iconst (v := 1) S.1 S.2.1 dX4_knowsPartsOfAct_124 (by decide) ?_
        refine lv_goto (tgt := 129) S.1 S.2.1 dX4_knowsPartsOfAct_125 (by decide) ?_
        exact r_iret S hr hlocks hG () rfl (congrArg bI hf) (bI_nar true) dX4_knowsPartsOfAct_129
  have hf := ite_n c_1_6 hf
  refine (Decidable.em (x1 = 7)).elim (fun c_1_7 => ?_) (fun c_1_7 => ?_)
  · have hf := ite_p c_1_7 hf
    refine lv_tableIn (off := 155) (tgt := 156) S.1 S.2.1 dX4_knowsPartsOfAct_1 (by rw [c_1_7]; decide) (by rw [c_1_7]; decide) (by rw [c_1_7]; rfl) (by decide) ?_
    refine lv_iconst (v := 1) S.1 S.2.1 dX4_knowsPartsOfAct_156 (by decide) ?_
    exact r_iret S hr hlocks hG () rfl (congrArg bI hf) (bI_nar true) dX4_knowsPartsOfAct_157
  have hf := ite_n c_1_7 hf
  refine (Decidable.em (x1 = 8)).elim (fun c_1_8 => ?_) (fun c_1_8 => ?_)
  · have hf := ite_p c_1_8 hf
    refine lv_tableIn (off := 135) (tgt := 136) S.1 S.2.1 dX4_knowsPartsOfAct_1 (by rw [c_1_8]; decide) (by rw [c_1_8]; decide) (by rw [c_1_8]; rfl) (by decide) ?_
    refine lv_iload_n S.1 S.2.1 dX4_knowsPartsOfAct_136 rfl (lv_at hl 2 rfl) ?_
    refine r_callSi S hK hA hG (k_X4_isSensor l _ _ _ _ _) (cwS 1 S.2.2.2.2 gX4_knowsPartsOfAct_X4_isSensor rfl rfl rfl (by decide +kernel) ⟨Nat.le_of_ble_eq_true rfl, Nat.le_of_ble_eq_true rfl⟩) rfl hl.1 rfl (Nat.le_of_ble_eq_true rfl) dX4_knowsPartsOfAct_137 ⟨Nat.le_of_ble_eq_true rfl, Nat.le_of_ble_eq_true rfl⟩ (fun r137 _ H locs hw hG => ?_)
    obtain rfl := hw
    refine lv_if_eq (tgt := 154) S.1 S.2.1 dX4_knowsPartsOfAct_140 (by decide) (fun c_140 => ?_) (fun c_140 => ?_)
    · have hf := ite_p c_140 hf
      refine lv_iconst (v := 0) S.1 S.2.1 dX4_knowsPartsOfAct_154 (by decide) ?_
      exact r_iret S hr hlocks hG () rfl (congrArg bI hf) (bI_nar false) dX4_knowsPartsOfAct_155
    · have hf := ite_n c_140 hf
      refine lv_iload_n S.1 S.2.1 dX4_knowsPartsOfAct_143 rfl (lv_at hl 3 rfl) ?_
      refine r_callSi S hK hA hG (k_X4_isTank l _ _ _ _ _) (cwS 1 S.2.2.2.2 gX4_knowsPartsOfAct_X4_isTank rfl rfl rfl (by decide +kernel) ⟨Nat.le_of_ble_eq_true rfl, Nat.le_of_ble_eq_true rfl⟩) rfl hl.1 rfl (Nat.le_of_ble_eq_true rfl) dX4_knowsPartsOfAct_144 ⟨Nat.le_of_ble_eq_true rfl, Nat.le_of_ble_eq_true rfl⟩ (fun r144 _ H locs hw hG => ?_)
      obtain rfl := hw
      refine lv_if_eq (tgt := 154) S.1 S.2.1 dX4_knowsPartsOfAct_147 (by decide) (fun c_147 => ?_) (fun c_147 => ?_)
      · have hf := ite_p c_147 hf
        refine lv_iconst (v := 0) S.1 S.2.1 dX4_knowsPartsOfAct_154 (by decide) ?_
        exact r_iret S hr hlocks hG () rfl (congrArg bI hf) (bI_nar false) dX4_knowsPartsOfAct_155
      · have hf := ite_n c_147 hf
        refine lv_iconst (v := 1) S.1 S.2.1 dX4_knowsPartsOfAct_150 (by decide) ?_
        refine lv_goto (tgt := 155) S.1 S.2.1 dX4_knowsPartsOfAct_151 (by decide) ?_
        exact r_iret S hr hlocks hG () rfl (congrArg bI hf) (bI_nar true) dX4_knowsPartsOfAct_155
  have hf := ite_n c_1_8 hf
  refine lv_tableOut (tgt := 156) S.1 S.2.1 dX4_knowsPartsOfAct_1 (by have h0 := sw_ne (z := 0) rfl c_1_0; have h1 := sw_ne (z := 1) rfl c_1_1; have h2 := sw_ne (z := 2) rfl c_1_2; have h3 := sw_ne (z := 3) rfl c_1_3; have h4 := sw_ne (z := 4) rfl c_1_4; have h5 := sw_ne (z := 5) rfl c_1_5; have h6 := sw_ne (z := 6) rfl c_1_6; have h7 := sw_ne (z := 7) rfl c_1_7; have h8 := sw_ne (z := 8) rfl c_1_8; omega) (by decide) ?_
  refine lv_iconst (v := 1) S.1 S.2.1 dX4_knowsPartsOfAct_156 (by decide) ?_
  exact r_iret S hr hlocks hG () rfl (congrArg bI hf) (bI_nar true) dX4_knowsPartsOfAct_157
theorem k_X4_knowsPartsOfAct (l : Launch) (D : va_G) (cs : Nat → ClassId) (ad : Nat → Nat) (nr nx : Nat) (σ : Mem) (x1 : Int32) (x2 : Int32) (x3 : Int32) (x4 : Int32) {wy : Int32} {T : Mem} (hc : CInv nr nx wy T σ) : CMi l yX4_knowsPartsOfAct wsX4_knowsPartsOfAct ({ frames := 3, cells := 0, slots := 0, locals := 63 } : Room) D vwCl (gT cs) (GW ad cs nr nx σ) [.ref (ad 0), .int x1, .int x2, .int x3, .int x4] (fun (r : Int32) (_ : Unit) => r = bI (f_X4_knowsPartsOfAct σ x1 x2 x3 x4)) (fun _ => GW ad cs nr nx σ) :=
  r_met (by decide) rfl (Nat.le_of_ble_eq_true rfl) (fun p e s m args below meth c ls S hr hlocks _ hK hA hG hl => b_X4_knowsPartsOfAct_0 S hr hlocks hK hA σ x1 x2 x3 x4 hc rfl _ _ hG ls hl)
theorem in_X4_show_X4 : ∀ w ∈ wsX40, w ∈ wsX4_show := by decide +kernel
def f_X4_show (σ : Mem) (x1 : Int32) (x2 : Int32) : Int32 × Mem :=
  (if (bI (f_X4_isSensor x1)) = 0 then
  bnd (mset σ 0 15 (-2)) fun σ1 =>
  (0, σ1)
  else
  bnd (mset σ 0 15 0) fun σ2 =>
  bnd (σ2 1 x1.toNatClampNeg) fun v3 =>
  bnd (mset σ2 1 x1.toNatClampNeg x2) fun σ4 =>
  (v3, σ4))
set_option maxRecDepth 100000 in
set_option maxHeartbeats 4000000 in
theorem b_X4_show_0 {p : Program} {l : Launch} {e : Env} {s : State} {m : MethodId} {args : Array Value} {below : List Frame} {meth : Method} {c : Code} {D : va_G} {cs : Nat → ClassId} {ad : Nat → Nat} {nr nx : Nat} {wy : Int32} {T : Mem} {w0 : va_W} {X : Int32 × Mem} (S : CallFix p m c cX4_show 4 s args wsX4_show RX4) (hr : meth.sig.returnType = (some .int)) (hlocks : meth.locks = false) (hK : va_K D vwCl (gT cs) s) (hA : ∀ q, s.heap.size ≤ q → va_A w0 s.heap.size q) (σ : Mem) (x1 : Int32) (x2 : Int32) (hc : CInv nr nx wy T σ) (hf : f_X4_show σ x1 x2 = X) (H : Heap) (locs : List Loc) (hG : wI D vwCl (va_A w0 s.heap.size) s.heap H locs (GW ad cs nr nx σ)) (ls : Array Slot) (hl : lv_has ls 4 [(0, .ref (ad 0)), (1, .int x1), (2, .int x2)]) : W p l e ({ frames := 1, cells := 0, slots := 0, locals := 20 } : Room) s m args below meth c H locs 0 0 (MQ below (va_Qi (fun (r : Int32) (u : Mem) => (r, u) = X ∧ CInv nr nx (u 0 15) T u) (fun u t => wPost D vwCl w0 s.heap.size ((fun u => GW ad cs nr nx u) u) t) (va_A w0 s.heap.size)) args s 0 0 (va_A w0 s.heap.size)) (F0 m 0 ls []) := by
  have hinX4 := in_X4_show_X4
  unfold f_X4_show at hf
  refine lv_aload_n S.1 S.2.1 dX4_show_0 rfl (lv_at hl 0 rfl) ?_
  refine lv_iload_n S.1 S.2.1 dX4_show_1 rfl (lv_at hl 1 rfl) ?_
  refine r_callSi S hK hA hG (k_X4_isSensor l _ _ _ _ _) (cwS 1 S.2.2.2.2 gX4_show_X4_isSensor rfl rfl rfl (by decide +kernel) ⟨Nat.le_of_ble_eq_true rfl, Nat.le_of_ble_eq_true rfl⟩) rfl hl.1 rfl (Nat.le_of_ble_eq_true rfl) dX4_show_2 ⟨Nat.le_of_ble_eq_true rfl, Nat.le_of_ble_eq_true rfl⟩ (fun r2 _ H locs hw hG => ?_)
  obtain rfl := hw
  refine lv_if_eq (tgt := 12) S.1 S.2.1 dX4_show_5 (by decide) (fun c_5 => ?_) (fun c_5 => ?_)
  · have hf := ite_p c_5 hf
    refine lv_bipush (v := (-2)) S.1 S.2.1 dX4_show_12 (by decide) ?_
    refine C_put S hK hG hinX4 tyX4 tyX4_ok nmX4 0 rfl rfl 15 (by decide) (by decide +kernel) rfl rfl rfl (Nat.le_of_ble_eq_true rfl) (GWp_0_15 _ _ _ _ _ _) dX4_show_14 (fun σ1 H locs e_σ1 hG => ?_)
    have hf := bnd_p e_σ1 hf
    have hc := ci_y e_σ1 hc
    refine lv_aload_n S.1 S.2.1 dX4_show_17 rfl (lv_at hl 0 rfl) ?_
    refine r_get (v := .int ((-2))) S hK hG hinX4 0 rfl rfl 15 (by decide) (by decide +kernel) (by rw [e_σ1]; rfl) dX4_show_18 ?_
    refine lv_if_eq (tgt := 26) S.1 S.2.1 dX4_show_21 (by decide) (fun c_ => absurd c_ (by decide)) (fun _ => ?_)
    refine lv_iconst (v := 0) S.1 S.2.1 dX4_show_24 (by decide) ?_
    exact r_iret S hr hlocks hG _ rfl ⟨hf, ci_self hc⟩ rfl dX4_show_25
  · have hf := ite_n c_5 hf
    refine lv_iconst (v := 0) S.1 S.2.1 dX4_show_8 (by decide) ?_
    refine lv_goto (tgt := 14) S.1 S.2.1 dX4_show_9 (by decide) ?_
    refine C_put S hK hG hinX4 tyX4 tyX4_ok nmX4 0 rfl rfl 15 (by decide) (by decide +kernel) rfl rfl rfl (Nat.le_of_ble_eq_true rfl) (GWp_0_15 _ _ _ _ _ _) dX4_show_14 (fun σ2 H locs e_σ2 hG => ?_)
    have hf := bnd_p e_σ2 hf
    have hc := ci_y e_σ2 hc
    refine lv_aload_n S.1 S.2.1 dX4_show_17 rfl (lv_at hl 0 rfl) ?_
    refine r_get (v := .int 0) S hK hG hinX4 0 rfl rfl 15 (by decide) (by decide +kernel) (by rw [e_σ2]; rfl) dX4_show_18 ?_
    refine lv_if_eq (tgt := 26) S.1 S.2.1 dX4_show_21 (by decide) (fun _ => ?_) (fun c_ => absurd c_ (by decide))
    refine lv_aload_n S.1 S.2.1 dX4_show_26 rfl (lv_at hl 0 rfl) ?_
    refine r_get S hK hG hinX4 0 rfl rfl 0 (by decide) (by decide +kernel) rfl dX4_show_27 ?_
    refine lv_iload_n S.1 S.2.1 dX4_show_30 rfl (lv_at hl 1 rfl) ?_
    refine r_iald S hK hG 1 0 rfl rfl (cs_vp c_5) dX4_show_31 ?_
    refine lv_topi (fun v3 e_v3 => ?_)
    have hf := bnd_p e_v3 hf
    refine lv_istore_n (lv' := [(3, .int v3), (0, .ref (ad 0)), (1, .int x1), (2, .int x2)]) S.1 S.2.1 dX4_show_32 rfl hl (by decide) rfl (fun ls hl => ?_)
    refine lv_aload_n S.1 S.2.1 dX4_show_33 rfl (lv_at hl 1 rfl) ?_
    refine r_get S hK hG hinX4 0 rfl rfl 0 (by decide) (by decide +kernel) rfl dX4_show_34 ?_
    refine lv_iload_n S.1 S.2.1 dX4_show_37 rfl (lv_at hl 2 rfl) ?_
    refine lv_iload_n S.1 S.2.1 dX4_show_38 rfl (lv_at hl 3 rfl) ?_
    refine C_ast S hK hG 1 8 rfl (cs_vp c_5) (GWs_1 _ _ _ _ _ _) dX4_show_39 (fun σ4 H locs e_σ4 hG => ?_)
    have hf := bnd_p e_σ4 hf
    have hc := ci_row (by decide) e_σ4 hc
    refine lv_iload_n S.1 S.2.1 dX4_show_40 rfl (lv_at hl 0 rfl) ?_
    exact r_iret S hr hlocks hG _ rfl ⟨hf, ci_self hc⟩ rfl dX4_show_41
theorem k_X4_show (l : Launch) (D : va_G) (cs : Nat → ClassId) (ad : Nat → Nat) (nr nx : Nat) (σ : Mem) (x1 : Int32) (x2 : Int32) {wy : Int32} {T : Mem} (hc : CInv nr nx wy T σ) : CMi l yX4_show wsX4_show ({ frames := 1, cells := 0, slots := 0, locals := 20 } : Room) D vwCl (gT cs) (GW ad cs nr nx σ) [.ref (ad 0), .int x1, .int x2] (fun (r : Int32) (u : Mem) => (r, u) = (f_X4_show σ x1 x2) ∧ CInv nr nx (u 0 15) T u) (fun u => GW ad cs nr nx u) :=
  r_met (by decide) rfl (Nat.le_of_ble_eq_true rfl) (fun p e s m args below meth c ls S hr hlocks _ hK hA hG hl => b_X4_show_0 S hr hlocks hK hA σ x1 x2 hc rfl _ _ hG ls hl)
theorem in_X4_shown_X4 : ∀ w ∈ wsX40, w ∈ wsX4_shown := by decide +kernel
def f_X4_shown (σ : Mem) (x1 : Int32) : Int32 × Mem :=
  (if (bI (f_X4_isSensor x1)) = 0 then
  bnd (mset σ 0 15 (-2)) fun σ1 =>
  (f_X4_reading σ1 x1, σ1)
  else
  bnd (mset σ 0 15 0) fun σ2 =>
  (f_X4_reading σ2 x1, σ2))
set_option maxRecDepth 100000 in
set_option maxHeartbeats 4000000 in
theorem b_X4_shown_0 {p : Program} {l : Launch} {e : Env} {s : State} {m : MethodId} {args : Array Value} {below : List Frame} {meth : Method} {c : Code} {D : va_G} {cs : Nat → ClassId} {ad : Nat → Nat} {nr nx : Nat} {wy : Int32} {T : Mem} {w0 : va_W} {X : Int32 × Mem} (S : CallFix p m c cX4_shown 2 s args wsX4_shown RX4) (hr : meth.sig.returnType = (some .int)) (hlocks : meth.locks = false) (hK : va_K D vwCl (gT cs) s) (hA : ∀ q, s.heap.size ≤ q → va_A w0 s.heap.size q) (σ : Mem) (x1 : Int32) (hc : CInv nr nx wy T σ) (hf : f_X4_shown σ x1 = X) (H : Heap) (locs : List Loc) (hG : wI D vwCl (va_A w0 s.heap.size) s.heap H locs (GW ad cs nr nx σ)) (ls : Array Slot) (hl : lv_has ls 2 [(0, .ref (ad 0)), (1, .int x1)]) : W p l e ({ frames := 1, cells := 0, slots := 0, locals := 21 } : Room) s m args below meth c H locs 0 0 (MQ below (va_Qi (fun (r : Int32) (u : Mem) => (r, u) = X ∧ CInv nr nx (u 0 15) T u) (fun u t => wPost D vwCl w0 s.heap.size ((fun u => GW ad cs nr nx u) u) t) (va_A w0 s.heap.size)) args s 0 0 (va_A w0 s.heap.size)) (F0 m 0 ls []) := by
  have hinX4 := in_X4_shown_X4
  unfold f_X4_shown at hf
  refine lv_aload_n S.1 S.2.1 dX4_shown_0 rfl (lv_at hl 0 rfl) ?_
  refine lv_iload_n S.1 S.2.1 dX4_shown_1 rfl (lv_at hl 1 rfl) ?_
  refine r_callSi S hK hA hG (k_X4_isSensor l _ _ _ _ _) (cwS 1 S.2.2.2.2 gX4_shown_X4_isSensor rfl rfl rfl (by decide +kernel) ⟨Nat.le_of_ble_eq_true rfl, Nat.le_of_ble_eq_true rfl⟩) rfl hl.1 rfl (Nat.le_of_ble_eq_true rfl) dX4_shown_2 ⟨Nat.le_of_ble_eq_true rfl, Nat.le_of_ble_eq_true rfl⟩ (fun r2 _ H locs hw hG => ?_)
  obtain rfl := hw
  refine lv_if_eq (tgt := 12) S.1 S.2.1 dX4_shown_5 (by decide) (fun c_5 => ?_) (fun c_5 => ?_)
  · have hf := ite_p c_5 hf
    refine lv_bipush (v := (-2)) S.1 S.2.1 dX4_shown_12 (by decide) ?_
    refine C_put S hK hG hinX4 tyX4 tyX4_ok nmX4 0 rfl rfl 15 (by decide) (by decide +kernel) rfl rfl rfl (Nat.le_of_ble_eq_true rfl) (GWp_0_15 _ _ _ _ _ _) dX4_shown_14 (fun σ1 H locs e_σ1 hG => ?_)
    have hf := bnd_p e_σ1 hf
    have hc := ci_y e_σ1 hc
    refine lv_aload_n S.1 S.2.1 dX4_shown_17 rfl (lv_at hl 0 rfl) ?_
    refine lv_iload_n S.1 S.2.1 dX4_shown_18 rfl (lv_at hl 1 rfl) ?_
    refine r_callVi S hK hA hG (k_X4_reading l _ _ _ _ _ _ _ hc) (cwV 1 S.2.2.2.2 gX4_shown_X4_reading rfl rfl rfl (by decide +kernel) ⟨Nat.le_of_ble_eq_true rfl, Nat.le_of_ble_eq_true rfl⟩) (va_recv hK hG.1 (ci := 4) (q0 := 0) rfl rfl) rfl hl.1 rfl (Nat.le_of_ble_eq_true rfl) dX4_shown_19 ⟨Nat.le_of_ble_eq_true rfl, Nat.le_of_ble_eq_true rfl⟩ (fun r19 _ H locs hw hG => ?_)
    obtain rfl := hw
    exact r_iret S hr hlocks hG _ rfl ⟨hf, ci_self hc⟩ rfl dX4_shown_22
  · have hf := ite_n c_5 hf
    refine lv_iconst (v := 0) S.1 S.2.1 dX4_shown_8 (by decide) ?_
    refine lv_goto (tgt := 14) S.1 S.2.1 dX4_shown_9 (by decide) ?_
    refine C_put S hK hG hinX4 tyX4 tyX4_ok nmX4 0 rfl rfl 15 (by decide) (by decide +kernel) rfl rfl rfl (Nat.le_of_ble_eq_true rfl) (GWp_0_15 _ _ _ _ _ _) dX4_shown_14 (fun σ2 H locs e_σ2 hG => ?_)
    have hf := bnd_p e_σ2 hf
    have hc := ci_y e_σ2 hc
    refine lv_aload_n S.1 S.2.1 dX4_shown_17 rfl (lv_at hl 0 rfl) ?_
    refine lv_iload_n S.1 S.2.1 dX4_shown_18 rfl (lv_at hl 1 rfl) ?_
    refine r_callVi S hK hA hG (k_X4_reading l _ _ _ _ _ _ _ hc) (cwV 1 S.2.2.2.2 gX4_shown_X4_reading rfl rfl rfl (by decide +kernel) ⟨Nat.le_of_ble_eq_true rfl, Nat.le_of_ble_eq_true rfl⟩) (va_recv hK hG.1 (ci := 4) (q0 := 0) rfl rfl) rfl hl.1 rfl (Nat.le_of_ble_eq_true rfl) dX4_shown_19 ⟨Nat.le_of_ble_eq_true rfl, Nat.le_of_ble_eq_true rfl⟩ (fun r19 _ H locs hw hG => ?_)
    obtain rfl := hw
    exact r_iret S hr hlocks hG _ rfl ⟨hf, ci_self hc⟩ rfl dX4_shown_22
theorem k_X4_shown (l : Launch) (D : va_G) (cs : Nat → ClassId) (ad : Nat → Nat) (nr nx : Nat) (σ : Mem) (x1 : Int32) {wy : Int32} {T : Mem} (hc : CInv nr nx wy T σ) : CMi l yX4_shown wsX4_shown ({ frames := 1, cells := 0, slots := 0, locals := 21 } : Room) D vwCl (gT cs) (GW ad cs nr nx σ) [.ref (ad 0), .int x1] (fun (r : Int32) (u : Mem) => (r, u) = (f_X4_shown σ x1) ∧ CInv nr nx (u 0 15) T u) (fun u => GW ad cs nr nx u) :=
  r_met (by decide) rfl (Nat.le_of_ble_eq_true rfl) (fun p e s m args below meth c ls S hr hlocks _ hK hA hG hl => b_X4_shown_0 S hr hlocks hK hA σ x1 hc rfl _ _ hG ls hl)
theorem in_X4_fill_X4 : ∀ w ∈ wsX40, w ∈ wsX4_fill := by decide +kernel
def f_X4_fill (σ : Mem) (x1 : Int32) (x2 : Int32) : Int32 × Mem :=
  (if (bI (f_X4_isTank x1)) = 0 then
  ((-2), σ)
  else
  (if (bI (f_X4_isWithin x2 0 1000000)) = 0 then
  ((-3), σ)
  else
  bnd (σ 2 x1.toNatClampNeg) fun v1 =>
  bnd (mset σ 2 x1.toNatClampNeg x2) fun σ2 =>
  (v1, σ2)))
set_option maxRecDepth 100000 in
set_option maxHeartbeats 4000000 in
theorem b_X4_fill_0 {p : Program} {l : Launch} {e : Env} {s : State} {m : MethodId} {args : Array Value} {below : List Frame} {meth : Method} {c : Code} {D : va_G} {cs : Nat → ClassId} {ad : Nat → Nat} {nr nx : Nat} {wy : Int32} {T : Mem} {w0 : va_W} {X : Int32 × Mem} (S : CallFix p m c cX4_fill 4 s args wsX4_fill RX4) (hr : meth.sig.returnType = (some .int)) (hlocks : meth.locks = false) (hK : va_K D vwCl (gT cs) s) (hA : ∀ q, s.heap.size ≤ q → va_A w0 s.heap.size q) (σ : Mem) (x1 : Int32) (x2 : Int32) (hc : CInv nr nx wy T σ) (hf : f_X4_fill σ x1 x2 = X) (H : Heap) (locs : List Loc) (hG : wI D vwCl (va_A w0 s.heap.size) s.heap H locs (GW ad cs nr nx σ)) (ls : Array Slot) (hl : lv_has ls 4 [(0, .ref (ad 0)), (1, .int x1), (2, .int x2)]) : W p l e ({ frames := 1, cells := 0, slots := 0, locals := 22 } : Room) s m args below meth c H locs 0 0 (MQ below (va_Qi (fun (r : Int32) (u : Mem) => (r, u) = X ∧ CInv nr nx wy T u) (fun u t => wPost D vwCl w0 s.heap.size ((fun u => GW ad cs nr nx u) u) t) (va_A w0 s.heap.size)) args s 0 0 (va_A w0 s.heap.size)) (F0 m 0 ls []) := by
  have hinX4 := in_X4_fill_X4
  unfold f_X4_fill at hf
  refine lv_iload_n S.1 S.2.1 dX4_fill_0 rfl (lv_at hl 1 rfl) ?_
  refine r_callSi S hK hA hG (k_X4_isTank l _ _ _ _ _) (cwS 1 S.2.2.2.2 gX4_fill_X4_isTank rfl rfl rfl (by decide +kernel) ⟨Nat.le_of_ble_eq_true rfl, Nat.le_of_ble_eq_true rfl⟩) rfl hl.1 rfl (Nat.le_of_ble_eq_true rfl) dX4_fill_1 ⟨Nat.le_of_ble_eq_true rfl, Nat.le_of_ble_eq_true rfl⟩ (fun r1 _ H locs hw hG => ?_)
  obtain rfl := hw
  refine lv_if_ne (tgt := 10) S.1 S.2.1 dX4_fill_4 (by decide) (fun c_4 => ?_) (fun c_4 => ?_)
  · have hf := ite_n c_4 hf
    refine lv_iload_n S.1 S.2.1 dX4_fill_10 rfl (lv_at hl 2 rfl) ?_
    refine lv_iconst (v := 0) S.1 S.2.1 dX4_fill_11 (by decide) ?_
    refine lv_ldc (v := 1000000) S.1 S.2.1 S.2.2.2.1 (S.2.2.2.2 (.constant RX4 68 1000000) (by decide +kernel)) dX4_fill_12 ?_
    refine r_callSi S hK hA hG (k_X4_isWithin l _ _ _ _ _ _ _) (cwS 3 S.2.2.2.2 gX4_fill_X4_isWithin rfl rfl rfl (by decide +kernel) ⟨Nat.le_of_ble_eq_true rfl, Nat.le_of_ble_eq_true rfl⟩) rfl hl.1 rfl (Nat.le_of_ble_eq_true rfl) dX4_fill_14 ⟨Nat.le_of_ble_eq_true rfl, Nat.le_of_ble_eq_true rfl⟩ (fun r14 _ H locs hw hG => ?_)
    obtain rfl := hw
    refine lv_if_ne (tgt := 23) S.1 S.2.1 dX4_fill_17 (by decide) (fun c_17 => ?_) (fun c_17 => ?_)
    · have hf := ite_n c_17 hf
      refine lv_aload_n S.1 S.2.1 dX4_fill_23 rfl (lv_at hl 0 rfl) ?_
      refine r_get S hK hG hinX4 0 rfl rfl 1 (by decide) (by decide +kernel) rfl dX4_fill_24 ?_
      refine lv_iload_n S.1 S.2.1 dX4_fill_27 rfl (lv_at hl 1 rfl) ?_
      refine r_iald S hK hG 2 0 rfl rfl (ct_vp c_4) dX4_fill_28 ?_
      refine lv_topi (fun v1 e_v1 => ?_)
      have hf := bnd_p e_v1 hf
      refine lv_istore_n (lv' := [(3, .int v1), (0, .ref (ad 0)), (1, .int x1), (2, .int x2)]) S.1 S.2.1 dX4_fill_29 rfl hl (by decide) rfl (fun ls hl => ?_)
      refine lv_aload_n S.1 S.2.1 dX4_fill_30 rfl (lv_at hl 1 rfl) ?_
      refine r_get S hK hG hinX4 0 rfl rfl 1 (by decide) (by decide +kernel) rfl dX4_fill_31 ?_
      refine lv_iload_n S.1 S.2.1 dX4_fill_34 rfl (lv_at hl 2 rfl) ?_
      refine lv_iload_n S.1 S.2.1 dX4_fill_35 rfl (lv_at hl 3 rfl) ?_
      refine C_ast S hK hG 2 6 rfl (ct_vp c_4) (GWs_2 _ _ _ _ _ _) dX4_fill_36 (fun σ2 H locs e_σ2 hG => ?_)
      have hf := bnd_p e_σ2 hf
      have hc := ci_row (by decide) e_σ2 hc
      refine lv_iload_n S.1 S.2.1 dX4_fill_37 rfl (lv_at hl 0 rfl) ?_
      exact r_iret S hr hlocks hG _ rfl ⟨hf, hc⟩ rfl dX4_fill_38
    · have hf := ite_p c_17 hf
      refine lv_bipush (v := (-3)) S.1 S.2.1 dX4_fill_20 (by decide) ?_
      exact r_iret S hr hlocks hG _ rfl ⟨hf, hc⟩ rfl dX4_fill_22
  · have hf := ite_p c_4 hf
    refine lv_bipush (v := (-2)) S.1 S.2.1 dX4_fill_7 (by decide) ?_
    exact r_iret S hr hlocks hG _ rfl ⟨hf, hc⟩ rfl dX4_fill_9
theorem k_X4_fill (l : Launch) (D : va_G) (cs : Nat → ClassId) (ad : Nat → Nat) (nr nx : Nat) (σ : Mem) (x1 : Int32) (x2 : Int32) {wy : Int32} {T : Mem} (hc : CInv nr nx wy T σ) : CMi l yX4_fill wsX4_fill ({ frames := 1, cells := 0, slots := 0, locals := 22 } : Room) D vwCl (gT cs) (GW ad cs nr nx σ) [.ref (ad 0), .int x1, .int x2] (fun (r : Int32) (u : Mem) => (r, u) = (f_X4_fill σ x1 x2) ∧ CInv nr nx wy T u) (fun u => GW ad cs nr nx u) :=
  r_met (by decide) rfl (Nat.le_of_ble_eq_true rfl) (fun p e s m args below meth c ls S hr hlocks _ hK hA hG hl => b_X4_fill_0 S hr hlocks hK hA σ x1 x2 hc rfl _ _ hG ls hl)
theorem in_X4_tank_X4 : ∀ w ∈ wsX40, w ∈ wsX4_tank := by decide +kernel
def f_X4_tank (σ : Mem) (x1 : Int32) : Int32 :=
  (if (bI (f_X4_isTank x1)) = 0 then
  (-2)
  else
  σ 2 x1.toNatClampNeg)
set_option maxRecDepth 100000 in
set_option maxHeartbeats 4000000 in
theorem b_X4_tank_0 {p : Program} {l : Launch} {e : Env} {s : State} {m : MethodId} {args : Array Value} {below : List Frame} {meth : Method} {c : Code} {D : va_G} {cs : Nat → ClassId} {ad : Nat → Nat} {nr nx : Nat} {wy : Int32} {T : Mem} {w0 : va_W} {X : Int32} (S : CallFix p m c cX4_tank 2 s args wsX4_tank RX4) (hr : meth.sig.returnType = (some .int)) (hlocks : meth.locks = false) (hK : va_K D vwCl (gT cs) s) (hA : ∀ q, s.heap.size ≤ q → va_A w0 s.heap.size q) (σ : Mem) (x1 : Int32) (hc : CInv nr nx wy T σ) (hf : f_X4_tank σ x1 = X) (H : Heap) (locs : List Loc) (hG : wI D vwCl (va_A w0 s.heap.size) s.heap H locs (GW ad cs nr nx σ)) (ls : Array Slot) (hl : lv_has ls 2 [(0, .ref (ad 0)), (1, .int x1)]) : W p l e ({ frames := 1, cells := 0, slots := 0, locals := 20 } : Room) s m args below meth c H locs 0 0 (MQ below (va_Qi (fun (r : Int32) (_ : Unit) => r = X) (fun u t => wPost D vwCl w0 s.heap.size ((fun _ => GW ad cs nr nx σ) u) t) (va_A w0 s.heap.size)) args s 0 0 (va_A w0 s.heap.size)) (F0 m 0 ls []) := by
  have hinX4 := in_X4_tank_X4
  unfold f_X4_tank at hf
  refine lv_iload_n S.1 S.2.1 dX4_tank_0 rfl (lv_at hl 1 rfl) ?_
  refine r_callSi S hK hA hG (k_X4_isTank l _ _ _ _ _) (cwS 1 S.2.2.2.2 gX4_tank_X4_isTank rfl rfl rfl (by decide +kernel) ⟨Nat.le_of_ble_eq_true rfl, Nat.le_of_ble_eq_true rfl⟩) rfl hl.1 rfl (Nat.le_of_ble_eq_true rfl) dX4_tank_1 ⟨Nat.le_of_ble_eq_true rfl, Nat.le_of_ble_eq_true rfl⟩ (fun r1 _ H locs hw hG => ?_)
  obtain rfl := hw
  refine lv_if_eq (tgt := 16) S.1 S.2.1 dX4_tank_4 (by decide) (fun c_4 => ?_) (fun c_4 => ?_)
  · have hf := ite_p c_4 hf
    refine lv_bipush (v := (-2)) S.1 S.2.1 dX4_tank_16 (by decide) ?_
    exact r_iret S hr hlocks hG () rfl hf rfl dX4_tank_18
  · have hf := ite_n c_4 hf
    refine lv_aload_n S.1 S.2.1 dX4_tank_7 rfl (lv_at hl 0 rfl) ?_
    refine r_get S hK hG hinX4 0 rfl rfl 1 (by decide) (by decide +kernel) rfl dX4_tank_8 ?_
    refine lv_iload_n S.1 S.2.1 dX4_tank_11 rfl (lv_at hl 1 rfl) ?_
    refine r_iald S hK hG 2 0 rfl rfl (ct_vp c_4) dX4_tank_12 ?_
    refine lv_goto (tgt := 18) S.1 S.2.1 dX4_tank_13 (by decide) ?_
    exact r_iret S hr hlocks hG () rfl hf rfl dX4_tank_18
theorem k_X4_tank (l : Launch) (D : va_G) (cs : Nat → ClassId) (ad : Nat → Nat) (nr nx : Nat) (σ : Mem) (x1 : Int32) {wy : Int32} {T : Mem} (hc : CInv nr nx wy T σ) : CMi l yX4_tank wsX4_tank ({ frames := 1, cells := 0, slots := 0, locals := 20 } : Room) D vwCl (gT cs) (GW ad cs nr nx σ) [.ref (ad 0), .int x1] (fun (r : Int32) (_ : Unit) => r = (f_X4_tank σ x1)) (fun _ => GW ad cs nr nx σ) :=
  r_met (by decide) rfl (Nat.le_of_ble_eq_true rfl) (fun p e s m args below meth c ls S hr hlocks _ hK hA hG hl => b_X4_tank_0 S hr hlocks hK hA σ x1 hc rfl _ _ hG ls hl)
theorem in_X4_startWork_X4 : ∀ w ∈ wsX40, w ∈ wsX4_startWork := by decide +kernel
def f_X4_startWork (σ : Mem) : Mem :=
  bnd (mset σ 0 10 0) fun σ1 =>
  bnd (mset σ1 0 13 0) fun σ2 =>
  σ2
set_option maxRecDepth 100000 in
set_option maxHeartbeats 4000000 in
theorem b_X4_startWork_0 {p : Program} {l : Launch} {e : Env} {s : State} {m : MethodId} {args : Array Value} {below : List Frame} {meth : Method} {c : Code} {D : va_G} {cs : Nat → ClassId} {ad : Nat → Nat} {nr nx : Nat} {wy : Int32} {T : Mem} {w0 : va_W} {X : Mem} (S : CallFix p m c cX4_startWork 1 s args wsX4_startWork RX4) (hr : meth.sig.returnType = none) (hlocks : meth.locks = false) (hK : va_K D vwCl (gT cs) s) (hA : ∀ q, s.heap.size ≤ q → va_A w0 s.heap.size q) (σ : Mem) (hc : CInv nr nx wy T σ) (hf : f_X4_startWork σ = X) (H : Heap) (locs : List Loc) (hG : wI D vwCl (va_A w0 s.heap.size) s.heap H locs (GW ad cs nr nx σ)) (ls : Array Slot) (hl : lv_has ls 1 [(0, .ref (ad 0))]) : W p l e ({ frames := 0, cells := 0, slots := 0, locals := 0 } : Room) s m args below meth c H locs 0 0 (MQ below (va_Qv (fun (u : Mem) => u = X ∧ CInv nr nx wy T u) (fun u t => wPost D vwCl w0 s.heap.size ((fun u => GW ad cs nr nx u) u) t) (va_A w0 s.heap.size)) args s 0 0 (va_A w0 s.heap.size)) (F0 m 0 ls []) := by
  have hinX4 := in_X4_startWork_X4
  unfold f_X4_startWork at hf
  refine lv_aload_n S.1 S.2.1 dX4_startWork_0 rfl (lv_at hl 0 rfl) ?_
  refine lv_iconst (v := 0) S.1 S.2.1 dX4_startWork_1 (by decide) ?_
  refine C_put S hK hG hinX4 tyX4 tyX4_ok nmX4 0 rfl rfl 10 (by decide) (by decide +kernel) rfl rfl rfl (Nat.le_of_ble_eq_true rfl) (GWp_0_10 _ _ _ _ _ _) dX4_startWork_2 (fun σ1 H locs e_σ1 hG => ?_)
  have hf := bnd_p e_σ1 hf
  have hc := ci_p0 (k := 10) (by decide) e_σ1 hc
  refine lv_aload_n S.1 S.2.1 dX4_startWork_5 rfl (lv_at hl 0 rfl) ?_
  refine lv_iconst (v := 0) S.1 S.2.1 dX4_startWork_6 (by decide) ?_
  refine C_put S hK hG hinX4 tyX4 tyX4_ok nmX4 0 rfl rfl 13 (by decide) (by decide +kernel) rfl rfl rfl (Nat.le_of_ble_eq_true rfl) (GWp_0_13 _ _ _ _ _ _) dX4_startWork_7 (fun σ2 H locs e_σ2 hG => ?_)
  have hf := bnd_p e_σ2 hf
  have hc := ci_p0 (k := 13) (by decide) e_σ2 hc
  exact r_vret S hr hlocks hG _ rfl ⟨hf, hc⟩ dX4_startWork_10
theorem k_X4_startWork (l : Launch) (D : va_G) (cs : Nat → ClassId) (ad : Nat → Nat) (nr nx : Nat) (σ : Mem) {wy : Int32} {T : Mem} (hc : CInv nr nx wy T σ) : CMv l yX4_startWork wsX4_startWork ({ frames := 0, cells := 0, slots := 0, locals := 0 } : Room) D vwCl (gT cs) (GW ad cs nr nx σ) [.ref (ad 0)] (fun (u : Mem) => u = (f_X4_startWork σ) ∧ CInv nr nx wy T u) (fun u => GW ad cs nr nx u) :=
  r_met (by decide) rfl (Nat.le_of_ble_eq_true rfl) (fun p e s m args below meth c ls S hr hlocks _ hK hA hG hl => b_X4_startWork_0 S hr hlocks hK hA σ hc rfl _ _ hG ls hl)
theorem in_X4_begins_X4 : ∀ w ∈ wsX40, w ∈ wsX4_begins := by decide +kernel
def f_X4_begins (σ : Mem) : Bool × Mem :=
  (if (σ 0 10) < 300 then
  bnd (mset σ 0 10 ((σ 0 10) + 1)) fun σ1 =>
  bnd (mset σ1 0 12 ((σ1 0 12) + 1)) fun σ2 =>
  (true, σ2)
  else
  bnd (mset σ 0 13 5) fun σ3 =>
  (false, σ3))
set_option maxRecDepth 100000 in
set_option maxHeartbeats 4000000 in
theorem b_X4_begins_0 {p : Program} {l : Launch} {e : Env} {s : State} {m : MethodId} {args : Array Value} {below : List Frame} {meth : Method} {c : Code} {D : va_G} {cs : Nat → ClassId} {ad : Nat → Nat} {nr nx : Nat} {wy : Int32} {T : Mem} {w0 : va_W} {X : Bool × Mem} (S : CallFix p m c cX4_begins 1 s args wsX4_begins RX4) (hr : meth.sig.returnType = (some .boolean)) (hlocks : meth.locks = false) (hK : va_K D vwCl (gT cs) s) (hA : ∀ q, s.heap.size ≤ q → va_A w0 s.heap.size q) (σ : Mem) (hc : CInv nr nx wy T σ) (hf : f_X4_begins σ = X) (H : Heap) (locs : List Loc) (hG : wI D vwCl (va_A w0 s.heap.size) s.heap H locs (GW ad cs nr nx σ)) (ls : Array Slot) (hl : lv_has ls 1 [(0, .ref (ad 0))]) : W p l e ({ frames := 0, cells := 0, slots := 0, locals := 0 } : Room) s m args below meth c H locs 0 0 (MQ below (va_Qi (fun (r : Int32) (u : Mem) => (∃ b, r = bI b ∧ (b, u) = X) ∧ CInv nr nx wy T u) (fun u t => wPost D vwCl w0 s.heap.size ((fun u => GW ad cs nr nx u) u) t) (va_A w0 s.heap.size)) args s 0 0 (va_A w0 s.heap.size)) (F0 m 0 ls []) := by
  have hinX4 := in_X4_begins_X4
  unfold f_X4_begins at hf
  refine lv_aload_n S.1 S.2.1 dX4_begins_0 rfl (lv_at hl 0 rfl) ?_
  refine r_get S hK hG hinX4 0 rfl rfl 10 (by decide) (by decide +kernel) rfl dX4_begins_1 ?_
  refine lv_sipush (v := 300) S.1 S.2.1 dX4_begins_4 (by decide) ?_
  refine lv_icmp_lt (tgt := 17) S.1 S.2.1 dX4_begins_7 (by decide) (fun c_7 => ?_) (fun c_7 => ?_)
  · have hf := ite_p c_7 hf
    refine lv_aload_n S.1 S.2.1 dX4_begins_17 rfl (lv_at hl 0 rfl) ?_
    refine lv_dup S.1 S.2.1 dX4_begins_18 rfl ?_
    refine r_get (v := .int (σ 0 10)) S hK hG hinX4 0 rfl rfl 10 (by decide) (by decide +kernel) rfl dX4_begins_19 ?_
    refine lv_iconst (v := 1) S.1 S.2.1 dX4_begins_22 (by decide) ?_
    refine lv_iadd S.1 S.2.1 dX4_begins_23 ?_
    refine C_put S hK hG hinX4 tyX4 tyX4_ok nmX4 0 rfl rfl 10 (by decide) (by decide +kernel) rfl rfl rfl (Nat.le_of_ble_eq_true rfl) (GWp_0_10 _ _ _ _ _ _) dX4_begins_24 (fun σ1 H locs e_σ1 hG => ?_)
    have hf := bnd_p e_σ1 hf
    have hc := ci_p0 (k := 10) (by decide) e_σ1 hc
    refine lv_aload_n S.1 S.2.1 dX4_begins_27 rfl (lv_at hl 0 rfl) ?_
    refine lv_dup S.1 S.2.1 dX4_begins_28 rfl ?_
    refine r_get S hK hG hinX4 0 rfl rfl 12 (by decide) (by decide +kernel) rfl dX4_begins_29 ?_
    refine lv_iconst (v := 1) S.1 S.2.1 dX4_begins_32 (by decide) ?_
    refine lv_iadd S.1 S.2.1 dX4_begins_33 ?_
    refine C_put S hK hG hinX4 tyX4 tyX4_ok nmX4 0 rfl rfl 12 (by decide) (by decide +kernel) rfl rfl rfl (Nat.le_of_ble_eq_true rfl) (GWp_0_12 _ _ _ _ _ _) dX4_begins_34 (fun σ2 H locs e_σ2 hG => ?_)
    have hf := bnd_p e_σ2 hf
    have hc := ci_p0 (k := 12) (by decide) e_σ2 hc
    refine lv_iconst (v := 1) S.1 S.2.1 dX4_begins_37 (by decide) ?_
    exact r_iret S hr hlocks hG _ rfl ⟨⟨true, rfl, hf⟩, hc⟩ (bI_nar true) dX4_begins_38
  · have hf := ite_n c_7 hf
    refine lv_aload_n S.1 S.2.1 dX4_begins_10 rfl (lv_at hl 0 rfl) ?_
    refine lv_iconst (v := 5) S.1 S.2.1 dX4_begins_11 (by decide) ?_
    refine C_put S hK hG hinX4 tyX4 tyX4_ok nmX4 0 rfl rfl 13 (by decide) (by decide +kernel) rfl rfl rfl (Nat.le_of_ble_eq_true rfl) (GWp_0_13 _ _ _ _ _ _) dX4_begins_12 (fun σ3 H locs e_σ3 hG => ?_)
    have hf := bnd_p e_σ3 hf
    have hc := ci_p0 (k := 13) (by decide) e_σ3 hc
    refine lv_iconst (v := 0) S.1 S.2.1 dX4_begins_15 (by decide) ?_
    exact r_iret S hr hlocks hG _ rfl ⟨⟨false, rfl, hf⟩, hc⟩ (bI_nar false) dX4_begins_16
theorem k_X4_begins (l : Launch) (D : va_G) (cs : Nat → ClassId) (ad : Nat → Nat) (nr nx : Nat) (σ : Mem) {wy : Int32} {T : Mem} (hc : CInv nr nx wy T σ) : CMi l yX4_begins wsX4_begins ({ frames := 0, cells := 0, slots := 0, locals := 0 } : Room) D vwCl (gT cs) (GW ad cs nr nx σ) [.ref (ad 0)] (fun (r : Int32) (u : Mem) => (∃ b, r = bI b ∧ (b, u) = (f_X4_begins σ)) ∧ CInv nr nx wy T u) (fun u => GW ad cs nr nx u) :=
  r_met (by decide) rfl (Nat.le_of_ble_eq_true rfl) (fun p e s m args below meth c ls S hr hlocks _ hK hA hG hl => b_X4_begins_0 S hr hlocks hK hA σ hc rfl _ _ hG ls hl)
theorem in_X4_canBeCaught_X4 : ∀ w ∈ wsX40, w ∈ wsX4_canBeCaught := by decide +kernel
def f_X4_canBeCaught (σ : Mem) : Bool :=
  (if (σ 0 13) = 0 then
  false
  else
  (if (σ 0 13) = 5 then
  false
  else
  true))
set_option maxRecDepth 100000 in
set_option maxHeartbeats 4000000 in
theorem b_X4_canBeCaught_0 {p : Program} {l : Launch} {e : Env} {s : State} {m : MethodId} {args : Array Value} {below : List Frame} {meth : Method} {c : Code} {D : va_G} {cs : Nat → ClassId} {ad : Nat → Nat} {nr nx : Nat} {wy : Int32} {T : Mem} {w0 : va_W} {X : Bool} (S : CallFix p m c cX4_canBeCaught 1 s args wsX4_canBeCaught RX4) (hr : meth.sig.returnType = (some .boolean)) (hlocks : meth.locks = false) (hK : va_K D vwCl (gT cs) s) (hA : ∀ q, s.heap.size ≤ q → va_A w0 s.heap.size q) (σ : Mem) (hc : CInv nr nx wy T σ) (hf : f_X4_canBeCaught σ = X) (H : Heap) (locs : List Loc) (hG : wI D vwCl (va_A w0 s.heap.size) s.heap H locs (GW ad cs nr nx σ)) (ls : Array Slot) (hl : lv_has ls 1 [(0, .ref (ad 0))]) : W p l e ({ frames := 0, cells := 0, slots := 0, locals := 0 } : Room) s m args below meth c H locs 0 0 (MQ below (va_Qi (fun (r : Int32) (_ : Unit) => r = bI X) (fun u t => wPost D vwCl w0 s.heap.size ((fun _ => GW ad cs nr nx σ) u) t) (va_A w0 s.heap.size)) args s 0 0 (va_A w0 s.heap.size)) (F0 m 0 ls []) := by
  have hinX4 := in_X4_canBeCaught_X4
  unfold f_X4_canBeCaught at hf
  refine lv_aload_n S.1 S.2.1 dX4_canBeCaught_0 rfl (lv_at hl 0 rfl) ?_
  refine r_get S hK hG hinX4 0 rfl rfl 13 (by decide) (by decide +kernel) rfl dX4_canBeCaught_1 ?_
  refine lv_if_eq (tgt := 19) S.1 S.2.1 dX4_canBeCaught_4 (by decide) (fun c_4 => ?_) (fun c_4 => ?_)
  · have hf := ite_p c_4 hf
    refine lv_iconst (v := 0) S.1 S.2.1 dX4_canBeCaught_19 (by decide) ?_
    exact r_iret S hr hlocks hG () rfl (congrArg bI hf) (bI_nar false) dX4_canBeCaught_20
  · have hf := ite_n c_4 hf
    refine lv_aload_n S.1 S.2.1 dX4_canBeCaught_7 rfl (lv_at hl 0 rfl) ?_
    refine r_get (v := .int (σ 0 13)) S hK hG hinX4 0 rfl rfl 13 (by decide) (by decide +kernel) rfl dX4_canBeCaught_8 ?_
    refine lv_iconst (v := 5) S.1 S.2.1 dX4_canBeCaught_11 (by decide) ?_
    refine lv_icmp_eq (tgt := 19) S.1 S.2.1 dX4_canBeCaught_12 (by decide) (fun c_12 => ?_) (fun c_12 => ?_)
    · have hf := ite_p c_12 hf
      refine lv_iconst (v := 0) S.1 S.2.1 dX4_canBeCaught_19 (by decide) ?_
      exact r_iret S hr hlocks hG () rfl (congrArg bI hf) (bI_nar false) dX4_canBeCaught_20
    · have hf := ite_n c_12 hf
      refine lv_iconst (v := 1) S.1 S.2.1 dX4_canBeCaught_15 (by decide) ?_
      refine lv_goto (tgt := 20) S.1 S.2.1 dX4_canBeCaught_16 (by decide) ?_
      exact r_iret S hr hlocks hG () rfl (congrArg bI hf) (bI_nar true) dX4_canBeCaught_20
theorem k_X4_canBeCaught (l : Launch) (D : va_G) (cs : Nat → ClassId) (ad : Nat → Nat) (nr nx : Nat) (σ : Mem) {wy : Int32} {T : Mem} (hc : CInv nr nx wy T σ) : CMi l yX4_canBeCaught wsX4_canBeCaught ({ frames := 0, cells := 0, slots := 0, locals := 0 } : Room) D vwCl (gT cs) (GW ad cs nr nx σ) [.ref (ad 0)] (fun (r : Int32) (_ : Unit) => r = bI (f_X4_canBeCaught σ)) (fun _ => GW ad cs nr nx σ) :=
  r_met (by decide) rfl (Nat.le_of_ble_eq_true rfl) (fun p e s m args below meth c ls S hr hlocks _ hK hA hG hl => b_X4_canBeCaught_0 S hr hlocks hK hA σ hc rfl _ _ hG ls hl)
theorem in_X4_amount_X4 : ∀ w ∈ wsX40, w ∈ wsX4_amount := by decide +kernel
def f_X4_amount (σ : Mem) : Int32 :=
  σ 0 14
set_option maxRecDepth 100000 in
set_option maxHeartbeats 4000000 in
theorem b_X4_amount_0 {p : Program} {l : Launch} {e : Env} {s : State} {m : MethodId} {args : Array Value} {below : List Frame} {meth : Method} {c : Code} {D : va_G} {cs : Nat → ClassId} {ad : Nat → Nat} {nr nx : Nat} {wy : Int32} {T : Mem} {w0 : va_W} {X : Int32} (S : CallFix p m c cX4_amount 1 s args wsX4_amount RX4) (hr : meth.sig.returnType = (some .int)) (hlocks : meth.locks = false) (hK : va_K D vwCl (gT cs) s) (hA : ∀ q, s.heap.size ≤ q → va_A w0 s.heap.size q) (σ : Mem) (hc : CInv nr nx wy T σ) (hf : f_X4_amount σ = X) (H : Heap) (locs : List Loc) (hG : wI D vwCl (va_A w0 s.heap.size) s.heap H locs (GW ad cs nr nx σ)) (ls : Array Slot) (hl : lv_has ls 1 [(0, .ref (ad 0))]) : W p l e ({ frames := 0, cells := 0, slots := 0, locals := 0 } : Room) s m args below meth c H locs 0 0 (MQ below (va_Qi (fun (r : Int32) (_ : Unit) => r = X) (fun u t => wPost D vwCl w0 s.heap.size ((fun _ => GW ad cs nr nx σ) u) t) (va_A w0 s.heap.size)) args s 0 0 (va_A w0 s.heap.size)) (F0 m 0 ls []) := by
  have hinX4 := in_X4_amount_X4
  unfold f_X4_amount at hf
  refine lv_aload_n S.1 S.2.1 dX4_amount_0 rfl (lv_at hl 0 rfl) ?_
  refine r_get S hK hG hinX4 0 rfl rfl 14 (by decide) (by decide +kernel) rfl dX4_amount_1 ?_
  exact r_iret S hr hlocks hG () rfl hf rfl dX4_amount_4
theorem k_X4_amount (l : Launch) (D : va_G) (cs : Nat → ClassId) (ad : Nat → Nat) (nr nx : Nat) (σ : Mem) {wy : Int32} {T : Mem} (hc : CInv nr nx wy T σ) : CMi l yX4_amount wsX4_amount ({ frames := 0, cells := 0, slots := 0, locals := 0 } : Room) D vwCl (gT cs) (GW ad cs nr nx σ) [.ref (ad 0)] (fun (r : Int32) (_ : Unit) => r = (f_X4_amount σ)) (fun _ => GW ad cs nr nx σ) :=
  r_met (by decide) rfl (Nat.le_of_ble_eq_true rfl) (fun p e s m args below meth c ls S hr hlocks _ hK hA hG hl => b_X4_amount_0 S hr hlocks hK hA σ hc rfl _ _ hG ls hl)
theorem in_X4_why_X4 : ∀ w ∈ wsX40, w ∈ wsX4_why := by decide +kernel
def f_X4_why (σ : Mem) : Int32 :=
  σ 0 15
set_option maxRecDepth 100000 in
set_option maxHeartbeats 4000000 in
theorem b_X4_why_0 {p : Program} {l : Launch} {e : Env} {s : State} {m : MethodId} {args : Array Value} {below : List Frame} {meth : Method} {c : Code} {D : va_G} {cs : Nat → ClassId} {ad : Nat → Nat} {nr nx : Nat} {wy : Int32} {T : Mem} {w0 : va_W} {X : Int32} (S : CallFix p m c cX4_why 1 s args wsX4_why RX4) (hr : meth.sig.returnType = (some .int)) (hlocks : meth.locks = false) (hK : va_K D vwCl (gT cs) s) (hA : ∀ q, s.heap.size ≤ q → va_A w0 s.heap.size q) (σ : Mem) (hc : CInv nr nx wy T σ) (hf : f_X4_why σ = X) (H : Heap) (locs : List Loc) (hG : wI D vwCl (va_A w0 s.heap.size) s.heap H locs (GW ad cs nr nx σ)) (ls : Array Slot) (hl : lv_has ls 1 [(0, .ref (ad 0))]) : W p l e ({ frames := 0, cells := 0, slots := 0, locals := 0 } : Room) s m args below meth c H locs 0 0 (MQ below (va_Qi (fun (r : Int32) (_ : Unit) => r = X) (fun u t => wPost D vwCl w0 s.heap.size ((fun _ => GW ad cs nr nx σ) u) t) (va_A w0 s.heap.size)) args s 0 0 (va_A w0 s.heap.size)) (F0 m 0 ls []) := by
  have hinX4 := in_X4_why_X4
  unfold f_X4_why at hf
  refine lv_aload_n S.1 S.2.1 dX4_why_0 rfl (lv_at hl 0 rfl) ?_
  refine r_get S hK hG hinX4 0 rfl rfl 15 (by decide) (by decide +kernel) rfl dX4_why_1 ?_
  exact r_iret S hr hlocks hG () rfl hf rfl dX4_why_4
theorem k_X4_why (l : Launch) (D : va_G) (cs : Nat → ClassId) (ad : Nat → Nat) (nr nx : Nat) (σ : Mem) {wy : Int32} {T : Mem} (hc : CInv nr nx wy T σ) : CMi l yX4_why wsX4_why ({ frames := 0, cells := 0, slots := 0, locals := 0 } : Room) D vwCl (gT cs) (GW ad cs nr nx σ) [.ref (ad 0)] (fun (r : Int32) (_ : Unit) => r = (f_X4_why σ)) (fun _ => GW ad cs nr nx σ) :=
  r_met (by decide) rfl (Nat.le_of_ble_eq_true rfl) (fun p e s m args below meth c ls S hr hlocks _ hK hA hG hl => b_X4_why_0 S hr hlocks hK hA σ hc rfl _ _ hG ls hl)
