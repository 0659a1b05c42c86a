theorem in_X5_areKnown : ∀ w ∈ wsX50, w ∈ wsX5_areKnown := by decide +kernel
def f_X5_areKnown (σ : Mem) (x1 : Int32) (x2 : Int32) (x3 : Int32) (x4 : Int32) : Bool :=
  (if x1 = 0 then
  (f_X5_isTank x2)
  else
  (if x1 = 1 then
  (if (bI (f_X5_isTank x2)) = 0 then
  false
  else
  (if (bI (f_X5_isTank x3)) = 0 then
  false
  else
  true))
  else
  (if x1 = 2 then
  (if (bI (f_X5_isRule σ x2)) = 0 then
  false
  else
  (if (bI (f_X5_isActOrNone σ x3)) = 0 then
  false
  else
  (if (bI (f_X5_isActOrNone σ x4)) = 0 then
  false
  else
  true)))
  else
  (if x1 = 3 then
  (if (bI (f_X5_isAct σ x2)) = 0 then
  false
  else
  (if (bI (f_X5_isAct σ x3)) = 0 then
  false
  else
  true))
  else
  (if x1 = 4 then
  (f_X5_isAct σ x2)
  else
  (if x1 = 5 then
  (f_X5_isAct σ x2)
  else
  (if x1 = 6 then
  (if (bI (f_X5_isAct σ x2)) = 0 then
  false
  else
  (if (bI (f_X5_isAct σ x3)) = 0 then
  false
  else
  true))
  else
  (if x1 = 7 then
  true
  else
  (if x1 = 8 then
  (if (bI (f_X5_isSensor x2)) = 0 then
  false
  else
  (if (bI (f_X5_isTank x3)) = 0 then
  false
  else
  true))
  else
  true)))))))))
set_option maxRecDepth 100000 in
set_option maxHeartbeats 4000000 in
theorem b_X5_areKnown_0 {p : Program} {l : Launch} {e : Env} {s : State} {m : MethodId} {args : Array Value} {below : List Frame} {meth : Method} {c : Code} {D : va_G} {cI : ClassId} {ad : Nat → Nat} {w0 : va_W} {X : Bool} (S : CallFix p m c cX5_areKnown 5 s args wsX5_areKnown RX5) (hr : meth.sig.returnType = (some .boolean)) (hlocks : meth.locks = false) (hK : va_K D vwCl [(cI, .int)] s) (hA : ∀ q, s.heap.size ≤ q → va_A w0 s.heap.size q) (σ : Mem) (x1 : Int32) (x2 : Int32) (x3 : Int32) (x4 : Int32) (hf : f_X5_areKnown σ x1 x2 x3 x4 = X) (H : Heap) (locs : List Loc) (hG : wI D vwCl (va_A w0 s.heap.size) s.heap H locs (RW ad cI σ)) (ls : Array Slot) (hl : lv_has ls 5 [(0, .ref (ad 0)), (1, .int x1), (2, .int x2), (3, .int x3), (4, .int x4)]) : W p l e ({ frames := 3, cells := 0, slots := 0, locals := 64 } : Room) s m args below meth c H locs 0 0 (MQ below (va_Qi (fun (r : Int32) (_ : Unit) => r = bI X) (fun u t => wPost D vwCl w0 s.heap.size ((fun _ => RW ad cI σ) u) t) (va_A w0 s.heap.size)) args s 0 0 (va_A w0 s.heap.size)) (F0 m 0 ls []) := by
  have hin := in_X5_areKnown
  unfold f_X5_areKnown at hf
  refine lv_iload_n S.1 S.2.1 dX5_areKnown_0 rfl (lv_at hl 1 rfl) ?_
  refine (Decidable.em (x1 = 0)).elim (fun c_1_0 => ?_) (fun c_1_0 => ?_)
  · have hf := ite_p c_1_0 hf
    refine lv_tableIn (off := 51) (tgt := 52) S.1 S.2.1 dX5_areKnown_1 (by rw [c_1_0]; decide) (by rw [c_1_0]; decide) (by rw [c_1_0]; rfl) (by decide) ?_
    refine lv_iload_n S.1 S.2.1 dX5_areKnown_52 rfl (lv_at hl 2 rfl) ?_
    refine r_callSi S hK hA hG (k_X5_isTank l _ _ _ _ _) (cwS 1 S.2.2.2.2 gX5_areKnown_X5_isTank rfl rfl rfl (by decide +kernel) ⟨Nat.le_of_ble_eq_true rfl, Nat.le_of_ble_eq_true rfl⟩) rfl hl.1 rfl (Nat.le_of_ble_eq_true rfl) dX5_areKnown_53 ⟨Nat.le_of_ble_eq_true rfl, Nat.le_of_ble_eq_true rfl⟩ (fun r53 _ H locs hw hG => ?_)
    obtain rfl := hw
    exact r_iret S hr hlocks hG () rfl (congrArg bI hf) (bI_nar (f_X5_isTank x2)) dX5_areKnown_56
  have hf := ite_n c_1_0 hf
  refine (Decidable.em (x1 = 1)).elim (fun c_1_1 => ?_) (fun c_1_1 => ?_)
  · have hf := ite_p c_1_1 hf
    refine lv_tableIn (off := 56) (tgt := 57) S.1 S.2.1 dX5_areKnown_1 (by rw [c_1_1]; decide) (by rw [c_1_1]; decide) (by rw [c_1_1]; rfl) (by decide) ?_
    refine lv_iload_n S.1 S.2.1 dX5_areKnown_57 rfl (lv_at hl 2 rfl) ?_
    refine r_callSi S hK hA hG (k_X5_isTank l _ _ _ _ _) (cwS 1 S.2.2.2.2 gX5_areKnown_X5_isTank rfl rfl rfl (by decide +kernel) ⟨Nat.le_of_ble_eq_true rfl, Nat.le_of_ble_eq_true rfl⟩) rfl hl.1 rfl (Nat.le_of_ble_eq_true rfl) dX5_areKnown_58 ⟨Nat.le_of_ble_eq_true rfl, Nat.le_of_ble_eq_true rfl⟩ (fun r58 _ H locs hw hG => ?_)
    obtain rfl := hw
    refine lv_if_eq (tgt := 75) S.1 S.2.1 dX5_areKnown_61 (by decide) (fun c_61 => ?_) (fun c_61 => ?_)
    · have hf := ite_p c_61 hf
      refine lv_iconst (v := 0) S.1 S.2.1 dX5_areKnown_75 (by decide) ?_
      exact r_iret S hr hlocks hG () rfl (congrArg bI hf) (bI_nar false) dX5_areKnown_76
    · have hf := ite_n c_61 hf
      refine lv_iload_n S.1 S.2.1 dX5_areKnown_64 rfl (lv_at hl 3 rfl) ?_
      refine r_callSi S hK hA hG (k_X5_isTank l _ _ _ _ _) (cwS 1 S.2.2.2.2 gX5_areKnown_X5_isTank rfl rfl rfl (by decide +kernel) ⟨Nat.le_of_ble_eq_true rfl, Nat.le_of_ble_eq_true rfl⟩) rfl hl.1 rfl (Nat.le_of_ble_eq_true rfl) dX5_areKnown_65 ⟨Nat.le_of_ble_eq_true rfl, Nat.le_of_ble_eq_true rfl⟩ (fun r65 _ H locs hw hG => ?_)
      obtain rfl := hw
      refine lv_if_eq (tgt := 75) S.1 S.2.1 dX5_areKnown_68 (by decide) (fun c_68 => ?_) (fun c_68 => ?_)
      · have hf := ite_p c_68 hf
        refine lv_iconst (v := 0) S.1 S.2.1 dX5_areKnown_75 (by decide) ?_
        exact r_iret S hr hlocks hG () rfl (congrArg bI hf) (bI_nar false) dX5_areKnown_76
      · have hf := ite_n c_68 hf
        refine lv_iconst (v := 1) S.1 S.2.1 dX5_areKnown_71 (by decide) ?_
        refine lv_goto (tgt := 76) S.1 S.2.1 dX5_areKnown_72 (by decide) ?_
        exact r_iret S hr hlocks hG () rfl (congrArg bI hf) (bI_nar true) dX5_areKnown_76
  have hf := ite_n c_1_1 hf
  refine (Decidable.em (x1 = 2)).elim (fun c_1_2 => ?_) (fun c_1_2 => ?_)
  · have hf := ite_p c_1_2 hf
    refine lv_tableIn (off := 76) (tgt := 77) S.1 S.2.1 dX5_areKnown_1 (by rw [c_1_2]; decide) (by rw [c_1_2]; decide) (by rw [c_1_2]; rfl) (by decide) ?_
    refine lv_aload_n S.1 S.2.1 dX5_areKnown_77 rfl (lv_at hl 0 rfl) ?_
    refine lv_iload_n S.1 S.2.1 dX5_areKnown_78 rfl (lv_at hl 2 rfl) ?_
    refine r_callVi S hK hA hG (k_X5_isRule l _ _ _ _ _) (cwV 1 S.2.2.2.2 gX5_areKnown_X5_isRule rfl rfl rfl (by decide +kernel) ⟨Nat.le_of_ble_eq_true rfl, Nat.le_of_ble_eq_true rfl⟩) (va_recv hK hG.1 (ci := 5) (q0 := 0) rfl rfl) rfl hl.1 rfl (Nat.le_of_ble_eq_true rfl) dX5_areKnown_79 ⟨Nat.le_of_ble_eq_true rfl, Nat.le_of_ble_eq_true rfl⟩ (fun r79 _ H locs hw hG => ?_)
    obtain rfl := hw
    refine lv_if_eq (tgt := 106) S.1 S.2.1 dX5_areKnown_82 (by decide) (fun c_82 => ?_) (fun c_82 => ?_)
    · have hf := ite_p c_82 hf
      refine lv_iconst (v := 0) S.1 S.2.1 dX5_areKnown_106 (by decide) ?_
      exact r_iret S hr hlocks hG () rfl (congrArg bI hf) (bI_nar false) dX5_areKnown_107
    · have hf := ite_n c_82 hf
      refine lv_aload_n S.1 S.2.1 dX5_areKnown_85 rfl (lv_at hl 0 rfl) ?_
      refine lv_iload_n S.1 S.2.1 dX5_areKnown_86 rfl (lv_at hl 3 rfl) ?_
      refine r_callVi S hK hA hG (k_X5_isActOrNone l _ _ _ _ _) (cwV 1 S.2.2.2.2 gX5_areKnown_X5_isActOrNone rfl rfl rfl (by decide +kernel) ⟨Nat.le_of_ble_eq_true rfl, Nat.le_of_ble_eq_true rfl⟩) (va_recv hK hG.1 (ci := 5) (q0 := 0) rfl rfl) rfl hl.1 rfl (Nat.le_of_ble_eq_true rfl) dX5_areKnown_87 ⟨Nat.le_of_ble_eq_true rfl, Nat.le_of_ble_eq_true rfl⟩ (fun r87 _ H locs hw hG => ?_)
      obtain rfl := hw
      refine lv_if_eq (tgt := 106) S.1 S.2.1 dX5_areKnown_90 (by decide) (fun c_90 => ?_) (fun c_90 => ?_)
      · have hf := ite_p c_90 hf
        refine lv_iconst (v := 0) S.1 S.2.1 dX5_areKnown_106 (by decide) ?_
        exact r_iret S hr hlocks hG () rfl (congrArg bI hf) (bI_nar false) dX5_areKnown_107
      · have hf := ite_n c_90 hf
        refine lv_aload_n S.1 S.2.1 dX5_areKnown_93 rfl (lv_at hl 0 rfl) ?_
        refine lv_iload S.1 S.2.1 dX5_areKnown_94 (lv_at hl 4 rfl) ?_
        refine r_callVi S hK hA hG (k_X5_isActOrNone l _ _ _ _ _) (cwV 1 S.2.2.2.2 gX5_areKnown_X5_isActOrNone rfl rfl rfl (by decide +kernel) ⟨Nat.le_of_ble_eq_true rfl, Nat.le_of_ble_eq_true rfl⟩) (va_recv hK hG.1 (ci := 5) (q0 := 0) rfl rfl) rfl hl.1 rfl (Nat.le_of_ble_eq_true rfl) dX5_areKnown_96 ⟨Nat.le_of_ble_eq_true rfl, Nat.le_of_ble_eq_true rfl⟩ (fun r96 _ H locs hw hG => ?_)
        obtain rfl := hw
        refine lv_if_eq (tgt := 106) S.1 S.2.1 dX5_areKnown_99 (by decide) (fun c_99 => ?_) (fun c_99 => ?_)
        · have hf := ite_p c_99 hf
          refine lv_iconst (v := 0) S.1 S.2.1 dX5_areKnown_106 (by decide) ?_
          exact r_iret S hr hlocks hG () rfl (congrArg bI hf) (bI_nar false) dX5_areKnown_107
        · have hf := ite_n c_99 hf
          refine lv_iconst (v := 1) S.1 S.2.1 dX5_areKnown_102 (by decide) ?_
          refine lv_goto (tgt := 107) S.1 S.2.1 dX5_areKnown_103 (by decide) ?_
          exact r_iret S hr hlocks hG () rfl (congrArg bI hf) (bI_nar true) dX5_areKnown_107
  have hf := ite_n c_1_2 hf
  refine (Decidable.em (x1 = 3)).elim (fun c_1_3 => ?_) (fun c_1_3 => ?_)
  · have hf := ite_p c_1_3 hf
    refine lv_tableIn (off := 107) (tgt := 108) S.1 S.2.1 dX5_areKnown_1 (by rw [c_1_3]; decide) (by rw [c_1_3]; decide) (by rw [c_1_3]; rfl) (by decide) ?_
    refine lv_aload_n S.1 S.2.1 dX5_areKnown_108 rfl (lv_at hl 0 rfl) ?_
    refine lv_iload_n S.1 S.2.1 dX5_areKnown_109 rfl (lv_at hl 2 rfl) ?_
    refine r_callVi S hK hA hG (k_X5_isAct l _ _ _ _ _) (cwV 1 S.2.2.2.2 gX5_areKnown_X5_isAct rfl rfl rfl (by decide +kernel) ⟨Nat.le_of_ble_eq_true rfl, Nat.le_of_ble_eq_true rfl⟩) (va_recv hK hG.1 (ci := 5) (q0 := 0) rfl rfl) rfl hl.1 rfl (Nat.le_of_ble_eq_true rfl) dX5_areKnown_110 ⟨Nat.le_of_ble_eq_true rfl, Nat.le_of_ble_eq_true rfl⟩ (fun r110 _ H locs hw hG => ?_)
    obtain rfl := hw
    refine lv_if_eq (tgt := 128) S.1 S.2.1 dX5_areKnown_113 (by decide) (fun c_113 => ?_) (fun c_113 => ?_)
    · have hf := ite_p c_113 hf
      refine lv_iconst (v := 0) S.1 S.2.1 dX5_areKnown_128 (by decide) ?_
      exact r_iret S hr hlocks hG () rfl (congrArg bI hf) (bI_nar false) dX5_areKnown_129
    · have hf := ite_n c_113 hf
      refine lv_aload_n S.1 S.2.1 dX5_areKnown_116 rfl (lv_at hl 0 rfl) ?_
      refine lv_iload_n S.1 S.2.1 dX5_areKnown_117 rfl (lv_at hl 3 rfl) ?_
      refine r_callVi S hK hA hG (k_X5_isAct l _ _ _ _ _) (cwV 1 S.2.2.2.2 gX5_areKnown_X5_isAct rfl rfl rfl (by decide +kernel) ⟨Nat.le_of_ble_eq_true rfl, Nat.le_of_ble_eq_true rfl⟩) (va_recv hK hG.1 (ci := 5) (q0 := 0) rfl rfl) rfl hl.1 rfl (Nat.le_of_ble_eq_true rfl) dX5_areKnown_118 ⟨Nat.le_of_ble_eq_true rfl, Nat.le_of_ble_eq_true rfl⟩ (fun r118 _ H locs hw hG => ?_)
      obtain rfl := hw
      refine lv_if_eq (tgt := 128) S.1 S.2.1 dX5_areKnown_121 (by decide) (fun c_121 => ?_) (fun c_121 => ?_)
      · have hf := ite_p c_121 hf
        refine lv_iconst (v := 0) S.1 S.2.1 dX5_areKnown_128 (by decide) ?_
        exact r_iret S hr hlocks hG () rfl (congrArg bI hf) (bI_nar false) dX5_areKnown_129
      · have hf := ite_n c_121 hf
        refine lv_iconst (v := 1) S.1 S.2.1 dX5_areKnown_124 (by decide) ?_
        refine lv_goto (tgt := 129) S.1 S.2.1 dX5_areKnown_125 (by decide) ?_
        exact r_iret S hr hlocks hG () rfl (congrArg bI hf) (bI_nar true) dX5_areKnown_129
  have hf := ite_n c_1_3 hf
  refine (Decidable.em (x1 = 4)).elim (fun c_1_4 => ?_) (fun c_1_4 => ?_)
  · have hf := ite_p c_1_4 hf
    refine lv_tableIn (off := 129) (tgt := 130) S.1 S.2.1 dX5_areKnown_1 (by rw [c_1_4]; decide) (by rw [c_1_4]; decide) (by rw [c_1_4]; rfl) (by decide) ?_
    refine lv_aload_n S.1 S.2.1 dX5_areKnown_130 rfl (lv_at hl 0 rfl) ?_
    refine lv_iload_n S.1 S.2.1 dX5_areKnown_131 rfl (lv_at hl 2 rfl) ?_
    refine r_callVi S hK hA hG (k_X5_isAct l _ _ _ _ _) (cwV 1 S.2.2.2.2 gX5_areKnown_X5_isAct rfl rfl rfl (by decide +kernel) ⟨Nat.le_of_ble_eq_true rfl, Nat.le_of_ble_eq_true rfl⟩) (va_recv hK hG.1 (ci := 5) (q0 := 0) rfl rfl) rfl hl.1 rfl (Nat.le_of_ble_eq_true rfl) dX5_areKnown_132 ⟨Nat.le_of_ble_eq_true rfl, Nat.le_of_ble_eq_true rfl⟩ (fun r132 _ H locs hw hG => ?_)
    obtain rfl := hw
    exact r_iret S hr hlocks hG () rfl (congrArg bI hf) (bI_nar (f_X5_isAct σ x2)) dX5_areKnown_135
  have hf := ite_n c_1_4 hf
  refine (Decidable.em (x1 = 5)).elim (fun c_1_5 => ?_) (fun c_1_5 => ?_)
  · have hf := ite_p c_1_5 hf
    refine lv_tableIn (off := 129) (tgt := 130) S.1 S.2.1 dX5_areKnown_1 (by rw [c_1_5]; decide) (by rw [c_1_5]; decide) (by rw [c_1_5]; rfl) (by decide) ?_
    refine lv_aload_n S.1 S.2.1 dX5_areKnown_130 rfl (lv_at hl 0 rfl) ?_
    refine lv_iload_n S.1 S.2.1 dX5_areKnown_131 rfl (lv_at hl 2 rfl) ?_
    refine r_callVi S hK hA hG (k_X5_isAct l _ _ _ _ _) (cwV 1 S.2.2.2.2 gX5_areKnown_X5_isAct rfl rfl rfl (by decide +kernel) ⟨Nat.le_of_ble_eq_true rfl, Nat.le_of_ble_eq_true rfl⟩) (va_recv hK hG.1 (ci := 5) (q0 := 0) rfl rfl) rfl hl.1 rfl (Nat.le_of_ble_eq_true rfl) dX5_areKnown_132 ⟨Nat.le_of_ble_eq_true rfl, Nat.le_of_ble_eq_true rfl⟩ (fun r132 _ H locs hw hG => ?_)
    obtain rfl := hw
    exact r_iret S hr hlocks hG () rfl (congrArg bI hf) (bI_nar (f_X5_isAct σ x2)) dX5_areKnown_135
  have hf := ite_n c_1_5 hf
  refine (Decidable.em (x1 = 6)).elim (fun c_1_6 => ?_) (fun c_1_6 => ?_)
  · have hf := ite_p c_1_6 hf
    refine lv_tableIn (off := 107) (tgt := 108) S.1 S.2.1 dX5_areKnown_1 (by rw [c_1_6]; decide) (by rw [c_1_6]; decide) (by rw [c_1_6]; rfl) (by decide) ?_
    refine lv_aload_n S.1 S.2.1 dX5_areKnown_108 rfl (lv_at hl 0 rfl) ?_
    refine lv_iload_n S.1 S.2.1 dX5_areKnown_109 rfl (lv_at hl 2 rfl) ?_
    refine r_callVi S hK hA hG (k_X5_isAct l _ _ _ _ _) (cwV 1 S.2.2.2.2 gX5_areKnown_X5_isAct rfl rfl rfl (by decide +kernel) ⟨Nat.le_of_ble_eq_true rfl, Nat.le_of_ble_eq_true rfl⟩) (va_recv hK hG.1 (ci := 5) (q0 := 0) rfl rfl) rfl hl.1 rfl (Nat.le_of_ble_eq_true rfl) dX5_areKnown_110 ⟨Nat.le_of_ble_eq_true rfl, Nat.le_of_ble_eq_true rfl⟩ (fun r110 _ H locs hw hG => ?_)
    obtain rfl := hw
    refine lv_if_eq (tgt := 128) S.1 S.2.1 dX5_areKnown_113 (by decide) (fun c_113 => ?_) (fun c_113 => ?_)
    · have hf := ite_p c_113 hf
      refine lv_iconst (v := 0) S.1 S.2.1 dX5_areKnown_128 (by decide) ?_
      exact r_iret S hr hlocks hG () rfl (congrArg bI hf) (bI_nar false) dX5_areKnown_129
    · have hf := ite_n c_113 hf
      refine lv_aload_n S.1 S.2.1 dX5_areKnown_116 rfl (lv_at hl 0 rfl) ?_
      refine lv_iload_n S.1 S.2.1 dX5_areKnown_117 rfl (lv_at hl 3 rfl) ?_
      refine r_callVi S hK hA hG (k_X5_isAct l _ _ _ _ _) (cwV 1 S.2.2.2.2 gX5_areKnown_X5_isAct rfl rfl rfl (by decide +kernel) ⟨Nat.le_of_ble_eq_true rfl, Nat.le_of_ble_eq_true rfl⟩) (va_recv hK hG.1 (ci := 5) (q0 := 0) rfl rfl) rfl hl.1 rfl (Nat.le_of_ble_eq_true rfl) dX5_areKnown_118 ⟨Nat.le_of_ble_eq_true rfl, Nat.le_of_ble_eq_true rfl⟩ (fun r118 _ H locs hw hG => ?_)
      obtain rfl := hw
      refine lv_if_eq (tgt := 128) S.1 S.2.1 dX5_areKnown_121 (by decide) (fun c_121 => ?_) (fun c_121 => ?_)
      · have hf := ite_p c_121 hf
        refine lv_iconst (v := 0) S.1 S.2.1 dX5_areKnown_128 (by decide) ?_
        exact r_iret S hr hlocks hG () rfl (congrArg bI hf) (bI_nar false) dX5_areKnown_129
      · have hf := ite_n c_121 hf
        refine lv_iconst (v := 1) S.1 S.2.1 dX5_areKnown_124 (by decide) ?_
        refine lv_goto (tgt := 129) S.1 S.2.1 dX5_areKnown_125 (by decide) ?_
        exact r_iret S hr hlocks hG () rfl (congrArg bI hf) (bI_nar true) dX5_areKnown_129
  have hf := ite_n c_1_6 hf
  refine (Decidable.em (x1 = 7)).elim (fun c_1_7 => ?_) (fun c_1_7 => ?_)
  · have hf := ite_p c_1_7 hf
    refine lv_tableIn (off := 155) (tgt := 156) S.1 S.2.1 dX5_areKnown_1 (by rw [c_1_7]; decide) (by rw [c_1_7]; decide) (by rw [c_1_7]; rfl) (by decide) ?_
    refine lv_iconst (v := 1) S.1 S.2.1 dX5_areKnown_156 (by decide) ?_
    exact r_iret S hr hlocks hG () rfl (congrArg bI hf) (bI_nar true) dX5_areKnown_157
  have hf := ite_n c_1_7 hf
  refine (Decidable.em (x1 = 8)).elim (fun c_1_8 => ?_) (fun c_1_8 => ?_)
  · have hf := ite_p c_1_8 hf
    refine lv_tableIn (off := 135) (tgt := 136) S.1 S.2.1 dX5_areKnown_1 (by rw [c_1_8]; decide) (by rw [c_1_8]; decide) (by rw [c_1_8]; rfl) (by decide) ?_
    refine lv_iload_n S.1 S.2.1 dX5_areKnown_136 rfl (lv_at hl 2 rfl) ?_
    refine r_callSi S hK hA hG (k_X5_isSensor l _ _ _ _ _) (cwS 1 S.2.2.2.2 gX5_areKnown_X5_isSensor rfl rfl rfl (by decide +kernel) ⟨Nat.le_of_ble_eq_true rfl, Nat.le_of_ble_eq_true rfl⟩) rfl hl.1 rfl (Nat.le_of_ble_eq_true rfl) dX5_areKnown_137 ⟨Nat.le_of_ble_eq_true rfl, Nat.le_of_ble_eq_true rfl⟩ (fun r137 _ H locs hw hG => ?_)
    obtain rfl := hw
    refine lv_if_eq (tgt := 154) S.1 S.2.1 dX5_areKnown_140 (by decide) (fun c_140 => ?_) (fun c_140 => ?_)
    · have hf := ite_p c_140 hf
      refine lv_iconst (v := 0) S.1 S.2.1 dX5_areKnown_154 (by decide) ?_
      exact r_iret S hr hlocks hG () rfl (congrArg bI hf) (bI_nar false) dX5_areKnown_155
    · have hf := ite_n c_140 hf
      refine lv_iload_n S.1 S.2.1 dX5_areKnown_143 rfl (lv_at hl 3 rfl) ?_
      refine r_callSi S hK hA hG (k_X5_isTank l _ _ _ _ _) (cwS 1 S.2.2.2.2 gX5_areKnown_X5_isTank rfl rfl rfl (by decide +kernel) ⟨Nat.le_of_ble_eq_true rfl, Nat.le_of_ble_eq_true rfl⟩) rfl hl.1 rfl (Nat.le_of_ble_eq_true rfl) dX5_areKnown_144 ⟨Nat.le_of_ble_eq_true rfl, Nat.le_of_ble_eq_true rfl⟩ (fun r144 _ H locs hw hG => ?_)
      obtain rfl := hw
      refine lv_if_eq (tgt := 154) S.1 S.2.1 dX5_areKnown_147 (by decide) (fun c_147 => ?_) (fun c_147 => ?_)
      · have hf := ite_p c_147 hf
        refine lv_iconst (v := 0) S.1 S.2.1 dX5_areKnown_154 (by decide) ?_
        exact r_iret S hr hlocks hG () rfl (congrArg bI hf) (bI_nar false) dX5_areKnown_155
      · have hf := ite_n c_147 hf
        refine lv_iconst (v := 1) S.1 S.2.1 dX5_areKnown_150 (by decide) ?_
        refine lv_goto (tgt := 155) S.1 S.2.1 dX5_areKnown_151 (by decide) ?_
        exact r_iret S hr hlocks hG () rfl (congrArg bI hf) (bI_nar true) dX5_areKnown_155
  have hf := ite_n c_1_8 hf
  refine lv_tableOut (tgt := 156) S.1 S.2.1 dX5_areKnown_1 (by have h0 := sw_ne (z := 0) rfl c_1_0; have h1 := sw_ne (z := 1) rfl c_1_1; have h2 := sw_ne (z := 2) rfl c_1_2; have h3 := sw_ne (z := 3) rfl c_1_3; have h4 := sw_ne (z := 4) rfl c_1_4; have h5 := sw_ne (z := 5) rfl c_1_5; have h6 := sw_ne (z := 6) rfl c_1_6; have h7 := sw_ne (z := 7) rfl c_1_7; have h8 := sw_ne (z := 8) rfl c_1_8; omega) (by decide) ?_
  refine lv_iconst (v := 1) S.1 S.2.1 dX5_areKnown_156 (by decide) ?_
  exact r_iret S hr hlocks hG () rfl (congrArg bI hf) (bI_nar true) dX5_areKnown_157
theorem k_X5_areKnown (l : Launch) (D : va_G) (cI : ClassId) (ad : Nat → Nat) (σ : Mem) (x1 : Int32) (x2 : Int32) (x3 : Int32) (x4 : Int32) : CMi l yX5_areKnown wsX5_areKnown ({ frames := 3, cells := 0, slots := 0, locals := 64 } : Room) D vwCl [(cI, .int)] (RW ad cI σ) [.ref (ad 0), .int x1, .int x2, .int x3, .int x4] (fun (r : Int32) (_ : Unit) => r = bI (f_X5_areKnown σ x1 x2 x3 x4)) (fun _ => RW ad cI σ) :=
  r_met (by decide) rfl (Nat.le_of_ble_eq_true rfl) (fun p e s m args below meth c ls S hr hlocks _ hK hA hG hl => b_X5_areKnown_0 S hr hlocks hK hA σ x1 x2 x3 x4 rfl _ _ hG ls hl)
theorem in_X5_rule : ∀ w ∈ wsX50, w ∈ wsX5_rule := by decide +kernel
def f_X5_rule_116 (σ : Mem) (x1 : Int32) (x2 : Int32) (x3 : Int32) (x4 : Int32) : Int32 × Mem :=
  (if (σ 0 3) = 40 then
  ((-4), σ)
  else
  bnd (mset σ 5 (σ 0 3).toNatClampNeg x1) fun σ1 =>
  bnd (mset σ1 6 (σ 0 3).toNatClampNeg x2) fun σ2 =>
  bnd (mset σ2 7 (σ 0 3).toNatClampNeg x3) fun σ3 =>
  bnd (mset σ3 8 (σ 0 3).toNatClampNeg x4) fun σ4 =>
  (if x1 = 2 then
  bnd (mset σ4 9 (σ 0 3).toNatClampNeg (σ4 1 x2.toNatClampNeg)) fun σ7 =>
  bnd (mset σ7 0 3 ((σ 0 3) + 1)) fun σ8 =>
  (((σ 0 3) + 1) - 1, σ8)
  else
  bnd (mset σ4 9 (σ 0 3).toNatClampNeg 0) fun σ5 =>
  bnd (mset σ5 0 3 ((σ 0 3) + 1)) fun σ6 =>
  (((σ 0 3) + 1) - 1, σ6)))
set_option maxRecDepth 100000 in
set_option maxHeartbeats 4000000 in
theorem b_X5_rule_116 {p : Program} {l : Launch} {e : Env} {s : State} {m : MethodId} {args : Array Value} {below : List Frame} {meth : Method} {c : Code} {D : va_G} {cI : ClassId} {ad : Nat → Nat} {w0 : va_W} {X : Int32 × Mem} (S : CallFix p m c cX5_rule 6 s args wsX5_rule RX5) (hr : meth.sig.returnType = (some .int)) (hlocks : meth.locks = false) (hK : va_K D vwCl [(cI, .int)] s) (hA : ∀ q, s.heap.size ≤ q → va_A w0 s.heap.size q) (σ : Mem) (x1 : Int32) (x2 : Int32) (x3 : Int32) (x4 : Int32) (hc : ∃ n : Nat, n ≤ 40 ∧ σ 0 3 = nI n) (hk : x1 = 2 → vp_in x2 8) (hf : f_X5_rule_116 σ x1 x2 x3 x4 = X) (H : Heap) (locs : List Loc) (hG : wI D vwCl (va_A w0 s.heap.size) s.heap H locs (RW ad cI σ)) (ls : Array Slot) (hl : lv_has ls 6 [(0, .ref (ad 0)), (1, .int x1), (2, .int x2), (3, .int x3), (4, .int x4)]) : W p l e ({ frames := 2, cells := 0, slots := 0, locals := 43 } : Room) s m args below meth c H locs 0 0 (MQ below (va_Qi (fun (r : Int32) (u : Mem) => (r, u) = X) (fun u t => wPost D vwCl w0 s.heap.size ((fun u => RW ad cI u) u) t) (va_A w0 s.heap.size)) args s 0 0 (va_A w0 s.heap.size)) (F0 m 116 ls []) := by
  have hin := in_X5_rule
  unfold f_X5_rule_116 at hf
  refine lv_aload_n S.1 S.2.1 dX5_rule_116 rfl (lv_at hl 0 rfl) ?_
  refine M_get S hin hK hG 3 (by decide) (by decide +kernel) rfl dX5_rule_117 ?_
  refine lv_bipush (v := 40) S.1 S.2.1 dX5_rule_120 (by decide) ?_
  refine lv_icmp_ne (tgt := 128) S.1 S.2.1 dX5_rule_122 (by decide) (fun c_122 => ?_) (fun c_122 => ?_)
  · have hf := ite_n c_122 hf
    refine lv_aload_n S.1 S.2.1 dX5_rule_128 rfl (lv_at hl 0 rfl) ?_
    refine M_get S hin hK hG 4 (by decide) (by decide +kernel) rfl dX5_rule_129 ?_
    refine lv_aload_n S.1 S.2.1 dX5_rule_132 rfl (lv_at hl 0 rfl) ?_
    refine M_get S hin hK hG 3 (by decide) (by decide +kernel) rfl dX5_rule_133 ?_
    refine lv_iload_n S.1 S.2.1 dX5_rule_136 rfl (lv_at hl 1 rfl) ?_
    refine M_ast S hK hG 5 3 40 rfl (ri_cnt hc c_122) (RWs_5 _ _ _ _ _) dX5_rule_137 (fun σ1 H locs e_σ1 hG => ?_)
    have hf := bnd_p e_σ1 hf
    refine lv_aload_n S.1 S.2.1 dX5_rule_138 rfl (lv_at hl 0 rfl) ?_
    refine M_get S hin hK hG 5 (by decide) (by decide +kernel) rfl dX5_rule_139 ?_
    refine lv_aload_n S.1 S.2.1 dX5_rule_142 rfl (lv_at hl 0 rfl) ?_
    refine M_get S hin hK hG 3 (v := .int (σ 0 3)) (by decide) (by decide +kernel) (by rw [e_σ1]; rfl) dX5_rule_143 ?_
    refine lv_iload_n S.1 S.2.1 dX5_rule_146 rfl (lv_at hl 2 rfl) ?_
    refine M_ast S hK hG 6 4 40 rfl (ri_cnt hc c_122) (RWs_6 _ _ _ _ _) dX5_rule_147 (fun σ2 H locs e_σ2 hG => ?_)
    have hf := bnd_p e_σ2 hf
    refine lv_aload_n S.1 S.2.1 dX5_rule_148 rfl (lv_at hl 0 rfl) ?_
    refine M_get S hin hK hG 6 (by decide) (by decide +kernel) rfl dX5_rule_149 ?_
    refine lv_aload_n S.1 S.2.1 dX5_rule_152 rfl (lv_at hl 0 rfl) ?_
    refine M_get S hin hK hG 3 (v := .int (σ 0 3)) (by decide) (by decide +kernel) (by rw [e_σ2, e_σ1]; rfl) dX5_rule_153 ?_
    refine lv_iload_n S.1 S.2.1 dX5_rule_156 rfl (lv_at hl 3 rfl) ?_
    refine M_ast S hK hG 7 5 40 rfl (ri_cnt hc c_122) (RWs_7 _ _ _ _ _) dX5_rule_157 (fun σ3 H locs e_σ3 hG => ?_)
    have hf := bnd_p e_σ3 hf
    refine lv_aload_n S.1 S.2.1 dX5_rule_158 rfl (lv_at hl 0 rfl) ?_
    refine M_get S hin hK hG 7 (by decide) (by decide +kernel) rfl dX5_rule_159 ?_
    refine lv_aload_n S.1 S.2.1 dX5_rule_162 rfl (lv_at hl 0 rfl) ?_
    refine M_get S hin hK hG 3 (v := .int (σ 0 3)) (by decide) (by decide +kernel) (by rw [e_σ3, e_σ2, e_σ1]; rfl) dX5_rule_163 ?_
    refine lv_iload S.1 S.2.1 dX5_rule_166 (lv_at hl 4 rfl) ?_
    refine M_ast S hK hG 8 6 40 rfl (ri_cnt hc c_122) (RWs_8 _ _ _ _ _) dX5_rule_168 (fun σ4 H locs e_σ4 hG => ?_)
    have hf := bnd_p e_σ4 hf
    refine lv_aload_n S.1 S.2.1 dX5_rule_169 rfl (lv_at hl 0 rfl) ?_
    refine M_get S hin hK hG 8 (by decide) (by decide +kernel) rfl dX5_rule_170 ?_
    refine lv_aload_n S.1 S.2.1 dX5_rule_173 rfl (lv_at hl 0 rfl) ?_
    refine M_get S hin hK hG 3 (v := .int (σ 0 3)) (by decide) (by decide +kernel) (by rw [e_σ4, e_σ3, e_σ2, e_σ1]; rfl) dX5_rule_174 ?_
    refine lv_iload_n S.1 S.2.1 dX5_rule_177 rfl (lv_at hl 1 rfl) ?_
    refine lv_iconst (v := 2) S.1 S.2.1 dX5_rule_178 (by decide) ?_
    refine lv_icmp_ne (tgt := 191) S.1 S.2.1 dX5_rule_179 (by decide) (fun c_179 => ?_) (fun c_179 => ?_)
    · have hf := ite_n c_179 hf
      refine lv_iconst (v := 0) S.1 S.2.1 dX5_rule_191 (by decide) ?_
      refine M_ast S hK hG 9 7 40 rfl (ri_cnt hc c_122) (RWs_9 _ _ _ _ _) dX5_rule_192 (fun σ5 H locs e_σ5 hG => ?_)
      have hf := bnd_p e_σ5 hf
      refine lv_aload_n S.1 S.2.1 dX5_rule_193 rfl (lv_at hl 0 rfl) ?_
      refine lv_dup S.1 S.2.1 dX5_rule_194 rfl ?_
      refine M_get S hin hK hG 3 (v := .int (σ 0 3)) (by decide) (by decide +kernel) (by rw [e_σ5, e_σ4, e_σ3, e_σ2, e_σ1]; rfl) dX5_rule_195 ?_
      refine lv_iconst (v := 1) S.1 S.2.1 dX5_rule_198 (by decide) ?_
      refine lv_iadd S.1 S.2.1 dX5_rule_199 ?_
      refine M_put S hin hK hG 3 (by decide) (by decide +kernel) rfl rfl rfl (RWp_3 _ _ _ _) dX5_rule_200 (fun σ6 H locs e_σ6 hG => ?_)
      have hf := bnd_p e_σ6 hf
      refine lv_aload_n S.1 S.2.1 dX5_rule_203 rfl (lv_at hl 0 rfl) ?_
      refine M_get S hin hK hG 3 (v := .int ((σ 0 3) + 1)) (by decide) (by decide +kernel) (by rw [e_σ6]; rfl) dX5_rule_204 ?_
      refine lv_iconst (v := 1) S.1 S.2.1 dX5_rule_207 (by decide) ?_
      refine lv_isub S.1 S.2.1 dX5_rule_208 ?_
      exact r_iret S hr hlocks hG _ rfl hf rfl dX5_rule_209
    · have hf := ite_p c_179 hf
      refine lv_aload_n S.1 S.2.1 dX5_rule_182 rfl (lv_at hl 0 rfl) ?_
      refine M_get S hin hK hG 0 (by decide) (by decide +kernel) rfl dX5_rule_183 ?_
      refine lv_iload_n S.1 S.2.1 dX5_rule_186 rfl (lv_at hl 2 rfl) ?_
      refine r_iald S hK hG 1 0 rfl rfl (hk c_179) dX5_rule_187 ?_
      refine lv_goto (tgt := 192) S.1 S.2.1 dX5_rule_188 (by decide) ?_
      refine M_ast S hK hG 9 7 40 rfl (ri_cnt hc c_122) (RWs_9 _ _ _ _ _) dX5_rule_192 (fun σ7 H locs e_σ7 hG => ?_)
      have hf := bnd_p e_σ7 hf
      refine lv_aload_n S.1 S.2.1 dX5_rule_193 rfl (lv_at hl 0 rfl) ?_
      refine lv_dup S.1 S.2.1 dX5_rule_194 rfl ?_
      refine M_get S hin hK hG 3 (v := .int (σ 0 3)) (by decide) (by decide +kernel) (by rw [e_σ7, e_σ4, e_σ3, e_σ2, e_σ1]; rfl) dX5_rule_195 ?_
      refine lv_iconst (v := 1) S.1 S.2.1 dX5_rule_198 (by decide) ?_
      refine lv_iadd S.1 S.2.1 dX5_rule_199 ?_
      refine M_put S hin hK hG 3 (by decide) (by decide +kernel) rfl rfl rfl (RWp_3 _ _ _ _) dX5_rule_200 (fun σ8 H locs e_σ8 hG => ?_)
      have hf := bnd_p e_σ8 hf
      refine lv_aload_n S.1 S.2.1 dX5_rule_203 rfl (lv_at hl 0 rfl) ?_
      refine M_get S hin hK hG 3 (v := .int ((σ 0 3) + 1)) (by decide) (by decide +kernel) (by rw [e_σ8]; rfl) dX5_rule_204 ?_
      refine lv_iconst (v := 1) S.1 S.2.1 dX5_rule_207 (by decide) ?_
      refine lv_isub S.1 S.2.1 dX5_rule_208 ?_
      exact r_iret S hr hlocks hG _ rfl hf rfl dX5_rule_209
  · have hf := ite_p c_122 hf
    refine lv_bipush (v := (-4)) S.1 S.2.1 dX5_rule_125 (by decide) ?_
    exact r_iret S hr hlocks hG _ rfl hf rfl dX5_rule_127
def f_X5_rule_103 (σ : Mem) (x1 : Int32) (x2 : Int32) (x3 : Int32) (x4 : Int32) : Int32 × Mem :=
  (if x1 = 1 then
  (if 0 ≤ x4 then
  f_X5_rule_116 σ x1 x2 x3 x4
  else
  ((-3), σ))
  else
  f_X5_rule_116 σ x1 x2 x3 x4)
set_option maxRecDepth 100000 in
set_option maxHeartbeats 4000000 in
theorem b_X5_rule_103 {p : Program} {l : Launch} {e : Env} {s : State} {m : MethodId} {args : Array Value} {below : List Frame} {meth : Method} {c : Code} {D : va_G} {cI : ClassId} {ad : Nat → Nat} {w0 : va_W} {X : Int32 × Mem} (S : CallFix p m c cX5_rule 6 s args wsX5_rule RX5) (hr : meth.sig.returnType = (some .int)) (hlocks : meth.locks = false) (hK : va_K D vwCl [(cI, .int)] s) (hA : ∀ q, s.heap.size ≤ q → va_A w0 s.heap.size q) (σ : Mem) (x1 : Int32) (x2 : Int32) (x3 : Int32) (x4 : Int32) (hc : ∃ n : Nat, n ≤ 40 ∧ σ 0 3 = nI n) (hk : x1 = 2 → vp_in x2 8) (hf : f_X5_rule_103 σ x1 x2 x3 x4 = X) (H : Heap) (locs : List Loc) (hG : wI D vwCl (va_A w0 s.heap.size) s.heap H locs (RW ad cI σ)) (ls : Array Slot) (hl : lv_has ls 6 [(0, .ref (ad 0)), (1, .int x1), (2, .int x2), (3, .int x3), (4, .int x4)]) : W p l e ({ frames := 2, cells := 0, slots := 0, locals := 43 } : Room) s m args below meth c H locs 0 0 (MQ below (va_Qi (fun (r : Int32) (u : Mem) => (r, u) = X) (fun u t => wPost D vwCl w0 s.heap.size ((fun u => RW ad cI u) u) t) (va_A w0 s.heap.size)) args s 0 0 (va_A w0 s.heap.size)) (F0 m 103 ls []) := by
  have hin := in_X5_rule
  unfold f_X5_rule_103 at hf
  refine lv_iload_n S.1 S.2.1 dX5_rule_103 rfl (lv_at hl 1 rfl) ?_
  refine lv_iconst (v := 1) S.1 S.2.1 dX5_rule_104 (by decide) ?_
  refine lv_icmp_ne (tgt := 116) S.1 S.2.1 dX5_rule_105 (by decide) (fun c_105 => ?_) (fun c_105 => ?_)
  · have hf := ite_n c_105 hf
    exact b_X5_rule_116 S hr hlocks hK hA σ x1 x2 x3 x4 (hc) (hk) hf H locs hG ls (lv_sub hl [0, 1, 2, 3, 4] rfl)
  · have hf := ite_p c_105 hf
    refine lv_iload S.1 S.2.1 dX5_rule_108 (lv_at hl 4 rfl) ?_
    refine lv_if_ge (tgt := 116) S.1 S.2.1 dX5_rule_110 (by decide) (fun c_110 => ?_) (fun c_110 => ?_)
    · have hf := ite_p c_110 hf
      exact b_X5_rule_116 S hr hlocks hK hA σ x1 x2 x3 x4 (hc) (hk) hf H locs hG ls (lv_sub hl [0, 1, 2, 3, 4] rfl)
    · have hf := ite_n c_110 hf
      refine lv_bipush (v := (-3)) S.1 S.2.1 dX5_rule_113 (by decide) ?_
      exact r_iret S hr hlocks hG _ rfl hf rfl dX5_rule_115
def f_X5_rule_87 (σ : Mem) (x1 : Int32) (x2 : Int32) (x3 : Int32) (x4 : Int32) : Int32 × Mem :=
  (if x1 = 8 then
  (if (bI (f_X5_in x3 1 100)) = 0 then
  ((-3), σ)
  else
  f_X5_rule_103 σ x1 x2 x3 x4)
  else
  f_X5_rule_103 σ x1 x2 x3 x4)
set_option maxRecDepth 100000 in
set_option maxHeartbeats 4000000 in
theorem b_X5_rule_87 {p : Program} {l : Launch} {e : Env} {s : State} {m : MethodId} {args : Array Value} {below : List Frame} {meth : Method} {c : Code} {D : va_G} {cI : ClassId} {ad : Nat → Nat} {w0 : va_W} {X : Int32 × Mem} (S : CallFix p m c cX5_rule 6 s args wsX5_rule RX5) (hr : meth.sig.returnType = (some .int)) (hlocks : meth.locks = false) (hK : va_K D vwCl [(cI, .int)] s) (hA : ∀ q, s.heap.size ≤ q → va_A w0 s.heap.size q) (σ : Mem) (x1 : Int32) (x2 : Int32) (x3 : Int32) (x4 : Int32) (hc : ∃ n : Nat, n ≤ 40 ∧ σ 0 3 = nI n) (hk : x1 = 2 → vp_in x2 8) (hf : f_X5_rule_87 σ x1 x2 x3 x4 = X) (H : Heap) (locs : List Loc) (hG : wI D vwCl (va_A w0 s.heap.size) s.heap H locs (RW ad cI σ)) (ls : Array Slot) (hl : lv_has ls 6 [(0, .ref (ad 0)), (1, .int x1), (2, .int x2), (3, .int x3), (4, .int x4)]) : W p l e ({ frames := 2, cells := 0, slots := 0, locals := 43 } : Room) s m args below meth c H locs 0 0 (MQ below (va_Qi (fun (r : Int32) (u : Mem) => (r, u) = X) (fun u t => wPost D vwCl w0 s.heap.size ((fun u => RW ad cI u) u) t) (va_A w0 s.heap.size)) args s 0 0 (va_A w0 s.heap.size)) (F0 m 87 ls []) := by
  have hin := in_X5_rule
  unfold f_X5_rule_87 at hf
  refine lv_iload_n S.1 S.2.1 dX5_rule_87 rfl (lv_at hl 1 rfl) ?_
  refine lv_bipush (v := 8) S.1 S.2.1 dX5_rule_88 (by decide) ?_
  refine lv_icmp_ne (tgt := 103) S.1 S.2.1 dX5_rule_90 (by decide) (fun c_90 => ?_) (fun c_90 => ?_)
  · have hf := ite_n c_90 hf
    exact b_X5_rule_103 S hr hlocks hK hA σ x1 x2 x3 x4 (hc) (hk) hf H locs hG ls (lv_sub hl [0, 1, 2, 3, 4] rfl)
  · have hf := ite_p c_90 hf
    refine lv_iload_n S.1 S.2.1 dX5_rule_93 rfl (lv_at hl 3 rfl) ?_
    refine lv_iconst (v := 1) S.1 S.2.1 dX5_rule_94 (by decide) ?_
    refine lv_bipush (v := 100) S.1 S.2.1 dX5_rule_95 (by decide) ?_
    refine r_callSi S hK hA hG (k_X5_in l _ _ _ _ _ _ _) (cwS 3 S.2.2.2.2 gX5_rule_X5_in rfl rfl rfl (by decide +kernel) ⟨Nat.le_of_ble_eq_true rfl, Nat.le_of_ble_eq_true rfl⟩) rfl hl.1 rfl (Nat.le_of_ble_eq_true rfl) dX5_rule_97 ⟨Nat.le_of_ble_eq_true rfl, Nat.le_of_ble_eq_true rfl⟩ (fun r97 _ H locs hw hG => ?_)
    obtain rfl := hw
    refine lv_if_eq (tgt := 113) S.1 S.2.1 dX5_rule_100 (by decide) (fun c_100 => ?_) (fun c_100 => ?_)
    · have hf := ite_p c_100 hf
      refine lv_bipush (v := (-3)) S.1 S.2.1 dX5_rule_113 (by decide) ?_
      exact r_iret S hr hlocks hG _ rfl hf rfl dX5_rule_115
    · have hf := ite_n c_100 hf
      exact b_X5_rule_103 S hr hlocks hK hA σ x1 x2 x3 x4 (hc) (hk) hf H locs hG ls (lv_sub hl [0, 1, 2, 3, 4] rfl)
def f_X5_rule (σ : Mem) (x1 : Int32) (x2 : Int32) (x3 : Int32) (x4 : Int32) : Int32 × Mem :=
  (if (bI (f_X5_in x1 0 9)) = 0 then
  ((-3), σ)
  else
  (if 5 ≤ x1 then
  (if (bI (f_X5_isRule σ x2)) = 0 then
  ((-2), σ)
  else
  (if x1 = 5 then
  f_X5_rule_87 σ x1 x2 x3 x4
  else
  (if x1 = 8 then
  f_X5_rule_87 σ x1 x2 x3 x4
  else
  (if (bI (f_X5_isRule σ x3)) = 0 then
  ((-2), σ)
  else
  f_X5_rule_87 σ x1 x2 x3 x4))))
  else
  (if (bI (f_X5_isSensor x2)) = 0 then
  ((-2), σ)
  else
  (if x1 = 3 then
  (if (bI (f_X5_isSensor x3)) = 0 then
  ((-2), σ)
  else
  f_X5_rule_87 σ x1 x2 x3 x4)
  else
  f_X5_rule_87 σ x1 x2 x3 x4))))
set_option maxRecDepth 100000 in
set_option maxHeartbeats 4000000 in
theorem b_X5_rule_0 {p : Program} {l : Launch} {e : Env} {s : State} {m : MethodId} {args : Array Value} {below : List Frame} {meth : Method} {c : Code} {D : va_G} {cI : ClassId} {ad : Nat → Nat} {w0 : va_W} {X : Int32 × Mem} (S : CallFix p m c cX5_rule 6 s args wsX5_rule RX5) (hr : meth.sig.returnType = (some .int)) (hlocks : meth.locks = false) (hK : va_K D vwCl [(cI, .int)] s) (hA : ∀ q, s.heap.size ≤ q → va_A w0 s.heap.size q) (σ : Mem) (x1 : Int32) (x2 : Int32) (x3 : Int32) (x4 : Int32) (hc : ∃ n : Nat, n ≤ 40 ∧ σ 0 3 = nI n) (hf : f_X5_rule σ x1 x2 x3 x4 = X) (H : Heap) (locs : List Loc) (hG : wI D vwCl (va_A w0 s.heap.size) s.heap H locs (RW ad cI σ)) (ls : Array Slot) (hl : lv_has ls 6 [(0, .ref (ad 0)), (1, .int x1), (2, .int x2), (3, .int x3), (4, .int x4)]) : W p l e ({ frames := 2, cells := 0, slots := 0, locals := 43 } : Room) s m args below meth c H locs 0 0 (MQ below (va_Qi (fun (r : Int32) (u : Mem) => (r, u) = X) (fun u t => wPost D vwCl w0 s.heap.size ((fun u => RW ad cI u) u) t) (va_A w0 s.heap.size)) args s 0 0 (va_A w0 s.heap.size)) (F0 m 0 ls []) := by
  have hin := in_X5_rule
  unfold f_X5_rule at hf
  refine lv_iload_n S.1 S.2.1 dX5_rule_0 rfl (lv_at hl 1 rfl) ?_
  refine lv_iconst (v := 0) S.1 S.2.1 dX5_rule_1 (by decide) ?_
  refine lv_bipush (v := 9) S.1 S.2.1 dX5_rule_2 (by decide) ?_
  refine r_callSi S hK hA hG (k_X5_in l _ _ _ _ _ _ _) (cwS 3 S.2.2.2.2 gX5_rule_X5_in rfl rfl rfl (by decide +kernel) ⟨Nat.le_of_ble_eq_true rfl, Nat.le_of_ble_eq_true rfl⟩) rfl hl.1 rfl (Nat.le_of_ble_eq_true rfl) dX5_rule_4 ⟨Nat.le_of_ble_eq_true rfl, Nat.le_of_ble_eq_true rfl⟩ (fun r4 _ H locs hw hG => ?_)
  obtain rfl := hw
  refine lv_if_ne (tgt := 13) S.1 S.2.1 dX5_rule_7 (by decide) (fun c_7 => ?_) (fun c_7 => ?_)
  · have hf := ite_n c_7 hf
    refine lv_iload_n S.1 S.2.1 dX5_rule_13 rfl (lv_at hl 1 rfl) ?_
    refine lv_iconst (v := 5) S.1 S.2.1 dX5_rule_14 (by decide) ?_
    refine lv_icmp_ge (tgt := 45) S.1 S.2.1 dX5_rule_15 (by decide) (fun c_15 => ?_) (fun c_15 => ?_)
    · have hf := ite_p c_15 hf
      refine lv_aload_n S.1 S.2.1 dX5_rule_45 rfl (lv_at hl 0 rfl) ?_
      refine lv_iload_n S.1 S.2.1 dX5_rule_46 rfl (lv_at hl 2 rfl) ?_
      refine r_callVi S hK hA hG (k_X5_isRule l _ _ _ _ _) (cwV 1 S.2.2.2.2 gX5_rule_X5_isRule rfl rfl rfl (by decide +kernel) ⟨Nat.le_of_ble_eq_true rfl, Nat.le_of_ble_eq_true rfl⟩) (va_recv hK hG.1 (ci := 5) (q0 := 0) rfl rfl) rfl hl.1 rfl (Nat.le_of_ble_eq_true rfl) dX5_rule_47 ⟨Nat.le_of_ble_eq_true rfl, Nat.le_of_ble_eq_true rfl⟩ (fun r47 _ H locs hw hG => ?_)
      obtain rfl := hw
      refine lv_if_eq (tgt := 76) S.1 S.2.1 dX5_rule_50 (by decide) (fun c_50 => ?_) (fun c_50 => ?_)
      · have hf := ite_p c_50 hf
        refine lv_iconst (v := 0) S.1 S.2.1 dX5_rule_76 (by decide) ?_
        refine lv_istore (lv' := [(5, .int 0), (0, .ref (ad 0)), (1, .int x1), (2, .int x2), (3, .int x3), (4, .int x4)]) S.1 S.2.1 dX5_rule_77 hl (by decide) rfl (fun ls hl => ?_)
        refine lv_iload S.1 S.2.1 dX5_rule_79 (lv_at hl 0 rfl) ?_
        refine lv_if_ne (tgt := 87) S.1 S.2.1 dX5_rule_81 (by decide) (fun c_ => absurd c_ (by decide)) (fun _ => ?_)
        refine lv_bipush (v := (-2)) S.1 S.2.1 dX5_rule_84 (by decide) ?_
        exact r_iret S hr hlocks hG _ rfl hf rfl dX5_rule_86
      · have hf := ite_n c_50 hf
        refine lv_iload_n S.1 S.2.1 dX5_rule_53 rfl (lv_at hl 1 rfl) ?_
        refine lv_iconst (v := 5) S.1 S.2.1 dX5_rule_54 (by decide) ?_
        refine lv_icmp_eq (tgt := 72) S.1 S.2.1 dX5_rule_55 (by decide) (fun c_55 => ?_) (fun c_55 => ?_)
        · have hf := ite_p c_55 hf
          refine lv_iconst (v := 1) S.1 S.2.1 dX5_rule_72 (by decide) ?_
          refine lv_goto (tgt := 77) S.1 S.2.1 dX5_rule_73 (by decide) ?_
          refine lv_istore (lv' := [(5, .int 1), (0, .ref (ad 0)), (1, .int x1), (2, .int x2), (3, .int x3), (4, .int x4)]) S.1 S.2.1 dX5_rule_77 hl (by decide) rfl (fun ls hl => ?_)
          refine lv_iload S.1 S.2.1 dX5_rule_79 (lv_at hl 0 rfl) ?_
          refine lv_if_ne (tgt := 87) S.1 S.2.1 dX5_rule_81 (by decide) (fun _ => ?_) (fun c_ => absurd c_ (by decide))
          exact b_X5_rule_87 S hr hlocks hK hA σ x1 x2 x3 x4 (hc) (fun e => by first | exact ri_vp c_22 (by decide) | (subst e; exact absurd c_15 (by decide))) hf H locs hG ls (lv_sub hl [1, 2, 3, 4, 5] rfl)
        · have hf := ite_n c_55 hf
          refine lv_iload_n S.1 S.2.1 dX5_rule_58 rfl (lv_at hl 1 rfl) ?_
          refine lv_bipush (v := 8) S.1 S.2.1 dX5_rule_59 (by decide) ?_
          refine lv_icmp_eq (tgt := 72) S.1 S.2.1 dX5_rule_61 (by decide) (fun c_61 => ?_) (fun c_61 => ?_)
          · have hf := ite_p c_61 hf
            refine lv_iconst (v := 1) S.1 S.2.1 dX5_rule_72 (by decide) ?_
            refine lv_goto (tgt := 77) S.1 S.2.1 dX5_rule_73 (by decide) ?_
            refine lv_istore (lv' := [(5, .int 1), (0, .ref (ad 0)), (1, .int x1), (2, .int x2), (3, .int x3), (4, .int x4)]) S.1 S.2.1 dX5_rule_77 hl (by decide) rfl (fun ls hl => ?_)
            refine lv_iload S.1 S.2.1 dX5_rule_79 (lv_at hl 0 rfl) ?_
            refine lv_if_ne (tgt := 87) S.1 S.2.1 dX5_rule_81 (by decide) (fun _ => ?_) (fun c_ => absurd c_ (by decide))
            exact b_X5_rule_87 S hr hlocks hK hA σ x1 x2 x3 x4 (hc) (fun e => by first | exact ri_vp c_22 (by decide) | (subst e; exact absurd c_15 (by decide))) hf H locs hG ls (lv_sub hl [1, 2, 3, 4, 5] rfl)
          · have hf := ite_n c_61 hf
            refine lv_aload_n S.1 S.2.1 dX5_rule_64 rfl (lv_at hl 0 rfl) ?_
            refine lv_iload_n S.1 S.2.1 dX5_rule_65 rfl (lv_at hl 3 rfl) ?_
            refine r_callVi S hK hA hG (k_X5_isRule l _ _ _ _ _) (cwV 1 S.2.2.2.2 gX5_rule_X5_isRule rfl rfl rfl (by decide +kernel) ⟨Nat.le_of_ble_eq_true rfl, Nat.le_of_ble_eq_true rfl⟩) (va_recv hK hG.1 (ci := 5) (q0 := 0) rfl rfl) rfl hl.1 rfl (Nat.le_of_ble_eq_true rfl) dX5_rule_66 ⟨Nat.le_of_ble_eq_true rfl, Nat.le_of_ble_eq_true rfl⟩ (fun r66 _ H locs hw hG => ?_)
            obtain rfl := hw
            refine lv_if_eq (tgt := 76) S.1 S.2.1 dX5_rule_69 (by decide) (fun c_69 => ?_) (fun c_69 => ?_)
            · have hf := ite_p c_69 hf
              refine lv_iconst (v := 0) S.1 S.2.1 dX5_rule_76 (by decide) ?_
              refine lv_istore (lv' := [(5, .int 0), (0, .ref (ad 0)), (1, .int x1), (2, .int x2), (3, .int x3), (4, .int x4)]) S.1 S.2.1 dX5_rule_77 hl (by decide) rfl (fun ls hl => ?_)
              refine lv_iload S.1 S.2.1 dX5_rule_79 (lv_at hl 0 rfl) ?_
              refine lv_if_ne (tgt := 87) S.1 S.2.1 dX5_rule_81 (by decide) (fun c_ => absurd c_ (by decide)) (fun _ => ?_)
              refine lv_bipush (v := (-2)) S.1 S.2.1 dX5_rule_84 (by decide) ?_
              exact r_iret S hr hlocks hG _ rfl hf rfl dX5_rule_86
            · have hf := ite_n c_69 hf
              refine lv_iconst (v := 1) S.1 S.2.1 dX5_rule_72 (by decide) ?_
              refine lv_goto (tgt := 77) S.1 S.2.1 dX5_rule_73 (by decide) ?_
              refine lv_istore (lv' := [(5, .int 1), (0, .ref (ad 0)), (1, .int x1), (2, .int x2), (3, .int x3), (4, .int x4)]) S.1 S.2.1 dX5_rule_77 hl (by decide) rfl (fun ls hl => ?_)
              refine lv_iload S.1 S.2.1 dX5_rule_79 (lv_at hl 0 rfl) ?_
              refine lv_if_ne (tgt := 87) S.1 S.2.1 dX5_rule_81 (by decide) (fun _ => ?_) (fun c_ => absurd c_ (by decide))
              exact b_X5_rule_87 S hr hlocks hK hA σ x1 x2 x3 x4 (hc) (fun e => by first | exact ri_vp c_22 (by decide) | (subst e; exact absurd c_15 (by decide))) hf H locs hG ls (lv_sub hl [1, 2, 3, 4, 5] rfl)
    · have hf := ite_n c_15 hf
      refine lv_iload_n S.1 S.2.1 dX5_rule_18 rfl (lv_at hl 2 rfl) ?_
      refine r_callSi S hK hA hG (k_X5_isSensor l _ _ _ _ _) (cwS 1 S.2.2.2.2 gX5_rule_X5_isSensor rfl rfl rfl (by decide +kernel) ⟨Nat.le_of_ble_eq_true rfl, Nat.le_of_ble_eq_true rfl⟩) rfl hl.1 rfl (Nat.le_of_ble_eq_true rfl) dX5_rule_19 ⟨Nat.le_of_ble_eq_true rfl, Nat.le_of_ble_eq_true rfl⟩ (fun r19 _ H locs hw hG => ?_)
      obtain rfl := hw
      refine lv_if_eq (tgt := 41) S.1 S.2.1 dX5_rule_22 (by decide) (fun c_22 => ?_) (fun c_22 => ?_)
      · have hf := ite_p c_22 hf
        refine lv_iconst (v := 0) S.1 S.2.1 dX5_rule_41 (by decide) ?_
        refine lv_goto (tgt := 77) S.1 S.2.1 dX5_rule_42 (by decide) ?_
        refine lv_istore (lv' := [(5, .int 0), (0, .ref (ad 0)), (1, .int x1), (2, .int x2), (3, .int x3), (4, .int x4)]) S.1 S.2.1 dX5_rule_77 hl (by decide) rfl (fun ls hl => ?_)
        refine lv_iload S.1 S.2.1 dX5_rule_79 (lv_at hl 0 rfl) ?_
        refine lv_if_ne (tgt := 87) S.1 S.2.1 dX5_rule_81 (by decide) (fun c_ => absurd c_ (by decide)) (fun _ => ?_)
        refine lv_bipush (v := (-2)) S.1 S.2.1 dX5_rule_84 (by decide) ?_
        exact r_iret S hr hlocks hG _ rfl hf rfl dX5_rule_86
      · have hf := ite_n c_22 hf
        refine lv_iload_n S.1 S.2.1 dX5_rule_25 rfl (lv_at hl 1 rfl) ?_
        refine lv_iconst (v := 3) S.1 S.2.1 dX5_rule_26 (by decide) ?_
        refine lv_icmp_ne (tgt := 37) S.1 S.2.1 dX5_rule_27 (by decide) (fun c_27 => ?_) (fun c_27 => ?_)
        · have hf := ite_n c_27 hf
          refine lv_iconst (v := 1) S.1 S.2.1 dX5_rule_37 (by decide) ?_
          refine lv_goto (tgt := 77) S.1 S.2.1 dX5_rule_38 (by decide) ?_
          refine lv_istore (lv' := [(5, .int 1), (0, .ref (ad 0)), (1, .int x1), (2, .int x2), (3, .int x3), (4, .int x4)]) S.1 S.2.1 dX5_rule_77 hl (by decide) rfl (fun ls hl => ?_)
          refine lv_iload S.1 S.2.1 dX5_rule_79 (lv_at hl 0 rfl) ?_
          refine lv_if_ne (tgt := 87) S.1 S.2.1 dX5_rule_81 (by decide) (fun _ => ?_) (fun c_ => absurd c_ (by decide))
          exact b_X5_rule_87 S hr hlocks hK hA σ x1 x2 x3 x4 (hc) (fun e => by first | exact ri_vp c_22 (by decide) | (subst e; exact absurd c_15 (by decide))) hf H locs hG ls (lv_sub hl [1, 2, 3, 4, 5] rfl)
        · have hf := ite_p c_27 hf
          refine lv_iload_n S.1 S.2.1 dX5_rule_30 rfl (lv_at hl 3 rfl) ?_
          refine r_callSi S hK hA hG (k_X5_isSensor l _ _ _ _ _) (cwS 1 S.2.2.2.2 gX5_rule_X5_isSensor rfl rfl rfl (by decide +kernel) ⟨Nat.le_of_ble_eq_true rfl, Nat.le_of_ble_eq_true rfl⟩) rfl hl.1 rfl (Nat.le_of_ble_eq_true rfl) dX5_rule_31 ⟨Nat.le_of_ble_eq_true rfl, Nat.le_of_ble_eq_true rfl⟩ (fun r31 _ H locs hw hG => ?_)
          obtain rfl := hw
          refine lv_if_eq (tgt := 41) S.1 S.2.1 dX5_rule_34 (by decide) (fun c_34 => ?_) (fun c_34 => ?_)
          · have hf := ite_p c_34 hf
            refine lv_iconst (v := 0) S.1 S.2.1 dX5_rule_41 (by decide) ?_
            refine lv_goto (tgt := 77) S.1 S.2.1 dX5_rule_42 (by decide) ?_
            refine lv_istore (lv' := [(5, .int 0), (0, .ref (ad 0)), (1, .int x1), (2, .int x2), (3, .int x3), (4, .int x4)]) S.1 S.2.1 dX5_rule_77 hl (by decide) rfl (fun ls hl => ?_)
            refine lv_iload S.1 S.2.1 dX5_rule_79 (lv_at hl 0 rfl) ?_
            refine lv_if_ne (tgt := 87) S.1 S.2.1 dX5_rule_81 (by decide) (fun c_ => absurd c_ (by decide)) (fun _ => ?_)
            refine lv_bipush (v := (-2)) S.1 S.2.1 dX5_rule_84 (by decide) ?_
            exact r_iret S hr hlocks hG _ rfl hf rfl dX5_rule_86
          · have hf := ite_n c_34 hf
            refine lv_iconst (v := 1) S.1 S.2.1 dX5_rule_37 (by decide) ?_
            refine lv_goto (tgt := 77) S.1 S.2.1 dX5_rule_38 (by decide) ?_
            refine lv_istore (lv' := [(5, .int 1), (0, .ref (ad 0)), (1, .int x1), (2, .int x2), (3, .int x3), (4, .int x4)]) S.1 S.2.1 dX5_rule_77 hl (by decide) rfl (fun ls hl => ?_)
            refine lv_iload S.1 S.2.1 dX5_rule_79 (lv_at hl 0 rfl) ?_
            refine lv_if_ne (tgt := 87) S.1 S.2.1 dX5_rule_81 (by decide) (fun _ => ?_) (fun c_ => absurd c_ (by decide))
            exact b_X5_rule_87 S hr hlocks hK hA σ x1 x2 x3 x4 (hc) (fun e => by first | exact ri_vp c_22 (by decide) | (subst e; exact absurd c_15 (by decide))) hf H locs hG ls (lv_sub hl [1, 2, 3, 4, 5] rfl)
  · have hf := ite_p c_7 hf
    refine lv_bipush (v := (-3)) S.1 S.2.1 dX5_rule_10 (by decide) ?_
    exact r_iret S hr hlocks hG _ rfl hf rfl dX5_rule_12
theorem k_X5_rule (l : Launch) (D : va_G) (cI : ClassId) (ad : Nat → Nat) (σ : Mem) (x1 : Int32) (x2 : Int32) (x3 : Int32) (x4 : Int32) (hc : ∃ n : Nat, n ≤ 40 ∧ σ 0 3 = nI n) : CMi l yX5_rule wsX5_rule ({ frames := 2, cells := 0, slots := 0, locals := 43 } : Room) D vwCl [(cI, .int)] (RW ad cI σ) [.ref (ad 0), .int x1, .int x2, .int x3, .int x4] (fun (r : Int32) (u : Mem) => (r, u) = (f_X5_rule σ x1 x2 x3 x4)) (fun u => RW ad cI u) :=
  r_met (by decide) rfl (Nat.le_of_ble_eq_true rfl) (fun p e s m args below meth c ls S hr hlocks _ hK hA hG hl => b_X5_rule_0 S hr hlocks hK hA σ x1 x2 x3 x4 hc rfl _ _ hG ls hl)
theorem in_X5_act : ∀ w ∈ wsX50, w ∈ wsX5_act := by decide +kernel
def f_X5_act_93 (σ : Mem) (x1 : Int32) (x2 : Int32) (x3 : Int32) (x4 : Int32) : Int32 × Mem :=
  (if (σ 0 9) = 40 then
  ((-4), σ)
  else
  bnd (mset σ 11 (σ 0 9).toNatClampNeg x1) fun σ1 =>
  (if x1 = 7 then
  bnd (mset σ1 12 (σ 0 9).toNatClampNeg ((σ 0 9) - 1)) fun σ6 =>
  bnd (mset σ6 13 (σ 0 9).toNatClampNeg x3) fun σ7 =>
  bnd (mset σ7 14 (σ 0 9).toNatClampNeg x4) fun σ8 =>
  bnd (mset σ8 0 9 ((σ 0 9) + 1)) fun σ9 =>
  (((σ 0 9) + 1) - 1, σ9)
  else
  bnd (mset σ1 12 (σ 0 9).toNatClampNeg x2) fun σ2 =>
  bnd (mset σ2 13 (σ 0 9).toNatClampNeg x3) fun σ3 =>
  bnd (mset σ3 14 (σ 0 9).toNatClampNeg x4) fun σ4 =>
  bnd (mset σ4 0 9 ((σ 0 9) + 1)) fun σ5 =>
  (((σ 0 9) + 1) - 1, σ5)))
set_option maxRecDepth 100000 in
set_option maxHeartbeats 4000000 in
theorem b_X5_act_93 {p : Program} {l : Launch} {e : Env} {s : State} {m : MethodId} {args : Array Value} {below : List Frame} {meth : Method} {c : Code} {D : va_G} {cI : ClassId} {ad : Nat → Nat} {w0 : va_W} {X : Int32 × Mem} (S : CallFix p m c cX5_act 5 s args wsX5_act RX5) (hr : meth.sig.returnType = (some .int)) (hlocks : meth.locks = false) (hK : va_K D vwCl [(cI, .int)] s) (hA : ∀ q, s.heap.size ≤ q → va_A w0 s.heap.size q) (σ : Mem) (x1 : Int32) (x2 : Int32) (x3 : Int32) (x4 : Int32) (hc : ∃ n : Nat, n ≤ 40 ∧ σ 0 9 = nI n) (hf : f_X5_act_93 σ x1 x2 x3 x4 = X) (H : Heap) (locs : List Loc) (hG : wI D vwCl (va_A w0 s.heap.size) s.heap H locs (RW ad cI σ)) (ls : Array Slot) (hl : lv_has ls 5 [(0, .ref (ad 0)), (1, .int x1), (2, .int x2), (3, .int x3), (4, .int x4)]) : W p l e ({ frames := 4, cells := 0, slots := 0, locals := 88 } : Room) s m args below meth c H locs 0 0 (MQ below (va_Qi (fun (r : Int32) (u : Mem) => (r, u) = X) (fun u t => wPost D vwCl w0 s.heap.size ((fun u => RW ad cI u) u) t) (va_A w0 s.heap.size)) args s 0 0 (va_A w0 s.heap.size)) (F0 m 93 ls []) := by
  have hin := in_X5_act
  unfold f_X5_act_93 at hf
  refine lv_aload_n S.1 S.2.1 dX5_act_93 rfl (lv_at hl 0 rfl) ?_
  refine M_get S hin hK hG 9 (by decide) (by decide +kernel) rfl dX5_act_94 ?_
  refine lv_bipush (v := 40) S.1 S.2.1 dX5_act_97 (by decide) ?_
  refine lv_icmp_ne (tgt := 105) S.1 S.2.1 dX5_act_99 (by decide) (fun c_99 => ?_) (fun c_99 => ?_)
  · have hf := ite_n c_99 hf
    refine lv_aload_n S.1 S.2.1 dX5_act_105 rfl (lv_at hl 0 rfl) ?_
    refine M_get S hin hK hG 10 (by decide) (by decide +kernel) rfl dX5_act_106 ?_
    refine lv_aload_n S.1 S.2.1 dX5_act_109 rfl (lv_at hl 0 rfl) ?_
    refine M_get S hin hK hG 9 (by decide) (by decide +kernel) rfl dX5_act_110 ?_
    refine lv_iload_n S.1 S.2.1 dX5_act_113 rfl (lv_at hl 1 rfl) ?_
    refine M_ast S hK hG 11 8 40 rfl (ri_cnt hc c_99) (RWs_11 _ _ _ _ _) dX5_act_114 (fun σ1 H locs e_σ1 hG => ?_)
    have hf := bnd_p e_σ1 hf
    refine lv_aload_n S.1 S.2.1 dX5_act_115 rfl (lv_at hl 0 rfl) ?_
    refine M_get S hin hK hG 11 (by decide) (by decide +kernel) rfl dX5_act_116 ?_
    refine lv_aload_n S.1 S.2.1 dX5_act_119 rfl (lv_at hl 0 rfl) ?_
    refine M_get S hin hK hG 9 (v := .int (σ 0 9)) (by decide) (by decide +kernel) (by rw [e_σ1]; rfl) dX5_act_120 ?_
    refine lv_iload_n S.1 S.2.1 dX5_act_123 rfl (lv_at hl 1 rfl) ?_
    refine lv_bipush (v := 7) S.1 S.2.1 dX5_act_124 (by decide) ?_
    refine lv_icmp_ne (tgt := 138) S.1 S.2.1 dX5_act_126 (by decide) (fun c_126 => ?_) (fun c_126 => ?_)
    · have hf := ite_n c_126 hf
      refine lv_iload_n S.1 S.2.1 dX5_act_138 rfl (lv_at hl 2 rfl) ?_
      refine M_ast S hK hG 12 9 40 rfl (ri_cnt hc c_99) (RWs_12 _ _ _ _ _) dX5_act_139 (fun σ2 H locs e_σ2 hG => ?_)
      have hf := bnd_p e_σ2 hf
      refine lv_aload_n S.1 S.2.1 dX5_act_140 rfl (lv_at hl 0 rfl) ?_
      refine M_get S hin hK hG 12 (by decide) (by decide +kernel) rfl dX5_act_141 ?_
      refine lv_aload_n S.1 S.2.1 dX5_act_144 rfl (lv_at hl 0 rfl) ?_
      refine M_get S hin hK hG 9 (v := .int (σ 0 9)) (by decide) (by decide +kernel) (by rw [e_σ2, e_σ1]; rfl) dX5_act_145 ?_
      refine lv_iload_n S.1 S.2.1 dX5_act_148 rfl (lv_at hl 3 rfl) ?_
      refine M_ast S hK hG 13 10 40 rfl (ri_cnt hc c_99) (RWs_13 _ _ _ _ _) dX5_act_149 (fun σ3 H locs e_σ3 hG => ?_)
      have hf := bnd_p e_σ3 hf
      refine lv_aload_n S.1 S.2.1 dX5_act_150 rfl (lv_at hl 0 rfl) ?_
      refine M_get S hin hK hG 13 (by decide) (by decide +kernel) rfl dX5_act_151 ?_
      refine lv_aload_n S.1 S.2.1 dX5_act_154 rfl (lv_at hl 0 rfl) ?_
      refine M_get S hin hK hG 9 (v := .int (σ 0 9)) (by decide) (by decide +kernel) (by rw [e_σ3, e_σ2, e_σ1]; rfl) dX5_act_155 ?_
      refine lv_iload S.1 S.2.1 dX5_act_158 (lv_at hl 4 rfl) ?_
      refine M_ast S hK hG 14 11 40 rfl (ri_cnt hc c_99) (RWs_14 _ _ _ _ _) dX5_act_160 (fun σ4 H locs e_σ4 hG => ?_)
      have hf := bnd_p e_σ4 hf
      refine lv_aload_n S.1 S.2.1 dX5_act_161 rfl (lv_at hl 0 rfl) ?_
      refine lv_dup S.1 S.2.1 dX5_act_162 rfl ?_
      refine M_get S hin hK hG 9 (v := .int (σ 0 9)) (by decide) (by decide +kernel) (by rw [e_σ4, e_σ3, e_σ2, e_σ1]; rfl) dX5_act_163 ?_
      refine lv_iconst (v := 1) S.1 S.2.1 dX5_act_166 (by decide) ?_
      refine lv_iadd S.1 S.2.1 dX5_act_167 ?_
      refine M_put S hin hK hG 9 (by decide) (by decide +kernel) rfl rfl rfl (RWp_9 _ _ _ _) dX5_act_168 (fun σ5 H locs e_σ5 hG => ?_)
      have hf := bnd_p e_σ5 hf
      refine lv_aload_n S.1 S.2.1 dX5_act_171 rfl (lv_at hl 0 rfl) ?_
      refine M_get S hin hK hG 9 (v := .int ((σ 0 9) + 1)) (by decide) (by decide +kernel) (by rw [e_σ5]; rfl) dX5_act_172 ?_
      refine lv_iconst (v := 1) S.1 S.2.1 dX5_act_175 (by decide) ?_
      refine lv_isub S.1 S.2.1 dX5_act_176 ?_
      exact r_iret S hr hlocks hG _ rfl hf rfl dX5_act_177
    · have hf := ite_p c_126 hf
      refine lv_aload_n S.1 S.2.1 dX5_act_129 rfl (lv_at hl 0 rfl) ?_
      refine M_get S hin hK hG 9 (v := .int (σ 0 9)) (by decide) (by decide +kernel) (by rw [e_σ1]; rfl) dX5_act_130 ?_
      refine lv_iconst (v := 1) S.1 S.2.1 dX5_act_133 (by decide) ?_
      refine lv_isub S.1 S.2.1 dX5_act_134 ?_
      refine lv_goto (tgt := 139) S.1 S.2.1 dX5_act_135 (by decide) ?_
      refine M_ast S hK hG 12 9 40 rfl (ri_cnt hc c_99) (RWs_12 _ _ _ _ _) dX5_act_139 (fun σ6 H locs e_σ6 hG => ?_)
      have hf := bnd_p e_σ6 hf
      refine lv_aload_n S.1 S.2.1 dX5_act_140 rfl (lv_at hl 0 rfl) ?_
      refine M_get S hin hK hG 12 (by decide) (by decide +kernel) rfl dX5_act_141 ?_
      refine lv_aload_n S.1 S.2.1 dX5_act_144 rfl (lv_at hl 0 rfl) ?_
      refine M_get S hin hK hG 9 (v := .int (σ 0 9)) (by decide) (by decide +kernel) (by rw [e_σ6, e_σ1]; rfl) dX5_act_145 ?_
      refine lv_iload_n S.1 S.2.1 dX5_act_148 rfl (lv_at hl 3 rfl) ?_
      refine M_ast S hK hG 13 10 40 rfl (ri_cnt hc c_99) (RWs_13 _ _ _ _ _) dX5_act_149 (fun σ7 H locs e_σ7 hG => ?_)
      have hf := bnd_p e_σ7 hf
      refine lv_aload_n S.1 S.2.1 dX5_act_150 rfl (lv_at hl 0 rfl) ?_
      refine M_get S hin hK hG 13 (by decide) (by decide +kernel) rfl dX5_act_151 ?_
      refine lv_aload_n S.1 S.2.1 dX5_act_154 rfl (lv_at hl 0 rfl) ?_
      refine M_get S hin hK hG 9 (v := .int (σ 0 9)) (by decide) (by decide +kernel) (by rw [e_σ7, e_σ6, e_σ1]; rfl) dX5_act_155 ?_
      refine lv_iload S.1 S.2.1 dX5_act_158 (lv_at hl 4 rfl) ?_
      refine M_ast S hK hG 14 11 40 rfl (ri_cnt hc c_99) (RWs_14 _ _ _ _ _) dX5_act_160 (fun σ8 H locs e_σ8 hG => ?_)
      have hf := bnd_p e_σ8 hf
      refine lv_aload_n S.1 S.2.1 dX5_act_161 rfl (lv_at hl 0 rfl) ?_
      refine lv_dup S.1 S.2.1 dX5_act_162 rfl ?_
      refine M_get S hin hK hG 9 (v := .int (σ 0 9)) (by decide) (by decide +kernel) (by rw [e_σ8, e_σ7, e_σ6, e_σ1]; rfl) dX5_act_163 ?_
      refine lv_iconst (v := 1) S.1 S.2.1 dX5_act_166 (by decide) ?_
      refine lv_iadd S.1 S.2.1 dX5_act_167 ?_
      refine M_put S hin hK hG 9 (by decide) (by decide +kernel) rfl rfl rfl (RWp_9 _ _ _ _) dX5_act_168 (fun σ9 H locs e_σ9 hG => ?_)
      have hf := bnd_p e_σ9 hf
      refine lv_aload_n S.1 S.2.1 dX5_act_171 rfl (lv_at hl 0 rfl) ?_
      refine M_get S hin hK hG 9 (v := .int ((σ 0 9) + 1)) (by decide) (by decide +kernel) (by rw [e_σ9]; rfl) dX5_act_172 ?_
      refine lv_iconst (v := 1) S.1 S.2.1 dX5_act_175 (by decide) ?_
      refine lv_isub S.1 S.2.1 dX5_act_176 ?_
      exact r_iret S hr hlocks hG _ rfl hf rfl dX5_act_177
  · have hf := ite_p c_99 hf
    refine lv_bipush (v := (-4)) S.1 S.2.1 dX5_act_102 (by decide) ?_
    exact r_iret S hr hlocks hG _ rfl hf rfl dX5_act_104
def f_X5_act_75 (σ : Mem) (x1 : Int32) (x2 : Int32) (x3 : Int32) (x4 : Int32) : Int32 × Mem :=
  (if x1 = 5 then
  (if (bI (f_X5_in x3 0 100)) = 0 then
  ((-3), σ)
  else
  f_X5_act_93 σ x1 x2 x3 x4)
  else
  f_X5_act_93 σ x1 x2 x3 x4)
set_option maxRecDepth 100000 in
set_option maxHeartbeats 4000000 in
theorem b_X5_act_75 {p : Program} {l : Launch} {e : Env} {s : State} {m : MethodId} {args : Array Value} {below : List Frame} {meth : Method} {c : Code} {D : va_G} {cI : ClassId} {ad : Nat → Nat} {w0 : va_W} {X : Int32 × Mem} (S : CallFix p m c cX5_act 5 s args wsX5_act RX5) (hr : meth.sig.returnType = (some .int)) (hlocks : meth.locks = false) (hK : va_K D vwCl [(cI, .int)] s) (hA : ∀ q, s.heap.size ≤ q → va_A w0 s.heap.size q) (σ : Mem) (x1 : Int32) (x2 : Int32) (x3 : Int32) (x4 : Int32) (hc : ∃ n : Nat, n ≤ 40 ∧ σ 0 9 = nI n) (hf : f_X5_act_75 σ x1 x2 x3 x4 = X) (H : Heap) (locs : List Loc) (hG : wI D vwCl (va_A w0 s.heap.size) s.heap H locs (RW ad cI σ)) (ls : Array Slot) (hl : lv_has ls 5 [(0, .ref (ad 0)), (1, .int x1), (2, .int x2), (3, .int x3), (4, .int x4)]) : W p l e ({ frames := 4, cells := 0, slots := 0, locals := 88 } : Room) s m args below meth c H locs 0 0 (MQ below (va_Qi (fun (r : Int32) (u : Mem) => (r, u) = X) (fun u t => wPost D vwCl w0 s.heap.size ((fun u => RW ad cI u) u) t) (va_A w0 s.heap.size)) args s 0 0 (va_A w0 s.heap.size)) (F0 m 75 ls []) := by
  have hin := in_X5_act
  unfold f_X5_act_75 at hf
  refine lv_iload_n S.1 S.2.1 dX5_act_75 rfl (lv_at hl 1 rfl) ?_
  refine lv_iconst (v := 5) S.1 S.2.1 dX5_act_76 (by decide) ?_
  refine lv_icmp_ne (tgt := 93) S.1 S.2.1 dX5_act_77 (by decide) (fun c_77 => ?_) (fun c_77 => ?_)
  · have hf := ite_n c_77 hf
    exact b_X5_act_93 S hr hlocks hK hA σ x1 x2 x3 x4 (hc) hf H locs hG ls (lv_sub hl [0, 1, 2, 3, 4] rfl)
  · have hf := ite_p c_77 hf
    refine lv_iload_n S.1 S.2.1 dX5_act_80 rfl (lv_at hl 3 rfl) ?_
    refine lv_iconst (v := 0) S.1 S.2.1 dX5_act_81 (by decide) ?_
    refine lv_bipush (v := 100) S.1 S.2.1 dX5_act_82 (by decide) ?_
    refine r_callSi S hK hA hG (k_X5_in l _ _ _ _ _ _ _) (cwS 3 S.2.2.2.2 gX5_act_X5_in rfl rfl rfl (by decide +kernel) ⟨Nat.le_of_ble_eq_true rfl, Nat.le_of_ble_eq_true rfl⟩) rfl hl.1 rfl (Nat.le_of_ble_eq_true rfl) dX5_act_84 ⟨Nat.le_of_ble_eq_true rfl, Nat.le_of_ble_eq_true rfl⟩ (fun r84 _ H locs hw hG => ?_)
    obtain rfl := hw
    refine lv_if_ne (tgt := 93) S.1 S.2.1 dX5_act_87 (by decide) (fun c_87 => ?_) (fun c_87 => ?_)
    · have hf := ite_n c_87 hf
      exact b_X5_act_93 S hr hlocks hK hA σ x1 x2 x3 x4 (hc) hf H locs hG ls (lv_sub hl [0, 1, 2, 3, 4] rfl)
    · have hf := ite_p c_87 hf
      refine lv_bipush (v := (-3)) S.1 S.2.1 dX5_act_90 (by decide) ?_
      exact r_iret S hr hlocks hG _ rfl hf rfl dX5_act_92
def f_X5_act_60 (σ : Mem) (x1 : Int32) (x2 : Int32) (x3 : Int32) (x4 : Int32) : Int32 × Mem :=
  (if x1 = 4 then
  (if (bI (f_X5_in x3 0 9)) = 0 then
  ((-3), σ)
  else
  f_X5_act_75 σ x1 x2 x3 x4)
  else
  f_X5_act_75 σ x1 x2 x3 x4)
set_option maxRecDepth 100000 in
set_option maxHeartbeats 4000000 in
theorem b_X5_act_60 {p : Program} {l : Launch} {e : Env} {s : State} {m : MethodId} {args : Array Value} {below : List Frame} {meth : Method} {c : Code} {D : va_G} {cI : ClassId} {ad : Nat → Nat} {w0 : va_W} {X : Int32 × Mem} (S : CallFix p m c cX5_act 5 s args wsX5_act RX5) (hr : meth.sig.returnType = (some .int)) (hlocks : meth.locks = false) (hK : va_K D vwCl [(cI, .int)] s) (hA : ∀ q, s.heap.size ≤ q → va_A w0 s.heap.size q) (σ : Mem) (x1 : Int32) (x2 : Int32) (x3 : Int32) (x4 : Int32) (hc : ∃ n : Nat, n ≤ 40 ∧ σ 0 9 = nI n) (hf : f_X5_act_60 σ x1 x2 x3 x4 = X) (H : Heap) (locs : List Loc) (hG : wI D vwCl (va_A w0 s.heap.size) s.heap H locs (RW ad cI σ)) (ls : Array Slot) (hl : lv_has ls 5 [(0, .ref (ad 0)), (1, .int x1), (2, .int x2), (3, .int x3), (4, .int x4)]) : W p l e ({ frames := 4, cells := 0, slots := 0, locals := 88 } : Room) s m args below meth c H locs 0 0 (MQ below (va_Qi (fun (r : Int32) (u : Mem) => (r, u) = X) (fun u t => wPost D vwCl w0 s.heap.size ((fun u => RW ad cI u) u) t) (va_A w0 s.heap.size)) args s 0 0 (va_A w0 s.heap.size)) (F0 m 60 ls []) := by
  have hin := in_X5_act
  unfold f_X5_act_60 at hf
  refine lv_iload_n S.1 S.2.1 dX5_act_60 rfl (lv_at hl 1 rfl) ?_
  refine lv_iconst (v := 4) S.1 S.2.1 dX5_act_61 (by decide) ?_
  refine lv_icmp_ne (tgt := 75) S.1 S.2.1 dX5_act_62 (by decide) (fun c_62 => ?_) (fun c_62 => ?_)
  · have hf := ite_n c_62 hf
    exact b_X5_act_75 S hr hlocks hK hA σ x1 x2 x3 x4 (hc) hf H locs hG ls (lv_sub hl [0, 1, 2, 3, 4] rfl)
  · have hf := ite_p c_62 hf
    refine lv_iload_n S.1 S.2.1 dX5_act_65 rfl (lv_at hl 3 rfl) ?_
    refine lv_iconst (v := 0) S.1 S.2.1 dX5_act_66 (by decide) ?_
    refine lv_bipush (v := 9) S.1 S.2.1 dX5_act_67 (by decide) ?_
    refine r_callSi S hK hA hG (k_X5_in l _ _ _ _ _ _ _) (cwS 3 S.2.2.2.2 gX5_act_X5_in rfl rfl rfl (by decide +kernel) ⟨Nat.le_of_ble_eq_true rfl, Nat.le_of_ble_eq_true rfl⟩) rfl hl.1 rfl (Nat.le_of_ble_eq_true rfl) dX5_act_69 ⟨Nat.le_of_ble_eq_true rfl, Nat.le_of_ble_eq_true rfl⟩ (fun r69 _ H locs hw hG => ?_)
    obtain rfl := hw
    refine lv_if_eq (tgt := 90) S.1 S.2.1 dX5_act_72 (by decide) (fun c_72 => ?_) (fun c_72 => ?_)
    · have hf := ite_p c_72 hf
      refine lv_bipush (v := (-3)) S.1 S.2.1 dX5_act_90 (by decide) ?_
      exact r_iret S hr hlocks hG _ rfl hf rfl dX5_act_92
    · have hf := ite_n c_72 hf
      exact b_X5_act_75 S hr hlocks hK hA σ x1 x2 x3 x4 (hc) hf H locs hG ls (lv_sub hl [0, 1, 2, 3, 4] rfl)
def f_X5_act_43 (σ : Mem) (x1 : Int32) (x2 : Int32) (x3 : Int32) (x4 : Int32) : Int32 × Mem :=
  (if x1 = 1 then
  (if (bI (f_X5_in x4 0 1000)) = 0 then
  ((-3), σ)
  else
  f_X5_act_60 σ x1 x2 x3 x4)
  else
  f_X5_act_60 σ x1 x2 x3 x4)
set_option maxRecDepth 100000 in
set_option maxHeartbeats 4000000 in
theorem b_X5_act_43 {p : Program} {l : Launch} {e : Env} {s : State} {m : MethodId} {args : Array Value} {below : List Frame} {meth : Method} {c : Code} {D : va_G} {cI : ClassId} {ad : Nat → Nat} {w0 : va_W} {X : Int32 × Mem} (S : CallFix p m c cX5_act 5 s args wsX5_act RX5) (hr : meth.sig.returnType = (some .int)) (hlocks : meth.locks = false) (hK : va_K D vwCl [(cI, .int)] s) (hA : ∀ q, s.heap.size ≤ q → va_A w0 s.heap.size q) (σ : Mem) (x1 : Int32) (x2 : Int32) (x3 : Int32) (x4 : Int32) (hc : ∃ n : Nat, n ≤ 40 ∧ σ 0 9 = nI n) (hf : f_X5_act_43 σ x1 x2 x3 x4 = X) (H : Heap) (locs : List Loc) (hG : wI D vwCl (va_A w0 s.heap.size) s.heap H locs (RW ad cI σ)) (ls : Array Slot) (hl : lv_has ls 5 [(0, .ref (ad 0)), (1, .int x1), (2, .int x2), (3, .int x3), (4, .int x4)]) : W p l e ({ frames := 4, cells := 0, slots := 0, locals := 88 } : Room) s m args below meth c H locs 0 0 (MQ below (va_Qi (fun (r : Int32) (u : Mem) => (r, u) = X) (fun u t => wPost D vwCl w0 s.heap.size ((fun u => RW ad cI u) u) t) (va_A w0 s.heap.size)) args s 0 0 (va_A w0 s.heap.size)) (F0 m 43 ls []) := by
  have hin := in_X5_act
  unfold f_X5_act_43 at hf
  refine lv_iload_n S.1 S.2.1 dX5_act_43 rfl (lv_at hl 1 rfl) ?_
  refine lv_iconst (v := 1) S.1 S.2.1 dX5_act_44 (by decide) ?_
  refine lv_icmp_ne (tgt := 60) S.1 S.2.1 dX5_act_45 (by decide) (fun c_45 => ?_) (fun c_45 => ?_)
  · have hf := ite_n c_45 hf
    exact b_X5_act_60 S hr hlocks hK hA σ x1 x2 x3 x4 (hc) hf H locs hG ls (lv_sub hl [0, 1, 2, 3, 4] rfl)
  · have hf := ite_p c_45 hf
    refine lv_iload S.1 S.2.1 dX5_act_48 (lv_at hl 4 rfl) ?_
    refine lv_iconst (v := 0) S.1 S.2.1 dX5_act_50 (by decide) ?_
    refine lv_sipush (v := 1000) S.1 S.2.1 dX5_act_51 (by decide) ?_
    refine r_callSi S hK hA hG (k_X5_in l _ _ _ _ _ _ _) (cwS 3 S.2.2.2.2 gX5_act_X5_in rfl rfl rfl (by decide +kernel) ⟨Nat.le_of_ble_eq_true rfl, Nat.le_of_ble_eq_true rfl⟩) rfl hl.1 rfl (Nat.le_of_ble_eq_true rfl) dX5_act_54 ⟨Nat.le_of_ble_eq_true rfl, Nat.le_of_ble_eq_true rfl⟩ (fun r54 _ H locs hw hG => ?_)
    obtain rfl := hw
    refine lv_if_eq (tgt := 90) S.1 S.2.1 dX5_act_57 (by decide) (fun c_57 => ?_) (fun c_57 => ?_)
    · have hf := ite_p c_57 hf
      refine lv_bipush (v := (-3)) S.1 S.2.1 dX5_act_90 (by decide) ?_
      exact r_iret S hr hlocks hG _ rfl hf rfl dX5_act_92
    · have hf := ite_n c_57 hf
      exact b_X5_act_60 S hr hlocks hK hA σ x1 x2 x3 x4 (hc) hf H locs hG ls (lv_sub hl [0, 1, 2, 3, 4] rfl)
def f_X5_act (σ : Mem) (x1 : Int32) (x2 : Int32) (x3 : Int32) (x4 : Int32) : Int32 × Mem :=
  (if (bI (f_X5_in x1 0 8)) = 0 then
  ((-3), σ)
  else
  (if (bI (f_X5_areKnown σ x1 x2 x3 x4)) = 0 then
  ((-2), σ)
  else
  (if x1 = 0 then
  (if (bI (f_X5_in x3 0 1000)) = 0 then
  ((-3), σ)
  else
  f_X5_act_43 σ x1 x2 x3 x4)
  else
  f_X5_act_43 σ x1 x2 x3 x4)))
set_option maxRecDepth 100000 in
set_option maxHeartbeats 4000000 in
theorem b_X5_act_0 {p : Program} {l : Launch} {e : Env} {s : State} {m : MethodId} {args : Array Value} {below : List Frame} {meth : Method} {c : Code} {D : va_G} {cI : ClassId} {ad : Nat → Nat} {w0 : va_W} {X : Int32 × Mem} (S : CallFix p m c cX5_act 5 s args wsX5_act RX5) (hr : meth.sig.returnType = (some .int)) (hlocks : meth.locks = false) (hK : va_K D vwCl [(cI, .int)] s) (hA : ∀ q, s.heap.size ≤ q → va_A w0 s.heap.size q) (σ : Mem) (x1 : Int32) (x2 : Int32) (x3 : Int32) (x4 : Int32) (hc : ∃ n : Nat, n ≤ 40 ∧ σ 0 9 = nI n) (hf : f_X5_act σ x1 x2 x3 x4 = X) (H : Heap) (locs : List Loc) (hG : wI D vwCl (va_A w0 s.heap.size) s.heap H locs (RW ad cI σ)) (ls : Array Slot) (hl : lv_has ls 5 [(0, .ref (ad 0)), (1, .int x1), (2, .int x2), (3, .int x3), (4, .int x4)]) : W p l e ({ frames := 4, cells := 0, slots := 0, locals := 88 } : Room) s m args below meth c H locs 0 0 (MQ below (va_Qi (fun (r : Int32) (u : Mem) => (r, u) = X) (fun u t => wPost D vwCl w0 s.heap.size ((fun u => RW ad cI u) u) t) (va_A w0 s.heap.size)) args s 0 0 (va_A w0 s.heap.size)) (F0 m 0 ls []) := by
  have hin := in_X5_act
  unfold f_X5_act at hf
  refine lv_iload_n S.1 S.2.1 dX5_act_0 rfl (lv_at hl 1 rfl) ?_
  refine lv_iconst (v := 0) S.1 S.2.1 dX5_act_1 (by decide) ?_
  refine lv_bipush (v := 8) S.1 S.2.1 dX5_act_2 (by decide) ?_
  refine r_callSi S hK hA hG (k_X5_in l _ _ _ _ _ _ _) (cwS 3 S.2.2.2.2 gX5_act_X5_in rfl rfl rfl (by decide +kernel) ⟨Nat.le_of_ble_eq_true rfl, Nat.le_of_ble_eq_true rfl⟩) rfl hl.1 rfl (Nat.le_of_ble_eq_true rfl) dX5_act_4 ⟨Nat.le_of_ble_eq_true rfl, Nat.le_of_ble_eq_true rfl⟩ (fun r4 _ H locs hw hG => ?_)
  obtain rfl := hw
  refine lv_if_ne (tgt := 13) S.1 S.2.1 dX5_act_7 (by decide) (fun c_7 => ?_) (fun c_7 => ?_)
  · have hf := ite_n c_7 hf
    refine lv_aload_n S.1 S.2.1 dX5_act_13 rfl (lv_at hl 0 rfl) ?_
    refine lv_iload_n S.1 S.2.1 dX5_act_14 rfl (lv_at hl 1 rfl) ?_
    refine lv_iload_n S.1 S.2.1 dX5_act_15 rfl (lv_at hl 2 rfl) ?_
    refine lv_iload_n S.1 S.2.1 dX5_act_16 rfl (lv_at hl 3 rfl) ?_
    refine lv_iload S.1 S.2.1 dX5_act_17 (lv_at hl 4 rfl) ?_
    refine r_callVi S hK hA hG (k_X5_areKnown l _ _ _ _ _ _ _ _) (cwV 4 S.2.2.2.2 gX5_act_X5_areKnown rfl rfl rfl (by decide +kernel) ⟨Nat.le_of_ble_eq_true rfl, Nat.le_of_ble_eq_true rfl⟩) (va_recv hK hG.1 (ci := 5) (q0 := 0) rfl rfl) rfl hl.1 rfl (Nat.le_of_ble_eq_true rfl) dX5_act_19 ⟨Nat.le_of_ble_eq_true rfl, Nat.le_of_ble_eq_true rfl⟩ (fun r19 _ H locs hw hG => ?_)
    obtain rfl := hw
    refine lv_if_ne (tgt := 28) S.1 S.2.1 dX5_act_22 (by decide) (fun c_22 => ?_) (fun c_22 => ?_)
    · have hf := ite_n c_22 hf
      refine lv_iload_n S.1 S.2.1 dX5_act_28 rfl (lv_at hl 1 rfl) ?_
      refine lv_if_ne (tgt := 43) S.1 S.2.1 dX5_act_29 (by decide) (fun c_29 => ?_) (fun c_29 => ?_)
      · have hf := ite_n c_29 hf
        exact b_X5_act_43 S hr hlocks hK hA σ x1 x2 x3 x4 (hc) hf H locs hG ls (lv_sub hl [0, 1, 2, 3, 4] rfl)
      · have hf := ite_p c_29 hf
        refine lv_iload_n S.1 S.2.1 dX5_act_32 rfl (lv_at hl 3 rfl) ?_
        refine lv_iconst (v := 0) S.1 S.2.1 dX5_act_33 (by decide) ?_
        refine lv_sipush (v := 1000) S.1 S.2.1 dX5_act_34 (by decide) ?_
        refine r_callSi S hK hA hG (k_X5_in l _ _ _ _ _ _ _) (cwS 3 S.2.2.2.2 gX5_act_X5_in rfl rfl rfl (by decide +kernel) ⟨Nat.le_of_ble_eq_true rfl, Nat.le_of_ble_eq_true rfl⟩) rfl hl.1 rfl (Nat.le_of_ble_eq_true rfl) dX5_act_37 ⟨Nat.le_of_ble_eq_true rfl, Nat.le_of_ble_eq_true rfl⟩ (fun r37 _ H locs hw hG => ?_)
        obtain rfl := hw
        refine lv_if_eq (tgt := 90) S.1 S.2.1 dX5_act_40 (by decide) (fun c_40 => ?_) (fun c_40 => ?_)
        · have hf := ite_p c_40 hf
          refine lv_bipush (v := (-3)) S.1 S.2.1 dX5_act_90 (by decide) ?_
          exact r_iret S hr hlocks hG _ rfl hf rfl dX5_act_92
        · have hf := ite_n c_40 hf
          exact b_X5_act_43 S hr hlocks hK hA σ x1 x2 x3 x4 (hc) hf H locs hG ls (lv_sub hl [0, 1, 2, 3, 4] rfl)
    · have hf := ite_p c_22 hf
      refine lv_bipush (v := (-2)) S.1 S.2.1 dX5_act_25 (by decide) ?_
      exact r_iret S hr hlocks hG _ rfl hf rfl dX5_act_27
  · have hf := ite_p c_7 hf
    refine lv_bipush (v := (-3)) S.1 S.2.1 dX5_act_10 (by decide) ?_
    exact r_iret S hr hlocks hG _ rfl hf rfl dX5_act_12
theorem k_X5_act (l : Launch) (D : va_G) (cI : ClassId) (ad : Nat → Nat) (σ : Mem) (x1 : Int32) (x2 : Int32) (x3 : Int32) (x4 : Int32) (hc : ∃ n : Nat, n ≤ 40 ∧ σ 0 9 = nI n) : CMi l yX5_act wsX5_act ({ frames := 4, cells := 0, slots := 0, locals := 88 } : Room) D vwCl [(cI, .int)] (RW ad cI σ) [.ref (ad 0), .int x1, .int x2, .int x3, .int x4] (fun (r : Int32) (u : Mem) => (r, u) = (f_X5_act σ x1 x2 x3 x4)) (fun u => RW ad cI u) :=
  r_met (by decide) rfl (Nat.le_of_ble_eq_true rfl) (fun p e s m args below meth c ls S hr hlocks _ hK hA hG hl => b_X5_act_0 S hr hlocks hK hA σ x1 x2 x3 x4 hc rfl _ _ hG ls hl)
