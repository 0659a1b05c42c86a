theorem in_X2_init : ∀ w ∈ wsX20, w ∈ wsX2_init := by decide +kernel
set_option maxRecDepth 100000 in
set_option maxHeartbeats 4000000 in
theorem k_X2_init (l : Launch) (D : va_G) (tys : List (ClassId × FieldType)) (q : Nat) (f0 f1 f2 f3 f4 f5 k0 k1 k2 k3 k4 : Int32) : CMv l yX2_init wsX2_init ({ frames := 1, cells := 0, slots := 0, locals := 12 } : Room) D vwCl tys [(q, .inr (2, [.int f0, .int f1, .int f2, .int f3, .int f4, .int f5]))] [.ref q, .int k0, .int k1, .int k2, .int k3, .int k4] (fun (_ : Unit) => True) (fun _ => [(q, .inr (2, [.int k0, .int k1, .int k2, .int k3, .int k4, .int f5]))]) := by
  refine r_met (by decide) rfl (Nat.le_of_ble_eq_true rfl) (fun p e s m args below meth c ls S hr hlocks hnm hK hA hG hl => ?_)
  have hl : lv_has ls 6 [(0, .ref q), (1, .int k0), (2, .int k1), (3, .int k2), (4, .int k3), (5, .int k4)] := hl
  have hin := in_X2_init
  refine lv_aload_n S.1 S.2.1 dX2_init_0 rfl (lv_at hl 0 rfl) ?_
  refine W.objInit S.1 S.2.1 S.2.2.2.1 (S.2.2.2.2 (.methodLink RX2 1 objectInit) (by decide +kernel)) (S.2.2.2.2 (.instanceMethod objectInit) (by decide +kernel)) (S.2.2.2.2 (.code objectInit ⟨#[0xb1]⟩ 1 none) (List.mem_of_getElem? (i := 3) rfl)) rfl (by rw [S.2.2.1]; exact hl.1) rfl dX2_init_1 (Nat.le_of_ble_eq_true rfl) (Nat.le_of_ble_eq_true rfl) ?_
  refine W.eq (g2 := F0 m 4 ls []) rfl ?_
  refine lv_aload_n S.1 S.2.1 dX2_init_4 rfl (lv_at hl 0 rfl) ?_
  refine lv_iload_n S.1 S.2.1 dX2_init_5 rfl (lv_at hl 1 rfl) ?_
  refine r_putF (w' := [(q, .inr (2, [.int k0, .int f1, .int f2, .int f3, .int f4, .int f5]))]) S hK hG hin tyX2 tyX2_ok nmX2 0 rfl rfl 0 (by decide) (by decide +kernel) rfl hnm rfl rfl rfl (Nat.le_of_ble_eq_true rfl) rfl dX2_init_6 (fun H locs hG => ?_)
  refine lv_aload_n S.1 S.2.1 dX2_init_9 rfl (lv_at hl 0 rfl) ?_
  refine lv_iload_n S.1 S.2.1 dX2_init_10 rfl (lv_at hl 2 rfl) ?_
  refine r_putF (w' := [(q, .inr (2, [.int k0, .int k1, .int f2, .int f3, .int f4, .int f5]))]) S hK hG hin tyX2 tyX2_ok nmX2 0 rfl rfl 1 (by decide) (by decide +kernel) rfl hnm rfl rfl rfl (Nat.le_of_ble_eq_true rfl) rfl dX2_init_11 (fun H locs hG => ?_)
  refine lv_aload_n S.1 S.2.1 dX2_init_14 rfl (lv_at hl 0 rfl) ?_
  refine lv_iload_n S.1 S.2.1 dX2_init_15 rfl (lv_at hl 3 rfl) ?_
  refine r_putF (w' := [(q, .inr (2, [.int k0, .int k1, .int k2, .int f3, .int f4, .int f5]))]) S hK hG hin tyX2 tyX2_ok nmX2 0 rfl rfl 2 (by decide) (by decide +kernel) rfl hnm rfl rfl rfl (Nat.le_of_ble_eq_true rfl) rfl dX2_init_16 (fun H locs hG => ?_)
  refine lv_aload_n S.1 S.2.1 dX2_init_19 rfl (lv_at hl 0 rfl) ?_
  refine lv_iload S.1 S.2.1 dX2_init_20 (lv_at hl 4 rfl) ?_
  refine r_putF (w' := [(q, .inr (2, [.int k0, .int k1, .int k2, .int k3, .int f4, .int f5]))]) S hK hG hin tyX2 tyX2_ok nmX2 0 rfl rfl 3 (by decide) (by decide +kernel) rfl hnm rfl rfl rfl (Nat.le_of_ble_eq_true rfl) rfl dX2_init_22 (fun H locs hG => ?_)
  refine lv_aload_n S.1 S.2.1 dX2_init_25 rfl (lv_at hl 0 rfl) ?_
  refine lv_iload S.1 S.2.1 dX2_init_26 (lv_at hl 5 rfl) ?_
  refine r_putF (w' := [(q, .inr (2, [.int k0, .int k1, .int k2, .int k3, .int k4, .int f5]))]) S hK hG hin tyX2 tyX2_ok nmX2 0 rfl rfl 4 (by decide) (by decide +kernel) rfl hnm rfl rfl rfl (Nat.le_of_ble_eq_true rfl) rfl dX2_init_28 (fun H locs hG => ?_)
  exact r_vret S hr hlocks hG () rfl trivial dX2_init_31

theorem in_X0_init : ∀ w ∈ wsX00, w ∈ wsX0_init := by decide +kernel
set_option maxRecDepth 100000 in
set_option maxHeartbeats 4000000 in
theorem k_X0_init (l : Launch) (D : va_G) (tys : List (ClassId × FieldType)) (q : Nat) (f0 f1 f2 f3 k0 k1 k2 k3 : Int32) : CMv l yX0_init wsX0_init ({ frames := 1, cells := 0, slots := 0, locals := 12 } : Room) D vwCl tys [(q, .inr (0, [.int f0, .int f1, .int f2, .int f3]))] [.ref q, .int k0, .int k1, .int k2, .int k3] (fun (_ : Unit) => True) (fun _ => [(q, .inr (0, [.int k0, .int k1, .int k2, .int k3]))]) := by
  refine r_met (by decide) rfl (Nat.le_of_ble_eq_true rfl) (fun p e s m args below meth c ls S hr hlocks hnm hK hA hG hl => ?_)
  have hl : lv_has ls 5 [(0, .ref q), (1, .int k0), (2, .int k1), (3, .int k2), (4, .int k3)] := hl
  have hin := in_X0_init
  refine lv_aload_n S.1 S.2.1 dX0_init_0 rfl (lv_at hl 0 rfl) ?_
  refine W.objInit S.1 S.2.1 S.2.2.2.1 (S.2.2.2.2 (.methodLink RX0 1 objectInit) (by decide +kernel)) (S.2.2.2.2 (.instanceMethod objectInit) (by decide +kernel)) (S.2.2.2.2 (.code objectInit ⟨#[0xb1]⟩ 1 none) (List.mem_of_getElem? (i := 3) rfl)) rfl (by rw [S.2.2.1]; exact hl.1) rfl dX0_init_1 (Nat.le_of_ble_eq_true rfl) (Nat.le_of_ble_eq_true rfl) ?_
  refine W.eq (g2 := F0 m 4 ls []) rfl ?_
  refine lv_aload_n S.1 S.2.1 dX0_init_4 rfl (lv_at hl 0 rfl) ?_
  refine lv_iload_n S.1 S.2.1 dX0_init_5 rfl (lv_at hl 1 rfl) ?_
  refine r_putF (w' := [(q, .inr (0, [.int k0, .int f1, .int f2, .int f3]))]) S hK hG hin tyX0 tyX0_ok nmX0 0 rfl rfl 0 (by decide) (by decide +kernel) rfl hnm rfl rfl rfl (Nat.le_of_ble_eq_true rfl) rfl dX0_init_6 (fun H locs hG => ?_)
  refine lv_aload_n S.1 S.2.1 dX0_init_9 rfl (lv_at hl 0 rfl) ?_
  refine lv_iload_n S.1 S.2.1 dX0_init_10 rfl (lv_at hl 2 rfl) ?_
  refine r_putF (w' := [(q, .inr (0, [.int k0, .int k1, .int f2, .int f3]))]) S hK hG hin tyX0 tyX0_ok nmX0 0 rfl rfl 1 (by decide) (by decide +kernel) rfl hnm rfl rfl rfl (Nat.le_of_ble_eq_true rfl) rfl dX0_init_11 (fun H locs hG => ?_)
  refine lv_aload_n S.1 S.2.1 dX0_init_14 rfl (lv_at hl 0 rfl) ?_
  refine lv_iload_n S.1 S.2.1 dX0_init_15 rfl (lv_at hl 3 rfl) ?_
  refine r_putF (w' := [(q, .inr (0, [.int k0, .int k1, .int k2, .int f3]))]) S hK hG hin tyX0 tyX0_ok nmX0 0 rfl rfl 2 (by decide) (by decide +kernel) rfl hnm rfl rfl rfl (Nat.le_of_ble_eq_true rfl) rfl dX0_init_16 (fun H locs hG => ?_)
  refine lv_aload_n S.1 S.2.1 dX0_init_19 rfl (lv_at hl 0 rfl) ?_
  refine lv_iload S.1 S.2.1 dX0_init_20 (lv_at hl 4 rfl) ?_
  refine r_putF (w' := [(q, .inr (0, [.int k0, .int k1, .int k2, .int k3]))]) S hK hG hin tyX0 tyX0_ok nmX0 0 rfl rfl 3 (by decide) (by decide +kernel) rfl hnm rfl rfl rfl (Nat.le_of_ble_eq_true rfl) rfl dX0_init_22 (fun H locs hG => ?_)
  exact r_vret S hr hlocks hG () rfl trivial dX0_init_25

