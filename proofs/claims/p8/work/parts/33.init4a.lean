theorem in_X3_init : ∀ w ∈ wsX30, w ∈ wsX3_init := by decide +kernel
set_option maxRecDepth 100000 in
set_option maxHeartbeats 4000000 in
theorem k_X3_init (l : Launch) (D : va_G) (cs : Nat → ClassId) (q : Nat) : CMv l yX3_init wsX3_init ({ frames := 1, cells := 2, slots := 120, locals := 12 } : Room) D vwCl (gT cs) [(q, .inr (3, [.null, .null, .int 0]))] [.ref q] (fun (_ : Nat × Nat) => True) (fun u => [(q, .inr (3, [.ref u.1, .ref u.2, .int 0])), (u.1, .inl (cs 0, 60, .inl (fun _ => 0))), (u.2, .inl (cs 0, 60, .inl (fun _ => 0)))]) := by
  refine r_met (by decide) rfl (Nat.le_of_ble_eq_true rfl) (fun p e s m args below meth c ls S hr hlocks hnm hK hA hG hl => ?_)
  have hl : lv_has ls 1 [(0, .ref q)] := hl
  have hin := in_X3_init
  refine lv_aload_n S.1 S.2.1 dX3_init_0 rfl (lv_at hl 0 rfl) ?_
  refine W.objInit S.1 S.2.1 S.2.2.2.1 (S.2.2.2.2 (.methodLink RX3 3 objectInit) (by decide +kernel)) (S.2.2.2.2 (.instanceMethod objectInit) (by decide +kernel)) (S.2.2.2.2 (.code objectInit ⟨#[0xb1]⟩ 1 none) (List.mem_of_getElem? (i := 3) rfl)) rfl (by rw [S.2.2.1]; exact hl.1) rfl dX3_init_1 (Nat.le_of_ble_eq_true rfl) (Nat.le_of_ble_eq_true rfl) ?_
  refine W.eq (g2 := F0 m 4 ls []) rfl ?_
  refine lv_aload_n S.1 S.2.1 dX3_init_4 rfl (lv_at hl 0 rfl) ?_
  refine lv_bipush (v := 60) S.1 S.2.1 dX3_init_5 (by decide) ?_
  refine r_newa (N := 60) S hK hA hG 0 rfl (by decide +kernel) (by decide) (by decide) (by decide) (Nat.le_of_ble_eq_true rfl) (Nat.le_of_ble_eq_true rfl) dX3_init_7 (fun q1 H hG => ?_)
  refine r_putF (w' := [(q, .inr (3, [.ref q1, .null, .int 0])), (q1, .inl (cs 0, 60, .inl (fun _ => 0)))]) S hK hG hin tyX3 tyX3_ok nmX3 0 rfl rfl 0 (by decide) (by decide +kernel) rfl hnm rfl rfl rfl (Nat.le_of_ble_eq_true rfl) rfl dX3_init_9 (fun H locs hG => ?_)
  refine lv_aload_n S.1 S.2.1 dX3_init_12 rfl (lv_at hl 0 rfl) ?_
  refine lv_bipush (v := 60) S.1 S.2.1 dX3_init_13 (by decide) ?_
  refine r_newa (N := 60) S hK hA hG 0 rfl (by decide +kernel) (by decide) (by decide) (by decide) (Nat.le_of_ble_eq_true rfl) (Nat.le_of_ble_eq_true rfl) dX3_init_15 (fun q2 H hG => ?_)
  refine r_putF (w' := [(q, .inr (3, [.ref q1, .ref q2, .int 0])), (q1, .inl (cs 0, 60, .inl (fun _ => 0))), (q2, .inl (cs 0, 60, .inl (fun _ => 0)))]) S hK hG hin tyX3 tyX3_ok nmX3 0 rfl rfl 1 (by decide) (by decide +kernel) rfl hnm rfl rfl rfl (Nat.le_of_ble_eq_true rfl) rfl dX3_init_17 (fun H locs hG => ?_)
  exact r_vret S hr hlocks hG (q1, q2) rfl trivial dX3_init_20
theorem in_X1_init : ∀ w ∈ wsX10, w ∈ wsX1_init := by decide +kernel
set_option maxRecDepth 100000 in
set_option maxHeartbeats 4000000 in
theorem k_X1_init (l : Launch) (D : va_G) (cs : Nat → ClassId) (q : Nat) : CMv l yX1_init wsX1_init ({ frames := 1, cells := 3, slots := 90, locals := 12 } : Room) D vwCl (gT cs) [(q, .inr (1, [.null, .null, .null, .int 0]))] [.ref q] (fun (_ : Nat × Nat × Nat) => True) (fun u => [(q, .inr (1, [.ref u.1, .ref u.2.1, .ref u.2.2, .int 0])), (u.1, .inl (cs 0, 30, .inl (fun _ => 0))), (u.2.1, .inl (cs 0, 30, .inl (fun _ => 0))), (u.2.2, .inl (cs 0, 30, .inl (fun _ => 0)))]) := by
  refine r_met (by decide) rfl (Nat.le_of_ble_eq_true rfl) (fun p e s m args below meth c ls S hr hlocks hnm hK hA hG hl => ?_)
  have hl : lv_has ls 1 [(0, .ref q)] := hl
  have hin := in_X1_init
  refine lv_aload_n S.1 S.2.1 dX1_init_0 rfl (lv_at hl 0 rfl) ?_
  refine W.objInit S.1 S.2.1 S.2.2.2.1 (S.2.2.2.2 (.methodLink RX1 3 objectInit) (by decide +kernel)) (S.2.2.2.2 (.instanceMethod objectInit) (by decide +kernel)) (S.2.2.2.2 (.code objectInit ⟨#[0xb1]⟩ 1 none) (List.mem_of_getElem? (i := 3) rfl)) rfl (by rw [S.2.2.1]; exact hl.1) rfl dX1_init_1 (Nat.le_of_ble_eq_true rfl) (Nat.le_of_ble_eq_true rfl) ?_
  refine W.eq (g2 := F0 m 4 ls []) rfl ?_
  refine lv_aload_n S.1 S.2.1 dX1_init_4 rfl (lv_at hl 0 rfl) ?_
  refine lv_bipush (v := 30) S.1 S.2.1 dX1_init_5 (by decide) ?_
  refine r_newa (N := 30) S hK hA hG 0 rfl (by decide +kernel) (by decide) (by decide) (by decide) (Nat.le_of_ble_eq_true rfl) (Nat.le_of_ble_eq_true rfl) dX1_init_7 (fun q1 H hG => ?_)
  refine r_putF (w' := [(q, .inr (1, [.ref q1, .null, .null, .int 0])), (q1, .inl (cs 0, 30, .inl (fun _ => 0)))]) S hK hG hin tyX1 tyX1_ok nmX1 0 rfl rfl 0 (by decide) (by decide +kernel) rfl hnm rfl rfl rfl (Nat.le_of_ble_eq_true rfl) rfl dX1_init_9 (fun H locs hG => ?_)
  refine lv_aload_n S.1 S.2.1 dX1_init_12 rfl (lv_at hl 0 rfl) ?_
  refine lv_bipush (v := 30) S.1 S.2.1 dX1_init_13 (by decide) ?_
  refine r_newa (N := 30) S hK hA hG 0 rfl (by decide +kernel) (by decide) (by decide) (by decide) (Nat.le_of_ble_eq_true rfl) (Nat.le_of_ble_eq_true rfl) dX1_init_15 (fun q2 H hG => ?_)
  refine r_putF (w' := [(q, .inr (1, [.ref q1, .ref q2, .null, .int 0])), (q1, .inl (cs 0, 30, .inl (fun _ => 0))), (q2, .inl (cs 0, 30, .inl (fun _ => 0)))]) S hK hG hin tyX1 tyX1_ok nmX1 0 rfl rfl 1 (by decide) (by decide +kernel) rfl hnm rfl rfl rfl (Nat.le_of_ble_eq_true rfl) rfl dX1_init_17 (fun H locs hG => ?_)
  refine lv_aload_n S.1 S.2.1 dX1_init_20 rfl (lv_at hl 0 rfl) ?_
  refine lv_bipush (v := 30) S.1 S.2.1 dX1_init_21 (by decide) ?_
  refine r_newa (N := 30) S hK hA hG 0 rfl (by decide +kernel) (by decide) (by decide) (by decide) (Nat.le_of_ble_eq_true rfl) (Nat.le_of_ble_eq_true rfl) dX1_init_23 (fun q3 H hG => ?_)
  refine r_putF (w' := [(q, .inr (1, [.ref q1, .ref q2, .ref q3, .int 0])), (q1, .inl (cs 0, 30, .inl (fun _ => 0))), (q2, .inl (cs 0, 30, .inl (fun _ => 0))), (q3, .inl (cs 0, 30, .inl (fun _ => 0)))]) S hK hG hin tyX1 tyX1_ok nmX1 0 rfl rfl 2 (by decide) (by decide +kernel) rfl hnm rfl rfl rfl (Nat.le_of_ble_eq_true rfl) rfl dX1_init_25 (fun H locs hG => ?_)
  exact r_vret S hr hlocks hG (q1, q2, q3) rfl trivial dX1_init_28
def fillF (n : Nat) (x : Int32) (k : Nat) (f : Nat → Int32) : Nat → Int32 := fun j => if j < k ∧ j < n then x else f j
theorem fillF_s (n : Nat) (x : Int32) {k : Nat} (f : Nat → Int32) (h : k < n) : upd (fillF n x k f) k x = fillF n x (k + 1) f := by
  funext j
  unfold upd fillF
  by_cases e : j = k
  · subst e; rw [if_pos rfl, if_pos (by omega)]
  · rw [if_neg e]
    by_cases q : j < k ∧ j < n
    · rw [if_pos q, if_pos (by omega)]
    · rw [if_neg q, if_neg (by omega)]
set_option maxRecDepth 100000 in
set_option maxHeartbeats 4000000 in
theorem b_fill_5 {p : Program} {l : Launch} {e : Env} {s : State} {m : MethodId} {args : Array Value} {below : List Frame} {meth : Method} {c : Code} {D : va_G} {cs : Nat → ClassId} {q n : Nat} {x : Int32} {f : Nat → Int32} (hn : n < 2 ^ 31) (S : CallFix p m c cJ7_fill_53178 4 s args wsJ7_fill_53178 RJ7) (hr : meth.sig.returnType = none) (hlocks : meth.locks = false) (hK : va_K D vwCl (gT cs) s) : ∀ (g k : Nat) (i : Int32), i = nI k → k ≤ n → n + 1 ≤ k + g → ∀ (H : Heap) (locs : List Loc), wI D vwCl (va_A [(q, .inl (cs 0, n, .inl f))] s.heap.size) s.heap H locs [(q, .inl (cs 0, n, .inl (fillF n x k f)))] → ∀ (ls : Array Slot), lv_has ls 4 [(0, .ref q), (1, .int x), (2, .int i), (3, .int (nI n))] → W p l e ({ frames := 0, cells := 0, slots := 0, locals := 0 } : Room) s m args below meth c H locs 0 0 (MQ below (va_Qv (fun (_ : Unit) => True) (fun _ t => wPost D vwCl [(q, .inl (cs 0, n, .inl f))] s.heap.size [(q, .inl (cs 0, n, .inl (fillF n x n f)))] t) (va_A [(q, .inl (cs 0, n, .inl f))] s.heap.size)) args s 0 0 (va_A [(q, .inl (cs 0, n, .inl f))] s.heap.size)) (F0 m 5 ls []) := by
  intro g
  induction g with
  | zero =>
    intro k i _ h1 h2
    omega
  | succ g ih =>
    intro k i ei h1 h2 H locs hG ls hl
    refine lv_iload_n S.1 S.2.1 dJ7_fill_53178_5 rfl (lv_at hl 2 rfl) ?_
    refine lv_iload_n S.1 S.2.1 dJ7_fill_53178_6 rfl (lv_at hl 3 rfl) ?_
    refine lv_icmp_ge (tgt := 20) S.1 S.2.1 dJ7_fill_53178_7 (by decide) (fun c7 => ?_) (fun c7 => ?_)
    · have hk : k = n := by
        rw [ei] at c7
        have := (nI_leI hn (by omega)).mp c7
        omega
      subst hk
      exact r_vret S hr hlocks hG () rfl trivial dJ7_fill_53178_20
    · have hk : k < n := by
        rcases Nat.lt_or_ge k n with z | z
        · exact z
        · exact absurd (by rw [ei]; exact nI_le z (by omega)) c7
      refine lv_aload_n S.1 S.2.1 dJ7_fill_53178_10 rfl (lv_at hl 0 rfl) ?_
      refine lv_iload_n S.1 S.2.1 dJ7_fill_53178_11 rfl (lv_at hl 2 rfl) ?_
      refine lv_iload_n S.1 S.2.1 dJ7_fill_53178_12 rfl (lv_at hl 1 rfl) ?_
      refine r_iast (w' := [(q, .inl (cs 0, n, .inl (fillF n x (k + 1) f)))]) S hK hG 0 0 rfl rfl (by rw [ei]; exact vp_in_nI hk hn) (by rw [ei, nI_clamp (by omega), fillF_s n x f hk]; rfl) dJ7_fill_53178_13 (fun H locs hG => ?_)
      obtain ⟨v, ev⟩ : ∃ z : Int32, z = i + 1 := ⟨_, rfl⟩
      refine lv_iinc (v := v) (lv' := [(2, .int v), (0, .ref q), (1, .int x), (3, .int (nI n))]) S.1 S.2.1 dJ7_fill_53178_14 hl (k := 2) rfl (by rw [ev]; rfl) (by decide) rfl (fun ls hl => ?_)
      refine lv_goto (tgt := 5) S.1 S.2.1 dJ7_fill_53178_17 (by decide) ?_
      exact ih (k + 1) v (by rw [ev, ei]; exact nI_1 k) hk (by omega) H locs hG ls (lv_sub hl [1, 2, 0, 3] rfl)
set_option maxRecDepth 100000 in
set_option maxHeartbeats 4000000 in
theorem k_fill (l : Launch) (D : va_G) (cs : Nat → ClassId) (q n : Nat) (x : Int32) (f : Nat → Int32) (hn : n < 2 ^ 31) : CMv l yJ7_fill_53178 wsJ7_fill_53178 ({ frames := 0, cells := 0, slots := 0, locals := 0 } : Room) D vwCl (gT cs) [(q, .inl (cs 0, n, .inl f))] [.ref q, .int x] (fun (_ : Unit) => True) (fun _ => [(q, .inl (cs 0, n, .inl (fillF n x n f)))]) := by
  refine r_met (by decide) rfl (Nat.le_of_ble_eq_true rfl) (fun p e s m args below meth c ls S hr hlocks hnm hK hA hG hl => ?_)
  have hl : lv_has ls 4 [(0, .ref q), (1, .int x)] := hl
  refine lv_iconst (v := 0) S.1 S.2.1 dJ7_fill_53178_0 (by decide) ?_
  refine lv_istore_n (lv' := [(2, .int 0), (0, .ref q), (1, .int x)]) S.1 S.2.1 dJ7_fill_53178_1 rfl hl (by decide) rfl (fun ls hl => ?_)
  refine lv_aload_n S.1 S.2.1 dJ7_fill_53178_2 rfl (lv_at hl 1 rfl) ?_
  refine va_alen (v := nI n) S.1 S.2.1 hK hG.1 0 0 rfl rfl rfl dJ7_fill_53178_3 ?_
  refine lv_istore_n (lv' := [(3, .int (nI n)), (2, .int 0), (0, .ref q), (1, .int x)]) S.1 S.2.1 dJ7_fill_53178_4 rfl hl (by decide) rfl (fun ls hl => ?_)
  refine b_fill_5 hn S hr hlocks hK (n + 1) 0 0 rfl (Nat.zero_le n) (by omega) _ _ ?_ ls (lv_sub hl [2, 3, 1, 0] rfl)
  rw [show fillF n x 0 f = f from funext fun j => if_neg (by omega)]
  exact hG
