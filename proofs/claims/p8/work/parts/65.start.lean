/-! THE LAW'S START: a new class, a new reference, the loop -/
theorem ar_int {U : State} {a : Array Value} (h : (Cond.arrayClass .int).before a U = true) : ∃ cA : ClassId, ArrOfT U cA .int ∧ va_RA U cA .int := by
  obtain ⟨c, k, comp, h1, h2, h3⟩ := Cond.arrayClass_spec h
  exact ⟨c, fun n z => ⟨(fun k h => by cases h), k, h2, comp, h3⟩, h1⟩
theorem ar_obj {C : String} {U : State} (h : va_AO C U) : ∃ cA : ClassId, ArrOfT U cA (.object C) ∧ va_RA U cA (.object C) := by
  obtain ⟨comp, c, k, h1, -, h2, h3, h4⟩ := Cond.arrayOver_spec h
  exact ⟨c, fun n z => ⟨(fun k h => by cases h), k, h2, comp, h3⟩, k, comp, h2, h3, h1, h4⟩
theorem ar_arr {t : FieldType} {U : State} (h : va_AOA t U) : ∃ cA : ClassId, ArrOfT U cA (.array t) ∧ va_RA U cA (.array t) := by
  obtain ⟨comp, c, k, h1, h2, h3, h4⟩ := aoa_spec h
  cases hk : k.kind with
  | array co ty =>
    rw [hk] at h4
    simp only [Bool.and_eq_true, decide_eq_true_eq] at h4
    exact ⟨c, fun n z => ⟨(fun k h => by cases h), k, h3, co, by rw [hk, h4.1]⟩, h4.2⟩
  | _ => rw [hk] at h4; cases h4
theorem init_row (r : Nat) (hr : r ≠ 2) : ∀ (n : Nat) (σ : Mem) (t : Int32), f_X5_init_188 n σ t r = σ r := by
  intro n
  induction n with
  | zero => intro σ t; rfl
  | succ n ih =>
    intro σ t
    unfold f_X5_init_188
    by_cases c : 6 ≤ t
    · rw [if_pos c]
    · rw [if_neg c]
      exact (ih _ _).trans (mset_ne _ _ _ hr)
theorem i5_row (r : Nat) (hr : r ≠ 2) : f_X5_init r = fun _ => 0 := init_row r hr 7 s0_X5 0
theorem vp_0 {n : Nat} (h : 0 < n) : vp_in 0 n := fun c => by
  rcases c with c | c
  · exact absurd c (by decide)
  · have : (0 : Int32).toNatClampNeg = 0 := rfl
    omega
theorem i5_inv : RInv 0 0 0 f_X5_init := by
  have a0 := i5_row 0 (by decide)
  have a5 := i5_row 5 (by decide)
  have a6 := i5_row 6 (by decide)
  have a7 := i5_row 7 (by decide)
  have a11 := i5_row 11 (by decide)
  have a12 := i5_row 12 (by decide)
  have a13 := i5_row 13 (by decide)
  have a16 := i5_row 16 (by decide)
  refine ⟨fun i hi => ?_, ⟨⟨0, by omega, by rw [a0]; rfl⟩, fun j hj => by rw [a16]; exact vp_0 (by decide)⟩, ⟨by rw [a0]; rfl, by omega⟩, ⟨by rw [a0]; rfl, by omega⟩, by rw [a0], 0, by omega, by rw [a0]; rfl⟩
  rw [a5, a6, a7, a11, a12, a13]
  dsimp only
  have z (n : Nat) (h : 0 < n) : vp_in 0 n := vp_0 h
  refine ⟨fun _ => z 8 (by decide), fun _ => z 8 (by decide), fun _ => z 40 (by decide), fun _ => z 40 (by decide), fun _ => z 6 (by decide), fun h => absurd h (by decide), fun h => absurd h (by decide), fun h => absurd h (by decide), fun h => absurd h (by decide), fun h => absurd h (by decide), fun h => absurd h (by decide), by decide⟩
theorem iT_0 : ∀ w ∈ wsX00, w ∈ lw_tbl := by decide +kernel
theorem iT_1 : ∀ w ∈ wsX10, w ∈ lw_tbl := by decide +kernel
theorem iT_2 : ∀ w ∈ wsX20, w ∈ lw_tbl := by decide +kernel
theorem iT_3 : ∀ w ∈ wsX30, w ∈ lw_tbl := by decide +kernel
theorem iT_4 : ∀ w ∈ wsX40, w ∈ lw_tbl := by decide +kernel
theorem iT_5 : ∀ w ∈ wsX50, w ∈ lw_tbl := by decide +kernel
theorem gN_at {s : State} {b : Nat} (hts : ∀ w ∈ lw_tbl, w.before #[Value.ref b] s = true) : gN s := ⟨va_AO.of (hts (.arrayOver (.object "GardenRules$Rule")) (by decide +kernel)), va_AO.of (hts (.arrayOver (.object "GardenRules$Act")) (by decide +kernel)), hts (.arrayOver (.array .int)) (by decide +kernel), hts (.methodLinkNest RX4 35 yX3_init "GardenRules") (by decide +kernel), hts (.methodLinkNest RX4 42 yX1_init "GardenRules") (by decide +kernel), hts (.fieldLinkNest RX4 147 "GardenRules$Waiting" "size" "I" "GardenRules") (by decide +kernel), hts (.fieldLinkNest RX4 150 "GardenRules$Failures" "size" "I" "GardenRules") (by decide +kernel)⟩
set_option maxHeartbeats 4000000 in
theorem K_at {s : State} {b : Nat} (hts : ∀ w ∈ lw_tbl, w.before #[Value.ref b] s = true) (hN : gN s) : ∃ (D : va_G) (cs : Nat → ClassId), va_K D vwCl (gT cs) s := by
  obtain ⟨c0, i0, h0⟩ := u_known (C := RX0) (T := TX0) (N := 4) (n := 4) hts iT_0 (hts (.instantiable RX0 4) (by decide +kernel))
  obtain ⟨c1, i1, h1⟩ := u_known (C := RX1) (T := TX1) (N := 4) (n := 4) hts iT_1 (hts (.instantiable RX1 4) (by decide +kernel))
  obtain ⟨c2, i2, h2⟩ := u_known (C := RX2) (T := TX2) (N := 6) (n := 6) hts iT_2 (hts (.instantiable RX2 6) (by decide +kernel))
  obtain ⟨c3, i3, h3⟩ := u_known (C := RX3) (T := TX3) (N := 3) (n := 3) hts iT_3 (hts (.instantiable RX3 3) (by decide +kernel))
  obtain ⟨c4, i4, h4⟩ := u_known (C := RX4) (T := TX4) (N := 16) (n := 16) hts iT_4 (hts (.instantiable RX4 16) (by decide +kernel))
  obtain ⟨c5, i5, h5⟩ := u_known (C := RX5) (T := TX5) (N := 36) (n := 36) hts iT_5 (hts (.instantiable RX5 36) (by decide +kernel))
  obtain ⟨d0, g0⟩ := ar_int (hts (.arrayClass .int) (by decide +kernel))
  obtain ⟨d1, g1⟩ := ar_obj hN.1
  obtain ⟨d2, g2⟩ := ar_obj hN.2.1
  obtain ⟨d3, g3⟩ := ar_arr hN.2.2.1
  refine ⟨(fun k => match k with | 0 => c0 | 1 => c1 | 2 => c2 | 3 => c3 | 4 => c4 | _ => c5, fun k => match k with | 0 => i0 | 1 => i1 | 2 => i2 | 3 => i3 | 4 => i4 | _ => i5), fun k => match k with | 0 => d0 | 1 => d1 | 2 => d2 | _ => d3, ?_, ?_⟩
  · intro k q hq
    match k, hq with
    | 0, hq => cases hq; exact h0
    | 1, hq => cases hq; exact h1
    | 2, hq => cases hq; exact h2
    | 3, hq => cases hq; exact h3
    | 4, hq => cases hq; exact h4
    | 5, hq => cases hq; exact h5
    | k + 6, hq => exact absurd hq (by simp [vwCl])
  · intro k q hq
    match k, hq with
    | 0, hq => cases hq; exact g0
    | 1, hq => cases hq; exact g1
    | 2, hq => cases hq; exact g2
    | 3, hq => cases hq; exact g3
    | k + 4, hq => exact absurd hq (by simp)
set_option maxRecDepth 100000 in
set_option maxHeartbeats 4000000 in
theorem whole_start {p : Program} {e : Env} {s : State} {m : MethodId} {below : List Frame} {meth : Method} {c : Code} (l : Launch) {b L : Nat} {xs : Nat → Int32} (hL : L ≤ 2560) (C0 : lw_At p s m meth c b L xs) : W p l e room_1 s m #[Value.ref b] below meth c s.heap [] 0 0 (lw_Z below #[Value.ref b] s) (entryFrame m ([Value.ref b] : List Value).toArray 4) := by
  obtain ⟨hx, hb, hr, hml, hown, hts, hX, hbl, hlocks, hgv⟩ := id C0
  have S : CallFix p m c cL_law 4 s #[Value.ref b] wsL_law RL := ⟨hx, hb, hml, hown, fun w h => hts w (wsL_law_in w h)⟩
  have S1 : CallFix p m c cL_law 4 s #[Value.ref b] lw_tbl RL := ⟨hx, hb, hml, hown, hts⟩
  have hA : ∀ q : Nat, s.heap.size ≤ q → (fun q : Nat => s.heap.size ≤ q) q := fun _ h => h
  have hN : gN s := gN_at hts
  obtain ⟨D, cs, hK⟩ := K_at hts hN
  have hK5 : va_K D vwCl [(cs 0, .int)] s := hK.sub [0] rfl
  have hl := lv_entry ([.ref b]) (n := 4) (Nat.le_of_ble_eq_true rfl)
  rw [lg_entry_eq]
  generalize (lg_sl ([.ref b]) ++ List.replicate (4 - (lg_sl ([.ref b])).length) Slot.unset).toArray = ls at hl ⊢
  have hl : lv_has ls 4 [(0, .ref b)] := hl
  have hG : wI D vwCl (fun q : Nat => s.heap.size ≤ q) s.heap s.heap [] [] := ⟨fun k q h => by simp at h, ⟨fun i j p q h => by simp at h, fun k q h => by simp at h⟩, va_S.rf⟩
  refine r_new (C := RX4) (T := TX4) (N := 16) (ci := 4) (index := 7) (fs := [.null, .null, .null, .null, .null, .null, .null, .int 0, .int 0, .int 0, .int 0, .int 0, .int 0, .int 0, .int 0, .int 0]) S1 hK hA hG iT_4 tyX4 tyX4_ok (by decide +kernel) (by decide +kernel) (by decide +kernel) rfl (fun j hj => by rcases (show j = 0 ∨ j = 1 ∨ j = 2 ∨ j = 3 ∨ j = 4 ∨ j = 5 ∨ j = 6 ∨ j = 7 ∨ j = 8 ∨ j = 9 ∨ j = 10 ∨ j = 11 ∨ j = 12 ∨ j = 13 ∨ j = 14 ∨ j = 15 by omega) with rfl | rfl | rfl | rfl | rfl | rfl | rfl | rfl | rfl | rfl | rfl | rfl | rfl | rfl | rfl | rfl <;> rfl) (Nat.le_of_ble_eq_true rfl) (Nat.le_of_ble_eq_true rfl) dL_law_0 (fun q0 H hG => ?_)
  have hG : wI D vwCl (fun q : Nat => s.heap.size ≤ q) s.heap H [] [(q0, .inr (4, [.null, .null, .null, .null, .null, .null, .null, .int 0, .int 0, .int 0, .int 0, .int 0, .int 0, .int 0, .int 0, .int 0]))] := hG
  refine lv_dup S.1 S.2.1 dL_law_3 rfl ?_
  refine r_callIN (As := []) (rest := [.ref q0]) gN_ok hN S hK hA hG (k_X4_init l D cs q0) (cwI 0 S.2.2.2.2 gL_law_X4_init rfl rfl rfl (hts (.initialized RX4) (by decide +kernel)) (hts (.methodLink RL 9 yX4_init) (by decide +kernel)) (hts (.instanceMethod yX4_init) (by decide +kernel)) rfl (by decide +kernel) ⟨Nat.le_of_ble_eq_true rfl, Nat.le_of_ble_eq_true rfl⟩) rfl hl.1 rfl (Nat.le_of_ble_eq_true rfl) dL_law_4 ⟨Nat.le_of_ble_eq_true rfl, Nat.le_of_ble_eq_true rfl⟩ (fun ad H locs had hG => ?_)
  refine lv_astore_n (lv' := [(1, .ref q0), (0, .ref b)]) S.1 S.2.1 dL_law_7 rfl hl (by decide) rfl (fun ls hl => ?_)
  refine r_new (C := RX5) (T := TX5) (N := 36) (ci := 5) (index := 10) (fs := [.null, .null, .int 0, .int 0, .null, .null, .null, .null, .null, .int 0, .null, .null, .null, .null, .int 0, .null, .null, .int 0, .null, .null, .null, .int 0, .int 0, .int 0, .int 0, .int 0, .int 0, .null, .null, .null, .null, .null, .null, .int 0, .int 0, .int 0]) S1 hK hA hG iT_5 tyX5 tyX5_ok (by decide +kernel) (by decide +kernel) (by decide +kernel) rfl (fun j hj => by rcases (show j = 0 ∨ j = 1 ∨ j = 2 ∨ j = 3 ∨ j = 4 ∨ j = 5 ∨ j = 6 ∨ j = 7 ∨ j = 8 ∨ j = 9 ∨ j = 10 ∨ j = 11 ∨ j = 12 ∨ j = 13 ∨ j = 14 ∨ j = 15 ∨ j = 16 ∨ j = 17 ∨ j = 18 ∨ j = 19 ∨ j = 20 ∨ j = 21 ∨ j = 22 ∨ j = 23 ∨ j = 24 ∨ j = 25 ∨ j = 26 ∨ j = 27 ∨ j = 28 ∨ j = 29 ∨ j = 30 ∨ j = 31 ∨ j = 32 ∨ j = 33 ∨ j = 34 ∨ j = 35 by omega) with rfl | rfl | rfl | rfl | rfl | rfl | rfl | rfl | rfl | rfl | rfl | rfl | rfl | rfl | rfl | rfl | rfl | rfl | rfl | rfl | rfl | rfl | rfl | rfl | rfl | rfl | rfl | rfl | rfl | rfl | rfl | rfl | rfl | rfl | rfl | rfl <;> rfl) (Nat.le_of_ble_eq_true rfl) (Nat.le_of_ble_eq_true rfl) dL_law_8 (fun q1 H hG => ?_)
  refine lv_dup S.1 S.2.1 dL_law_11 rfl ?_
  refine r_callIvF (As := []) (rest := [.ref q1]) S hK5 hA hG (k_X5_init l D (cs 0) q1) (cwI 0 S.2.2.2.2 gL_law_X5_init rfl rfl rfl (hts (.initialized RX5) (by decide +kernel)) (hts (.methodLink RL 12 yX5_init) (by decide +kernel)) (hts (.instanceMethod yX5_init) (by decide +kernel)) rfl (by decide +kernel) ⟨Nat.le_of_ble_eq_true rfl, Nat.le_of_ble_eq_true rfl⟩) rfl hl.1 rfl (Nat.le_of_ble_eq_true rfl) dL_law_12 ⟨Nat.le_of_ble_eq_true rfl, Nat.le_of_ble_eq_true rfl⟩ (fun u H locs hu hG => ?_)
  obtain ⟨ae, τ⟩ := u
  obtain ⟨e1, e2⟩ := hu
  have e1 : τ = f_X5_init := e1
  have e2 : ae 0 = q1 := e2
  have hI : RInv 0 0 0 τ := by rw [e1]; exact i5_inv
  refine lv_astore_n (lv' := [(2, .ref q1), (1, .ref q0), (0, .ref b)]) S.1 S.2.1 dL_law_15 rfl hl (by decide) rfl (fun ls hl => ?_)
  refine lv_iconst (v := 0) S.1 S.2.1 dL_law_16 (by decide) ?_
  refine lv_istore_n (lv' := [(3, .int 0), (2, .ref q1), (1, .ref q0), (0, .ref b)]) S.1 S.2.1 dL_law_17 rfl hl (by decide) rfl (fun ls hl => ?_)
  refine W.widen (k := 76 + 0) (n := 4527 + 6 * 0) (Nat.le_of_ble_eq_true rfl) (Nat.le_of_ble_eq_true rfl) ?_
  exact law_loop hL C0 hK hN (L + 1) 0 0 rfl (by omega) (by omega) ad 0 0 0 s0_G s0_G ae τ s0_inv hI H locs hG ls (by rw [had, e2]; exact lv_sub hl [3, 2, 1, 0] rfl)
