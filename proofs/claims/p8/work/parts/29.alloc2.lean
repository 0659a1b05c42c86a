theorem in_X4_rule_X4 : ∀ w ∈ wsX40, w ∈ wsX4_rule := by decide +kernel
theorem in_X4_rule_X2 : ∀ w ∈ wsX20, w ∈ wsX4_rule := by decide +kernel
theorem ci_newR {nr nx : Nat} {wy : Int32} {T σ : Mem} (k a b c e : Int32) (h : CInv nr nx wy T σ) (hn : nr < 40) : CInv (nr + 1) nx wy (newR σ nr k a b c e) (newR σ nr k a b c e) := by
  obtain ⟨h1, h2, h3, h4, h5, h6, h7⟩ := h
  refine ⟨⟨?_, hn⟩, ⟨?_, h2.2⟩, ?_, ?_, ?_, fun _ _ => rfl, fun _ _ _ _ => rfl⟩
  · rw [nR_c, h1.1, nI_1]
  · rw [nR_0 _ _ _ _ _ _ _ (by decide)]; exact h2.1
  · rw [nR_r _ _ _ _ _ _ _ (by omega)]; exact h3
  · rw [nR_r _ _ _ _ _ _ _ (by omega)]; exact h4
  · rw [nR_0 _ _ _ _ _ _ _ (by decide)]; exact h5
def f_X4_rule_51 (σ : Mem) (x1 x2 x3 x4 : Int32) : Int32 × Mem := (σ 0 7, newR σ (σ 0 7).toNatClampNeg x1 x2 x3 x4 (f_X4_reading σ x2))
set_option maxRecDepth 100000 in
set_option maxHeartbeats 4000000 in
theorem b_X4_rule_51 {p : Program} {l : Launch} {e : Env} {s : State} {m : MethodId} {args : Array Value} {below : List Frame} {meth : Method} {c : Code} {D : va_G} {cs : Nat → ClassId} {ad : Nat → Nat} {nr nx : Nat} {wy : Int32} {T : Mem} {w0 : va_W} {X : Int32 × Mem} (S : CallFix p m c cX4_rule 5 s args wsX4_rule RX4) (hr : meth.sig.returnType = (some .int)) (hlocks : meth.locks = false) (hK : va_K D vwCl (gT cs) s) (hA : ∀ q, s.heap.size ≤ q → va_A w0 s.heap.size q) (σ : Mem) (x1 x2 x3 x4 : Int32) (hc : CInv nr nx wy T σ) (hlt : σ 0 7 < 40) (hf : f_X4_rule_51 σ x1 x2 x3 x4 = X) (H : Heap) (locs : List Loc) (hG : wI D vwCl (va_A w0 s.heap.size) s.heap H locs (GW ad cs nr nx σ)) (ls : Array Slot) (hl : lv_has ls 5 [(0, .ref (ad 0)), (1, .int x1), (2, .int x2), (3, .int x3), (4, .int x4)]) : W p l e ({ frames := 3, cells := 1, slots := 6, locals := 65 } : Room) s m args below meth c H locs 0 0 (MQ below (va_Qi (fun (r : Int32) (u : (Nat → Nat) × Nat × Mem) => (r, u.2.2) = X ∧ u.1 0 = ad 0 ∧ ∃ T1, CInv u.2.1 nx wy T1 u.2.2) (fun u t => wPost D vwCl w0 s.heap.size ((fun u => GW u.1 cs u.2.1 nx u.2.2) u) t) (va_A w0 s.heap.size)) args s 1 6 (va_A w0 s.heap.size)) (F0 m 51 ls []) := by
  have hinX4 := in_X4_rule_X4
  have hinX2 := in_X4_rule_X2
  have hn : nr < 40 := by rw [hc.1.1] at hlt; exact (nI_ltI (by have := hc.1.2; omega) (by decide)).mp (show nI nr < nI 40 from hlt)
  have ecl : (σ 0 7).toNatClampNeg = nr := by rw [hc.1.1]; exact nI_clamp (by omega)
  have hvp : vp_in (σ 0 7) 40 := by rw [hc.1.1]; exact vp_in_nI hn (by decide)
  refine lv_aload_n S.1 S.2.1 dX4_rule_51 rfl (lv_at hl 0 rfl) ?_
  refine r_get S hK hG hinX4 0 rfl rfl 3 (by decide) (by decide +kernel) rfl dX4_rule_52 ?_
  refine lv_aload_n S.1 S.2.1 dX4_rule_55 rfl (lv_at hl 0 rfl) ?_
  refine r_get S hK hG hinX4 0 rfl rfl 7 (by decide) (by decide +kernel) rfl dX4_rule_56 ?_
  refine r_new (ci := 2) (fs := [.int 0, .int 0, .int 0, .int 0, .int 0, .int 0]) S hK hA hG hinX2 tyX2 tyX2_ok (by decide +kernel) (by decide +kernel) (by decide +kernel) rfl (fun j hj => by rcases (show j = 0 ∨ j = 1 ∨ j = 2 ∨ j = 3 ∨ j = 4 ∨ j = 5 by omega) with rfl | rfl | rfl | rfl | rfl | rfl <;> rfl) (Nat.le_of_ble_eq_true rfl) (Nat.le_of_ble_eq_true rfl) dX4_rule_59 (fun q H hG => ?_)
  refine lv_dup S.1 S.2.1 dX4_rule_62 rfl ?_
  refine lv_iload_n S.1 S.2.1 dX4_rule_63 rfl (lv_at hl 1 rfl) ?_
  refine lv_iload_n S.1 S.2.1 dX4_rule_64 rfl (lv_at hl 2 rfl) ?_
  refine lv_iload_n S.1 S.2.1 dX4_rule_65 rfl (lv_at hl 3 rfl) ?_
  refine lv_iload S.1 S.2.1 dX4_rule_66 (lv_at hl 4 rfl) ?_
  refine lv_aload_n S.1 S.2.1 dX4_rule_68 rfl (lv_at hl 0 rfl) ?_
  refine lv_iload_n S.1 S.2.1 dX4_rule_69 rfl (lv_at hl 2 rfl) ?_
  refine r_callViF S hK hA hG (k_X4_reading l _ _ _ _ _ _ _ hc) (cwV 1 S.2.2.2.2 gX4_rule_X4_reading rfl rfl rfl (by decide +kernel) ⟨Nat.le_of_ble_eq_true rfl, Nat.le_of_ble_eq_true rfl⟩) (va_recv hK hG.1 (ci := 4) (q0 := 0) rfl rfl) rfl hl.1 rfl (Nat.le_of_ble_eq_true rfl) dX4_rule_70 ⟨Nat.le_of_ble_eq_true rfl, Nat.le_of_ble_eq_true rfl⟩ (fun r70 _ H locs hw hG => ?_)
  obtain rfl := hw
  refine r_callIvF S hK hA hG (k_X2_init l _ _ q 0 0 0 0 0 0 _ _ _ _ _) (cwI 5 S.2.2.2.2 gX4_rule_X2_init rfl rfl rfl (S.2.2.2.2 (.initialized RX2) (by decide +kernel)) (S.2.2.2.2 (.methodLink RX4 82 yX2_init) (by decide +kernel)) (S.2.2.2.2 (.instanceMethod yX2_init) (by decide +kernel)) rfl (by decide +kernel) ⟨Nat.le_of_ble_eq_true rfl, Nat.le_of_ble_eq_true rfl⟩) rfl hl.1 rfl (Nat.le_of_ble_eq_true rfl) dX4_rule_73 ⟨Nat.le_of_ble_eq_true rfl, Nat.le_of_ble_eq_true rfl⟩ (fun _ H locs _ hG => ?_)
  refine va_astq S.1 S.2.1 hK hG.1 hG.2.1 hG.2.2 4 1 (GW ad cs nr nx σ).length 2 rfl rfl (by rw [List.getElem?_append_right (Nat.le_refl _), Nat.sub_self]; rfl) rfl hvp dX4_rule_76 (fun H locs h1 h2 h3 => ?_)
  rw [ecl] at h1 h2
  have hG := (⟨h1, h2, h3⟩ : wI D vwCl (va_A w0 s.heap.size) s.heap H locs _)
  refine lv_aload_n S.1 S.2.1 dX4_rule_77 rfl (lv_at hl 0 rfl) ?_
  refine lv_dup S.1 S.2.1 dX4_rule_78 rfl ?_
  refine r_get S hK hG hinX4 0 rfl rfl 7 (by decide) (by decide +kernel) rfl dX4_rule_79 ?_
  refine lv_dup_x1 S.1 S.2.1 dX4_rule_82 rfl rfl ?_
  refine lv_iconst (v := 1) S.1 S.2.1 dX4_rule_83 (by decide) ?_
  refine lv_iadd S.1 S.2.1 dX4_rule_84 ?_
  refine r_put S hK hG hinX4 tyX4 tyX4_ok nmX4 0 rfl rfl 7 (by decide) (by decide +kernel) rfl rfl rfl (Nat.le_of_ble_eq_true rfl) rfl dX4_rule_85 (fun H locs hG => ?_)
  have hG := wI_perm (GW_R ad cs σ q _ _ _ _ _ hc.1.2 hc.2.1.2 hn) hG
  have hf : (σ 0 7, newR σ nr x1 x2 x3 x4 (f_X4_reading σ x2)) = X := by rw [← hf]; unfold f_X4_rule_51; rw [ecl]
  exact r_iret S hr hlocks hG (va_up ad (200 + nr) q, nr + 1, newR σ nr x1 x2 x3 x4 (f_X4_reading σ x2)) rfl ⟨hf, va_up_ne _ _ (by show (0 : Nat) ≠ _; omega), _, ci_newR _ _ _ _ _ hc hn⟩ rfl dX4_rule_88
def f_X4_rule (σ : Mem) (x1 : Int32) (x2 : Int32) (x3 : Int32) (x4 : Int32) : Int32 × Mem :=
  (if (bI (f_X4_isWithin x1 0 9)) = 0 then
  ((-3), σ)
  else
  (if (bI (f_X4_knowsPartsOfRule σ x1 x2 x3)) = 0 then
  ((-2), σ)
  else
  (if (bI (f_X4_hasNumbersOfRule x1 x3 x4)) = 0 then
  ((-3), σ)
  else
  (if (σ 0 7) < 40 then
  f_X4_rule_51 σ x1 x2 x3 x4
  else
  ((-4), σ)))))
set_option maxRecDepth 100000 in
set_option maxHeartbeats 4000000 in
theorem b_X4_rule_0 {p : Program} {l : Launch} {e : Env} {s : State} {m : MethodId} {args : Array Value} {below : List Frame} {meth : Method} {c : Code} {D : va_G} {cs : Nat → ClassId} {ad : Nat → Nat} {nr nx : Nat} {wy : Int32} {T : Mem} {w0 : va_W} {X : Int32 × Mem} (S : CallFix p m c cX4_rule 5 s args wsX4_rule RX4) (hr : meth.sig.returnType = (some .int)) (hlocks : meth.locks = false) (hK : va_K D vwCl (gT cs) s) (hA : ∀ q, s.heap.size ≤ q → va_A w0 s.heap.size q) (σ : Mem) (x1 : Int32) (x2 : Int32) (x3 : Int32) (x4 : Int32) (hc : CInv nr nx wy T σ) (hf : f_X4_rule σ x1 x2 x3 x4 = X) (H : Heap) (locs : List Loc) (hG : wI D vwCl (va_A w0 s.heap.size) s.heap H locs (GW ad cs nr nx σ)) (ls : Array Slot) (hl : lv_has ls 5 [(0, .ref (ad 0)), (1, .int x1), (2, .int x2), (3, .int x3), (4, .int x4)]) : W p l e ({ frames := 3, cells := 1, slots := 6, locals := 65 } : Room) s m args below meth c H locs 0 0 (MQ below (va_Qi (fun (r : Int32) (u : (Nat → Nat) × Nat × Mem) => (r, u.2.2) = X ∧ u.1 0 = ad 0 ∧ ∃ T1, CInv u.2.1 nx wy T1 u.2.2) (fun u t => wPost D vwCl w0 s.heap.size ((fun u => GW u.1 cs u.2.1 nx u.2.2) u) t) (va_A w0 s.heap.size)) args s 1 6 (va_A w0 s.heap.size)) (F0 m 0 ls []) := by
  have hinX4 := in_X4_rule_X4
  unfold f_X4_rule at hf
  refine lv_iload_n S.1 S.2.1 dX4_rule_0 rfl (lv_at hl 1 rfl) ?_
  refine lv_iconst (v := 0) S.1 S.2.1 dX4_rule_1 (by decide) ?_
  refine lv_bipush (v := 9) S.1 S.2.1 dX4_rule_2 (by decide) ?_
  refine r_callSi S hK hA hG (k_X4_isWithin l _ _ _ _ _ _ _) (cwS 3 S.2.2.2.2 gX4_rule_X4_isWithin rfl rfl rfl (by decide +kernel) ⟨Nat.le_of_ble_eq_true rfl, Nat.le_of_ble_eq_true rfl⟩) rfl hl.1 rfl (Nat.le_of_ble_eq_true rfl) dX4_rule_4 ⟨Nat.le_of_ble_eq_true rfl, Nat.le_of_ble_eq_true rfl⟩ (fun r4 _ H locs hw hG => ?_)
  obtain rfl := hw
  refine lv_if_ne (tgt := 13) S.1 S.2.1 dX4_rule_7 (by decide) (fun c_7 => ?_) (fun c_7 => ?_)
  · have hf := ite_n c_7 hf
    refine lv_aload_n S.1 S.2.1 dX4_rule_13 rfl (lv_at hl 0 rfl) ?_
    refine lv_iload_n S.1 S.2.1 dX4_rule_14 rfl (lv_at hl 1 rfl) ?_
    refine lv_iload_n S.1 S.2.1 dX4_rule_15 rfl (lv_at hl 2 rfl) ?_
    refine lv_iload_n S.1 S.2.1 dX4_rule_16 rfl (lv_at hl 3 rfl) ?_
    refine r_callVi S hK hA hG (k_X4_knowsPartsOfRule l _ _ _ _ _ _ _ _ _ hc) (cwV 3 S.2.2.2.2 gX4_rule_X4_knowsPartsOfRule rfl rfl rfl (by decide +kernel) ⟨Nat.le_of_ble_eq_true rfl, Nat.le_of_ble_eq_true rfl⟩) (va_recv hK hG.1 (ci := 4) (q0 := 0) rfl rfl) rfl hl.1 rfl (Nat.le_of_ble_eq_true rfl) dX4_rule_17 ⟨Nat.le_of_ble_eq_true rfl, Nat.le_of_ble_eq_true rfl⟩ (fun r17 _ H locs hw hG => ?_)
    obtain rfl := hw
    refine lv_if_ne (tgt := 26) S.1 S.2.1 dX4_rule_20 (by decide) (fun c_20 => ?_) (fun c_20 => ?_)
    · have hf := ite_n c_20 hf
      refine lv_iload_n S.1 S.2.1 dX4_rule_26 rfl (lv_at hl 1 rfl) ?_
      refine lv_iload_n S.1 S.2.1 dX4_rule_27 rfl (lv_at hl 3 rfl) ?_
      refine lv_iload S.1 S.2.1 dX4_rule_28 (lv_at hl 4 rfl) ?_
      refine r_callSi S hK hA hG (k_X4_hasNumbersOfRule l _ _ _ _ _ _ _) (cwS 3 S.2.2.2.2 gX4_rule_X4_hasNumbersOfRule rfl rfl rfl (by decide +kernel) ⟨Nat.le_of_ble_eq_true rfl, Nat.le_of_ble_eq_true rfl⟩) rfl hl.1 rfl (Nat.le_of_ble_eq_true rfl) dX4_rule_30 ⟨Nat.le_of_ble_eq_true rfl, Nat.le_of_ble_eq_true rfl⟩ (fun r30 _ H locs hw hG => ?_)
      obtain rfl := hw
      refine lv_if_ne (tgt := 39) S.1 S.2.1 dX4_rule_33 (by decide) (fun c_33 => ?_) (fun c_33 => ?_)
      · have hf := ite_n c_33 hf
        refine lv_aload_n S.1 S.2.1 dX4_rule_39 rfl (lv_at hl 0 rfl) ?_
        refine r_get S hK hG hinX4 0 rfl rfl 7 (by decide) (by decide +kernel) rfl dX4_rule_40 ?_
        refine lv_bipush (v := 40) S.1 S.2.1 dX4_rule_43 (by decide) ?_
        refine lv_icmp_lt (tgt := 51) S.1 S.2.1 dX4_rule_45 (by decide) (fun c_45 => ?_) (fun c_45 => ?_)
        · have hf := ite_p c_45 hf
          exact b_X4_rule_51 S hr hlocks hK hA σ x1 x2 x3 x4 (hc) (c_45) hf H locs hG ls (lv_sub hl [0, 1, 2, 3, 4] rfl)
        · have hf := ite_n c_45 hf
          refine lv_bipush (v := (-4)) S.1 S.2.1 dX4_rule_48 (by decide) ?_
          exact W.widen (k := 1) (n := 6) (by decide) (by decide) (r_iret S hr hlocks hG (ad, nr, _) rfl ⟨hf, rfl, _, hc⟩ rfl dX4_rule_50)
      · have hf := ite_p c_33 hf
        refine lv_bipush (v := (-3)) S.1 S.2.1 dX4_rule_36 (by decide) ?_
        exact W.widen (k := 1) (n := 6) (by decide) (by decide) (r_iret S hr hlocks hG (ad, nr, _) rfl ⟨hf, rfl, _, hc⟩ rfl dX4_rule_38)
    · have hf := ite_p c_20 hf
      refine lv_bipush (v := (-2)) S.1 S.2.1 dX4_rule_23 (by decide) ?_
      exact W.widen (k := 1) (n := 6) (by decide) (by decide) (r_iret S hr hlocks hG (ad, nr, _) rfl ⟨hf, rfl, _, hc⟩ rfl dX4_rule_25)
  · have hf := ite_p c_7 hf
    refine lv_bipush (v := (-3)) S.1 S.2.1 dX4_rule_10 (by decide) ?_
    exact W.widen (k := 1) (n := 6) (by decide) (by decide) (r_iret S hr hlocks hG (ad, nr, _) rfl ⟨hf, rfl, _, hc⟩ rfl dX4_rule_12)
theorem k_X4_rule (l : Launch) (D : va_G) (cs : Nat → ClassId) (ad : Nat → Nat) (nr nx : Nat) (σ : Mem) (x1 : Int32) (x2 : Int32) (x3 : Int32) (x4 : Int32) {wy : Int32} {T : Mem} (hc : CInv nr nx wy T σ) : CMi l yX4_rule wsX4_rule ({ frames := 3, cells := 1, slots := 6, locals := 65 } : Room) D vwCl (gT cs) (GW ad cs nr nx σ) [.ref (ad 0), .int x1, .int x2, .int x3, .int x4] (fun (r : Int32) (u : (Nat → Nat) × Nat × Mem) => (r, u.2.2) = (f_X4_rule σ x1 x2 x3 x4) ∧ u.1 0 = ad 0 ∧ ∃ T1, CInv u.2.1 nx wy T1 u.2.2) (fun u => GW u.1 cs u.2.1 nx u.2.2) :=
  r_met (by decide) rfl (Nat.le_of_ble_eq_true rfl) (fun p e s m args below meth c ls S hr hlocks _ hK hA hG hl => b_X4_rule_0 S hr hlocks hK hA σ x1 x2 x3 x4 hc rfl _ _ hG ls hl)
theorem in_X4_act_X4 : ∀ w ∈ wsX40, w ∈ wsX4_act := by decide +kernel
theorem in_X4_act_X0 : ∀ w ∈ wsX00, w ∈ wsX4_act := by decide +kernel
theorem ci_newX {nr nx : Nat} {wy : Int32} {T σ : Mem} (k a b c : Int32) (h : CInv nr nx wy T σ) (hn : nx < 40) : CInv nr (nx + 1) wy (newX σ nx k a b c) (newX σ nx k a b c) := by
  obtain ⟨h1, h2, h3, h4, h5, h6, h7⟩ := h
  refine ⟨⟨?_, h1.2⟩, ⟨?_, hn⟩, ?_, ?_, ?_, fun _ _ => rfl, fun _ _ _ _ => rfl⟩
  · rw [nX_0 _ _ _ _ _ _ (by decide)]; exact h1.1
  · rw [nX_c, h2.1, nI_1]
  · rw [nX_r _ _ _ _ _ _ (by omega)]; exact h3
  · rw [nX_r _ _ _ _ _ _ (by omega)]; exact h4
  · rw [nX_0 _ _ _ _ _ _ (by decide)]; exact h5
def f_X4_act_71 (σ : Mem) (x1 x2 x3 x4 fi : Int32) : Int32 × Mem := (σ 0 8, newX σ (σ 0 8).toNatClampNeg x1 fi x3 x4)
set_option maxRecDepth 100000 in
set_option maxHeartbeats 4000000 in
theorem b_X4_act_71 {p : Program} {l : Launch} {e : Env} {s : State} {m : MethodId} {args : Array Value} {below : List Frame} {meth : Method} {c : Code} {D : va_G} {cs : Nat → ClassId} {ad : Nat → Nat} {nr nx : Nat} {wy : Int32} {T : Mem} {w0 : va_W} {X : Int32 × Mem} (S : CallFix p m c cX4_act 6 s args wsX4_act RX4) (hr : meth.sig.returnType = (some .int)) (hlocks : meth.locks = false) (hK : va_K D vwCl (gT cs) s) (hA : ∀ q, s.heap.size ≤ q → va_A w0 s.heap.size q) (σ : Mem) (x1 x2 x3 x4 fi : Int32) (hc : CInv nr nx wy T σ) (hlt : σ 0 8 < 40) (hf : f_X4_act_71 σ x1 x2 x3 x4 fi = X) (H : Heap) (locs : List Loc) (hG : wI D vwCl (va_A w0 s.heap.size) s.heap H locs (GW ad cs nr nx σ)) (ls : Array Slot) (hl : lv_has ls 6 [(0, .ref (ad 0)), (1, .int x1), (2, .int x2), (3, .int x3), (4, .int x4), (5, .int fi)]) : W p l e ({ frames := 4, cells := 1, slots := 4, locals := 87 } : Room) s m args below meth c H locs 0 0 (MQ below (va_Qi (fun (r : Int32) (u : (Nat → Nat) × Nat × Mem) => (r, u.2.2) = X ∧ u.1 0 = ad 0 ∧ ∃ T1, CInv nr u.2.1 wy T1 u.2.2) (fun u t => wPost D vwCl w0 s.heap.size ((fun u => GW u.1 cs nr u.2.1 u.2.2) u) t) (va_A w0 s.heap.size)) args s 1 4 (va_A w0 s.heap.size)) (F0 m 71 ls []) := by
  have hinX4 := in_X4_act_X4
  have hinX0 := in_X4_act_X0
  have hn : nx < 40 := by rw [hc.2.1.1] at hlt; exact (nI_ltI (by have := hc.2.1.2; omega) (by decide)).mp (show nI nx < nI 40 from hlt)
  have ecl : (σ 0 8).toNatClampNeg = nx := by rw [hc.2.1.1]; exact nI_clamp (by omega)
  have hvp : vp_in (σ 0 8) 40 := by rw [hc.2.1.1]; exact vp_in_nI hn (by decide)
  refine lv_aload_n S.1 S.2.1 dX4_act_71 rfl (lv_at hl 0 rfl) ?_
  refine r_get S hK hG hinX4 0 rfl rfl 4 (by decide) (by decide +kernel) rfl dX4_act_72 ?_
  refine lv_aload_n S.1 S.2.1 dX4_act_75 rfl (lv_at hl 0 rfl) ?_
  refine r_get S hK hG hinX4 0 rfl rfl 8 (by decide) (by decide +kernel) rfl dX4_act_76 ?_
  refine r_new (ci := 0) (fs := [.int 0, .int 0, .int 0, .int 0]) S hK hA hG hinX0 tyX0 tyX0_ok (by decide +kernel) (by decide +kernel) (by decide +kernel) rfl (fun j hj => by rcases (show j = 0 ∨ j = 1 ∨ j = 2 ∨ j = 3 by omega) with rfl | rfl | rfl | rfl <;> rfl) (Nat.le_of_ble_eq_true rfl) (Nat.le_of_ble_eq_true rfl) dX4_act_79 (fun q H hG => ?_)
  refine lv_dup S.1 S.2.1 dX4_act_82 rfl ?_
  refine lv_iload_n S.1 S.2.1 dX4_act_83 rfl (lv_at hl 1 rfl) ?_
  refine lv_iload S.1 S.2.1 dX4_act_84 (lv_at hl 5 rfl) ?_
  refine lv_iload_n S.1 S.2.1 dX4_act_86 rfl (lv_at hl 3 rfl) ?_
  refine lv_iload S.1 S.2.1 dX4_act_87 (lv_at hl 4 rfl) ?_
  refine r_callIvF S hK hA hG (k_X0_init l _ _ q 0 0 0 0 _ _ _ _) (cwI 4 S.2.2.2.2 gX4_act_X0_init rfl rfl rfl (S.2.2.2.2 (.initialized RX0) (by decide +kernel)) (S.2.2.2.2 (.methodLink RX4 118 yX0_init) (by decide +kernel)) (S.2.2.2.2 (.instanceMethod yX0_init) (by decide +kernel)) rfl (by decide +kernel) ⟨Nat.le_of_ble_eq_true rfl, Nat.le_of_ble_eq_true rfl⟩) rfl hl.1 rfl (Nat.le_of_ble_eq_true rfl) dX4_act_89 ⟨Nat.le_of_ble_eq_true rfl, Nat.le_of_ble_eq_true rfl⟩ (fun _ H locs _ hG => ?_)
  refine va_astq S.1 S.2.1 hK hG.1 hG.2.1 hG.2.2 5 2 (GW ad cs nr nx σ).length 0 rfl rfl (by rw [List.getElem?_append_right (Nat.le_refl _), Nat.sub_self]; rfl) rfl hvp dX4_act_92 (fun H locs h1 h2 h3 => ?_)
  rw [ecl] at h1 h2
  have hG := (⟨h1, h2, h3⟩ : wI D vwCl (va_A w0 s.heap.size) s.heap H locs _)
  refine lv_aload_n S.1 S.2.1 dX4_act_93 rfl (lv_at hl 0 rfl) ?_
  refine lv_dup S.1 S.2.1 dX4_act_94 rfl ?_
  refine r_get S hK hG hinX4 0 rfl rfl 8 (by decide) (by decide +kernel) rfl dX4_act_95 ?_
  refine lv_dup_x1 S.1 S.2.1 dX4_act_98 rfl rfl ?_
  refine lv_iconst (v := 1) S.1 S.2.1 dX4_act_99 (by decide) ?_
  refine lv_iadd S.1 S.2.1 dX4_act_100 ?_
  refine r_put S hK hG hinX4 tyX4 tyX4_ok nmX4 0 rfl rfl 8 (by decide) (by decide +kernel) rfl rfl rfl (Nat.le_of_ble_eq_true rfl) rfl dX4_act_101 (fun H locs hG => ?_)
  have hG := wI_perm (GW_X ad cs σ q _ _ _ _ hc.1.2 hc.2.1.2) hG
  have hf : (σ 0 8, newX σ nx x1 fi x3 x4) = X := by rw [← hf]; unfold f_X4_act_71; rw [ecl]
  exact r_iret S hr hlocks hG (va_up ad (300 + nx) q, nx + 1, newX σ nx x1 fi x3 x4) rfl ⟨hf, va_up_ne _ _ (by show (0 : Nat) ≠ _; omega), _, ci_newX _ _ _ _ hc hn⟩ rfl dX4_act_104
def f_X4_act (σ : Mem) (x1 : Int32) (x2 : Int32) (x3 : Int32) (x4 : Int32) : Int32 × Mem :=
  (if (bI (f_X4_isWithin x1 0 8)) = 0 then
  ((-3), σ)
  else
  (if (bI (f_X4_knowsPartsOfAct σ x1 x2 x3 x4)) = 0 then
  ((-2), σ)
  else
  (if (bI (f_X4_hasNumbersOfAct x1 x3 x4)) = 0 then
  ((-3), σ)
  else
  (if (σ 0 8) < 40 then
  (if x1 = 7 then
  bnd ((σ 0 8) - 1) fun v1 =>
  f_X4_act_71 σ x1 x2 x3 x4 v1
  else
  f_X4_act_71 σ x1 x2 x3 x4 x2)
  else
  ((-4), σ)))))
set_option maxRecDepth 100000 in
set_option maxHeartbeats 4000000 in
theorem b_X4_act_0 {p : Program} {l : Launch} {e : Env} {s : State} {m : MethodId} {args : Array Value} {below : List Frame} {meth : Method} {c : Code} {D : va_G} {cs : Nat → ClassId} {ad : Nat → Nat} {nr nx : Nat} {wy : Int32} {T : Mem} {w0 : va_W} {X : Int32 × Mem} (S : CallFix p m c cX4_act 6 s args wsX4_act RX4) (hr : meth.sig.returnType = (some .int)) (hlocks : meth.locks = false) (hK : va_K D vwCl (gT cs) s) (hA : ∀ q, s.heap.size ≤ q → va_A w0 s.heap.size q) (σ : Mem) (x1 : Int32) (x2 : Int32) (x3 : Int32) (x4 : Int32) (hc : CInv nr nx wy T σ) (hf : f_X4_act σ x1 x2 x3 x4 = X) (H : Heap) (locs : List Loc) (hG : wI D vwCl (va_A w0 s.heap.size) s.heap H locs (GW ad cs nr nx σ)) (ls : Array Slot) (hl : lv_has ls 6 [(0, .ref (ad 0)), (1, .int x1), (2, .int x2), (3, .int x3), (4, .int x4)]) : W p l e ({ frames := 4, cells := 1, slots := 4, locals := 87 } : Room) s m args below meth c H locs 0 0 (MQ below (va_Qi (fun (r : Int32) (u : (Nat → Nat) × Nat × Mem) => (r, u.2.2) = X ∧ u.1 0 = ad 0 ∧ ∃ T1, CInv nr u.2.1 wy T1 u.2.2) (fun u t => wPost D vwCl w0 s.heap.size ((fun u => GW u.1 cs nr u.2.1 u.2.2) u) t) (va_A w0 s.heap.size)) args s 1 4 (va_A w0 s.heap.size)) (F0 m 0 ls []) := by
  have hinX4 := in_X4_act_X4
  unfold f_X4_act at hf
  refine lv_iload_n S.1 S.2.1 dX4_act_0 rfl (lv_at hl 1 rfl) ?_
  refine lv_iconst (v := 0) S.1 S.2.1 dX4_act_1 (by decide) ?_
  refine lv_bipush (v := 8) S.1 S.2.1 dX4_act_2 (by decide) ?_
  refine r_callSi S hK hA hG (k_X4_isWithin l _ _ _ _ _ _ _) (cwS 3 S.2.2.2.2 gX4_act_X4_isWithin rfl rfl rfl (by decide +kernel) ⟨Nat.le_of_ble_eq_true rfl, Nat.le_of_ble_eq_true rfl⟩) rfl hl.1 rfl (Nat.le_of_ble_eq_true rfl) dX4_act_4 ⟨Nat.le_of_ble_eq_true rfl, Nat.le_of_ble_eq_true rfl⟩ (fun r4 _ H locs hw hG => ?_)
  obtain rfl := hw
  refine lv_if_ne (tgt := 13) S.1 S.2.1 dX4_act_7 (by decide) (fun c_7 => ?_) (fun c_7 => ?_)
  · have hf := ite_n c_7 hf
    refine lv_aload_n S.1 S.2.1 dX4_act_13 rfl (lv_at hl 0 rfl) ?_
    refine lv_iload_n S.1 S.2.1 dX4_act_14 rfl (lv_at hl 1 rfl) ?_
    refine lv_iload_n S.1 S.2.1 dX4_act_15 rfl (lv_at hl 2 rfl) ?_
    refine lv_iload_n S.1 S.2.1 dX4_act_16 rfl (lv_at hl 3 rfl) ?_
    refine lv_iload S.1 S.2.1 dX4_act_17 (lv_at hl 4 rfl) ?_
    refine r_callVi S hK hA hG (k_X4_knowsPartsOfAct l _ _ _ _ _ _ _ _ _ _ hc) (cwV 4 S.2.2.2.2 gX4_act_X4_knowsPartsOfAct rfl rfl rfl (by decide +kernel) ⟨Nat.le_of_ble_eq_true rfl, Nat.le_of_ble_eq_true rfl⟩) (va_recv hK hG.1 (ci := 4) (q0 := 0) rfl rfl) rfl hl.1 rfl (Nat.le_of_ble_eq_true rfl) dX4_act_19 ⟨Nat.le_of_ble_eq_true rfl, Nat.le_of_ble_eq_true rfl⟩ (fun r19 _ H locs hw hG => ?_)
    obtain rfl := hw
    refine lv_if_ne (tgt := 28) S.1 S.2.1 dX4_act_22 (by decide) (fun c_22 => ?_) (fun c_22 => ?_)
    · have hf := ite_n c_22 hf
      refine lv_iload_n S.1 S.2.1 dX4_act_28 rfl (lv_at hl 1 rfl) ?_
      refine lv_iload_n S.1 S.2.1 dX4_act_29 rfl (lv_at hl 3 rfl) ?_
      refine lv_iload S.1 S.2.1 dX4_act_30 (lv_at hl 4 rfl) ?_
      refine r_callSi S hK hA hG (k_X4_hasNumbersOfAct l _ _ _ _ _ _ _) (cwS 3 S.2.2.2.2 gX4_act_X4_hasNumbersOfAct rfl rfl rfl (by decide +kernel) ⟨Nat.le_of_ble_eq_true rfl, Nat.le_of_ble_eq_true rfl⟩) rfl hl.1 rfl (Nat.le_of_ble_eq_true rfl) dX4_act_32 ⟨Nat.le_of_ble_eq_true rfl, Nat.le_of_ble_eq_true rfl⟩ (fun r32 _ H locs hw hG => ?_)
      obtain rfl := hw
      refine lv_if_ne (tgt := 41) S.1 S.2.1 dX4_act_35 (by decide) (fun c_35 => ?_) (fun c_35 => ?_)
      · have hf := ite_n c_35 hf
        refine lv_aload_n S.1 S.2.1 dX4_act_41 rfl (lv_at hl 0 rfl) ?_
        refine r_get S hK hG hinX4 0 rfl rfl 8 (by decide) (by decide +kernel) rfl dX4_act_42 ?_
        refine lv_bipush (v := 40) S.1 S.2.1 dX4_act_45 (by decide) ?_
        refine lv_icmp_lt (tgt := 53) S.1 S.2.1 dX4_act_47 (by decide) (fun c_47 => ?_) (fun c_47 => ?_)
        · have hf := ite_p c_47 hf
          refine lv_iload_n S.1 S.2.1 dX4_act_53 rfl (lv_at hl 1 rfl) ?_
          refine lv_bipush (v := 7) S.1 S.2.1 dX4_act_54 (by decide) ?_
          refine lv_icmp_ne (tgt := 68) S.1 S.2.1 dX4_act_56 (by decide) (fun c_56 => ?_) (fun c_56 => ?_)
          · have hf := ite_n c_56 hf
            refine lv_iload_n S.1 S.2.1 dX4_act_68 rfl (lv_at hl 2 rfl) ?_
            refine lv_istore (lv' := [(5, .int x2), (0, .ref (ad 0)), (1, .int x1), (2, .int x2), (3, .int x3), (4, .int x4)]) S.1 S.2.1 dX4_act_69 hl (by decide) rfl (fun ls hl => ?_)
            exact b_X4_act_71 S hr hlocks hK hA σ x1 x2 x3 x4 x2 (hc) (c_47) hf H locs hG ls (lv_sub hl [1, 2, 3, 4, 5, 0] rfl)
          · have hf := ite_p c_56 hf
            refine lv_aload_n S.1 S.2.1 dX4_act_59 rfl (lv_at hl 0 rfl) ?_
            refine r_get (v := .int (σ 0 8)) S hK hG hinX4 0 rfl rfl 8 (by decide) (by decide +kernel) rfl dX4_act_60 ?_
            refine lv_iconst (v := 1) S.1 S.2.1 dX4_act_63 (by decide) ?_
            refine lv_isub S.1 S.2.1 dX4_act_64 ?_
            refine lv_goto (tgt := 69) S.1 S.2.1 dX4_act_65 (by decide) ?_
            refine lv_topi (fun v1 e_v1 => ?_)
            have hf := bnd_p e_v1 hf
            refine lv_istore (lv' := [(5, .int v1), (0, .ref (ad 0)), (1, .int x1), (2, .int x2), (3, .int x3), (4, .int x4)]) S.1 S.2.1 dX4_act_69 hl (by decide) rfl (fun ls hl => ?_)
            exact b_X4_act_71 S hr hlocks hK hA σ x1 x2 x3 x4 v1 (hc) (c_47) hf H locs hG ls (lv_sub hl [1, 2, 3, 4, 5, 0] rfl)
        · have hf := ite_n c_47 hf
          refine lv_bipush (v := (-4)) S.1 S.2.1 dX4_act_50 (by decide) ?_
          exact W.widen (k := 1) (n := 4) (by decide) (by decide) (r_iret S hr hlocks hG (ad, nx, _) rfl ⟨hf, rfl, _, hc⟩ rfl dX4_act_52)
      · have hf := ite_p c_35 hf
        refine lv_bipush (v := (-3)) S.1 S.2.1 dX4_act_38 (by decide) ?_
        exact W.widen (k := 1) (n := 4) (by decide) (by decide) (r_iret S hr hlocks hG (ad, nx, _) rfl ⟨hf, rfl, _, hc⟩ rfl dX4_act_40)
    · have hf := ite_p c_22 hf
      refine lv_bipush (v := (-2)) S.1 S.2.1 dX4_act_25 (by decide) ?_
      exact W.widen (k := 1) (n := 4) (by decide) (by decide) (r_iret S hr hlocks hG (ad, nx, _) rfl ⟨hf, rfl, _, hc⟩ rfl dX4_act_27)
  · have hf := ite_p c_7 hf
    refine lv_bipush (v := (-3)) S.1 S.2.1 dX4_act_10 (by decide) ?_
    exact W.widen (k := 1) (n := 4) (by decide) (by decide) (r_iret S hr hlocks hG (ad, nx, _) rfl ⟨hf, rfl, _, hc⟩ rfl dX4_act_12)
theorem k_X4_act (l : Launch) (D : va_G) (cs : Nat → ClassId) (ad : Nat → Nat) (nr nx : Nat) (σ : Mem) (x1 : Int32) (x2 : Int32) (x3 : Int32) (x4 : Int32) {wy : Int32} {T : Mem} (hc : CInv nr nx wy T σ) : CMi l yX4_act wsX4_act ({ frames := 4, cells := 1, slots := 4, locals := 87 } : Room) D vwCl (gT cs) (GW ad cs nr nx σ) [.ref (ad 0), .int x1, .int x2, .int x3, .int x4] (fun (r : Int32) (u : (Nat → Nat) × Nat × Mem) => (r, u.2.2) = (f_X4_act σ x1 x2 x3 x4) ∧ u.1 0 = ad 0 ∧ ∃ T1, CInv nr u.2.1 wy T1 u.2.2) (fun u => GW u.1 cs nr u.2.1 u.2.2) :=
  r_met (by decide) rfl (Nat.le_of_ble_eq_true rfl) (fun p e s m args below meth c ls S hr hlocks _ hK hA hG hl => b_X4_act_0 S hr hlocks hK hA σ x1 x2 x3 x4 hc rfl _ _ hG ls hl)
