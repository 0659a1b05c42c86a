theorem law_5 {k L : Nat} {i : Int32} (ei : i = nI (5 * k)) (hk : k ≤ 512) (hL : L ≤ 2560) (c : ¬ Int32.ofNat L - 5 < i) : 5 * k + 5 ≤ L := by
  rw [Int32.lt_iff_toInt_lt, ei, nI_toInt (by omega), show Int32.ofNat L - 5 = nI L - nI 5 from rfl, pk_sub_toInt (by omega) (by omega)] at c
  omega
set_option maxRecDepth 100000 in
set_option maxHeartbeats 8000000 in
theorem law_loop {p : Program} {l : Launch} {e : Env} {s : State} {m : MethodId} {below : List Frame} {meth : Method} {c : Code} {D : va_G} {cs : Nat → ClassId} {b L : Nat} {xs : Nat → Int32} (hL : L ≤ 2560) (C0 : lw_At p s m meth c b L xs) (hK : va_K D vwCl (gT cs) s) (hN : gN s) : ∀ (n k : Nat) (i : Int32), i = nI (5 * k) → 5 * k ≤ L → L + 1 ≤ 5 * k + n → ∀ (ad : Nat → Nat) (nr nx : Nat) (wy : Int32) (T σ : Mem) (ae : Nat → Nat) (τ : Mem), CInv nr nx wy T σ → RInv nr nx wy τ → ∀ (H : Heap) (locs : List Loc), wI D vwCl (fun q : Nat => s.heap.size ≤ q) s.heap H locs (GW ad cs nr nx σ ++ RW ae (cs 0) τ) → ∀ (ls : Array Slot), lv_has ls 4 [(0, .ref b), (1, .ref (ad 0)), (2, .ref (ae 0)), (3, .int i)] → W p l e room_1 s m #[Value.ref b] below meth c H locs (76 + k) (4527 + 6 * k) (lw_Z below #[Value.ref b] s) (F0 m 18 ls []) := by
  obtain ⟨hx, hb, hr, hml, hown, hts, hX, hbl, hlocks, hgv⟩ := C0
  have S : CallFix p m c cL_law 4 s #[Value.ref b] wsL_law RL := ⟨hx, hb, hml, hown, fun w h => hts w (wsL_law_in w h)⟩
  have hA : ∀ q : Nat, s.heap.size ≤ q → (fun q : Nat => s.heap.size ≤ q) q := fun _ h => h
  have hbA : ¬ (fun q : Nat => s.heap.size ≤ q) b := Nat.not_le.mpr hbl
  have hK5 : va_K D vwCl [(cs 0, .int)] s := hK.sub [0] rfl
  intro n
  induction n with
  | zero =>
    intro k i _ h1 h2
    exfalso; omega
  | succ n ih =>
    intro k i ei hk hm ad nr nx wy T σ ae τ hc hI H locs hG ls hl
    have tl : 5 * k + 5 ≤ L → ∀ (ad1 : Nat → Nat) (nr nx : Nat) (wy : Int32) (T σ τ : Mem), ad1 0 = ad 0 → CInv nr nx wy T σ → RInv nr nx wy τ → ∀ (H : Heap) (locs : List Loc), wI D vwCl (fun q : Nat => s.heap.size ≤ q) s.heap H locs (GW ad1 cs nr nx σ ++ RW ae (cs 0) τ) → W p l e room_1 s m #[Value.ref b] below meth c H locs (76 + (k + 1)) (4527 + 6 * (k + 1)) (lw_Z below #[Value.ref b] s) (F0 m 469 ls []) := by
      intro h5 ad1 nr nx wy T σ τ had hc hI H locs hG
      obtain ⟨v, ev⟩ : ∃ z : Int32, z = i + 5 := ⟨_, rfl⟩
      refine lv_iinc (v := v) (lv' := [(3, .int v), (0, .ref b), (1, .ref (ad 0)), (2, .ref (ae 0))]) S.1 S.2.1 dL_law_469 hl (k := 3) rfl (by rw [ev]; rfl) (by decide) rfl (fun ls hl => ?_)
      refine lv_goto (tgt := 18) S.1 S.2.1 dL_law_472 (by decide) ?_
      exact ih (k + 1) v (by rw [ev, ei, show (5 : Int32) = nI 5 from rfl, nI_add]; exact congrArg nI (by omega)) (by omega) (by omega) ad1 nr nx wy T σ ae τ hc hI H locs hG ls (by rw [had]; exact lv_sub hl [1, 2, 3, 0] rfl)
    refine lv_iload_n S.1 S.2.1 dL_law_18 rfl (lv_at hl 3 rfl) ?_
    refine lv_aload_n S.1 S.2.1 dL_law_19 rfl (lv_at hl 0 rfl) ?_
    refine va_slen S.1 S.2.1 hX hbl hbA hG.2.2 dL_law_20 ?_
    refine lv_iconst (v := 5) S.1 S.2.1 dL_law_21 (by decide) ?_
    refine lv_isub S.1 S.2.1 dL_law_22 ?_
    refine lv_icmp_gt (tgt := 475) S.1 S.2.1 dL_law_23 (by decide) (fun c0 => ?_) (fun c0 => ?_)
    · refine lv_iconst (v := 1) S.1 S.2.1 dL_law_475 (by decide) ?_
      refine va_forget (fun q hq => hG.2.2.2.2 q hq) ?_
      refine W.widen (k := 600000) (n := 7302250) (by omega) (by omega) ?_
      exact lw_ret hx hb hr hlocks dL_law_476
    have h5 : 5 * k + 5 ≤ L := law_5 ei (by omega) hL c0
    refine lv_aload_n S.1 S.2.1 dL_law_26 rfl (lv_at hl 0 rfl) ?_
    refine lv_iload_n S.1 S.2.1 dL_law_27 rfl (lv_at hl 3 rfl) ?_
    refine va_sld S.1 S.2.1 hX hbl hbA hG.2.2 (law_in0 h5 hL ei) dL_law_28 ?_
    refine lv_bipush (v := 15) S.1 S.2.1 dL_law_29 (by decide) ?_
    refine lv_iand S.1 S.2.1 dL_law_31 ?_
    refine lv_topi (fun op _ => ?_)
    refine (Decidable.em (op = 0)).elim (fun co => ?_) (fun c_0 => ?_)
    · refine lv_tableIn (off := 68) (tgt := 100) S.1 S.2.1 dL_law_32 (by rw [co]; decide) (by rw [co]; decide) (by rw [co]; rfl) (by decide) ?_
      refine lv_aload_n S.1 S.2.1 dL_law_100 rfl (lv_at hl 1 rfl) ?_
      refine lv_aload_n S.1 S.2.1 dL_law_101 rfl (lv_at hl 0 rfl) ?_
      refine lv_iload_n S.1 S.2.1 dL_law_102 rfl (lv_at hl 3 rfl) ?_
      refine lv_iconst (v := 1) S.1 S.2.1 dL_law_103 (by decide) ?_
      refine lv_iadd S.1 S.2.1 dL_law_104 ?_
      refine va_sld S.1 S.2.1 hX hbl hbA hG.2.2 (law_in h5 hL 1 (by omega) ei rfl) dL_law_105 ?_
      refine lv_aload_n S.1 S.2.1 dL_law_106 rfl (lv_at hl 0 rfl) ?_
      refine lv_iload_n S.1 S.2.1 dL_law_107 rfl (lv_at hl 3 rfl) ?_
      refine lv_iconst (v := 2) S.1 S.2.1 dL_law_108 (by decide) ?_
      refine lv_iadd S.1 S.2.1 dL_law_109 ?_
      refine va_sld S.1 S.2.1 hX hbl hbA hG.2.2 (law_in h5 hL 2 (by omega) ei rfl) dL_law_110 ?_
      refine r_callViF S hK hA hG (k_X4_show l _ _ _ _ _ _ _ _ hc) (cwV 2 S.2.2.2.2 gL_law_X4_show rfl rfl rfl (by decide +kernel) ⟨Nat.le_of_ble_eq_true rfl, Nat.le_of_ble_eq_true rfl⟩) (va_recv hK hG.1 (ci := 4) (q0 := 0) rfl rfl) rfl hl.1 rfl (Nat.le_of_ble_eq_true rfl) dL_law_111 ⟨by show 76 + k + 0 ≤ 600000; omega, by show 4527 + 6 * k + 0 ≤ 7302250; omega⟩ (fun ra σ1 H locs hw hG => ?_)
      obtain ⟨e1, hc⟩ := hw
      rw [wy_show _ _ e1] at hc
      refine lv_pop S.1 S.2.1 dL_law_114 rfl ?_
      refine lv_aload_n S.1 S.2.1 dL_law_115 rfl (lv_at hl 2 rfl) ?_
      refine lv_aload_n S.1 S.2.1 dL_law_116 rfl (lv_at hl 0 rfl) ?_
      refine lv_iload_n S.1 S.2.1 dL_law_117 rfl (lv_at hl 3 rfl) ?_
      refine lv_iconst (v := 1) S.1 S.2.1 dL_law_118 (by decide) ?_
      refine lv_iadd S.1 S.2.1 dL_law_119 ?_
      refine va_sld S.1 S.2.1 hX hbl hbA hG.2.2 (law_in h5 hL 1 (by omega) ei rfl) dL_law_120 ?_
      refine lv_aload_n S.1 S.2.1 dL_law_121 rfl (lv_at hl 0 rfl) ?_
      refine lv_iload_n S.1 S.2.1 dL_law_122 rfl (lv_at hl 3 rfl) ?_
      refine lv_iconst (v := 2) S.1 S.2.1 dL_law_123 (by decide) ?_
      refine lv_iadd S.1 S.2.1 dL_law_124 ?_
      refine va_sld S.1 S.2.1 hX hbl hbA hG.2.2 (law_in h5 hL 2 (by omega) ei rfl) dL_law_125 ?_
      refine r_callViS S hK5 hA hG (k_X5_show l _ _ _ _ _ _) (cwV 2 S.2.2.2.2 gL_law_X5_show rfl rfl rfl (by decide +kernel) ⟨Nat.le_of_ble_eq_true rfl, Nat.le_of_ble_eq_true rfl⟩) (va_recv hK (wI_app2 hG).1 (ci := 5) (q0 := 0) rfl rfl) rfl hl.1 rfl (Nat.le_of_ble_eq_true rfl) dL_law_126 ⟨by show 76 + k + 0 ≤ 600000; omega, by show 4527 + 6 * k + 0 ≤ 7302250; omega⟩ (fun rb τ1 H locs e2 hG => ?_)
      have hI := ru_show (xs (i + 1).toNatClampNeg) (xs (i + 2).toNatClampNeg) hI
      rw [← show (rb, τ1).2 = _ from congrArg Prod.snd e2] at hI
      refine lv_pop S.1 S.2.1 dL_law_129 rfl ?_
      refine lv_goto (tgt := 469) S.1 S.2.1 dL_law_130 (by decide) ?_
      exact W.widen (by show 76 + k + 0 + 0 ≤ 76 + (k + 1); omega) (by show 4527 + 6 * k + 0 + 0 ≤ 4527 + 6 * (k + 1); omega) (tl h5 ad nr nx _ T σ1 τ1 rfl hc hI H locs hG)
    refine (Decidable.em (op = 1)).elim (fun co => ?_) (fun c_1 => ?_)
    · refine lv_tableIn (off := 101) (tgt := 133) S.1 S.2.1 dL_law_32 (by rw [co]; decide) (by rw [co]; decide) (by rw [co]; rfl) (by decide) ?_
      refine lv_aload_n S.1 S.2.1 dL_law_133 rfl (lv_at hl 1 rfl) ?_
      refine lv_aload_n S.1 S.2.1 dL_law_134 rfl (lv_at hl 0 rfl) ?_
      refine lv_iload_n S.1 S.2.1 dL_law_135 rfl (lv_at hl 3 rfl) ?_
      refine lv_iconst (v := 1) S.1 S.2.1 dL_law_136 (by decide) ?_
      refine lv_iadd S.1 S.2.1 dL_law_137 ?_
      refine va_sld S.1 S.2.1 hX hbl hbA hG.2.2 (law_in h5 hL 1 (by omega) ei rfl) dL_law_138 ?_
      refine r_callViF S hK hA hG (k_X4_shown l _ _ _ _ _ _ _ hc) (cwV 1 S.2.2.2.2 gL_law_X4_shown rfl rfl rfl (by decide +kernel) ⟨Nat.le_of_ble_eq_true rfl, Nat.le_of_ble_eq_true rfl⟩) (va_recv hK hG.1 (ci := 4) (q0 := 0) rfl rfl) rfl hl.1 rfl (Nat.le_of_ble_eq_true rfl) dL_law_139 ⟨by show 76 + k + 0 ≤ 600000; omega, by show 4527 + 6 * k + 0 ≤ 7302250; omega⟩ (fun ra σ1 H locs hw hG => ?_)
      obtain ⟨e1, hc⟩ := hw
      rw [wy_shown _ e1] at hc
      refine lv_pop S.1 S.2.1 dL_law_142 rfl ?_
      refine lv_aload_n S.1 S.2.1 dL_law_143 rfl (lv_at hl 2 rfl) ?_
      refine lv_aload_n S.1 S.2.1 dL_law_144 rfl (lv_at hl 0 rfl) ?_
      refine lv_iload_n S.1 S.2.1 dL_law_145 rfl (lv_at hl 3 rfl) ?_
      refine lv_iconst (v := 1) S.1 S.2.1 dL_law_146 (by decide) ?_
      refine lv_iadd S.1 S.2.1 dL_law_147 ?_
      refine va_sld S.1 S.2.1 hX hbl hbA hG.2.2 (law_in h5 hL 1 (by omega) ei rfl) dL_law_148 ?_
      refine r_callViS S hK5 hA hG (k_X5_shown l _ _ _ _ _) (cwV 1 S.2.2.2.2 gL_law_X5_shown rfl rfl rfl (by decide +kernel) ⟨Nat.le_of_ble_eq_true rfl, Nat.le_of_ble_eq_true rfl⟩) (va_recv hK (wI_app2 hG).1 (ci := 5) (q0 := 0) rfl rfl) rfl hl.1 rfl (Nat.le_of_ble_eq_true rfl) dL_law_149 ⟨by show 76 + k + 0 ≤ 600000; omega, by show 4527 + 6 * k + 0 ≤ 7302250; omega⟩ (fun rb τ1 H locs e2 hG => ?_)
      have hI := ru_shown (xs (i + 1).toNatClampNeg) hI
      rw [← show (rb, τ1).2 = _ from congrArg Prod.snd e2] at hI
      refine lv_pop S.1 S.2.1 dL_law_152 rfl ?_
      refine lv_goto (tgt := 469) S.1 S.2.1 dL_law_153 (by decide) ?_
      exact W.widen (by show 76 + k + 0 + 0 ≤ 76 + (k + 1); omega) (by show 4527 + 6 * k + 0 + 0 ≤ 4527 + 6 * (k + 1); omega) (tl h5 ad nr nx _ T σ1 τ1 rfl hc hI H locs hG)
    refine (Decidable.em (op = 2)).elim (fun co => ?_) (fun c_2 => ?_)
    · refine lv_tableIn (off := 124) (tgt := 156) S.1 S.2.1 dL_law_32 (by rw [co]; decide) (by rw [co]; decide) (by rw [co]; rfl) (by decide) ?_
      refine lv_aload_n S.1 S.2.1 dL_law_156 rfl (lv_at hl 1 rfl) ?_
      refine lv_aload_n S.1 S.2.1 dL_law_157 rfl (lv_at hl 0 rfl) ?_
      refine lv_iload_n S.1 S.2.1 dL_law_158 rfl (lv_at hl 3 rfl) ?_
      refine lv_iconst (v := 1) S.1 S.2.1 dL_law_159 (by decide) ?_
      refine lv_iadd S.1 S.2.1 dL_law_160 ?_
      refine va_sld S.1 S.2.1 hX hbl hbA hG.2.2 (law_in h5 hL 1 (by omega) ei rfl) dL_law_161 ?_
      refine lv_aload_n S.1 S.2.1 dL_law_162 rfl (lv_at hl 0 rfl) ?_
      refine lv_iload_n S.1 S.2.1 dL_law_163 rfl (lv_at hl 3 rfl) ?_
      refine lv_iconst (v := 2) S.1 S.2.1 dL_law_164 (by decide) ?_
      refine lv_iadd S.1 S.2.1 dL_law_165 ?_
      refine va_sld S.1 S.2.1 hX hbl hbA hG.2.2 (law_in h5 hL 2 (by omega) ei rfl) dL_law_166 ?_
      refine r_callViF S hK hA hG (k_X4_fill l _ _ _ _ _ _ _ _ hc) (cwV 2 S.2.2.2.2 gL_law_X4_fill rfl rfl rfl (by decide +kernel) ⟨Nat.le_of_ble_eq_true rfl, Nat.le_of_ble_eq_true rfl⟩) (va_recv hK hG.1 (ci := 4) (q0 := 0) rfl rfl) rfl hl.1 rfl (Nat.le_of_ble_eq_true rfl) dL_law_167 ⟨by show 76 + k + 0 ≤ 600000; omega, by show 4527 + 6 * k + 0 ≤ 7302250; omega⟩ (fun ra σ1 H locs hw hG => ?_)
      obtain ⟨e1, hc⟩ := hw
      refine lv_pop S.1 S.2.1 dL_law_170 rfl ?_
      refine lv_aload_n S.1 S.2.1 dL_law_171 rfl (lv_at hl 2 rfl) ?_
      refine lv_aload_n S.1 S.2.1 dL_law_172 rfl (lv_at hl 0 rfl) ?_
      refine lv_iload_n S.1 S.2.1 dL_law_173 rfl (lv_at hl 3 rfl) ?_
      refine lv_iconst (v := 1) S.1 S.2.1 dL_law_174 (by decide) ?_
      refine lv_iadd S.1 S.2.1 dL_law_175 ?_
      refine va_sld S.1 S.2.1 hX hbl hbA hG.2.2 (law_in h5 hL 1 (by omega) ei rfl) dL_law_176 ?_
      refine lv_aload_n S.1 S.2.1 dL_law_177 rfl (lv_at hl 0 rfl) ?_
      refine lv_iload_n S.1 S.2.1 dL_law_178 rfl (lv_at hl 3 rfl) ?_
      refine lv_iconst (v := 2) S.1 S.2.1 dL_law_179 (by decide) ?_
      refine lv_iadd S.1 S.2.1 dL_law_180 ?_
      refine va_sld S.1 S.2.1 hX hbl hbA hG.2.2 (law_in h5 hL 2 (by omega) ei rfl) dL_law_181 ?_
      refine r_callViS S hK5 hA hG (k_X5_fill l _ _ _ _ _ _) (cwV 2 S.2.2.2.2 gL_law_X5_fill rfl rfl rfl (by decide +kernel) ⟨Nat.le_of_ble_eq_true rfl, Nat.le_of_ble_eq_true rfl⟩) (va_recv hK (wI_app2 hG).1 (ci := 5) (q0 := 0) rfl rfl) rfl hl.1 rfl (Nat.le_of_ble_eq_true rfl) dL_law_182 ⟨by show 76 + k + 0 ≤ 600000; omega, by show 4527 + 6 * k + 0 ≤ 7302250; omega⟩ (fun rb τ1 H locs e2 hG => ?_)
      have hI := ru_fill (xs (i + 1).toNatClampNeg) (xs (i + 2).toNatClampNeg) hI
      rw [← show (rb, τ1).2 = _ from congrArg Prod.snd e2] at hI
      refine lv_pop S.1 S.2.1 dL_law_185 rfl ?_
      refine lv_goto (tgt := 469) S.1 S.2.1 dL_law_186 (by decide) ?_
      exact W.widen (by show 76 + k + 0 + 0 ≤ 76 + (k + 1); omega) (by show 4527 + 6 * k + 0 + 0 ≤ 4527 + 6 * (k + 1); omega) (tl h5 ad nr nx _ T σ1 τ1 rfl hc hI H locs hG)
    refine (Decidable.em (op = 3)).elim (fun co => ?_) (fun c_3 => ?_)
    · refine lv_tableIn (off := 157) (tgt := 189) S.1 S.2.1 dL_law_32 (by rw [co]; decide) (by rw [co]; decide) (by rw [co]; rfl) (by decide) ?_
      refine lv_aload_n S.1 S.2.1 dL_law_189 rfl (lv_at hl 1 rfl) ?_
      refine lv_aload_n S.1 S.2.1 dL_law_190 rfl (lv_at hl 0 rfl) ?_
      refine lv_iload_n S.1 S.2.1 dL_law_191 rfl (lv_at hl 3 rfl) ?_
      refine lv_iconst (v := 1) S.1 S.2.1 dL_law_192 (by decide) ?_
      refine lv_iadd S.1 S.2.1 dL_law_193 ?_
      refine va_sld S.1 S.2.1 hX hbl hbA hG.2.2 (law_in h5 hL 1 (by omega) ei rfl) dL_law_194 ?_
      refine r_callViF S hK hA hG (k_X4_tank l _ _ _ _ _ _ _ hc) (cwV 1 S.2.2.2.2 gL_law_X4_tank rfl rfl rfl (by decide +kernel) ⟨Nat.le_of_ble_eq_true rfl, Nat.le_of_ble_eq_true rfl⟩) (va_recv hK hG.1 (ci := 4) (q0 := 0) rfl rfl) rfl hl.1 rfl (Nat.le_of_ble_eq_true rfl) dL_law_195 ⟨by show 76 + k + 0 ≤ 600000; omega, by show 4527 + 6 * k + 0 ≤ 7302250; omega⟩ (fun ra _ H locs e1 hG => ?_)
      refine lv_pop S.1 S.2.1 dL_law_198 rfl ?_
      refine lv_aload_n S.1 S.2.1 dL_law_199 rfl (lv_at hl 2 rfl) ?_
      refine lv_aload_n S.1 S.2.1 dL_law_200 rfl (lv_at hl 0 rfl) ?_
      refine lv_iload_n S.1 S.2.1 dL_law_201 rfl (lv_at hl 3 rfl) ?_
      refine lv_iconst (v := 1) S.1 S.2.1 dL_law_202 (by decide) ?_
      refine lv_iadd S.1 S.2.1 dL_law_203 ?_
      refine va_sld S.1 S.2.1 hX hbl hbA hG.2.2 (law_in h5 hL 1 (by omega) ei rfl) dL_law_204 ?_
      refine r_callViS S hK5 hA hG (k_X5_tank l _ _ _ _ _) (cwV 1 S.2.2.2.2 gL_law_X5_tank rfl rfl rfl (by decide +kernel) ⟨Nat.le_of_ble_eq_true rfl, Nat.le_of_ble_eq_true rfl⟩) (va_recv hK (wI_app2 hG).1 (ci := 5) (q0 := 0) rfl rfl) rfl hl.1 rfl (Nat.le_of_ble_eq_true rfl) dL_law_205 ⟨by show 76 + k + 0 ≤ 600000; omega, by show 4527 + 6 * k + 0 ≤ 7302250; omega⟩ (fun rb _ H locs e2 hG => ?_)
      refine lv_pop S.1 S.2.1 dL_law_208 rfl ?_
      refine lv_goto (tgt := 469) S.1 S.2.1 dL_law_209 (by decide) ?_
      exact W.widen (by show 76 + k + 0 + 0 ≤ 76 + (k + 1); omega) (by show 4527 + 6 * k + 0 + 0 ≤ 4527 + 6 * (k + 1); omega) (tl h5 ad nr nx _ T σ τ rfl hc hI H locs hG)
    refine (Decidable.em (op = 4)).elim (fun co => ?_) (fun c_4 => ?_)
    · refine lv_tableIn (off := 180) (tgt := 212) S.1 S.2.1 dL_law_32 (by rw [co]; decide) (by rw [co]; decide) (by rw [co]; rfl) (by decide) ?_
      refine lv_aload_n S.1 S.2.1 dL_law_212 rfl (lv_at hl 1 rfl) ?_
      refine lv_aload_n S.1 S.2.1 dL_law_213 rfl (lv_at hl 0 rfl) ?_
      refine lv_iload_n S.1 S.2.1 dL_law_214 rfl (lv_at hl 3 rfl) ?_
      refine lv_iconst (v := 1) S.1 S.2.1 dL_law_215 (by decide) ?_
      refine lv_iadd S.1 S.2.1 dL_law_216 ?_
      refine va_sld S.1 S.2.1 hX hbl hbA hG.2.2 (law_in h5 hL 1 (by omega) ei rfl) dL_law_217 ?_
      refine lv_aload_n S.1 S.2.1 dL_law_218 rfl (lv_at hl 0 rfl) ?_
      refine lv_iload_n S.1 S.2.1 dL_law_219 rfl (lv_at hl 3 rfl) ?_
      refine lv_iconst (v := 2) S.1 S.2.1 dL_law_220 (by decide) ?_
      refine lv_iadd S.1 S.2.1 dL_law_221 ?_
      refine va_sld S.1 S.2.1 hX hbl hbA hG.2.2 (law_in h5 hL 2 (by omega) ei rfl) dL_law_222 ?_
      refine lv_aload_n S.1 S.2.1 dL_law_223 rfl (lv_at hl 0 rfl) ?_
      refine lv_iload_n S.1 S.2.1 dL_law_224 rfl (lv_at hl 3 rfl) ?_
      refine lv_iconst (v := 3) S.1 S.2.1 dL_law_225 (by decide) ?_
      refine lv_iadd S.1 S.2.1 dL_law_226 ?_
      refine va_sld S.1 S.2.1 hX hbl hbA hG.2.2 (law_in h5 hL 3 (by omega) ei rfl) dL_law_227 ?_
      refine lv_aload_n S.1 S.2.1 dL_law_228 rfl (lv_at hl 0 rfl) ?_
      refine lv_iload_n S.1 S.2.1 dL_law_229 rfl (lv_at hl 3 rfl) ?_
      refine lv_iconst (v := 4) S.1 S.2.1 dL_law_230 (by decide) ?_
      refine lv_iadd S.1 S.2.1 dL_law_231 ?_
      refine va_sld S.1 S.2.1 hX hbl hbA hG.2.2 (law_in h5 hL 4 (by omega) ei rfl) dL_law_232 ?_
      have hc0 := hc
      have hI0 := hI
      refine r_callViF S hK hA hG (k_X4_rule l _ _ _ _ _ _ _ _ _ _ hc) (cwV 4 S.2.2.2.2 gL_law_X4_rule rfl rfl rfl (by decide +kernel) ⟨Nat.le_of_ble_eq_true rfl, Nat.le_of_ble_eq_true rfl⟩) (va_recv hK hG.1 (ci := 4) (q0 := 0) rfl rfl) rfl hl.1 rfl (Nat.le_of_ble_eq_true rfl) dL_law_233 ⟨by show 76 + k + 1 ≤ 600000; omega, by show 4527 + 6 * k + 6 ≤ 7302250; omega⟩ (fun ra u1 H locs hw hG => ?_)
      obtain ⟨ad1, nr1, σ1⟩ := u1
      obtain ⟨e1, had, T1, hc⟩ := hw
      refine lv_pop S.1 S.2.1 dL_law_236 rfl ?_
      refine lv_aload_n S.1 S.2.1 dL_law_237 rfl (lv_at hl 2 rfl) ?_
      refine lv_aload_n S.1 S.2.1 dL_law_238 rfl (lv_at hl 0 rfl) ?_
      refine lv_iload_n S.1 S.2.1 dL_law_239 rfl (lv_at hl 3 rfl) ?_
      refine lv_iconst (v := 1) S.1 S.2.1 dL_law_240 (by decide) ?_
      refine lv_iadd S.1 S.2.1 dL_law_241 ?_
      refine va_sld S.1 S.2.1 hX hbl hbA hG.2.2 (law_in h5 hL 1 (by omega) ei rfl) dL_law_242 ?_
      refine lv_aload_n S.1 S.2.1 dL_law_243 rfl (lv_at hl 0 rfl) ?_
      refine lv_iload_n S.1 S.2.1 dL_law_244 rfl (lv_at hl 3 rfl) ?_
      refine lv_iconst (v := 2) S.1 S.2.1 dL_law_245 (by decide) ?_
      refine lv_iadd S.1 S.2.1 dL_law_246 ?_
      refine va_sld S.1 S.2.1 hX hbl hbA hG.2.2 (law_in h5 hL 2 (by omega) ei rfl) dL_law_247 ?_
      refine lv_aload_n S.1 S.2.1 dL_law_248 rfl (lv_at hl 0 rfl) ?_
      refine lv_iload_n S.1 S.2.1 dL_law_249 rfl (lv_at hl 3 rfl) ?_
      refine lv_iconst (v := 3) S.1 S.2.1 dL_law_250 (by decide) ?_
      refine lv_iadd S.1 S.2.1 dL_law_251 ?_
      refine va_sld S.1 S.2.1 hX hbl hbA hG.2.2 (law_in h5 hL 3 (by omega) ei rfl) dL_law_252 ?_
      refine lv_aload_n S.1 S.2.1 dL_law_253 rfl (lv_at hl 0 rfl) ?_
      refine lv_iload_n S.1 S.2.1 dL_law_254 rfl (lv_at hl 3 rfl) ?_
      refine lv_iconst (v := 4) S.1 S.2.1 dL_law_255 (by decide) ?_
      refine lv_iadd S.1 S.2.1 dL_law_256 ?_
      refine va_sld S.1 S.2.1 hX hbl hbA hG.2.2 (law_in h5 hL 4 (by omega) ei rfl) dL_law_257 ?_
      refine r_callViS S hK5 hA hG (k_X5_rule l _ _ _ _ _ _ _ _ ⟨_, hI.2.2.1.2, hI.2.2.1.1⟩) (cwV 4 S.2.2.2.2 gL_law_X5_rule rfl rfl rfl (by decide +kernel) ⟨Nat.le_of_ble_eq_true rfl, Nat.le_of_ble_eq_true rfl⟩) (va_recv hK (wI_app2 hG).1 (ci := 5) (q0 := 0) rfl rfl) rfl hl.1 rfl (Nat.le_of_ble_eq_true rfl) dL_law_258 ⟨by show 76 + k + 1 + 0 ≤ 600000; omega, by show 4527 + 6 * k + 6 + 0 ≤ 7302250; omega⟩ (fun rb τ1 H locs e2 hG => ?_)
      obtain ⟨mr1, hI⟩ : ∃ z, RInv z nx wy τ1 := by
        have h9 : upR nr nx wy τ (rb, τ1) := by rw [e2]; exact ru_rule _ _ _ _ hI
        rcases h9 with h9 | h9
        · exact ⟨nr, by rw [show τ1 = τ from h9]; exact hI⟩
        · exact ⟨nr + 1, h9.2.2⟩
      have hq : R7 7 3 (ra, σ1) (rb, τ1) := by rw [e1, e2]; exact eq_rule hc0.1.2 hc0.1.1 hI0.2.2.1.1 _ _ _ _
      obtain rfl : nr1 = mr1 := nI_ij hc.1.2 hI.2.2.1.2 (hc.1.1.symm.trans (hq.2.trans hI.2.2.1.1))
      refine lv_pop S.1 S.2.1 dL_law_261 rfl ?_
      refine lv_goto (tgt := 469) S.1 S.2.1 dL_law_262 (by decide) ?_
      exact W.widen (by show 76 + k + 1 + 0 ≤ 76 + (k + 1); omega) (by show 4527 + 6 * k + 6 + 0 ≤ 4527 + 6 * (k + 1); omega) (tl h5 ad1 nr1 nx _ T1 σ1 τ1 had hc hI H locs hG)
    refine (Decidable.em (op = 5)).elim (fun co => ?_) (fun c_5 => ?_)
    · refine lv_tableIn (off := 233) (tgt := 265) S.1 S.2.1 dL_law_32 (by rw [co]; decide) (by rw [co]; decide) (by rw [co]; rfl) (by decide) ?_
      refine lv_aload_n S.1 S.2.1 dL_law_265 rfl (lv_at hl 1 rfl) ?_
      refine lv_aload_n S.1 S.2.1 dL_law_266 rfl (lv_at hl 0 rfl) ?_
      refine lv_iload_n S.1 S.2.1 dL_law_267 rfl (lv_at hl 3 rfl) ?_
      refine lv_iconst (v := 1) S.1 S.2.1 dL_law_268 (by decide) ?_
      refine lv_iadd S.1 S.2.1 dL_law_269 ?_
      refine va_sld S.1 S.2.1 hX hbl hbA hG.2.2 (law_in h5 hL 1 (by omega) ei rfl) dL_law_270 ?_
      refine r_callViF S hK hA hG (k_X4_ask l _ _ _ _ _ _ _ hc) (cwV 1 S.2.2.2.2 gL_law_X4_ask rfl rfl rfl (by decide +kernel) ⟨Nat.le_of_ble_eq_true rfl, Nat.le_of_ble_eq_true rfl⟩) (va_recv hK hG.1 (ci := 4) (q0 := 0) rfl rfl) rfl hl.1 rfl (Nat.le_of_ble_eq_true rfl) dL_law_271 ⟨by show 76 + k + 0 ≤ 600000; omega, by show 4527 + 6 * k + 0 ≤ 7302250; omega⟩ (fun ra σ1 H locs hw hG => ?_)
      obtain ⟨e1, hc⟩ := hw
      refine lv_pop S.1 S.2.1 dL_law_274 rfl ?_
      refine lv_aload_n S.1 S.2.1 dL_law_275 rfl (lv_at hl 2 rfl) ?_
      refine lv_aload_n S.1 S.2.1 dL_law_276 rfl (lv_at hl 0 rfl) ?_
      refine lv_iload_n S.1 S.2.1 dL_law_277 rfl (lv_at hl 3 rfl) ?_
      refine lv_iconst (v := 1) S.1 S.2.1 dL_law_278 (by decide) ?_
      refine lv_iadd S.1 S.2.1 dL_law_279 ?_
      refine va_sld S.1 S.2.1 hX hbl hbA hG.2.2 (law_in h5 hL 1 (by omega) ei rfl) dL_law_280 ?_
      refine r_callViS S hK5 hA hG (k_X5_ask l _ _ _ _ _ hI) (cwV 1 S.2.2.2.2 gL_law_X5_ask rfl rfl rfl (by decide +kernel) ⟨Nat.le_of_ble_eq_true rfl, Nat.le_of_ble_eq_true rfl⟩) (va_recv hK (wI_app2 hG).1 (ci := 5) (q0 := 0) rfl rfl) rfl hl.1 rfl (Nat.le_of_ble_eq_true rfl) dL_law_281 ⟨by show 76 + k + 0 ≤ 600000; omega, by show 4527 + 6 * k + 0 ≤ 7302250; omega⟩ (fun rb τ1 H locs e2 hG => ?_)
      have hI := ru_ask (xs (i + 1).toNatClampNeg) hI
      rw [← show (rb, τ1).2 = _ from congrArg Prod.snd e2] at hI
      refine lv_pop S.1 S.2.1 dL_law_284 rfl ?_
      refine lv_goto (tgt := 469) S.1 S.2.1 dL_law_285 (by decide) ?_
      exact W.widen (by show 76 + k + 0 + 0 ≤ 76 + (k + 1); omega) (by show 4527 + 6 * k + 0 + 0 ≤ 4527 + 6 * (k + 1); omega) (tl h5 ad nr nx _ T σ1 τ1 rfl hc hI H locs hG)
    refine (Decidable.em (op = 6)).elim (fun co => ?_) (fun c_6 => ?_)
    · refine lv_tableIn (off := 256) (tgt := 288) S.1 S.2.1 dL_law_32 (by rw [co]; decide) (by rw [co]; decide) (by rw [co]; rfl) (by decide) ?_
      refine lv_aload_n S.1 S.2.1 dL_law_288 rfl (lv_at hl 1 rfl) ?_
      refine lv_aload_n S.1 S.2.1 dL_law_289 rfl (lv_at hl 0 rfl) ?_
      refine lv_iload_n S.1 S.2.1 dL_law_290 rfl (lv_at hl 3 rfl) ?_
      refine lv_iconst (v := 1) S.1 S.2.1 dL_law_291 (by decide) ?_
      refine lv_iadd S.1 S.2.1 dL_law_292 ?_
      refine va_sld S.1 S.2.1 hX hbl hbA hG.2.2 (law_in h5 hL 1 (by omega) ei rfl) dL_law_293 ?_
      refine lv_aload_n S.1 S.2.1 dL_law_294 rfl (lv_at hl 0 rfl) ?_
      refine lv_iload_n S.1 S.2.1 dL_law_295 rfl (lv_at hl 3 rfl) ?_
      refine lv_iconst (v := 2) S.1 S.2.1 dL_law_296 (by decide) ?_
      refine lv_iadd S.1 S.2.1 dL_law_297 ?_
      refine va_sld S.1 S.2.1 hX hbl hbA hG.2.2 (law_in h5 hL 2 (by omega) ei rfl) dL_law_298 ?_
      refine lv_aload_n S.1 S.2.1 dL_law_299 rfl (lv_at hl 0 rfl) ?_
      refine lv_iload_n S.1 S.2.1 dL_law_300 rfl (lv_at hl 3 rfl) ?_
      refine lv_iconst (v := 3) S.1 S.2.1 dL_law_301 (by decide) ?_
      refine lv_iadd S.1 S.2.1 dL_law_302 ?_
      refine va_sld S.1 S.2.1 hX hbl hbA hG.2.2 (law_in h5 hL 3 (by omega) ei rfl) dL_law_303 ?_
      refine lv_aload_n S.1 S.2.1 dL_law_304 rfl (lv_at hl 0 rfl) ?_
      refine lv_iload_n S.1 S.2.1 dL_law_305 rfl (lv_at hl 3 rfl) ?_
      refine lv_iconst (v := 4) S.1 S.2.1 dL_law_306 (by decide) ?_
      refine lv_iadd S.1 S.2.1 dL_law_307 ?_
      refine va_sld S.1 S.2.1 hX hbl hbA hG.2.2 (law_in h5 hL 4 (by omega) ei rfl) dL_law_308 ?_
      have hc0 := hc
      have hI0 := hI
      refine r_callViF S hK hA hG (k_X4_act l _ _ _ _ _ _ _ _ _ _ hc) (cwV 4 S.2.2.2.2 gL_law_X4_act rfl rfl rfl (by decide +kernel) ⟨Nat.le_of_ble_eq_true rfl, Nat.le_of_ble_eq_true rfl⟩) (va_recv hK hG.1 (ci := 4) (q0 := 0) rfl rfl) rfl hl.1 rfl (Nat.le_of_ble_eq_true rfl) dL_law_309 ⟨by show 76 + k + 1 ≤ 600000; omega, by show 4527 + 6 * k + 4 ≤ 7302250; omega⟩ (fun ra u1 H locs hw hG => ?_)
      obtain ⟨ad1, nx1, σ1⟩ := u1
      obtain ⟨e1, had, T1, hc⟩ := hw
      refine lv_aload_n S.1 S.2.1 dL_law_312 rfl (lv_at hl 2 rfl) ?_
      refine lv_aload_n S.1 S.2.1 dL_law_313 rfl (lv_at hl 0 rfl) ?_
      refine lv_iload_n S.1 S.2.1 dL_law_314 rfl (lv_at hl 3 rfl) ?_
      refine lv_iconst (v := 1) S.1 S.2.1 dL_law_315 (by decide) ?_
      refine lv_iadd S.1 S.2.1 dL_law_316 ?_
      refine va_sld S.1 S.2.1 hX hbl hbA hG.2.2 (law_in h5 hL 1 (by omega) ei rfl) dL_law_317 ?_
      refine lv_aload_n S.1 S.2.1 dL_law_318 rfl (lv_at hl 0 rfl) ?_
      refine lv_iload_n S.1 S.2.1 dL_law_319 rfl (lv_at hl 3 rfl) ?_
      refine lv_iconst (v := 2) S.1 S.2.1 dL_law_320 (by decide) ?_
      refine lv_iadd S.1 S.2.1 dL_law_321 ?_
      refine va_sld S.1 S.2.1 hX hbl hbA hG.2.2 (law_in h5 hL 2 (by omega) ei rfl) dL_law_322 ?_
      refine lv_aload_n S.1 S.2.1 dL_law_323 rfl (lv_at hl 0 rfl) ?_
      refine lv_iload_n S.1 S.2.1 dL_law_324 rfl (lv_at hl 3 rfl) ?_
      refine lv_iconst (v := 3) S.1 S.2.1 dL_law_325 (by decide) ?_
      refine lv_iadd S.1 S.2.1 dL_law_326 ?_
      refine va_sld S.1 S.2.1 hX hbl hbA hG.2.2 (law_in h5 hL 3 (by omega) ei rfl) dL_law_327 ?_
      refine lv_aload_n S.1 S.2.1 dL_law_328 rfl (lv_at hl 0 rfl) ?_
      refine lv_iload_n S.1 S.2.1 dL_law_329 rfl (lv_at hl 3 rfl) ?_
      refine lv_iconst (v := 4) S.1 S.2.1 dL_law_330 (by decide) ?_
      refine lv_iadd S.1 S.2.1 dL_law_331 ?_
      refine va_sld S.1 S.2.1 hX hbl hbA hG.2.2 (law_in h5 hL 4 (by omega) ei rfl) dL_law_332 ?_
      refine r_callViS S hK5 hA hG (k_X5_act l _ _ _ _ _ _ _ _ ⟨_, hI.2.2.2.1.2, hI.2.2.2.1.1⟩) (cwV 4 S.2.2.2.2 gL_law_X5_act rfl rfl rfl (by decide +kernel) ⟨Nat.le_of_ble_eq_true rfl, Nat.le_of_ble_eq_true rfl⟩) (va_recv hK (wI_app2 hG).1 (ci := 5) (q0 := 0) rfl rfl) rfl hl.1 rfl (Nat.le_of_ble_eq_true rfl) dL_law_333 ⟨by show 76 + k + 1 + 0 ≤ 600000; omega, by show 4527 + 6 * k + 4 + 0 ≤ 7302250; omega⟩ (fun rb τ1 H locs e2 hG => ?_)
      obtain ⟨mx1, hI⟩ : ∃ z, RInv nr z wy τ1 := by
        have h9 : upA nr nx wy τ (rb, τ1) := by rw [e2]; exact ra_act _ _ _ _ hI
        rcases h9 with h9 | h9
        · exact ⟨nx, by rw [show τ1 = τ from h9]; exact hI⟩
        · exact ⟨nx + 1, h9.2.2⟩
      have hq : R7 8 9 (ra, σ1) (rb, τ1) := by rw [e1, e2]; exact eq_act hc0.1.2 hc0.2.1.2 hc0.1.1 hI0.2.2.1.1 hc0.2.1.1 hI0.2.2.2.1.1 _ _ _ _
      obtain rfl : nx1 = mx1 := nI_ij hc.2.1.2 hI.2.2.2.1.2 (hc.2.1.1.symm.trans (hq.2.trans hI.2.2.2.1.1))
      refine lv_icmp_eq (tgt := 469) S.1 S.2.1 dL_law_336 (by decide) (fun _ => ?_) (fun cn => ?_)
      · exact W.widen (by show 76 + k + 1 + 0 ≤ 76 + (k + 1); omega) (by show 4527 + 6 * k + 4 + 0 ≤ 4527 + 6 * (k + 1); omega) (tl h5 ad1 nr nx1 _ T1 σ1 τ1 had hc hI H locs hG)
      · exact absurd (hq.1) cn
    refine (Decidable.em (op = 7)).elim (fun co => ?_) (fun c_7 => ?_)
    · refine lv_tableIn (off := 309) (tgt := 341) S.1 S.2.1 dL_law_32 (by rw [co]; decide) (by rw [co]; decide) (by rw [co]; rfl) (by decide) ?_
      refine lv_aload_n S.1 S.2.1 dL_law_341 rfl (lv_at hl 1 rfl) ?_
      refine lv_aload_n S.1 S.2.1 dL_law_342 rfl (lv_at hl 0 rfl) ?_
      refine lv_iload_n S.1 S.2.1 dL_law_343 rfl (lv_at hl 3 rfl) ?_
      refine lv_iconst (v := 1) S.1 S.2.1 dL_law_344 (by decide) ?_
      refine lv_iadd S.1 S.2.1 dL_law_345 ?_
      refine va_sld S.1 S.2.1 hX hbl hbA hG.2.2 (law_in h5 hL 1 (by omega) ei rfl) dL_law_346 ?_
      refine r_callViF S hK hA hG (k_X4_run l _ _ _ _ _ _ _ hc) (cwV 1 S.2.2.2.2 gL_law_X4_run rfl rfl rfl (by decide +kernel) ⟨Nat.le_of_ble_eq_true rfl, Nat.le_of_ble_eq_true rfl⟩) (va_recv hK hG.1 (ci := 4) (q0 := 0) rfl rfl) rfl hl.1 rfl (Nat.le_of_ble_eq_true rfl) dL_law_347 ⟨by show 76 + k + 0 ≤ 600000; omega, by show 4527 + 6 * k + 0 ≤ 7302250; omega⟩ (fun ra σ1 H locs hw hG => ?_)
      obtain ⟨e1, hc⟩ := hw
      refine lv_pop S.1 S.2.1 dL_law_350 rfl ?_
      refine lv_aload_n S.1 S.2.1 dL_law_351 rfl (lv_at hl 2 rfl) ?_
      refine lv_aload_n S.1 S.2.1 dL_law_352 rfl (lv_at hl 0 rfl) ?_
      refine lv_iload_n S.1 S.2.1 dL_law_353 rfl (lv_at hl 3 rfl) ?_
      refine lv_iconst (v := 1) S.1 S.2.1 dL_law_354 (by decide) ?_
      refine lv_iadd S.1 S.2.1 dL_law_355 ?_
      refine va_sld S.1 S.2.1 hX hbl hbA hG.2.2 (law_in h5 hL 1 (by omega) ei rfl) dL_law_356 ?_
      refine r_callViS S hK5 hA hG (k_X5_run l _ _ _ _ _ hI) (cwV 1 S.2.2.2.2 gL_law_X5_run rfl rfl rfl (by decide +kernel) ⟨Nat.le_of_ble_eq_true rfl, Nat.le_of_ble_eq_true rfl⟩) (va_recv hK (wI_app2 hG).1 (ci := 5) (q0 := 0) rfl rfl) rfl hl.1 rfl (Nat.le_of_ble_eq_true rfl) dL_law_357 ⟨by show 76 + k + 0 ≤ 600000; omega, by show 4527 + 6 * k + 0 ≤ 7302250; omega⟩ (fun rb τ1 H locs e2 hG => ?_)
      have hI := ru_run (xs (i + 1).toNatClampNeg) hI
      rw [← show (rb, τ1).2 = _ from congrArg Prod.snd e2] at hI
      refine lv_pop S.1 S.2.1 dL_law_360 rfl ?_
      refine lv_goto (tgt := 469) S.1 S.2.1 dL_law_361 (by decide) ?_
      exact W.widen (by show 76 + k + 0 + 0 ≤ 76 + (k + 1); omega) (by show 4527 + 6 * k + 0 + 0 ≤ 4527 + 6 * (k + 1); omega) (tl h5 ad nr nx _ T σ1 τ1 rfl hc hI H locs hG)
    refine (Decidable.em (op = 8)).elim (fun co => ?_) (fun c_8 => ?_)
    · refine lv_tableIn (off := 332) (tgt := 364) S.1 S.2.1 dL_law_32 (by rw [co]; decide) (by rw [co]; decide) (by rw [co]; rfl) (by decide) ?_
      refine lv_aload_n S.1 S.2.1 dL_law_364 rfl (lv_at hl 1 rfl) ?_
      refine r_callViF S hK hA hG (k_X4_amount l _ _ _ _ _ _ hc) (cwV 0 S.2.2.2.2 gL_law_X4_amount rfl rfl rfl (by decide +kernel) ⟨Nat.le_of_ble_eq_true rfl, Nat.le_of_ble_eq_true rfl⟩) (va_recv hK hG.1 (ci := 4) (q0 := 0) rfl rfl) rfl hl.1 rfl (Nat.le_of_ble_eq_true rfl) dL_law_365 ⟨by show 76 + k + 0 ≤ 600000; omega, by show 4527 + 6 * k + 0 ≤ 7302250; omega⟩ (fun ra _ H locs e1 hG => ?_)
      refine lv_pop S.1 S.2.1 dL_law_368 rfl ?_
      refine lv_aload_n S.1 S.2.1 dL_law_369 rfl (lv_at hl 2 rfl) ?_
      refine r_callViS S hK5 hA hG (k_X5_amount l _ _ _ _) (cwV 0 S.2.2.2.2 gL_law_X5_amount rfl rfl rfl (by decide +kernel) ⟨Nat.le_of_ble_eq_true rfl, Nat.le_of_ble_eq_true rfl⟩) (va_recv hK (wI_app2 hG).1 (ci := 5) (q0 := 0) rfl rfl) rfl hl.1 rfl (Nat.le_of_ble_eq_true rfl) dL_law_370 ⟨by show 76 + k + 0 ≤ 600000; omega, by show 4527 + 6 * k + 0 ≤ 7302250; omega⟩ (fun rb _ H locs e2 hG => ?_)
      refine lv_pop S.1 S.2.1 dL_law_373 rfl ?_
      refine lv_goto (tgt := 469) S.1 S.2.1 dL_law_374 (by decide) ?_
      exact W.widen (by show 76 + k + 0 + 0 ≤ 76 + (k + 1); omega) (by show 4527 + 6 * k + 0 + 0 ≤ 4527 + 6 * (k + 1); omega) (tl h5 ad nr nx _ T σ τ rfl hc hI H locs hG)
    refine (Decidable.em (op = 9)).elim (fun co => ?_) (fun c_9 => ?_)
    · refine lv_tableIn (off := 345) (tgt := 377) S.1 S.2.1 dL_law_32 (by rw [co]; decide) (by rw [co]; decide) (by rw [co]; rfl) (by decide) ?_
      refine lv_aload_n S.1 S.2.1 dL_law_377 rfl (lv_at hl 1 rfl) ?_
      refine lv_aload_n S.1 S.2.1 dL_law_378 rfl (lv_at hl 0 rfl) ?_
      refine lv_iload_n S.1 S.2.1 dL_law_379 rfl (lv_at hl 3 rfl) ?_
      refine lv_iconst (v := 1) S.1 S.2.1 dL_law_380 (by decide) ?_
      refine lv_iadd S.1 S.2.1 dL_law_381 ?_
      refine va_sld S.1 S.2.1 hX hbl hbA hG.2.2 (law_in h5 hL 1 (by omega) ei rfl) dL_law_382 ?_
      refine r_callViF S hK hA hG (k_X4_tick l _ _ _ _ _ _ _ hc) (cwV 1 S.2.2.2.2 gL_law_X4_tick rfl rfl rfl (by decide +kernel) ⟨Nat.le_of_ble_eq_true rfl, Nat.le_of_ble_eq_true rfl⟩) (va_recv hK hG.1 (ci := 4) (q0 := 0) rfl rfl) rfl hl.1 rfl (Nat.le_of_ble_eq_true rfl) dL_law_383 ⟨by show 76 + k + 0 ≤ 600000; omega, by show 4527 + 6 * k + 0 ≤ 7302250; omega⟩ (fun ra σ1 H locs hw hG => ?_)
      obtain ⟨e1, hc⟩ := hw
      refine lv_pop S.1 S.2.1 dL_law_386 rfl ?_
      refine lv_aload_n S.1 S.2.1 dL_law_387 rfl (lv_at hl 2 rfl) ?_
      refine lv_aload_n S.1 S.2.1 dL_law_388 rfl (lv_at hl 0 rfl) ?_
      refine lv_iload_n S.1 S.2.1 dL_law_389 rfl (lv_at hl 3 rfl) ?_
      refine lv_iconst (v := 1) S.1 S.2.1 dL_law_390 (by decide) ?_
      refine lv_iadd S.1 S.2.1 dL_law_391 ?_
      refine va_sld S.1 S.2.1 hX hbl hbA hG.2.2 (law_in h5 hL 1 (by omega) ei rfl) dL_law_392 ?_
      refine r_callViS S hK5 hA hG (k_X5_tick l _ _ _ _ _ hI) (cwV 1 S.2.2.2.2 gL_law_X5_tick rfl rfl rfl (by decide +kernel) ⟨Nat.le_of_ble_eq_true rfl, Nat.le_of_ble_eq_true rfl⟩) (va_recv hK (wI_app2 hG).1 (ci := 5) (q0 := 0) rfl rfl) rfl hl.1 rfl (Nat.le_of_ble_eq_true rfl) dL_law_393 ⟨by show 76 + k + 0 ≤ 600000; omega, by show 4527 + 6 * k + 0 ≤ 7302250; omega⟩ (fun rb τ1 H locs e2 hG => ?_)
      have hI := ru_tick (xs (i + 1).toNatClampNeg) hI
      rw [← show (rb, τ1).2 = _ from congrArg Prod.snd e2] at hI
      refine lv_pop S.1 S.2.1 dL_law_396 rfl ?_
      refine lv_goto (tgt := 469) S.1 S.2.1 dL_law_397 (by decide) ?_
      exact W.widen (by show 76 + k + 0 + 0 ≤ 76 + (k + 1); omega) (by show 4527 + 6 * k + 0 + 0 ≤ 4527 + 6 * (k + 1); omega) (tl h5 ad nr nx _ T σ1 τ1 rfl hc hI H locs hG)
    refine (Decidable.em (op = 10)).elim (fun co => ?_) (fun c_10 => ?_)
    · refine lv_tableIn (off := 368) (tgt := 400) S.1 S.2.1 dL_law_32 (by rw [co]; decide) (by rw [co]; decide) (by rw [co]; rfl) (by decide) ?_
      refine lv_aload_n S.1 S.2.1 dL_law_400 rfl (lv_at hl 1 rfl) ?_
      refine lv_aload_n S.1 S.2.1 dL_law_401 rfl (lv_at hl 0 rfl) ?_
      refine lv_iload_n S.1 S.2.1 dL_law_402 rfl (lv_at hl 3 rfl) ?_
      refine lv_iconst (v := 1) S.1 S.2.1 dL_law_403 (by decide) ?_
      refine lv_iadd S.1 S.2.1 dL_law_404 ?_
      refine va_sld S.1 S.2.1 hX hbl hbA hG.2.2 (law_in h5 hL 1 (by omega) ei rfl) dL_law_405 ?_
      refine lv_aload_n S.1 S.2.1 dL_law_406 rfl (lv_at hl 0 rfl) ?_
      refine lv_iload_n S.1 S.2.1 dL_law_407 rfl (lv_at hl 3 rfl) ?_
      refine lv_iconst (v := 2) S.1 S.2.1 dL_law_408 (by decide) ?_
      refine lv_iadd S.1 S.2.1 dL_law_409 ?_
      refine va_sld S.1 S.2.1 hX hbl hbA hG.2.2 (law_in h5 hL 2 (by omega) ei rfl) dL_law_410 ?_
      refine r_callViF S hK hA hG (k_X4_failed l _ _ _ _ _ _ _ _ hc) (cwV 2 S.2.2.2.2 gL_law_X4_failed rfl rfl rfl (by decide +kernel) ⟨Nat.le_of_ble_eq_true rfl, Nat.le_of_ble_eq_true rfl⟩) (va_recv hK hG.1 (ci := 4) (q0 := 0) rfl rfl) rfl hl.1 rfl (Nat.le_of_ble_eq_true rfl) dL_law_411 ⟨by show 76 + k + 0 ≤ 600000; omega, by show 4527 + 6 * k + 0 ≤ 7302250; omega⟩ (fun ra _ H locs e1 hG => ?_)
      refine lv_pop S.1 S.2.1 dL_law_414 rfl ?_
      refine lv_aload_n S.1 S.2.1 dL_law_415 rfl (lv_at hl 2 rfl) ?_
      refine lv_aload_n S.1 S.2.1 dL_law_416 rfl (lv_at hl 0 rfl) ?_
      refine lv_iload_n S.1 S.2.1 dL_law_417 rfl (lv_at hl 3 rfl) ?_
      refine lv_iconst (v := 1) S.1 S.2.1 dL_law_418 (by decide) ?_
      refine lv_iadd S.1 S.2.1 dL_law_419 ?_
      refine va_sld S.1 S.2.1 hX hbl hbA hG.2.2 (law_in h5 hL 1 (by omega) ei rfl) dL_law_420 ?_
      refine lv_aload_n S.1 S.2.1 dL_law_421 rfl (lv_at hl 0 rfl) ?_
      refine lv_iload_n S.1 S.2.1 dL_law_422 rfl (lv_at hl 3 rfl) ?_
      refine lv_iconst (v := 2) S.1 S.2.1 dL_law_423 (by decide) ?_
      refine lv_iadd S.1 S.2.1 dL_law_424 ?_
      refine va_sld S.1 S.2.1 hX hbl hbA hG.2.2 (law_in h5 hL 2 (by omega) ei rfl) dL_law_425 ?_
      refine r_callViS S hK5 hA hG (k_X5_failed l _ _ _ _ _ _ hI.2.2.2.2.2) (cwV 2 S.2.2.2.2 gL_law_X5_failed rfl rfl rfl (by decide +kernel) ⟨Nat.le_of_ble_eq_true rfl, Nat.le_of_ble_eq_true rfl⟩) (va_recv hK (wI_app2 hG).1 (ci := 5) (q0 := 0) rfl rfl) rfl hl.1 rfl (Nat.le_of_ble_eq_true rfl) dL_law_426 ⟨by show 76 + k + 0 ≤ 600000; omega, by show 4527 + 6 * k + 0 ≤ 7302250; omega⟩ (fun rb _ H locs e2 hG => ?_)
      refine lv_pop S.1 S.2.1 dL_law_429 rfl ?_
      refine lv_goto (tgt := 469) S.1 S.2.1 dL_law_430 (by decide) ?_
      exact W.widen (by show 76 + k + 0 + 0 ≤ 76 + (k + 1); omega) (by show 4527 + 6 * k + 0 + 0 ≤ 4527 + 6 * (k + 1); omega) (tl h5 ad nr nx _ T σ τ rfl hc hI H locs hG)
    refine (Decidable.em (op = 11)).elim (fun co => ?_) (fun c_11 => ?_)
    · refine lv_tableIn (off := 401) (tgt := 433) S.1 S.2.1 dL_law_32 (by rw [co]; decide) (by rw [co]; decide) (by rw [co]; rfl) (by decide) ?_
      refine lv_aload_n S.1 S.2.1 dL_law_433 rfl (lv_at hl 1 rfl) ?_
      refine lv_aload_n S.1 S.2.1 dL_law_434 rfl (lv_at hl 0 rfl) ?_
      refine lv_iload_n S.1 S.2.1 dL_law_435 rfl (lv_at hl 3 rfl) ?_
      refine lv_iconst (v := 1) S.1 S.2.1 dL_law_436 (by decide) ?_
      refine lv_iadd S.1 S.2.1 dL_law_437 ?_
      refine va_sld S.1 S.2.1 hX hbl hbA hG.2.2 (law_in h5 hL 1 (by omega) ei rfl) dL_law_438 ?_
      refine r_callViN gN_ok hN S hK hA hG (k_X4_count l _ _ _ _ _ _ _ hc) (cwV 1 S.2.2.2.2 gL_law_X4_count rfl rfl rfl (by decide +kernel) ⟨Nat.le_of_ble_eq_true rfl, Nat.le_of_ble_eq_true rfl⟩) (va_recv hK hG.1 (ci := 4) (q0 := 0) rfl rfl) rfl hl.1 rfl (Nat.le_of_ble_eq_true rfl) dL_law_439 ⟨by show 76 + k + 0 ≤ 600000; omega, by show 4527 + 6 * k + 0 ≤ 7302250; omega⟩ (fun ra _ H locs e1 hG => ?_)
      refine lv_pop S.1 S.2.1 dL_law_442 rfl ?_
      refine lv_aload_n S.1 S.2.1 dL_law_443 rfl (lv_at hl 2 rfl) ?_
      refine lv_aload_n S.1 S.2.1 dL_law_444 rfl (lv_at hl 0 rfl) ?_
      refine lv_iload_n S.1 S.2.1 dL_law_445 rfl (lv_at hl 3 rfl) ?_
      refine lv_iconst (v := 1) S.1 S.2.1 dL_law_446 (by decide) ?_
      refine lv_iadd S.1 S.2.1 dL_law_447 ?_
      refine va_sld S.1 S.2.1 hX hbl hbA hG.2.2 (law_in h5 hL 1 (by omega) ei rfl) dL_law_448 ?_
      refine r_callViS S hK5 hA hG (k_X5_count l _ _ _ _ _) (cwV 1 S.2.2.2.2 gL_law_X5_count rfl rfl rfl (by decide +kernel) ⟨Nat.le_of_ble_eq_true rfl, Nat.le_of_ble_eq_true rfl⟩) (va_recv hK (wI_app2 hG).1 (ci := 5) (q0 := 0) rfl rfl) rfl hl.1 rfl (Nat.le_of_ble_eq_true rfl) dL_law_449 ⟨by show 76 + k + 0 ≤ 600000; omega, by show 4527 + 6 * k + 0 ≤ 7302250; omega⟩ (fun rb _ H locs e2 hG => ?_)
      refine lv_pop S.1 S.2.1 dL_law_452 rfl ?_
      refine lv_goto (tgt := 469) S.1 S.2.1 dL_law_453 (by decide) ?_
      exact W.widen (by show 76 + k + 0 + 0 ≤ 76 + (k + 1); omega) (by show 4527 + 6 * k + 0 + 0 ≤ 4527 + 6 * (k + 1); omega) (tl h5 ad nr nx _ T σ τ rfl hc hI H locs hG)
    refine (Decidable.em (op = 12)).elim (fun co => ?_) (fun c_12 => ?_)
    · refine lv_tableIn (off := 424) (tgt := 456) S.1 S.2.1 dL_law_32 (by rw [co]; decide) (by rw [co]; decide) (by rw [co]; rfl) (by decide) ?_
      refine lv_aload_n S.1 S.2.1 dL_law_456 rfl (lv_at hl 1 rfl) ?_
      refine r_callViF S hK hA hG (k_X4_why l _ _ _ _ _ _ hc) (cwV 0 S.2.2.2.2 gL_law_X4_why rfl rfl rfl (by decide +kernel) ⟨Nat.le_of_ble_eq_true rfl, Nat.le_of_ble_eq_true rfl⟩) (va_recv hK hG.1 (ci := 4) (q0 := 0) rfl rfl) rfl hl.1 rfl (Nat.le_of_ble_eq_true rfl) dL_law_457 ⟨by show 76 + k + 0 ≤ 600000; omega, by show 4527 + 6 * k + 0 ≤ 7302250; omega⟩ (fun ra _ H locs e1 hG => ?_)
      refine lv_pop S.1 S.2.1 dL_law_460 rfl ?_
      refine lv_aload_n S.1 S.2.1 dL_law_461 rfl (lv_at hl 2 rfl) ?_
      refine r_callViS S hK5 hA hG (k_X5_why l _ _ _ _) (cwV 0 S.2.2.2.2 gL_law_X5_why rfl rfl rfl (by decide +kernel) ⟨Nat.le_of_ble_eq_true rfl, Nat.le_of_ble_eq_true rfl⟩) (va_recv hK (wI_app2 hG).1 (ci := 5) (q0 := 0) rfl rfl) rfl hl.1 rfl (Nat.le_of_ble_eq_true rfl) dL_law_462 ⟨by show 76 + k + 0 ≤ 600000; omega, by show 4527 + 6 * k + 0 ≤ 7302250; omega⟩ (fun rb _ H locs e2 hG => ?_)
      refine lv_pop S.1 S.2.1 dL_law_465 rfl ?_
      refine lv_goto (tgt := 469) S.1 S.2.1 dL_law_466 (by decide) ?_
      exact W.widen (by show 76 + k + 0 + 0 ≤ 76 + (k + 1); omega) (by show 4527 + 6 * k + 0 + 0 ≤ 4527 + 6 * (k + 1); omega) (tl h5 ad nr nx _ T σ τ rfl hc hI H locs hG)
    refine lv_tableOut (tgt := 469) S.1 S.2.1 dL_law_32 (by have h0 := sw_ne (z := 0) rfl c_0; have h1 := sw_ne (z := 1) rfl c_1; have h2 := sw_ne (z := 2) rfl c_2; have h3 := sw_ne (z := 3) rfl c_3; have h4 := sw_ne (z := 4) rfl c_4; have h5 := sw_ne (z := 5) rfl c_5; have h6 := sw_ne (z := 6) rfl c_6; have h7 := sw_ne (z := 7) rfl c_7; have h8 := sw_ne (z := 8) rfl c_8; have h9 := sw_ne (z := 9) rfl c_9; have h10 := sw_ne (z := 10) rfl c_10; have h11 := sw_ne (z := 11) rfl c_11; have h12 := sw_ne (z := 12) rfl c_12; omega) (by decide) ?_
    exact W.widen (by omega) (by omega) (tl h5 ad nr nx _ T σ τ rfl hc hI H locs hG)
