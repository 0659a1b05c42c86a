def rwR (k a b c e : Int32) : Nat → Int32 := fun j => if j = 0 then k else if j = 1 then a else if j = 2 then b else if j = 3 then c else if j = 4 then e else 0
def newR (σ : Mem) (i : Nat) (k a b c e : Int32) : Mem := mset (mrow σ (200 + i) (rwR k a b c e)) 0 7 (σ 0 7 + 1)
theorem nR_r (σ : Mem) (i : Nat) (k a b c e : Int32) {r : Nat} (h : r ≠ 0 ∧ r ≠ 200 + i) : newR σ i k a b c e r = σ r := by
  unfold newR mrow
  rw [mset_ne _ _ _ h.1, va_up_ne _ _ h.2]
theorem nR_0 (σ : Mem) (i : Nat) (k a b c e : Int32) {j : Nat} (h : j ≠ 7) : newR σ i k a b c e 0 j = σ 0 j := by
  unfold newR mrow
  rw [mset_n _ _ _ h, va_up_ne _ _ (by omega)]
theorem nR_c (σ : Mem) (i : Nat) (k a b c e : Int32) : newR σ i k a b c e 0 7 = σ 0 7 + 1 := by
  unfold newR
  rw [mset_s]
theorem nR_n (σ : Mem) (i : Nat) (k a b c e : Int32) : newR σ i k a b c e (200 + i) = rwR k a b c e := by
  unfold newR mrow
  rw [mset_ne _ _ _ (by omega), va_up_self]
set_option maxRecDepth 100000 in
set_option maxHeartbeats 4000000 in
theorem GW_R (ad : Nat → Nat) (cs : Nat → ClassId) {n m : Nat} (σ : Mem) (q : Nat) (k a b c e : Int32) (hn : n ≤ 40) (hm : m ≤ 40) (h40 : n < 40) : (((GW ad cs n m σ ++ ([(q, .inr (2, [.int k, .int a, .int b, .int c, .int e, .int 0]))] : va_W)).set 4 (ad 4, .inl (cs 1, 40, .inr (.inr (.inr (.inr (va_up (Gup ad 200 n) n (some q)))))))).set 0 (ad 0, .inr (4, (Gfs ad σ).set 7 (.int (σ 0 7 + 1))))).Perm (GW (va_up ad (200 + n) q) cs (n + 1) m (newR σ n k a b c e)) := by
  have a0 : va_up ad (200 + n) q 0 = ad 0 := va_up_ne _ _ (by omega)
  have a1 : va_up ad (200 + n) q 1 = ad 1 := va_up_ne _ _ (by omega)
  have a2 : va_up ad (200 + n) q 2 = ad 2 := va_up_ne _ _ (by omega)
  have a3 : va_up ad (200 + n) q 3 = ad 3 := va_up_ne _ _ (by omega)
  have a4 : va_up ad (200 + n) q 4 = ad 4 := va_up_ne _ _ (by omega)
  have a5 : va_up ad (200 + n) q 5 = ad 5 := va_up_ne _ _ (by omega)
  have a6 : va_up ad (200 + n) q 6 = ad 6 := va_up_ne _ _ (by omega)
  have a7 : va_up ad (200 + n) q 7 = ad 7 := va_up_ne _ _ (by omega)
  have a8 : va_up ad (200 + n) q 8 = ad 8 := va_up_ne _ _ (by omega)
  have a9 : va_up ad (200 + n) q 9 = ad 9 := va_up_ne _ _ (by omega)
  have a10 : va_up ad (200 + n) q 10 = ad 10 := va_up_ne _ _ (by omega)
  have a11 : va_up ad (200 + n) q 11 = ad 11 := va_up_ne _ _ (by omega)
  have a12 : va_up ad (200 + n) q 12 = ad 12 := va_up_ne _ _ (by omega)
  have s1 : newR σ n k a b c e 1 = σ 1 := nR_r _ _ _ _ _ _ _ (by omega)
  have s2 : newR σ n k a b c e 2 = σ 2 := nR_r _ _ _ _ _ _ _ (by omega)
  have s6 : newR σ n k a b c e 6 = σ 6 := nR_r _ _ _ _ _ _ _ (by omega)
  have s7 : newR σ n k a b c e 7 = σ 7 := nR_r _ _ _ _ _ _ _ (by omega)
  have s8 : newR σ n k a b c e 8 = σ 8 := nR_r _ _ _ _ _ _ _ (by omega)
  have s9 : newR σ n k a b c e 9 = σ 9 := nR_r _ _ _ _ _ _ _ (by omega)
  have s10 : newR σ n k a b c e 10 = σ 10 := nR_r _ _ _ _ _ _ _ (by omega)
  have s11 : newR σ n k a b c e 11 = σ 11 := nR_r _ _ _ _ _ _ _ (by omega)
  have s12 : newR σ n k a b c e 12 = σ 12 := nR_r _ _ _ _ _ _ _ (by omega)
  have t7 : newR σ n k a b c e 0 7 = σ 0 7 + 1 := nR_c _ _ _ _ _ _ _
  have t8 : newR σ n k a b c e 0 8 = σ 0 8 := nR_0 _ _ _ _ _ _ _ (by decide)
  have t9 : newR σ n k a b c e 0 9 = σ 0 9 := nR_0 _ _ _ _ _ _ _ (by decide)
  have t10 : newR σ n k a b c e 0 10 = σ 0 10 := nR_0 _ _ _ _ _ _ _ (by decide)
  have t11 : newR σ n k a b c e 0 11 = σ 0 11 := nR_0 _ _ _ _ _ _ _ (by decide)
  have t12 : newR σ n k a b c e 0 12 = σ 0 12 := nR_0 _ _ _ _ _ _ _ (by decide)
  have t13 : newR σ n k a b c e 0 13 = σ 0 13 := nR_0 _ _ _ _ _ _ _ (by decide)
  have t14 : newR σ n k a b c e 0 14 = σ 0 14 := nR_0 _ _ _ _ _ _ _ (by decide)
  have t15 : newR σ n k a b c e 0 15 = σ 0 15 := nR_0 _ _ _ _ _ _ _ (by decide)
  have g100 : Gup (va_up ad (200 + n) q) 100 40 = Gup ad 100 40 := funext fun j => by
    show (if j < 40 then some (va_up ad (200 + n) q (100 + j)) else none) = if j < 40 then some (ad (100 + j)) else none
    by_cases h : j < 40
    · rw [if_pos h, if_pos h, va_up_ne _ _ (by omega)]
    · rw [if_neg h, if_neg h]
  have g300 : Gup (va_up ad (200 + n) q) 300 m = Gup ad 300 m := funext fun j => by
    show (if j < m then some (va_up ad (200 + n) q (300 + j)) else none) = if j < m then some (ad (300 + j)) else none
    by_cases h : j < m
    · rw [if_pos h, if_pos h, va_up_ne _ _ (by omega)]
    · rw [if_neg h, if_neg h]
  have gn : Gup (va_up ad (200 + n) q) 200 (n + 1) = va_up (Gup ad 200 n) n (some q) := funext fun j => by
    show (if j < n + 1 then some (va_up ad (200 + n) q (200 + j)) else none) = if j = n then some q else if j < n then some (ad (200 + j)) else none
    by_cases h : j = n
    · subst h
      rw [if_pos (by omega), if_pos rfl, va_up_self]
    · rw [if_neg h]
      by_cases h2 : j < n
      · rw [if_pos (by omega), if_pos h2, va_up_ne _ _ (by omega)]
      · rw [if_neg (by omega), if_neg h2]
  have eL : GWl (va_up ad (200 + n) q) cs (n + 1) m (newR σ n k a b c e) = [(ad 0, .inr (4, (Gfs ad σ).set 7 (.int (σ 0 7 + 1)))), (ad 1, .inl (cs 0, 8, .inl (σ 1))), (ad 2, .inl (cs 0, 6, .inl (σ 2))), (ad 3, .inl (cs 3, 40, .inr (.inr (.inr (.inr (Gup ad 100 40)))))), (ad 4, .inl (cs 1, 40, .inr (.inr (.inr (.inr (va_up (Gup ad 200 n) n (some q))))))), (ad 5, .inl (cs 2, 40, .inr (.inr (.inr (.inr (Gup ad 300 m)))))), (ad 6, .inr (3, [.ref (ad 8), .ref (ad 9), .int (σ 6 2)])), (ad 7, .inr (1, [.ref (ad 10), .ref (ad 11), .ref (ad 12), .int (σ 7 3)])), (ad 8, .inl (cs 0, 60, .inl (σ 8))), (ad 9, .inl (cs 0, 60, .inl (σ 9))), (ad 10, .inl (cs 0, 30, .inl (σ 10))), (ad 11, .inl (cs 0, 30, .inl (σ 11))), (ad 12, .inl (cs 0, 30, .inl (σ 12)))] := by
    unfold GWl Gfs
    rw [a0, a1, a2, a3, a4, a5, a6, a7, a8, a9, a10, a11, a12, g100, g300, gn, s1, s2, s6, s7, s8, s9, s10, s11, s12, t7, t8, t9, t10, t11, t12, t13, t14, t15]
    rfl
  have pa : GPa (va_up ad (200 + n) q) cs (newR σ n k a b c e) = GPa ad cs σ := by
    unfold GPa
    refine List.map_congr_left (fun i hi => ?_)
    have hi := List.mem_range.mp hi
    rw [va_up_ne _ _ (by omega), nR_r _ _ _ _ _ _ _ (by omega)]
  have po : GPx (va_up ad (200 + n) q) m (newR σ n k a b c e) = GPx ad m σ := by
    unfold GPx Gac
    refine List.map_congr_left (fun i hi => ?_)
    have hi := List.mem_range.mp hi
    rw [va_up_ne _ _ (by omega), nR_r _ _ _ _ _ _ _ (by omega)]
  have pn : GPr (va_up ad (200 + n) q) (n + 1) (newR σ n k a b c e) = GPr ad n σ ++ ([(q, .inr (2, [.int k, .int a, .int b, .int c, .int e, .int 0]))] : va_W) := by
    unfold GPr Gru
    rw [List.range_succ, List.map_append]
    congr 1
    · refine List.map_congr_left (fun i hi => ?_)
      have hi := List.mem_range.mp hi
      rw [va_up_ne _ _ (by omega), nR_r _ _ _ _ _ _ _ (by omega)]
    · show [(va_up ad (200 + n) q (200 + n), _)] = _
      rw [va_up_self, nR_n]
      rfl
  show List.Perm _ (GWl _ cs _ _ _ ++ GP _ cs _ _ _)
  rw [eL]
  unfold GP
  rw [pa, po, pn]
  have eS : ((GW ad cs n m σ ++ ([(q, .inr (2, [.int k, .int a, .int b, .int c, .int e, .int 0]))] : va_W)).set 4 (ad 4, .inl (cs 1, 40, .inr (.inr (.inr (.inr (va_up (Gup ad 200 n) n (some q)))))))).set 0 (ad 0, .inr (4, (Gfs ad σ).set 7 (.int (σ 0 7 + 1)))) = ([(ad 0, .inr (4, (Gfs ad σ).set 7 (.int (σ 0 7 + 1)))), (ad 1, .inl (cs 0, 8, .inl (σ 1))), (ad 2, .inl (cs 0, 6, .inl (σ 2))), (ad 3, .inl (cs 3, 40, .inr (.inr (.inr (.inr (Gup ad 100 40)))))), (ad 4, .inl (cs 1, 40, .inr (.inr (.inr (.inr (va_up (Gup ad 200 n) n (some q))))))), (ad 5, .inl (cs 2, 40, .inr (.inr (.inr (.inr (Gup ad 300 m)))))), (ad 6, .inr (3, [.ref (ad 8), .ref (ad 9), .int (σ 6 2)])), (ad 7, .inr (1, [.ref (ad 10), .ref (ad 11), .ref (ad 12), .int (σ 7 3)])), (ad 8, .inl (cs 0, 60, .inl (σ 8))), (ad 9, .inl (cs 0, 60, .inl (σ 9))), (ad 10, .inl (cs 0, 30, .inl (σ 10))), (ad 11, .inl (cs 0, 30, .inl (σ 11))), (ad 12, .inl (cs 0, 30, .inl (σ 12)))] : va_W) ++ (GP ad cs n m σ ++ ([(q, .inr (2, [.int k, .int a, .int b, .int c, .int e, .int 0]))] : va_W)) := rfl
  rw [eS]
  refine List.Perm.append_left _ ?_
  unfold GP
  rw [List.append_assoc]
  refine List.Perm.append_left _ ?_
  rw [List.append_assoc, List.append_assoc]
  exact List.Perm.append_left _ List.perm_append_comm
def rwX (k a b c : Int32) : Nat → Int32 := fun j => if j = 0 then k else if j = 1 then a else if j = 2 then b else if j = 3 then c else 0
def newX (σ : Mem) (i : Nat) (k a b c : Int32) : Mem := mset (mrow σ (300 + i) (rwX k a b c)) 0 8 (σ 0 8 + 1)
theorem nX_r (σ : Mem) (i : Nat) (k a b c : Int32) {r : Nat} (h : r ≠ 0 ∧ r ≠ 300 + i) : newX σ i k a b c r = σ r := by
  unfold newX mrow
  rw [mset_ne _ _ _ h.1, va_up_ne _ _ h.2]
theorem nX_0 (σ : Mem) (i : Nat) (k a b c : Int32) {j : Nat} (h : j ≠ 8) : newX σ i k a b c 0 j = σ 0 j := by
  unfold newX mrow
  rw [mset_n _ _ _ h, va_up_ne _ _ (by omega)]
theorem nX_c (σ : Mem) (i : Nat) (k a b c : Int32) : newX σ i k a b c 0 8 = σ 0 8 + 1 := by
  unfold newX
  rw [mset_s]
theorem nX_n (σ : Mem) (i : Nat) (k a b c : Int32) : newX σ i k a b c (300 + i) = rwX k a b c := by
  unfold newX mrow
  rw [mset_ne _ _ _ (by omega), va_up_self]
set_option maxRecDepth 100000 in
set_option maxHeartbeats 4000000 in
theorem GW_X (ad : Nat → Nat) (cs : Nat → ClassId) {n m : Nat} (σ : Mem) (q : Nat) (k a b c : Int32) (hn : n ≤ 40) (hm : m ≤ 40) : (((GW ad cs n m σ ++ ([(q, .inr (0, [.int k, .int a, .int b, .int c]))] : va_W)).set 5 (ad 5, .inl (cs 2, 40, .inr (.inr (.inr (.inr (va_up (Gup ad 300 m) m (some q)))))))).set 0 (ad 0, .inr (4, (Gfs ad σ).set 8 (.int (σ 0 8 + 1))))).Perm (GW (va_up ad (300 + m) q) cs n (m + 1) (newX σ m k a b c)) := by
  have a0 : va_up ad (300 + m) q 0 = ad 0 := va_up_ne _ _ (by omega)
  have a1 : va_up ad (300 + m) q 1 = ad 1 := va_up_ne _ _ (by omega)
  have a2 : va_up ad (300 + m) q 2 = ad 2 := va_up_ne _ _ (by omega)
  have a3 : va_up ad (300 + m) q 3 = ad 3 := va_up_ne _ _ (by omega)
  have a4 : va_up ad (300 + m) q 4 = ad 4 := va_up_ne _ _ (by omega)
  have a5 : va_up ad (300 + m) q 5 = ad 5 := va_up_ne _ _ (by omega)
  have a6 : va_up ad (300 + m) q 6 = ad 6 := va_up_ne _ _ (by omega)
  have a7 : va_up ad (300 + m) q 7 = ad 7 := va_up_ne _ _ (by omega)
  have a8 : va_up ad (300 + m) q 8 = ad 8 := va_up_ne _ _ (by omega)
  have a9 : va_up ad (300 + m) q 9 = ad 9 := va_up_ne _ _ (by omega)
  have a10 : va_up ad (300 + m) q 10 = ad 10 := va_up_ne _ _ (by omega)
  have a11 : va_up ad (300 + m) q 11 = ad 11 := va_up_ne _ _ (by omega)
  have a12 : va_up ad (300 + m) q 12 = ad 12 := va_up_ne _ _ (by omega)
  have s1 : newX σ m k a b c 1 = σ 1 := nX_r _ _ _ _ _ _ (by omega)
  have s2 : newX σ m k a b c 2 = σ 2 := nX_r _ _ _ _ _ _ (by omega)
  have s6 : newX σ m k a b c 6 = σ 6 := nX_r _ _ _ _ _ _ (by omega)
  have s7 : newX σ m k a b c 7 = σ 7 := nX_r _ _ _ _ _ _ (by omega)
  have s8 : newX σ m k a b c 8 = σ 8 := nX_r _ _ _ _ _ _ (by omega)
  have s9 : newX σ m k a b c 9 = σ 9 := nX_r _ _ _ _ _ _ (by omega)
  have s10 : newX σ m k a b c 10 = σ 10 := nX_r _ _ _ _ _ _ (by omega)
  have s11 : newX σ m k a b c 11 = σ 11 := nX_r _ _ _ _ _ _ (by omega)
  have s12 : newX σ m k a b c 12 = σ 12 := nX_r _ _ _ _ _ _ (by omega)
  have t7 : newX σ m k a b c 0 7 = σ 0 7 := nX_0 _ _ _ _ _ _ (by decide)
  have t8 : newX σ m k a b c 0 8 = σ 0 8 + 1 := nX_c _ _ _ _ _ _
  have t9 : newX σ m k a b c 0 9 = σ 0 9 := nX_0 _ _ _ _ _ _ (by decide)
  have t10 : newX σ m k a b c 0 10 = σ 0 10 := nX_0 _ _ _ _ _ _ (by decide)
  have t11 : newX σ m k a b c 0 11 = σ 0 11 := nX_0 _ _ _ _ _ _ (by decide)
  have t12 : newX σ m k a b c 0 12 = σ 0 12 := nX_0 _ _ _ _ _ _ (by decide)
  have t13 : newX σ m k a b c 0 13 = σ 0 13 := nX_0 _ _ _ _ _ _ (by decide)
  have t14 : newX σ m k a b c 0 14 = σ 0 14 := nX_0 _ _ _ _ _ _ (by decide)
  have t15 : newX σ m k a b c 0 15 = σ 0 15 := nX_0 _ _ _ _ _ _ (by decide)
  have g100 : Gup (va_up ad (300 + m) q) 100 40 = Gup ad 100 40 := funext fun j => by
    show (if j < 40 then some (va_up ad (300 + m) q (100 + j)) else none) = if j < 40 then some (ad (100 + j)) else none
    by_cases h : j < 40
    · rw [if_pos h, if_pos h, va_up_ne _ _ (by omega)]
    · rw [if_neg h, if_neg h]
  have g200 : Gup (va_up ad (300 + m) q) 200 n = Gup ad 200 n := funext fun j => by
    show (if j < n then some (va_up ad (300 + m) q (200 + j)) else none) = if j < n then some (ad (200 + j)) else none
    by_cases h : j < n
    · rw [if_pos h, if_pos h, va_up_ne _ _ (by omega)]
    · rw [if_neg h, if_neg h]
  have gn : Gup (va_up ad (300 + m) q) 300 (m + 1) = va_up (Gup ad 300 m) m (some q) := funext fun j => by
    show (if j < m + 1 then some (va_up ad (300 + m) q (300 + j)) else none) = if j = m then some q else if j < m then some (ad (300 + j)) else none
    by_cases h : j = m
    · subst h
      rw [if_pos (by omega), if_pos rfl, va_up_self]
    · rw [if_neg h]
      by_cases h2 : j < m
      · rw [if_pos (by omega), if_pos h2, va_up_ne _ _ (by omega)]
      · rw [if_neg (by omega), if_neg h2]
  have eL : GWl (va_up ad (300 + m) q) cs n (m + 1) (newX σ m k a b c) = [(ad 0, .inr (4, (Gfs ad σ).set 8 (.int (σ 0 8 + 1)))), (ad 1, .inl (cs 0, 8, .inl (σ 1))), (ad 2, .inl (cs 0, 6, .inl (σ 2))), (ad 3, .inl (cs 3, 40, .inr (.inr (.inr (.inr (Gup ad 100 40)))))), (ad 4, .inl (cs 1, 40, .inr (.inr (.inr (.inr (Gup ad 200 n)))))), (ad 5, .inl (cs 2, 40, .inr (.inr (.inr (.inr (va_up (Gup ad 300 m) m (some q))))))), (ad 6, .inr (3, [.ref (ad 8), .ref (ad 9), .int (σ 6 2)])), (ad 7, .inr (1, [.ref (ad 10), .ref (ad 11), .ref (ad 12), .int (σ 7 3)])), (ad 8, .inl (cs 0, 60, .inl (σ 8))), (ad 9, .inl (cs 0, 60, .inl (σ 9))), (ad 10, .inl (cs 0, 30, .inl (σ 10))), (ad 11, .inl (cs 0, 30, .inl (σ 11))), (ad 12, .inl (cs 0, 30, .inl (σ 12)))] := by
    unfold GWl Gfs
    rw [a0, a1, a2, a3, a4, a5, a6, a7, a8, a9, a10, a11, a12, g100, g200, gn, s1, s2, s6, s7, s8, s9, s10, s11, s12, t7, t8, t9, t10, t11, t12, t13, t14, t15]
    rfl
  have pa : GPa (va_up ad (300 + m) q) cs (newX σ m k a b c) = GPa ad cs σ := by
    unfold GPa
    refine List.map_congr_left (fun i hi => ?_)
    have hi := List.mem_range.mp hi
    rw [va_up_ne _ _ (by omega), nX_r _ _ _ _ _ _ (by omega)]
  have po : GPr (va_up ad (300 + m) q) n (newX σ m k a b c) = GPr ad n σ := by
    unfold GPr Gru
    refine List.map_congr_left (fun i hi => ?_)
    have hi := List.mem_range.mp hi
    rw [va_up_ne _ _ (by omega), nX_r _ _ _ _ _ _ (by omega)]
  have pn : GPx (va_up ad (300 + m) q) (m + 1) (newX σ m k a b c) = GPx ad m σ ++ ([(q, .inr (0, [.int k, .int a, .int b, .int c]))] : va_W) := by
    unfold GPx Gac
    rw [List.range_succ, List.map_append]
    congr 1
    · refine List.map_congr_left (fun i hi => ?_)
      have hi := List.mem_range.mp hi
      rw [va_up_ne _ _ (by omega), nX_r _ _ _ _ _ _ (by omega)]
    · show [(va_up ad (300 + m) q (300 + m), _)] = _
      rw [va_up_self, nX_n]
      rfl
  show List.Perm _ (GWl _ cs _ _ _ ++ GP _ cs _ _ _)
  rw [eL]
  unfold GP
  rw [pa, po, pn]
  have eS : ((GW ad cs n m σ ++ ([(q, .inr (0, [.int k, .int a, .int b, .int c]))] : va_W)).set 5 (ad 5, .inl (cs 2, 40, .inr (.inr (.inr (.inr (va_up (Gup ad 300 m) m (some q)))))))).set 0 (ad 0, .inr (4, (Gfs ad σ).set 8 (.int (σ 0 8 + 1)))) = ([(ad 0, .inr (4, (Gfs ad σ).set 8 (.int (σ 0 8 + 1)))), (ad 1, .inl (cs 0, 8, .inl (σ 1))), (ad 2, .inl (cs 0, 6, .inl (σ 2))), (ad 3, .inl (cs 3, 40, .inr (.inr (.inr (.inr (Gup ad 100 40)))))), (ad 4, .inl (cs 1, 40, .inr (.inr (.inr (.inr (Gup ad 200 n)))))), (ad 5, .inl (cs 2, 40, .inr (.inr (.inr (.inr (va_up (Gup ad 300 m) m (some q))))))), (ad 6, .inr (3, [.ref (ad 8), .ref (ad 9), .int (σ 6 2)])), (ad 7, .inr (1, [.ref (ad 10), .ref (ad 11), .ref (ad 12), .int (σ 7 3)])), (ad 8, .inl (cs 0, 60, .inl (σ 8))), (ad 9, .inl (cs 0, 60, .inl (σ 9))), (ad 10, .inl (cs 0, 30, .inl (σ 10))), (ad 11, .inl (cs 0, 30, .inl (σ 11))), (ad 12, .inl (cs 0, 30, .inl (σ 12)))] : va_W) ++ (GP ad cs n m σ ++ ([(q, .inr (0, [.int k, .int a, .int b, .int c]))] : va_W)) := rfl
  rw [eS]
  refine List.Perm.append_left _ ?_
  unfold GP
  rw [List.append_assoc, List.append_assoc]
