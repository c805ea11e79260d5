-- the row of nodes is read: parts, beans sent in, leaves
set_option maxHeartbeats 2000000 in
set_option maxRecDepth 20000 in
theorem c_measureAt {g : GT} {dd : Nat} {h : MH} {t : Nat} {pa le : Int32} {cf sf gf df mf rf : Nat → Int32} {n : Nat} {p : Nat} (hT : TO h t (nI n) pa le cf sf gf df mf rf) (hn : n ≤ 39) {c : Option Nat} (hc : ∀ n, c = some n → n < 2 ^ 31) (ec : cf p = enc c) (hp : p < n) : J g (dd + 1) 0 0 mX1_measureAt 0 (lv_args 0 [.ref t, .int (nI (p))]) [] h (RI (enc (c.map (fun n => n / 51))) h) := by
  obtain ⟨k0, k1, k2, k3, k4, k5, k6⟩ := id hT
  refine J_aload_n (i := 0) (pc := 0) dX1_measureAt_0 rfl rfl ?_
  refine J_getf (k := 0) (pc := 1) dX1_measureAt_1 flX1_9 k0 rfl ?_
  refine J_iload_n (i := 1) (pc := 4) dX1_measureAt_4 rfl rfl ?_
  refine J_iald (j := p) (pc := 5) dX1_measureAt_5 k1 rfl (by omega) (by omega) ?_
  rw [show cf p = enc (c) from ec]
  refine J_cSNi (st := []) (As := [.int (enc (c))]) (pc := 6) dX1_measureAt_6 okX2_measureOfCut q2_37 q2_38 rfl (Nat.le_of_ble_eq_true rfl) (Nat.le_of_ble_eq_true rfl) (c_measureOfCut (by assumption)) ?_
  refine J_iret (ty := .int) (pc := 9) dX1_measureAt_9 rfl rfl ?_
  exact ⟨rfl, rfl⟩

set_option maxHeartbeats 2000000 in
set_option maxRecDepth 20000 in
theorem c_numberAt {g : GT} {dd : Nat} {h : MH} {t : Nat} {pa le : Int32} {cf sf gf df mf rf : Nat → Int32} {n : Nat} {p : Nat} (hT : TO h t (nI n) pa le cf sf gf df mf rf) (hn : n ≤ 39) {c : Option Nat} (hc : ∀ n, c = some n → n < 2 ^ 31) (ec : cf p = enc c) (hp : p < n) : J g (dd + 1) 0 0 mX1_numberAt 0 (lv_args 0 [.ref t, .int (nI (p))]) [] h (RI (enc (c.map (fun n => n % 51))) h) := by
  obtain ⟨k0, k1, k2, k3, k4, k5, k6⟩ := id hT
  refine J_aload_n (i := 0) (pc := 0) dX1_numberAt_0 rfl rfl ?_
  refine J_getf (k := 0) (pc := 1) dX1_numberAt_1 flX1_9 k0 rfl ?_
  refine J_iload_n (i := 1) (pc := 4) dX1_numberAt_4 rfl rfl ?_
  refine J_iald (j := p) (pc := 5) dX1_numberAt_5 k1 rfl (by omega) (by omega) ?_
  rw [show cf p = enc (c) from ec]
  refine J_cSNi (st := []) (As := [.int (enc (c))]) (pc := 6) dX1_numberAt_6 okX2_numberOfCut q2_44 q2_45 rfl (Nat.le_of_ble_eq_true rfl) (Nat.le_of_ble_eq_true rfl) (c_numberOfCut (by assumption)) ?_
  refine J_iret (ty := .int) (pc := 9) dX1_numberAt_9 rfl rfl ?_
  exact ⟨rfl, rfl⟩

set_option maxHeartbeats 2000000 in
set_option maxRecDepth 20000 in
theorem c_lowPartAt {g : GT} {dd : Nat} {h : MH} {t : Nat} {pa le : Int32} {cf sf gf df mf rf : Nat → Int32} {n : Nat} {p : Nat} (hT : TO h t (nI n) pa le cf sf gf df mf rf) (hn : n ≤ 39) {c : Option Nat} (hc : ∀ n, c = some n → n < 2 ^ 31) (ec : cf p = enc c) (hp : p < n) : J g (dd) 0 0 mX1_lowPartAt 0 (lv_args 0 [.ref t, .int (nI (p))]) [] h (RI (enc (c.map (fun _ => p + 1))) h) := by
  obtain ⟨k0, k1, k2, k3, k4, k5, k6⟩ := id hT
  refine J_aload_n (i := 0) (pc := 0) dX1_lowPartAt_0 rfl rfl ?_
  refine J_getf (k := 0) (pc := 1) dX1_lowPartAt_1 flX1_9 k0 rfl ?_
  refine J_iload_n (i := 1) (pc := 4) dX1_lowPartAt_4 rfl rfl ?_
  refine J_iald (j := p) (pc := 5) dX1_lowPartAt_5 k1 rfl (by omega) (by omega) ?_
  rw [show cf p = enc (c) from ec]
  refine J_if_geE (tgt := 13) (pc := 6) dX1_lowPartAt_6 (by decide) (by assumption) (fun k_1 c6 => ?_) (fun c6 => ?_)
  · skip
    try rw [c6]
    refine J_iload_n (i := 1) (pc := 13) dX1_lowPartAt_13 rfl rfl ?_
    refine J_iconst (v := nI (1)) (pc := 14) dX1_lowPartAt_14 rfl ?_
    refine J_iaddN (pc := 15) dX1_lowPartAt_15 ?_
    refine J_iret (ty := .int) (pc := 16) dX1_lowPartAt_16 rfl rfl ?_
    exact ⟨rfl, rfl⟩
  · skip
    try rw [c6]
    refine J_iconst (v := (-1)) (pc := 9) dX1_lowPartAt_9 rfl ?_
    refine J_goto (tgt := 16) (pc := 10) dX1_lowPartAt_10 (by decide) ?_
    refine J_iret (ty := .int) (pc := 16) dX1_lowPartAt_16 rfl rfl ?_
    exact ⟨rfl, rfl⟩

set_option maxHeartbeats 2000000 in
set_option maxRecDepth 20000 in
theorem c_hasPlace {g : GT} {dd : Nat} {h : MH} {t : Nat} {pa le : Int32} {cf sf gf df mf rf : Nat → Int32} {n : Nat} {p : Nat} (hT : TO h t (nI n) pa le cf sf gf df mf rf) (hn : n ≤ 39) {x : Int32} (hn1 : 1 ≤ n) : J g (dd) 0 0 mX1_hasPlace 0 (lv_args 0 [.ref t, .int (x)]) [] h (RI (bI (okR (nI 0) (nI (n - 1)) x)) h) := by
  obtain ⟨k0, k1, k2, k3, k4, k5, k6⟩ := id hT
  refine J_iload_n (i := 1) (pc := 0) dX1_hasPlace_0 rfl rfl ?_
  refine J_if_lt (tgt := 16) (pc := 1) dX1_hasPlace_1 (by decide) (fun c1 => ?_) (fun c1 => ?_)
  · skip
    refine J_iconst (v := nI (0)) (pc := 16) dX1_hasPlace_16 rfl ?_
    refine J_iret (ty := .boolean) (pc := 17) dX1_hasPlace_17 rfl rfl ?_
    exact ⟨congrArg (fun z : Int32 => (Sum.inl (some (Value.int z)) : RT)) (by first | (rw [okR_t (lo := 0) (hi := n - 1) (by omega) (by decide) (by simp only [Int32.lt_iff_toInt_lt, Int32.le_iff_toInt_le, z32, nI_toInt (n := n) (by omega)] at *; omega) (by simp only [Int32.lt_iff_toInt_lt, Int32.le_iff_toInt_le, z32, nI_toInt (n := n) (by omega)] at *; omega)]; rfl) | (rw [okR_f (lo := 0) (hi := n - 1) (by omega) (by decide) (by simp only [Int32.lt_iff_toInt_lt, Int32.le_iff_toInt_le, z32, nI_toInt (n := n) (by omega)] at *; omega)]; rfl)), rfl⟩
  · skip
    refine J_iload_n (i := 1) (pc := 4) dX1_hasPlace_4 rfl rfl ?_
    refine J_aload_n (i := 0) (pc := 5) dX1_hasPlace_5 rfl rfl ?_
    refine J_getf (k := 6) (pc := 6) dX1_hasPlace_6 flX1_30 k0 rfl ?_
    refine J_icmp_ge (tgt := 16) (pc := 9) dX1_hasPlace_9 (by decide) (fun c9 => ?_) (fun c9 => ?_)
    · skip
      refine J_iconst (v := nI (0)) (pc := 16) dX1_hasPlace_16 rfl ?_
      refine J_iret (ty := .boolean) (pc := 17) dX1_hasPlace_17 rfl rfl ?_
      exact ⟨congrArg (fun z : Int32 => (Sum.inl (some (Value.int z)) : RT)) (by first | (rw [okR_t (lo := 0) (hi := n - 1) (by omega) (by decide) (by simp only [Int32.lt_iff_toInt_lt, Int32.le_iff_toInt_le, z32, nI_toInt (n := n) (by omega)] at *; omega) (by simp only [Int32.lt_iff_toInt_lt, Int32.le_iff_toInt_le, z32, nI_toInt (n := n) (by omega)] at *; omega)]; rfl) | (rw [okR_f (lo := 0) (hi := n - 1) (by omega) (by decide) (by simp only [Int32.lt_iff_toInt_lt, Int32.le_iff_toInt_le, z32, nI_toInt (n := n) (by omega)] at *; omega)]; rfl)), rfl⟩
    · skip
      refine J_iconst (v := nI (1)) (pc := 12) dX1_hasPlace_12 rfl ?_
      refine J_goto (tgt := 17) (pc := 13) dX1_hasPlace_13 (by decide) ?_
      refine J_iret (ty := .boolean) (pc := 17) dX1_hasPlace_17 rfl rfl ?_
      exact ⟨congrArg (fun z : Int32 => (Sum.inl (some (Value.int z)) : RT)) (by first | (rw [okR_t (lo := 0) (hi := n - 1) (by omega) (by decide) (by simp only [Int32.lt_iff_toInt_lt, Int32.le_iff_toInt_le, z32, nI_toInt (n := n) (by omega)] at *; omega) (by simp only [Int32.lt_iff_toInt_lt, Int32.le_iff_toInt_le, z32, nI_toInt (n := n) (by omega)] at *; omega)]; rfl) | (rw [okR_f (lo := 0) (hi := n - 1) (by omega) (by decide) (by simp only [Int32.lt_iff_toInt_lt, Int32.le_iff_toInt_le, z32, nI_toInt (n := n) (by omega)] at *; omega)]; rfl)), rfl⟩

set_option maxHeartbeats 2000000 in
set_option maxRecDepth 20000 in
theorem c_highL {g : GT} {dd : Nat} {h : MH} {t : Nat} {pa le : Int32} {cf sf gf df mf rf : Nat → Int32} {n : Nat} {p : Nat} (hT : TO h t (nI n) pa le cf sf gf df mf rf) (hn : n ≤ 39) (ec : cf p = -1) (hp : p < n) : J g (dd) 0 0 mX1_highPartAt 0 (lv_args 0 [.ref t, .int (nI (p))]) [] h (RI (-1) h) := by
  obtain ⟨k0, k1, k2, k3, k4, k5, k6⟩ := id hT
  refine J_aload_n (i := 0) (pc := 0) dX1_highPartAt_0 rfl rfl ?_
  refine J_getf (k := 0) (pc := 1) dX1_highPartAt_1 flX1_9 k0 rfl ?_
  refine J_iload_n (i := 1) (pc := 4) dX1_highPartAt_4 rfl rfl ?_
  refine J_iald (j := p) (pc := 5) dX1_highPartAt_5 k1 rfl (by omega) (by omega) ?_
  rw [show cf p = (-1) from ec]
  refine J_if_ge (tgt := 11) (pc := 6) dX1_highPartAt_6 (by decide) (fun c6 => absurd c6 (by decide)) (fun c6 => ?_)
  refine J_iconst (v := (-1)) (pc := 9) dX1_highPartAt_9 rfl ?_
  refine J_iret (ty := .int) (pc := 10) dX1_highPartAt_10 rfl rfl ?_
  exact ⟨rfl, rfl⟩

set_option maxHeartbeats 2000000 in
set_option maxRecDepth 20000 in
theorem hp_loop {g : GT} {dd : Nat} {h : MH} {t : Nat} {pa le : Int32} {cf sf gf df mf rf : Nat → Int32} {n p : Nat} (hT : TO h t (nI n) pa le cf sf gf df mf rf) (hn : n ≤ 39) {c e D : Nat} (hc : c < 2 ^ 31) (hD : D < 1000) (ec : cf p = nI c) (ed : df p = nI D) (hp : p + 2 ≤ e) (he : e < n) (ee : df e = nI (D + 1)) (hj : ∀ j, p + 2 ≤ j → j < e → df j ≠ nI (D + 1)) : ∀ (k j : Nat), p + 2 ≤ j → j + k = e → J g dd 0 0 mX1_highPartAt 15 [(2, .int (nI (j))), (0, .ref (t)), (1, .int (nI (p)))] [] h (RI (nI e) h) := by
  obtain ⟨k0, k1, k2, k3, k4, k5, k6⟩ := id hT
  intro k
  induction k with
  | zero =>
    intro j h1 h2
    obtain rfl : j = e := by omega
    refine J_iload_n (i := 2) (pc := 15) dX1_highPartAt_15 rfl rfl ?_
    refine J_aload_n (i := 0) (pc := 16) dX1_highPartAt_16 rfl rfl ?_
    refine J_getf (k := 6) (pc := 17) dX1_highPartAt_17 flX1_30 k0 rfl ?_
    refine J_icmp_geN (tgt := 48) (pc := 20) dX1_highPartAt_20 (by decide) (by omega) (by omega) (fun c20 => by exfalso; first | omega | simp_all) (fun c20 => ?_)
    refine J_aload_n (i := 0) (pc := 23) dX1_highPartAt_23 rfl rfl ?_
    refine J_getf (k := 3) (pc := 24) dX1_highPartAt_24 flX1_21 k0 rfl ?_
    refine J_iload_n (i := 2) (pc := 27) dX1_highPartAt_27 rfl rfl ?_
    refine J_iald (j := j) (pc := 28) dX1_highPartAt_28 k4 rfl (by omega) (by omega) ?_
    rw [show df j = nI (D + 1) from ee]
    refine J_aload_n (i := 0) (pc := 29) dX1_highPartAt_29 rfl rfl ?_
    refine J_getf (k := 3) (pc := 30) dX1_highPartAt_30 flX1_21 k0 rfl ?_
    refine J_iload_n (i := 1) (pc := 33) dX1_highPartAt_33 rfl rfl ?_
    refine J_iald (j := p) (pc := 34) dX1_highPartAt_34 k4 rfl (by omega) (by omega) ?_
    rw [show df p = nI (D) from ed]
    refine J_iconst (v := nI (1)) (pc := 35) dX1_highPartAt_35 rfl ?_
    refine J_iaddN (pc := 36) dX1_highPartAt_36 ?_
    refine J_icmp_neN (tgt := 42) (pc := 37) dX1_highPartAt_37 (by decide) (by omega) (by omega) (fun c37 => by exfalso; first | omega | simp_all) (fun c37 => ?_)
    refine J_iload_n (i := 2) (pc := 40) dX1_highPartAt_40 rfl rfl ?_
    refine J_iret (ty := .int) (pc := 41) dX1_highPartAt_41 rfl rfl ?_
    exact ⟨rfl, rfl⟩
  | succ k ih =>
    intro j h1 h2
    have hne := hj j h1 (by omega)
    refine J_iload_n (i := 2) (pc := 15) dX1_highPartAt_15 rfl rfl ?_
    refine J_aload_n (i := 0) (pc := 16) dX1_highPartAt_16 rfl rfl ?_
    refine J_getf (k := 6) (pc := 17) dX1_highPartAt_17 flX1_30 k0 rfl ?_
    refine J_icmp_geN (tgt := 48) (pc := 20) dX1_highPartAt_20 (by decide) (by omega) (by omega) (fun c20 => by exfalso; first | omega | simp_all) (fun c20 => ?_)
    refine J_aload_n (i := 0) (pc := 23) dX1_highPartAt_23 rfl rfl ?_
    refine J_getf (k := 3) (pc := 24) dX1_highPartAt_24 flX1_21 k0 rfl ?_
    refine J_iload_n (i := 2) (pc := 27) dX1_highPartAt_27 rfl rfl ?_
    refine J_iald (j := j) (pc := 28) dX1_highPartAt_28 k4 rfl (by omega) (by omega) ?_
    refine J_aload_n (i := 0) (pc := 29) dX1_highPartAt_29 rfl rfl ?_
    refine J_getf (k := 3) (pc := 30) dX1_highPartAt_30 flX1_21 k0 rfl ?_
    refine J_iload_n (i := 1) (pc := 33) dX1_highPartAt_33 rfl rfl ?_
    refine J_iald (j := p) (pc := 34) dX1_highPartAt_34 k4 rfl (by omega) (by omega) ?_
    rw [show df p = nI (D) from ed]
    refine J_iconst (v := nI (1)) (pc := 35) dX1_highPartAt_35 rfl ?_
    refine J_iaddN (pc := 36) dX1_highPartAt_36 ?_
    refine J_icmp_ne (tgt := 42) (pc := 37) dX1_highPartAt_37 (by decide) (fun c37 => ?_) (fun c37 => absurd c37 (hne))
    refine J_iinc (i := 2) (v := nI (j + 1)) (lv' := [(2, .int (nI (j + 1))), (0, .ref (t)), (1, .int (nI (p)))]) (pc := 42) dX1_highPartAt_42 rfl (nI_add (j) 1) (by decide) rfl ?_
    refine J_goto (tgt := 15) (pc := 45) dX1_highPartAt_45 (by decide) ?_
    refine J_sub (lv' := [(2, .int (nI (j + 1))), (0, .ref (t)), (1, .int (nI (p)))]) [0, 1, 2] rfl ?_
    exact ih (j + 1) (by omega) (by omega)
theorem c_highF {g : GT} {dd : Nat} {h : MH} {t : Nat} {pa le : Int32} {cf sf gf df mf rf : Nat → Int32} {n p : Nat} (hT : TO h t (nI n) pa le cf sf gf df mf rf) (hn : n ≤ 39) {c e D : Nat} (hc : c < 2 ^ 31) (hD : D < 1000) (ec : cf p = nI c) (ed : df p = nI D) (hp : p + 2 ≤ e) (he : e < n) (ee : df e = nI (D + 1)) (hj : ∀ j, p + 2 ≤ j → j < e → df j ≠ nI (D + 1)) : J g dd 0 0 mX1_highPartAt 0 (lv_args 0 [.ref t, .int (nI p)]) [] h (RI (nI e) h) := by
  obtain ⟨k0, k1, k2, k3, k4, k5, k6⟩ := id hT
  refine J_aload_n (i := 0) (pc := 0) dX1_highPartAt_0 rfl rfl ?_
  refine J_getf (k := 0) (pc := 1) dX1_highPartAt_1 flX1_9 k0 rfl ?_
  refine J_iload_n (i := 1) (pc := 4) dX1_highPartAt_4 rfl rfl ?_
  refine J_iald (j := p) (pc := 5) dX1_highPartAt_5 k1 rfl (by omega) (by omega) ?_
  rw [show cf p = nI (c) from ec]
  refine J_if_ge (tgt := 11) (pc := 6) dX1_highPartAt_6 (by decide) (fun c6 => ?_) (fun c6 => absurd c6 (nI_nge hc))
  refine J_iload_n (i := 1) (pc := 11) dX1_highPartAt_11 rfl rfl ?_
  refine J_iconst (v := nI (2)) (pc := 12) dX1_highPartAt_12 rfl ?_
  refine J_iaddN (pc := 13) dX1_highPartAt_13 ?_
  refine J_istore_n (i := 2) (lv' := [(2, .int (nI (p + 2))), (0, .ref (t)), (1, .int (nI (p)))]) (pc := 14) dX1_highPartAt_14 rfl (by decide) rfl ?_
  refine J_sub (lv' := [(2, .int (nI (p + 2))), (0, .ref (t)), (1, .int (nI (p)))]) [0, 1, 2] rfl ?_
  exact hp_loop hT hn hc hD ec ed hp he ee hj (e - (p + 2)) (p + 2) (Nat.le_refl _) (by omega)
theorem c_high {g : GT} {dd : Nat} {h : MH} {t : Nat} {pa le : Int32} {cf sf gf df mf rf : Nat → Int32} {n p d D s m c : Nat} {l r : TR d} (hT : TO h t (nI n) pa le cf sf gf df mf rf) (hn : n ≤ 39) (hB : Blk (G4 cf sf gf df) p (d + 1) D ((s, m), some (c, l, r))) (hc : c < 153) (hD : D + d < 1000) (hp : p + nN (d + 1) ((s, m), some (c, l, r)) ≤ n) : J g dd 0 0 mX1_highPartAt 0 (lv_args 0 [.ref t, .int (nI p)]) [] h (RI (nI (p + 1 + nN d l)) h) := by
  obtain ⟨h0, h1, h2⟩ := Blk_f hB
  have n1 := nN_pos d l
  have n2 := nN_pos d r
  rw [nN_f] at hp
  have e1 : cf p = nI c := congrArg (fun q : Q4 => q.1) h0
  have e2 : df p = nI D := congrArg (fun q : Q4 => q.2.2.2) h0
  have e3 : df (p + 1 + nN d l) = nI (D + 1) := by
    have e := congrArg (fun q : Q4 => q.2.2.2) (h2 0 (by omega))
    exact e.trans (congrArg nI (row_root d (D + 1) r))
  refine c_highF hT hn (by omega) (by omega) e1 e2 (by omega) (by omega) e3 ?_
  intro j j1 j2 q
  have e := congrArg (fun q : Q4 => q.2.2.2) (h1 (j - (p + 1)) (by omega))
  have e4 : df j = nI ((rowT d (D + 1) l (j - (p + 1))).2.2.2) := by
    rw [show p + 1 + (j - (p + 1)) = j by omega] at e
    exact e
  have e5 := row_dep d (D + 1) l (j - (p + 1)) (by omega)
  rw [e4] at q
  have e6 := nI_inj (by omega) (by omega) q
  omega

/-- sums and greatest ones over places -/
def sumP (f : Nat → Nat) : Nat → Nat → Nat
  | 0, _ => 0
  | k + 1, p => f p + sumP f k (p + 1)
def maxP (f : Nat → Nat) : Nat → Nat → Nat
  | 0, _ => 0
  | k + 1, p => max (f p) (maxP f k (p + 1))
theorem sumP_add (f : Nat → Nat) : ∀ (a b p : Nat), sumP f (a + b) p = sumP f a p + sumP f b (p + a)
  | 0, b, p => by rw [Nat.zero_add, sumP, Nat.zero_add, Nat.add_zero]
  | a + 1, b, p => by rw [Nat.succ_add, sumP, sumP, sumP_add f a b (p + 1), show p + 1 + a = p + (a + 1) by omega, Nat.add_assoc]
theorem maxP_add (f : Nat → Nat) : ∀ (a b p : Nat), maxP f (a + b) p = max (maxP f a p) (maxP f b (p + a))
  | 0, b, p => by rw [Nat.zero_add, maxP, Nat.add_zero]; omega
  | a + 1, b, p => by
    rw [Nat.succ_add, maxP, maxP, maxP_add f a b (p + 1), show p + 1 + a = p + (a + 1) by omega]
    omega
theorem sumP_congr {f f' : Nat → Nat} : ∀ (k p : Nat), (∀ q, p ≤ q → q < p + k → f q = f' q) → sumP f k p = sumP f' k p
  | 0, _, _ => rfl
  | k + 1, p, h => by rw [sumP, sumP, h p (Nat.le_refl p) (by omega), sumP_congr k (p + 1) (fun q h1 h2 => h q (by omega) (by omega))]
theorem sumP_le {f : Nat → Nat} {b : Nat} : ∀ (k p : Nat), (∀ q, p ≤ q → q < p + k → f q ≤ b) → sumP f k p ≤ k * b
  | 0, _, _ => Nat.zero_le _
  | k + 1, p, h => by
    have h1 := sumP_le k (p + 1) (fun q h1 h2 => h q (by omega) (by omega))
    have h2 := h p (Nat.le_refl p) (by omega)
    rw [sumP, Nat.succ_mul]
    omega
theorem maxP_le {f : Nat → Nat} {b : Nat} : ∀ (k p : Nat), (∀ q, p ≤ q → q < p + k → f q ≤ b) → maxP f k p ≤ b
  | 0, _, _ => Nat.zero_le _
  | k + 1, p, h => by
    have h1 := maxP_le k (p + 1) (fun q h1 h2 => h q (by omega) (by omega))
    have h2 := h p (Nat.le_refl p) (by omega)
    rw [maxP]
    omega
def isL (c : Option Nat) : Nat := match c with
  | none => 1
  | some _ => 0

set_option maxHeartbeats 2000000 in
set_option maxRecDepth 20000 in
theorem hl_loop {g : GT} {dd : Nat} {h : MH} {t : Nat} {pa le : Int32} {cf sf gf df mf rf : Nat → Int32} {n : Nat} (hT : TO h t (nI n) pa le cf sf gf df mf rf) (hn : n ≤ 39) {R : Nat → Option Nat} (hR : ∀ p n, R p = some n → n < 2 ^ 31) (eR : ∀ p, p < n → cf p = enc (R p)) : ∀ (k a p : Nat), p + k = n → a ≤ p → J g dd 0 0 mX1_howManyLeaves 4 [(1, .int (nI (a))), (2, .int (nI (p))), (0, .ref (t))] [] h (RI (nI (a + sumP (fun p => isL (R p)) k p)) h) := by
  obtain ⟨k0, k1, k2, k3, k4, k5, k6⟩ := id hT
  intro k
  induction k with
  | zero =>
    intro a p h1 h2
    refine J_iload_n (i := 2) (pc := 4) dX1_howManyLeaves_4 rfl rfl ?_
    refine J_aload_n (i := 0) (pc := 5) dX1_howManyLeaves_5 rfl rfl ?_
    refine J_getf (k := 6) (pc := 6) dX1_howManyLeaves_6 flX1_30 k0 rfl ?_
    refine J_icmp_geN (tgt := 30) (pc := 9) dX1_howManyLeaves_9 (by decide) (by omega) (by omega) (fun c9 => ?_) (fun c9 => by exfalso; first | omega | simp_all)
    refine J_iload_n (i := 1) (pc := 30) dX1_howManyLeaves_30 rfl rfl ?_
    refine J_iret (ty := .int) (pc := 31) dX1_howManyLeaves_31 rfl rfl ?_
    exact ⟨rfl, rfl⟩
  | succ k ih =>
    intro a p h1 h2
    have hc := hR p
    refine J_iload_n (i := 2) (pc := 4) dX1_howManyLeaves_4 rfl rfl ?_
    refine J_aload_n (i := 0) (pc := 5) dX1_howManyLeaves_5 rfl rfl ?_
    refine J_getf (k := 6) (pc := 6) dX1_howManyLeaves_6 flX1_30 k0 rfl ?_
    refine J_icmp_geN (tgt := 30) (pc := 9) dX1_howManyLeaves_9 (by decide) (by omega) (by omega) (fun c9 => by exfalso; first | omega | simp_all) (fun c9 => ?_)
    refine J_aload_n (i := 0) (pc := 12) dX1_howManyLeaves_12 rfl rfl ?_
    refine J_getf (k := 0) (pc := 13) dX1_howManyLeaves_13 flX1_9 k0 rfl ?_
    refine J_iload_n (i := 2) (pc := 16) dX1_howManyLeaves_16 rfl rfl ?_
    refine J_iald (j := p) (pc := 17) dX1_howManyLeaves_17 k1 rfl (by omega) (by omega) ?_
    rw [show cf p = enc (R p) from eR p (by omega)]
    refine J_if_geE (tgt := 24) (pc := 18) dX1_howManyLeaves_18 (by decide) (by assumption) (fun k_1 c18 => ?_) (fun c18 => ?_)
    · skip
      try rw [c18]
      refine J_iinc (i := 2) (v := nI (p + 1)) (lv' := [(2, .int (nI (p + 1))), (1, .int (nI (a))), (0, .ref (t))]) (pc := 24) dX1_howManyLeaves_24 rfl (nI_add (p) 1) (by decide) rfl ?_
      refine J_goto (tgt := 4) (pc := 27) dX1_howManyLeaves_27 (by decide) ?_
      refine J_sub (lv' := [(1, .int (nI (a))), (2, .int (nI (p + 1))), (0, .ref (t))]) [1, 0, 2] rfl ?_
      have r := ih (a) (p + 1) (by omega) (by omega)
      rw [sumP, c18]
      rw [show ∀ z y, a + (isL (some z) + y) = a + y from fun z y => by show a + (0 + y) = _; omega]
      exact r
    · skip
      try rw [c18]
      refine J_iinc (i := 1) (v := nI (a + 1)) (lv' := [(1, .int (nI (a + 1))), (2, .int (nI (p))), (0, .ref (t))]) (pc := 21) dX1_howManyLeaves_21 rfl (nI_add (a) 1) (by decide) rfl ?_
      refine J_iinc (i := 2) (v := nI (p + 1)) (lv' := [(2, .int (nI (p + 1))), (1, .int (nI (a + 1))), (0, .ref (t))]) (pc := 24) dX1_howManyLeaves_24 rfl (nI_add (p) 1) (by decide) rfl ?_
      refine J_goto (tgt := 4) (pc := 27) dX1_howManyLeaves_27 (by decide) ?_
      refine J_sub (lv' := [(1, .int (nI (a + 1))), (2, .int (nI (p + 1))), (0, .ref (t))]) [1, 0, 2] rfl ?_
      have r := ih (a + 1) (p + 1) (by omega) (by omega)
      rw [sumP, c18]
      rw [show a + (isL none + sumP (fun p => isL (R p)) k (p + 1)) = a + 1 + sumP (fun p => isL (R p)) k (p + 1) from by show a + (1 + _) = _; omega]
      exact r
theorem c_howManyLeaves {g : GT} {dd : Nat} {h : MH} {t : Nat} {pa le : Int32} {cf sf gf df mf rf : Nat → Int32} {n : Nat} (hT : TO h t (nI n) pa le cf sf gf df mf rf) (hn : n ≤ 39) {R : Nat → Option Nat} (hR : ∀ p n, R p = some n → n < 2 ^ 31) (eR : ∀ p, p < n → cf p = enc (R p)) : J g dd 0 0 mX1_howManyLeaves 0 (lv_args 0 [.ref t]) [] h (RI (nI (sumP (fun p => isL (R p)) n 0)) h) := by
  obtain ⟨k0, k1, k2, k3, k4, k5, k6⟩ := id hT
  rw [← Nat.zero_add (sumP (fun p => isL (R p)) n 0)]
  refine J_iconst (v := nI (0)) (pc := 0) dX1_howManyLeaves_0 rfl ?_
  refine J_istore_n (i := 1) (lv' := [(1, .int (nI (0))), (0, .ref (t))]) (pc := 1) dX1_howManyLeaves_1 rfl (by decide) rfl ?_
  refine J_iconst (v := nI (0)) (pc := 2) dX1_howManyLeaves_2 rfl ?_
  refine J_istore_n (i := 2) (lv' := [(2, .int (nI (0))), (1, .int (nI (0))), (0, .ref (t))]) (pc := 3) dX1_howManyLeaves_3 rfl (by decide) rfl ?_
  refine J_sub (lv' := [(1, .int (nI (0))), (2, .int (nI (0))), (0, .ref (t))]) [1, 0, 2] rfl ?_
  exact hl_loop hT hn hR eR n 0 0 (by omega) (Nat.le_refl 0)

set_option maxHeartbeats 2000000 in
set_option maxRecDepth 20000 in
theorem dp_loop {g : GT} {dd : Nat} {h : MH} {t : Nat} {pa le : Int32} {cf sf gf df mf rf : Nat → Int32} {n : Nat} (hT : TO h t (nI n) pa le cf sf gf df mf rf) (hn : n ≤ 39) {R : Nat → Nat} (hR : ∀ p, p < n → R p ≤ 1000) (eR : ∀ p, p < n → df p = nI (R p)) : ∀ (k a p : Nat), p + k = n → a ≤ 1000 → J g dd 0 0 mX1_deepest 4 [(1, .int (nI (a))), (2, .int (nI (p))), (0, .ref (t))] [] h (RI (nI (max a (maxP R k p))) h) := by
  obtain ⟨k0, k1, k2, k3, k4, k5, k6⟩ := id hT
  intro k
  induction k with
  | zero =>
    intro a p h1 h2
    refine J_iload_n (i := 2) (pc := 4) dX1_deepest_4 rfl rfl ?_
    refine J_aload_n (i := 0) (pc := 5) dX1_deepest_5 rfl rfl ?_
    refine J_getf (k := 6) (pc := 6) dX1_deepest_6 flX1_30 k0 rfl ?_
    refine J_icmp_geN (tgt := 29) (pc := 9) dX1_deepest_9 (by decide) (by omega) (by omega) (fun c9 => ?_) (fun c9 => by exfalso; first | omega | simp_all)
    refine J_iload_n (i := 1) (pc := 29) dX1_deepest_29 rfl rfl ?_
    refine J_iret (ty := .int) (pc := 30) dX1_deepest_30 rfl rfl ?_
    exact ⟨congrArg (fun z : Int32 => (Sum.inl (some (Value.int z)) : RT)) (by congr 1; rw [maxP]; omega), rfl⟩
  | succ k ih =>
    intro a p h1 h2
    have hc := hR p (by omega)
    refine J_iload_n (i := 2) (pc := 4) dX1_deepest_4 rfl rfl ?_
    refine J_aload_n (i := 0) (pc := 5) dX1_deepest_5 rfl rfl ?_
    refine J_getf (k := 6) (pc := 6) dX1_deepest_6 flX1_30 k0 rfl ?_
    refine J_icmp_geN (tgt := 29) (pc := 9) dX1_deepest_9 (by decide) (by omega) (by omega) (fun c9 => by exfalso; first | omega | simp_all) (fun c9 => ?_)
    refine J_iload_n (i := 1) (pc := 12) dX1_deepest_12 rfl rfl ?_
    refine J_aload_n (i := 0) (pc := 13) dX1_deepest_13 rfl rfl ?_
    refine J_getf (k := 3) (pc := 14) dX1_deepest_14 flX1_21 k0 rfl ?_
    refine J_iload_n (i := 2) (pc := 17) dX1_deepest_17 rfl rfl ?_
    refine J_iald (j := p) (pc := 18) dX1_deepest_18 k4 rfl (by omega) (by omega) ?_
    rw [show df p = nI (R p) from eR p (by omega)]
    refine J_max (pc := 19) dX1_deepest_19 q2_80 (Nat.le_of_ble_eq_true rfl) ?_
    rw [show (if nI (a) < nI (R p) then nI (R p) else nI (a)) = nI (max (a) (R p)) from nI_max (by omega) (by omega)]
    refine J_istore_n (i := 1) (lv' := [(1, .int (nI (max (a) (R p)))), (2, .int (nI (p))), (0, .ref (t))]) (pc := 22) dX1_deepest_22 rfl (by decide) rfl ?_
    refine J_iinc (i := 2) (v := nI (p + 1)) (lv' := [(2, .int (nI (p + 1))), (1, .int (nI (max (a) (R p)))), (0, .ref (t))]) (pc := 23) dX1_deepest_23 rfl (nI_add (p) 1) (by decide) rfl ?_
    refine J_goto (tgt := 4) (pc := 26) dX1_deepest_26 (by decide) ?_
    refine J_sub (lv' := [(1, .int (nI (max (a) (R p)))), (2, .int (nI (p + 1))), (0, .ref (t))]) [1, 0, 2] rfl ?_
    rw [maxP, ← Nat.max_assoc]
    exact ih (max a (R p)) (p + 1) (by omega) (by omega)
theorem c_deepest {g : GT} {dd : Nat} {h : MH} {t : Nat} {pa le : Int32} {cf sf gf df mf rf : Nat → Int32} {n : Nat} (hT : TO h t (nI n) pa le cf sf gf df mf rf) (hn : n ≤ 39) {R : Nat → Nat} (hR : ∀ p, p < n → R p ≤ 1000) (eR : ∀ p, p < n → df p = nI (R p)) : J g dd 0 0 mX1_deepest 0 (lv_args 0 [.ref t]) [] h (RI (nI (maxP R n 0)) h) := by
  obtain ⟨k0, k1, k2, k3, k4, k5, k6⟩ := id hT
  rw [← Nat.zero_max (maxP R n 0)]
  refine J_iconst (v := nI (0)) (pc := 0) dX1_deepest_0 rfl ?_
  refine J_istore_n (i := 1) (lv' := [(1, .int (nI (0))), (0, .ref (t))]) (pc := 1) dX1_deepest_1 rfl (by decide) rfl ?_
  refine J_iconst (v := nI (0)) (pc := 2) dX1_deepest_2 rfl ?_
  refine J_istore_n (i := 2) (lv' := [(2, .int (nI (0))), (1, .int (nI (0))), (0, .ref (t))]) (pc := 3) dX1_deepest_3 rfl (by decide) rfl ?_
  refine J_sub (lv' := [(1, .int (nI (0))), (2, .int (nI (0))), (0, .ref (t))]) [1, 0, 2] rfl ?_
  exact dp_loop hT hn hR eR n 0 0 (by omega) (by omega)
