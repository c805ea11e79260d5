-- calls that leave another heap; frames; the writers of Beans; the greatest divisor
abbrev RV (P : MH → Prop) : RT → MH → Prop := fun r h' => r = .inl none ∧ P h'
abbrev RH (x : Int32) (P : MH → Prop) : RT → MH → Prop := fun r h' => r = .inl (some (.int x)) ∧ P h'
section
variable {g : GT} {d ca sa : Nat} {M : MT} {pc : Nat} {lv : List (Nat × Value)} {st : List Value} {h : MH} {Q : RT → MH → Prop}
theorem J_cVv {M1 : MT} {index n a ci : Nat} {fs As : List Value} {P : MH → Prop} {T : u_T} {N : Nat} (hd : decode M.2.1 pc = .ok (.invokevirtual index, 3)) (hM : MOK M1 n) (hl : Cond.methodLink M.1.cls index M1.1 ∈ lw_tbl) (hi : Cond.instanceMethod M1.1 ∈ lw_tbl) (hs : Cond.selects M1.1.cls M1.1 M1.1 ∈ lw_tbl)
    (hc : vwCl[ci]? = some (M1.1.cls, T, N)) (ha : h.2 a = some (.inr (ci, fs))) (hn : As.length = n) (hlen : (lg_sl (.ref a :: As)).length ≤ M1.2.2.1) (hst : (st.map fun v => v.category).sum ≤ 8) (hj : J g d 0 0 M1 0 (lv_args 0 (.ref a :: As)) [] h (RV P))
    (kk : ∀ h', P h' → J g (d + 1) ca sa M (pc + 3) lv st h' Q) : J g (d + 1) ca sa M pc lv (As.reverse ++ .ref a :: st) h Q :=
  J_callV hd hM hl hi hs hc ha hn hlen hst (fun E h' q => by cases q.1) hj (Nat.le_of_eq (Nat.zero_add _)) (Nat.le_of_eq (Nat.zero_add _)) (fun v h' q => by obtain ⟨q1, q2⟩ := q; cases q1; exact kk h' q2)
theorem J_cVh {M1 : MT} {index n a ci : Nat} {fs As : List Value} {x : Int32} {P : MH → Prop} {T : u_T} {N : Nat} (hd : decode M.2.1 pc = .ok (.invokevirtual index, 3)) (hM : MOK M1 n) (hl : Cond.methodLink M.1.cls index M1.1 ∈ lw_tbl) (hi : Cond.instanceMethod M1.1 ∈ lw_tbl) (hs : Cond.selects M1.1.cls M1.1 M1.1 ∈ lw_tbl)
    (hc : vwCl[ci]? = some (M1.1.cls, T, N)) (ha : h.2 a = some (.inr (ci, fs))) (hn : As.length = n) (hlen : (lg_sl (.ref a :: As)).length ≤ M1.2.2.1) (hst : (st.map fun v => v.category).sum ≤ 8) (hj : J g d 0 0 M1 0 (lv_args 0 (.ref a :: As)) [] h (RH x P))
    (kk : ∀ h', P h' → J g (d + 1) ca sa M (pc + 3) lv (.int x :: st) h' Q) : J g (d + 1) ca sa M pc lv (As.reverse ++ .ref a :: st) h Q :=
  J_callV hd hM hl hi hs hc ha hn hlen hst (fun E h' q => by cases q.1) hj (Nat.le_of_eq (Nat.zero_add _)) (Nat.le_of_eq (Nat.zero_add _)) (fun v h' q => by obtain ⟨q1, q2⟩ := q; cases q1; exact kk h' q2)
end
theorem hs_s {h h1 : MH} {i : Nat} {c : MC} (e : h1 = (h.1, hset h.2 i c)) : h1.2 i = some c := by
  rw [e]
  exact hset_s
theorem hs_n {h h1 : MH} {i j : Nat} {c : MC} (e : h1 = (h.1, hset h.2 i c)) (hj : j ≠ i) : h1.2 j = h.2 j := by
  rw [e]
  exact hset_n hj
/-- only the cells a to b may differ -/
def Fr (a b : Nat) (h h' : MH) : Prop := h'.1 = h.1 ∧ ∀ i, (i < a ∨ b < i) → h'.2 i = h.2 i
theorem Fr_rfl {a b : Nat} {h : MH} : Fr a b h h := ⟨rfl, fun _ _ => rfl⟩
theorem Fr_tr {a b : Nat} {h h1 h2 : MH} (k : Fr a b h h1) (l : Fr a b h1 h2) : Fr a b h h2 := ⟨l.1.trans k.1, fun i hi => (l.2 i hi).trans (k.2 i hi)⟩
theorem Fr_up {a b a' b' : Nat} {h h1 : MH} (k : Fr a b h h1) (ha : a' ≤ a) (hb : b ≤ b') : Fr a' b' h h1 := ⟨k.1, fun i hi => k.2 i (by omega)⟩
theorem Fr_set {a b i : Nat} {h : MH} {c : MC} (h1 : a ≤ i) (h2 : i ≤ b) : Fr a b h (h.1, hset h.2 i c) := ⟨rfl, fun j hj => hset_n (by omega)⟩
theorem Fr_st {a b i : Nat} {h h1 : MH} {c : MC} (k : Fr a b h h1) (h1' : a ≤ i) (h2 : i ≤ b) : Fr a b h (h1.1, hset h1.2 i c) := Fr_tr k (Fr_set h1' h2)
theorem BH_fr {a b : Nat} {h h' : MH} {β : BT} (k : Fr a b h h') (ha : 9 < a) (hB : BH h β) : BH h' β := by
  obtain ⟨hW, mf, sf, tf, lf, b2, b3, bm, b7, b8, b9, r⟩ := hB
  exact ⟨hW, mf, sf, tf, lf, (k.2 _ (by omega)).trans b2, (k.2 _ (by omega)).trans b3, fun m hm => (k.2 _ (by omega)).trans (bm m hm), (k.2 _ (by omega)).trans b7, (k.2 _ (by omega)).trans b8, (k.2 _ (by omega)).trans b9, r⟩
theorem BH_set {a : Nat} {c : MC} {h : MH} {β : BT} (ha : 9 < a) (hB : BH h β) : BH (h.1, hset h.2 a c) β := BH_fr (Fr_set (Nat.le_refl a) (Nat.le_refl a)) ha hB
/-- Euclid's turns -/
def eu : Nat → Nat → Nat → Nat
  | 0, x, _ => x
  | m + 1, x, y => if y = 0 then x else eu m y (x % y)
theorem eu_gcd : ∀ (k m x y : Nat), y < 2 ^ k → 2 * k ≤ m → eu m x y = Nat.gcd x y
  | 0, m, x, y, hy, hm => by
    obtain rfl : y = 0 := by omega
    cases m <;> simp [eu]
  | k + 1, m, x, y, hy, hm => by
    obtain ⟨m, rfl⟩ : ∃ z, m = z + 2 := ⟨m - 2, by omega⟩
    rw [eu]
    split
    · rename_i e
      subst e
      simp
    · rename_i e
      rw [eu, Nat.gcd_comm, Nat.gcd_rec, Nat.gcd_comm]
      split
      · rename_i e2
        rw [e2, Nat.gcd_zero_right]
      · rename_i e2
        have h2 : y % (x % y) < x % y := Nat.mod_lt _ (by omega)
        have h3 : x % y < y := Nat.mod_lt _ (by omega)
        have h4 := Nat.mod_add_div y (x % y)
        have h5 : 0 < y / (x % y) := Nat.div_pos (Nat.le_of_lt h3) (by omega)
        have h6 := Nat.le_mul_of_pos_right (x % y) h5
        have h7 : y % (x % y) < 2 ^ k := by
          rw [Nat.pow_succ] at hy
          omega
        rw [eu_gcd k m (x % y) (y % (x % y)) h7 (by omega), Nat.gcd_comm y, Nat.gcd_rec (x % y) y, Nat.gcd_comm]
theorem eu_le : ∀ (m x y : Nat), eu m x y ≤ max x y
  | 0, x, y => Nat.le_max_left _ _
  | m + 1, x, y => by
    rw [eu]
    split
    · exact Nat.le_max_left _ _
    · rename_i e
      have h1 := eu_le m y (x % y)
      have h2 : x % y < y := Nat.mod_lt _ (by omega)
      omega
/-- the beans of a set whose number leaves another rest -/
def gbF (P : Nat) (L : Int32) : Nat → Nat → Nat → Nat
  | 0, _, s => s
  | k + 1, b, s => gbF P L k (b + 1) (if nI (b % P) = L then sdf s (2 ^ b) else s)
def gbS (β : BT) (P : Nat) (L : Int32) : Nat := gbF P L β.1 0 (gro β)
theorem gbF_le (P : Nat) (L : Int32) : ∀ k b s, gbF P L k b s ≤ s
  | 0, _, s => Nat.le_refl s
  | k + 1, b, s => by
    rw [gbF]
    refine Nat.le_trans (gbF_le P L k (b + 1) _) ?_
    split
    · exact sdf_le _ _
    · exact Nat.le_refl s

set_option maxHeartbeats 2000000 in
set_option maxRecDepth 20000 in
theorem cd_loop {g : GT} {d : Nat} {h : MH} {a0 b0 : Nat} : ∀ (m t x y : Nat), t + m = 47 → x < 2 ^ 31 → y < 2 ^ 31 → J g d 0 0 mX2_commonDivisor 7 [(4, .int (nI (t))), (3, .int (nI (y))), (2, .int (nI (x))), (0, .int (nI (a0))), (1, .int (nI (b0)))] [] h (RI (nI (max 1 (eu m x y))) h) := by
  intro m
  induction m with
  | zero =>
    intro t x y ht hx hy
    refine J_iload (i := 4) (pc := 7) dX2_commonDivisor_7 rfl ?_
    refine J_bipush (v := nI (47)) (pc := 9) dX2_commonDivisor_9 rfl ?_
    refine J_icmp_geN (tgt := 34) (pc := 11) dX2_commonDivisor_11 (by decide) (by omega) (by omega) (fun c11 => ?_) (fun c11 => by exfalso; first | omega | simp_all)
    refine J_iload_n (i := 2) (pc := 34) dX2_commonDivisor_34 rfl rfl ?_
    refine J_iconst (v := nI (1)) (pc := 35) dX2_commonDivisor_35 rfl ?_
    refine J_icmp_geN (tgt := 43) (pc := 36) dX2_commonDivisor_36 (by decide) (by omega) (by omega) (fun c36 => ?_) (fun c36 => ?_)
    · skip
      refine J_iload_n (i := 2) (pc := 43) dX2_commonDivisor_43 rfl rfl ?_
      refine J_iret (ty := .int) (pc := 44) dX2_commonDivisor_44 rfl rfl ?_
      exact ⟨congrArg (fun z : Int32 => (Sum.inl (some (Value.int z)) : RT)) (by congr 1; show _ = max 1 x; omega), rfl⟩
    · skip
      refine J_iconst (v := nI (1)) (pc := 39) dX2_commonDivisor_39 rfl ?_
      refine J_goto (tgt := 44) (pc := 40) dX2_commonDivisor_40 (by decide) ?_
      refine J_iret (ty := .int) (pc := 44) dX2_commonDivisor_44 rfl rfl ?_
      exact ⟨congrArg (fun z : Int32 => (Sum.inl (some (Value.int z)) : RT)) (by congr 1; show _ = max 1 x; omega), rfl⟩
  | succ m ih =>
    intro t x y ht hx hy
    refine J_iload (i := 4) (pc := 7) dX2_commonDivisor_7 rfl ?_
    refine J_bipush (v := nI (47)) (pc := 9) dX2_commonDivisor_9 rfl ?_
    refine J_icmp_geN (tgt := 34) (pc := 11) dX2_commonDivisor_11 (by decide) (by omega) (by omega) (fun c11 => by exfalso; first | omega | simp_all) (fun c11 => ?_)
    refine J_iload_n (i := 3) (pc := 14) dX2_commonDivisor_14 rfl rfl ?_
    refine J_if_le (tgt := 34) (pc := 15) dX2_commonDivisor_15 (by decide) (fun c15 => ?_) (fun c15 => ?_)
    · skip
      obtain rfl : y = 0 := by rw [Int32.le_iff_toInt_le, nI_toInt hy, z32] at c15; omega
      refine J_iload_n (i := 2) (pc := 34) dX2_commonDivisor_34 rfl rfl ?_
      refine J_iconst (v := nI (1)) (pc := 35) dX2_commonDivisor_35 rfl ?_
      refine J_icmp_geN (tgt := 43) (pc := 36) dX2_commonDivisor_36 (by decide) (by omega) (by omega) (fun c36 => ?_) (fun c36 => ?_)
      · skip
        refine J_iload_n (i := 2) (pc := 43) dX2_commonDivisor_43 rfl rfl ?_
        refine J_iret (ty := .int) (pc := 44) dX2_commonDivisor_44 rfl rfl ?_
        exact ⟨congrArg (fun z : Int32 => (Sum.inl (some (Value.int z)) : RT)) (by rw [eu, if_pos rfl]; congr 1; omega), rfl⟩
      · skip
        refine J_iconst (v := nI (1)) (pc := 39) dX2_commonDivisor_39 rfl ?_
        refine J_goto (tgt := 44) (pc := 40) dX2_commonDivisor_40 (by decide) ?_
        refine J_iret (ty := .int) (pc := 44) dX2_commonDivisor_44 rfl rfl ?_
        exact ⟨congrArg (fun z : Int32 => (Sum.inl (some (Value.int z)) : RT)) (by rw [eu, if_pos rfl]; congr 1; omega), rfl⟩
    · skip
      have hy0 : 0 < y := by rw [Int32.le_iff_toInt_le, nI_toInt hy, z32] at c15; omega
      refine J_iload_n (i := 2) (pc := 18) dX2_commonDivisor_18 rfl rfl ?_
      refine J_iload_n (i := 3) (pc := 19) dX2_commonDivisor_19 rfl rfl ?_
      refine J_iremN (pc := 20) dX2_commonDivisor_20 (by omega) (by omega) (by omega) ?_
      refine J_istore (i := 5) (lv' := [(5, .int (nI ((x) % (y)))), (4, .int (nI (t))), (3, .int (nI (y))), (2, .int (nI (x))), (0, .int (nI (a0))), (1, .int (nI (b0)))]) (pc := 21) dX2_commonDivisor_21 (by decide) rfl ?_
      refine J_iload_n (i := 3) (pc := 23) dX2_commonDivisor_23 rfl rfl ?_
      refine J_istore_n (i := 2) (lv' := [(2, .int (nI (y))), (5, .int (nI ((x) % (y)))), (4, .int (nI (t))), (3, .int (nI (y))), (0, .int (nI (a0))), (1, .int (nI (b0)))]) (pc := 24) dX2_commonDivisor_24 rfl (by decide) rfl ?_
      refine J_iload (i := 5) (pc := 25) dX2_commonDivisor_25 rfl ?_
      refine J_istore_n (i := 3) (lv' := [(3, .int (nI ((x) % (y)))), (2, .int (nI (y))), (5, .int (nI ((x) % (y)))), (4, .int (nI (t))), (0, .int (nI (a0))), (1, .int (nI (b0)))]) (pc := 27) dX2_commonDivisor_27 rfl (by decide) rfl ?_
      refine J_iinc (i := 4) (v := nI (t + 1)) (lv' := [(4, .int (nI (t + 1))), (3, .int (nI ((x) % (y)))), (2, .int (nI (y))), (5, .int (nI ((x) % (y)))), (0, .int (nI (a0))), (1, .int (nI (b0)))]) (pc := 28) dX2_commonDivisor_28 rfl (nI_add (t) 1) (by decide) rfl ?_
      refine J_goto (tgt := 7) (pc := 31) dX2_commonDivisor_31 (by decide) ?_
      refine J_sub (lv' := [(4, .int (nI (t + 1))), (3, .int (nI ((x) % (y)))), (2, .int (nI (y))), (0, .int (nI (a0))), (1, .int (nI (b0)))]) [0, 1, 2, 4, 5] rfl ?_
      have r := ih (t + 1) y (x % y) (by omega) (by omega) (by have := Nat.mod_lt x (show 0 < y by omega); omega)
      rw [eu, if_neg (by omega)]
      exact r
theorem c_commonDivisor {g : GT} {d : Nat} {h : MH} {x y k : Nat} (hx : x < 2 ^ 31) (hy : y < 2 ^ k) (hk : 2 * k ≤ 47) : J g d 0 0 mX2_commonDivisor 0 (lv_args 0 [.int (nI x), .int (nI y)]) [] h (RI (nI (max 1 (Nat.gcd x y))) h) := by
  have hy2 : y < 2 ^ 31 := Nat.lt_of_lt_of_le hy (Nat.pow_le_pow_right (by decide) (by omega))
  rw [← eu_gcd k 47 x y hy hk]
  refine J_iload_n (i := 0) (pc := 0) dX2_commonDivisor_0 rfl rfl ?_
  refine J_istore_n (i := 2) (lv' := [(2, .int (nI (x))), (0, .int (nI (x))), (1, .int (nI (y)))]) (pc := 1) dX2_commonDivisor_1 rfl (by decide) rfl ?_
  refine J_iload_n (i := 1) (pc := 2) dX2_commonDivisor_2 rfl rfl ?_
  refine J_istore_n (i := 3) (lv' := [(3, .int (nI (y))), (2, .int (nI (x))), (0, .int (nI (x))), (1, .int (nI (y)))]) (pc := 3) dX2_commonDivisor_3 rfl (by decide) rfl ?_
  refine J_iconst (v := nI (0)) (pc := 4) dX2_commonDivisor_4 rfl ?_
  refine J_istore (i := 4) (lv' := [(4, .int (nI (0))), (3, .int (nI (y))), (2, .int (nI (x))), (0, .int (nI (x))), (1, .int (nI (y)))]) (pc := 5) dX2_commonDivisor_5 (by decide) rfl ?_
  refine J_sub (lv' := [(4, .int (nI (0))), (3, .int (nI (y))), (2, .int (nI (x))), (0, .int (nI (x))), (1, .int (nI (y)))]) [0, 1, 2, 3, 4] rfl ?_
  exact cd_loop 47 0 x y rfl hx hy2

set_option maxHeartbeats 2000000 in
set_option maxRecDepth 20000 in
theorem gb_loop {g : GT} {d : Nat} {h : MH} {β : BT} (hB : BH h β) {P : Nat} {L : Int32} (hP : 0 < P) (hP2 : P < 2 ^ 31) : ∀ (m b s : Nat), b + m = β.1 → s < 2 ^ 20 → J g d 0 0 mX0_growingBut 8 [(4, .int (nI (b))), (3, .int (nI (s))), (0, .ref (2)), (1, .int (nI (P))), (2, .int (L))] [] h (RI (nI (gbF P L m b s)) h) := by
  obtain ⟨hW, mf, sf, tf, lf, b2, b3, bm, b7, b8, b9, em, es, et, el⟩ := id hB
  obtain ⟨hn, hc, hm5, hs2⟩ := id hW
  have hp := pw_le hn
  intro m
  induction m with
  | zero =>
    intro b s hb hs
    refine J_iload (i := 4) (pc := 8) dX0_growingBut_8 rfl ?_
    refine J_aload_n (i := 0) (pc := 10) dX0_growingBut_10 rfl rfl ?_
    refine J_getf (k := 4) (pc := 11) dX0_growingBut_11 flX0_26 b2 rfl ?_
    refine J_icmp_geN (tgt := 44) (pc := 14) dX0_growingBut_14 (by decide) (by omega) (by omega) (fun c14 => ?_) (fun c14 => by exfalso; first | omega | simp_all)
    refine J_iload_n (i := 3) (pc := 44) dX0_growingBut_44 rfl rfl ?_
    refine J_iret (ty := .int) (pc := 45) dX0_growingBut_45 rfl rfl ?_
    exact ⟨rfl, rfl⟩
  | succ m ih =>
    intro b s hb hs
    refine J_iload (i := 4) (pc := 8) dX0_growingBut_8 rfl ?_
    refine J_aload_n (i := 0) (pc := 10) dX0_growingBut_10 rfl rfl ?_
    refine J_getf (k := 4) (pc := 11) dX0_growingBut_11 flX0_26 b2 rfl ?_
    refine J_icmp_geN (tgt := 44) (pc := 14) dX0_growingBut_14 (by decide) (by omega) (by omega) (fun c14 => by exfalso; first | omega | simp_all) (fun c14 => ?_)
    refine J_iload_n (i := 1) (pc := 17) dX0_growingBut_17 rfl rfl ?_
    refine J_if_le (tgt := 38) (pc := 18) dX0_growingBut_18 (by decide) (fun c18 => absurd c18 (by rw [Int32.le_iff_toInt_le, nI_toInt hP2, z32]; omega)) (fun c18 => ?_)
    refine J_iload (i := 4) (pc := 21) dX0_growingBut_21 rfl ?_
    refine J_iload_n (i := 1) (pc := 23) dX0_growingBut_23 rfl rfl ?_
    refine J_iremN (pc := 24) dX0_growingBut_24 (by omega) (by omega) (by omega) ?_
    refine J_iload_n (i := 2) (pc := 25) dX0_growingBut_25 rfl rfl ?_
    refine J_icmp_ne (tgt := 38) (pc := 26) dX0_growingBut_26 (by decide) (fun c26 => ?_) (fun c26 => ?_)
    · skip
      refine J_iinc (i := 4) (v := nI (b + 1)) (lv' := [(4, .int (nI (b + 1))), (3, .int (nI (s))), (0, .ref (2)), (1, .int (nI (P))), (2, .int (L))]) (pc := 38) dX0_growingBut_38 rfl (nI_add (b) 1) (by decide) rfl ?_
      refine J_goto (tgt := 8) (pc := 41) dX0_growingBut_41 (by decide) ?_
      refine J_sub (lv' := [(4, .int (nI (b + 1))), (3, .int (nI (s))), (0, .ref (2)), (1, .int (nI (P))), (2, .int (L))]) [0, 1, 2, 3, 4] rfl ?_
      have r := ih (b + 1) (s) (by omega) (by have := sdf_le s (2 ^ b); omega)
      rw [gbF, if_neg c26]
      exact r
    · skip
      refine J_iload_n (i := 3) (pc := 29) dX0_growingBut_29 rfl rfl ?_
      refine J_iconst (v := nI (1)) (pc := 30) dX0_growingBut_30 rfl ?_
      refine J_iload (i := 4) (pc := 31) dX0_growingBut_31 rfl ?_
      refine J_ishlN (pc := 33) dX0_growingBut_33 (by omega) ?_
      refine J_iconst (v := (-1)) (pc := 34) dX0_growingBut_34 rfl ?_
      refine J_ixor (pc := 35) dX0_growingBut_35 ?_
      refine J_iandX (pc := 36) dX0_growingBut_36 ?_
      refine J_istore_n (i := 3) (lv' := [(3, .int (nI (sdf (s) (2 ^ (b))))), (4, .int (nI (b))), (0, .ref (2)), (1, .int (nI (P))), (2, .int (L))]) (pc := 37) dX0_growingBut_37 rfl (by decide) rfl ?_
      refine J_iinc (i := 4) (v := nI (b + 1)) (lv' := [(4, .int (nI (b + 1))), (3, .int (nI (sdf (s) (2 ^ (b))))), (0, .ref (2)), (1, .int (nI (P))), (2, .int (L))]) (pc := 38) dX0_growingBut_38 rfl (nI_add (b) 1) (by decide) rfl ?_
      refine J_goto (tgt := 8) (pc := 41) dX0_growingBut_41 (by decide) ?_
      refine J_sub (lv' := [(4, .int (nI (b + 1))), (3, .int (nI (sdf (s) (2 ^ (b))))), (0, .ref (2)), (1, .int (nI (P))), (2, .int (L))]) [0, 1, 2, 3, 4] rfl ?_
      have r := ih (b + 1) (sdf (s) (2 ^ (b))) (by omega) (by have := sdf_le s (2 ^ b); omega)
      rw [gbF, if_pos c26]
      exact r
theorem c_growingBut {g : GT} {d : Nat} {h : MH} {β : BT} (hB : BH h β) {P : Nat} {L : Int32} (hP : 0 < P) (hP2 : P < 2 ^ 31) : J g (d + 1) 0 0 mX0_growingBut 0 (lv_args 0 [.ref 2, .int (nI P), .int L]) [] h (RI (nI (gbS β P L)) h) := by
  have hg := gro_lt hB.1
  obtain ⟨hW, mf, sf, tf, lf, b2, b3, bm, b7, b8, b9, em, es, et, el⟩ := id hB
  obtain ⟨hn, hc, hm5, hs2⟩ := id hW
  have hp := pw_le hn
  refine J_aload_n (i := 0) (pc := 0) dX0_growingBut_0 rfl rfl ?_
  refine J_cVi (st := []) (As := []) (pc := 1) dX0_growingBut_1 okX0_growing q1_163 q1_164 q1_165 (rfl : vwCl[0]? = some _) b2 rfl (Nat.le_of_ble_eq_true rfl) (Nat.le_of_ble_eq_true rfl) (c_growing hB) ?_
  refine J_istore_n (i := 3) (lv' := [(3, .int (nI (gro β))), (0, .ref (2)), (1, .int (nI (P))), (2, .int (L))]) (pc := 4) dX0_growingBut_4 rfl (by decide) rfl ?_
  refine J_iconst (v := nI (0)) (pc := 5) dX0_growingBut_5 rfl ?_
  refine J_istore (i := 4) (lv' := [(4, .int (nI (0))), (3, .int (nI (gro β))), (0, .ref (2)), (1, .int (nI (P))), (2, .int (L))]) (pc := 6) dX0_growingBut_6 (by decide) rfl ?_
  refine J_sub (lv' := [(4, .int (nI (0))), (3, .int (nI (gro β))), (0, .ref (2)), (1, .int (nI (P))), (2, .int (L))]) [0, 1, 2, 3, 4] rfl ?_
  exact gb_loop hB hP hP2 _ 0 _ (Nat.zero_add _) hg
