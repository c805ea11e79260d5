-- the reference: rules with new cells and budgets; its beans; sets
section
variable {g : GT} {d ca sa : Nat} {M : MT} {pc : Nat} {lv : List (Nat × Value)} {st : List Value} {h : MH} {Q : RT → MH → Prop}
theorem ha_s {h h1 : MH} {A z : Nat} {c : MC} (e : h1 = (z, hset h.2 A c)) : h1.2 A = some c := by
  rw [e]
  exact hset_s
theorem ha_n {h h1 : MH} {A j z : Nat} {c : MC} (e : h1 = (z, hset h.2 A c)) (hj : j ≠ A) : h1.2 j = h.2 j := by
  rw [e]
  exact hset_n hj
theorem J_newIA {n ca' sa' A : Nat} {x : Int32} {h' : MH} (hd : decode M.2.1 pc = .ok (.newarray .int, 2)) (hx : x = nI n) (hn : n < 100000) (h1 : ca' + 1 ≤ ca) (h2 : sa' + n ≤ sa) (eA : A = h.1) (e : h' = (A + 1, hset h.2 A (aI n (fun _ => 0)))) (kk : J g d ca' sa' M (pc + 2) lv (.ref A :: st) h' Q) : J g d ca sa M pc lv (.int x :: st) h Q := by
  subst eA
  subst e
  exact J_newI hd hx hn h1 h2 kk
theorem J_newJA {n ca' sa' A : Nat} {x : Int32} {h' : MH} (hd : decode M.2.1 pc = .ok (.newarray .long, 2)) (hx : x = nI n) (hn : n < 100000) (h1 : ca' + 1 ≤ ca) (h2 : sa' + n ≤ sa) (eA : A = h.1) (e : h' = (A + 1, hset h.2 A (aJ n (fun _ => 0)))) (kk : J g d ca' sa' M (pc + 2) lv (.ref A :: st) h' Q) : J g d ca sa M pc lv (.int x :: st) h Q := by
  subst eA
  subst e
  exact J_newJ hd hx hn h1 h2 kk
theorem J_cVB {M1 : MT} {index n a ci ca1 sa1 ca2 sa2 : Nat} {fs As : List Value} {v : Option Value} {P : MH → Prop} {T : u_T} {N : Nat} (hd : decode M.2.1 pc = .ok (.invokevirtual index, 3)) (hM : MOK M1 n) (hl : Cond.methodLink M.1.cls index M1.1 ∈ lw_tbl) (hi : Cond.instanceMethod M1.1 ∈ lw_tbl) (hs : Cond.selects M1.1.cls M1.1 M1.1 ∈ lw_tbl)
    (hc : vwCl[ci]? = some (M1.1.cls, T, N)) (ha : h.2 a = some (.inr (ci, fs))) (hn : As.length = n) (hlen : (lg_sl (.ref a :: As)).length ≤ M1.2.2.1) (hst : (st.map fun v => v.category).sum ≤ 8) (hj : J g d ca1 sa1 M1 0 (lv_args 0 (.ref a :: As)) [] h (fun r h' => r = .inl v ∧ P h')) (h1 : ca1 + ca2 ≤ ca) (h2 : sa1 + sa2 ≤ sa)
    (kk : ∀ h', P h' → J g (d + 1) ca2 sa2 M (pc + 3) lv (v.toList ++ st) h' Q) : J g (d + 1) ca sa M pc lv (As.reverse ++ .ref a :: st) h Q :=
  J_callV hd hM hl hi hs hc ha hn hlen hst (fun E h' q => by cases q.1) hj h1 h2 (fun v h' q => by obtain ⟨q1, q2⟩ := q; cases q1; exact kk h' q2)
theorem J_cSB {M1 : MT} {index n ca1 sa1 ca2 sa2 : Nat} {As : List Value} {v : Option Value} {P : MH → Prop} (hd : decode M.2.1 pc = .ok (.invokestatic index, 3)) (hM : MOK M1 n) (hl : Cond.methodLink M.1.cls index M1.1 ∈ lw_tbl) (hs : Cond.static M1.1 ∈ lw_tbl)
    (hn : As.length = n) (hlen : (lg_sl As).length ≤ M1.2.2.1) (hst : (st.map fun v => v.category).sum ≤ 8) (hj : J g d ca1 sa1 M1 0 (lv_args 0 As) [] h (fun r h' => r = .inl v ∧ P h')) (h1 : ca1 + ca2 ≤ ca) (h2 : sa1 + sa2 ≤ sa)
    (kk : ∀ h', P h' → J g (d + 1) ca2 sa2 M (pc + 3) lv (v.toList ++ st) h' Q) : J g (d + 1) ca sa M pc lv (As.reverse ++ st) h Q :=
  J_callS hd hM hl hs hn hlen hst (fun E h' q => by cases q.1) hj h1 h2 (fun v h' q => by obtain ⟨q1, q2⟩ := q; cases q1; exact kk h' q2)
end
/-- only new cells -/
def Ext (h h' : MH) : Prop := h.1 ≤ h'.1 ∧ ∀ i, i < h.1 → h'.2 i = h.2 i
theorem Ext_rfl {h : MH} : Ext h h := ⟨Nat.le_refl _, fun _ _ => rfl⟩
theorem Ext_tr {h h1 h2 : MH} (k : Ext h h1) (l : Ext h1 h2) : Ext h h2 := ⟨Nat.le_trans k.1 l.1, fun i hi => (l.2 i (Nat.lt_of_lt_of_le hi k.1)).trans (k.2 i hi)⟩
theorem Ext_new {h0 h h1 : MH} {A : Nat} {c : MC} (k : Ext h0 h) (eA : A = h.1) (e : h1 = (A + 1, hset h.2 A c)) : Ext h0 h1 := by
  subst eA
  subst e
  exact Ext_tr k ⟨Nat.le_succ _, fun i hi => hset_n (Nat.ne_of_lt hi)⟩
theorem Ext_st {h0 h h1 : MH} {A : Nat} {c : MC} (k : Ext h0 h) (hA : h0.1 ≤ A) (e : h1 = (h.1, hset h.2 A c)) : Ext h0 h1 := by
  subst e
  exact ⟨k.1, fun i hi => (hset_n (by omega)).trans (k.2 i hi)⟩
/-- the reference's beans -/
def MS (h : MH) (β : BT) : Prop := WF β ∧ (∃ th dp le k : Int32, h.2 53 = some (oB 3 [.int th, .int (nI β.1), .ref 54, .ref 55, .int (nI β.2.1), .int dp, .int le, .int k, .ref 56, .ref 57, .ref 58])) ∧
  (∃ mf, h.2 54 = some (aI 60 mf) ∧ ∀ m k, m < 3 → k < β.1 → mf (3 * k + m) = nI (β.2.2.1 m k)) ∧ ∃ sf, h.2 55 = some (aI 20 sf) ∧ ∀ k, k < β.1 → sf k = nI (β.2.2.2 k)
theorem MS_ext {h h' : MH} {β : BT} (k : Ext h h') (hz : 60 ≤ h.1) (hm : MS h β) : MS h' β := by
  obtain ⟨hW, ⟨th, dp, le, kk, m53⟩, ⟨mf, m54, em⟩, ⟨sf, m55, es⟩⟩ := hm
  exact ⟨hW, ⟨th, dp, le, kk, (k.2 _ (by omega)).trans m53⟩, ⟨mf, (k.2 _ (by omega)).trans m54, em⟩, ⟨sf, (k.2 _ (by omega)).trans m55, es⟩⟩
theorem MS_oth {h h' : MH} {β : BT} (k : ∀ i, 53 ≤ i → i ≤ 55 → h'.2 i = h.2 i) (hm : MS h β) : MS h' β := by
  obtain ⟨hW, ⟨th, dp, le, kk, m53⟩, ⟨mf, m54, em⟩, ⟨sf, m55, es⟩⟩ := hm
  exact ⟨hW, ⟨th, dp, le, kk, (k _ (by omega) (by omega)).trans m53⟩, ⟨mf, (k _ (by omega) (by omega)).trans m54, em⟩, ⟨sf, (k _ (by omega) (by omega)).trans m55, es⟩⟩
theorem shr_bit : ∀ k, k < 20 → (((nI k &&& 31) : Int32).toBitVec.smod 32).toNat = k := by decide
theorem has_v {s k : Nat} (hs : s < 2 ^ 20) (hk : k < 20) : (nI s >>> (nI k &&& 31)) &&& nI 1 = nI (if s.testBit k then 1 else 0) := by
  rw [pk_shrN (by omega) (nI k &&& 31) k (shr_bit k hk), andNN]
  congr 1
  rw [Nat.and_one_is_mod, Nat.testBit_eq_decide_div_mod_eq]
  rcases Nat.mod_two_eq_zero_or_one (s / 2 ^ k) with e | e <;> rw [e] <;> simp

set_option maxHeartbeats 2000000 in
set_option maxRecDepth 20000 in
theorem m_has {g : GT} {d : Nat} {h : MH} {s k : Nat} (hs : s < 2 ^ 20) (hk : k < 20) : J g (d) 0 0 mX3_has 0 (lv_args 0 [.int (nI (s)), .int (nI (k))]) [] h (RI (bI (s.testBit k)) h) := by
  have hv := has_v hs hk
  refine J_iload_n (i := 0) (pc := 0) dX3_has_0 rfl rfl ?_
  refine J_iload_n (i := 1) (pc := 1) dX3_has_1 rfl rfl ?_
  refine J_ishr (pc := 2) dX3_has_2 ?_
  refine J_iconst (v := nI (1)) (pc := 3) dX3_has_3 rfl ?_
  refine J_iand (pc := 4) dX3_has_4 ?_
  rw [hv]
  refine J_iconst (v := nI (1)) (pc := 5) dX3_has_5 rfl ?_
  refine J_icmp_neN (tgt := 13) (pc := 6) dX3_has_6 (by decide) (by split <;> omega) (by omega) (fun c6 => ?_) (fun c6 => ?_)
  · skip
    refine J_iconst (v := nI (0)) (pc := 13) dX3_has_13 rfl ?_
    refine J_iret (ty := .boolean) (pc := 14) dX3_has_14 rfl rfl ?_
    exact ⟨congrArg (fun z : Int32 => (Sum.inl (some (Value.int z)) : RT)) (by first | (rw [show s.testBit k = true from by cases hb : s.testBit k <;> simp_all]; rfl) | (rw [show s.testBit k = false from by cases hb : s.testBit k <;> simp_all]; rfl)), rfl⟩
  · skip
    refine J_iconst (v := nI (1)) (pc := 9) dX3_has_9 rfl ?_
    refine J_goto (tgt := 14) (pc := 10) dX3_has_10 (by decide) ?_
    refine J_iret (ty := .boolean) (pc := 14) dX3_has_14 rfl rfl ?_
    exact ⟨congrArg (fun z : Int32 => (Sum.inl (some (Value.int z)) : RT)) (by first | (rw [show s.testBit k = true from by cases hb : s.testBit k <;> simp_all]; rfl) | (rw [show s.testBit k = false from by cases hb : s.testBit k <;> simp_all]; rfl)), rfl⟩

theorem inZ_dec (lo hi : Int) (x : Int32) : inZ lo hi x ∨ ¬ inZ lo hi x := Classical.em _

set_option maxHeartbeats 2000000 in
set_option maxRecDepth 20000 in
theorem m_isInT {g : GT} {d : Nat} {h : MH} {x lo hi : Int32} (hx : inZ lo.toInt hi.toInt x) : J g d 0 0 mX3_isIn 0 (lv_args 0 [.int x, .int lo, .int hi]) [] h (RI (nI 1) h) := by
  have h1 := hx.1
  have h2 := hx.2
  refine J_iload_n (i := 0) (pc := 0) dX3_isIn_0 rfl rfl ?_
  refine J_iload_n (i := 1) (pc := 1) dX3_isIn_1 rfl rfl ?_
  refine J_icmp_lt (tgt := 14) (pc := 2) dX3_isIn_2 (by decide) (fun c2 => absurd c2 (by rw [Int32.lt_iff_toInt_lt]; omega)) (fun c2 => ?_)
  refine J_iload_n (i := 0) (pc := 5) dX3_isIn_5 rfl rfl ?_
  refine J_iload_n (i := 2) (pc := 6) dX3_isIn_6 rfl rfl ?_
  refine J_icmp_gt (tgt := 14) (pc := 7) dX3_isIn_7 (by decide) (fun c7 => absurd c7 (by show ¬ hi < x; rw [Int32.lt_iff_toInt_lt]; omega)) (fun c7 => ?_)
  refine J_iconst (v := nI (1)) (pc := 10) dX3_isIn_10 rfl ?_
  refine J_goto (tgt := 15) (pc := 11) dX3_isIn_11 (by decide) ?_
  refine J_iret (ty := .boolean) (pc := 15) dX3_isIn_15 rfl rfl ?_
  exact ⟨rfl, rfl⟩
theorem m_isInF {g : GT} {d : Nat} {h : MH} {x lo hi : Int32} (hx : ¬ inZ lo.toInt hi.toInt x) : J g d 0 0 mX3_isIn 0 (lv_args 0 [.int x, .int lo, .int hi]) [] h (RI (nI 0) h) := by
  refine J_iload_n (i := 0) (pc := 0) dX3_isIn_0 rfl rfl ?_
  refine J_iload_n (i := 1) (pc := 1) dX3_isIn_1 rfl rfl ?_
  refine J_icmp_lt (tgt := 14) (pc := 2) dX3_isIn_2 (by decide) (fun c2 => ?_) (fun c2 => ?_)
  · skip
    refine J_iconst (v := nI (0)) (pc := 14) dX3_isIn_14 rfl ?_
    refine J_iret (ty := .boolean) (pc := 15) dX3_isIn_15 rfl rfl ?_
    exact ⟨rfl, rfl⟩
  · skip
    refine J_iload_n (i := 0) (pc := 5) dX3_isIn_5 rfl rfl ?_
    refine J_iload_n (i := 2) (pc := 6) dX3_isIn_6 rfl rfl ?_
    refine J_icmp_gt (tgt := 14) (pc := 7) dX3_isIn_7 (by decide) (fun c7 => ?_) (fun c7 => absurd c7 (by rw [Int32.lt_iff_toInt_lt] at c2; show ¬ ¬ hi < x; rw [Int32.lt_iff_toInt_lt]; intro q; exact hx ⟨by omega, by omega⟩))
    refine J_iconst (v := nI (0)) (pc := 14) dX3_isIn_14 rfl ?_
    refine J_iret (ty := .boolean) (pc := 15) dX3_isIn_15 rfl rfl ?_
    exact ⟨rfl, rfl⟩

set_option maxHeartbeats 2000000 in
set_option maxRecDepth 20000 in
theorem m_growing {g : GT} {d : Nat} {h : MH} {β : BT} (hM : MS h β)  : J g (d) 0 0 mX3_growing 0 (lv_args 0 [.ref (53)]) [] h (RI (nI (gro β)) h) := by
  obtain ⟨hW, ⟨th, dq, lq, kk, m53⟩, ⟨mf, m54, em⟩, ⟨sf, m55, es⟩⟩ := id hM
  obtain ⟨hn, hc9, hm5, hs2⟩ := id hW
  have hp9 := pw_le hn
  refine J_iconst (v := nI (1)) (pc := 0) dX3_growing_0 rfl ?_
  refine J_aload_n (i := 0) (pc := 1) dX3_growing_1 rfl rfl ?_
  refine J_getf (k := 1) (pc := 2) dX3_growing_2 flX3_44 m53 rfl ?_
  refine J_ishlN (pc := 5) dX3_growing_5 (by omega) ?_
  refine J_iconst (v := nI (1)) (pc := 6) dX3_growing_6 rfl ?_
  refine J_isubN (pc := 7) dX3_growing_7 (by omega) ?_
  refine J_aload_n (i := 0) (pc := 8) dX3_growing_8 rfl rfl ?_
  refine J_getf (k := 4) (pc := 9) dX3_growing_9 flX3_47 m53 rfl ?_
  refine J_iconst (v := (-1)) (pc := 12) dX3_growing_12 rfl ?_
  refine J_ixor (pc := 13) dX3_growing_13 ?_
  refine J_iandX (pc := 14) dX3_growing_14 ?_
  refine J_iret (ty := .int) (pc := 15) dX3_growing_15 rfl rfl ?_
  exact ⟨rfl, rfl⟩

set_option maxHeartbeats 2000000 in
set_option maxRecDepth 20000 in
theorem m_measure {g : GT} {d : Nat} {h : MH} {β : BT} (hM : MS h β) {k m : Nat} (hk : k < β.1) (hm : m < 3) : J g (d) 0 0 mX3_measure 0 (lv_args 0 [.ref (53), .int (nI (k)), .int (nI (m))]) [] h (RI (nI (β.2.2.1 m k)) h) := by
  obtain ⟨hW, ⟨th, dq, lq, kk, m53⟩, ⟨mf, m54, em⟩, ⟨sf, m55, es⟩⟩ := id hM
  obtain ⟨hn, hc9, hm5, hs2⟩ := id hW
  have hp9 := pw_le hn
  refine J_aload_n (i := 0) (pc := 0) dX3_measure_0 rfl rfl ?_
  refine J_getf (k := 2) (pc := 1) dX3_measure_1 flX3_9 m53 rfl ?_
  refine J_iconst (v := nI (3)) (pc := 4) dX3_measure_4 rfl ?_
  refine J_iload_n (i := 1) (pc := 5) dX3_measure_5 rfl rfl ?_
  refine J_imulN (pc := 6) dX3_measure_6 ?_
  refine J_iload_n (i := 2) (pc := 7) dX3_measure_7 rfl rfl ?_
  refine J_iaddN (pc := 8) dX3_measure_8 ?_
  refine J_iald (j := (3 * k) + m) (pc := 9) dX3_measure_9 m54 rfl (by omega) (by omega) ?_
  rw [show mf ((3 * k) + m) = nI (β.2.2.1 m k) from em m k hm hk]
  refine J_iret (ty := .int) (pc := 10) dX3_measure_10 rfl rfl ?_
  exact ⟨rfl, rfl⟩

theorem pcn_sort {β : BT} (s z : Nat) : ofS β s z = pcn (s &&& mkS β z) β.1 ∨ 20 < β.1 := by
  by_cases h : 20 < β.1
  · exact Or.inr h
  · left
    obtain ⟨k, hk⟩ : ∃ k, 20 = β.1 + k := ⟨20 - β.1, by omega⟩
    show pcn _ 20 = _
    rw [hk]
    exact pcn_up (Nat.lt_of_le_of_lt Nat.and_le_right (msk_lt _ _)) k
theorem mkS_bit (β : BT) (s z k : Nat) (hk : k < β.1) : (s &&& mkS β z).testBit k = (s.testBit k && (β.2.2.2 k == z)) := by
  rw [Nat.testBit_and]
  congr 1
  exact (msk_bit _ _ _).trans (by rw [decide_eq_true hk, Bool.true_and])

set_option maxHeartbeats 2000000 in
set_option maxRecDepth 20000 in
theorem mo_loop {g : GT} {d : Nat} {h : MH} {β : BT} (hM : MS h β) {s z : Nat} (hs : s < 2 ^ 20) (hz : z < 3) : ∀ (k b a : Nat), b + k = β.1 → a = pcn (s &&& mkS β z) b → J g (d + 1) 0 0 mX3_ofSort 5 [(4, .int (nI (b))), (3, .int (nI (a))), (0, .ref (53)), (1, .int (nI (s))), (2, .int (nI (z)))] [] h (RI (nI (ofS β s z)) h) := by
  obtain ⟨hW, ⟨th, dq, lq, kk, m53⟩, ⟨mf, m54, em⟩, ⟨sf, m55, es⟩⟩ := id hM
  obtain ⟨hn, hc9, hm5, hs2⟩ := id hW
  have hp9 := pw_le hn
  have e9 : ofS β s z = pcn (s &&& mkS β z) β.1 := (pcn_sort s z).resolve_right (by omega)
  intro k
  induction k with
  | zero =>
    intro b a hb ha
    obtain rfl : b = β.1 := by omega
    refine J_iload (i := 4) (pc := 5) dX3_ofSort_5 rfl ?_
    refine J_aload_n (i := 0) (pc := 7) dX3_ofSort_7 rfl rfl ?_
    refine J_getf (k := 1) (pc := 8) dX3_ofSort_8 flX3_44 m53 rfl ?_
    refine J_icmp_geN (tgt := 48) (pc := 11) dX3_ofSort_11 (by decide) (by omega) (by omega) (fun c11 => ?_) (fun c11 => by exfalso; first | omega | simp_all)
    refine J_iload_n (i := 3) (pc := 48) dX3_ofSort_48 rfl rfl ?_
    refine J_iret (ty := .int) (pc := 49) dX3_ofSort_49 rfl rfl ?_
    exact ⟨congrArg (fun z : Int32 => (Sum.inl (some (Value.int z)) : RT)) (by rw [e9, ha]), rfl⟩
  | succ k ih =>
    intro b a hk ha
    have hb : b < β.1 := by omega
    have hs3 := hs2 b hb
    refine J_iload (i := 4) (pc := 5) dX3_ofSort_5 rfl ?_
    refine J_aload_n (i := 0) (pc := 7) dX3_ofSort_7 rfl rfl ?_
    refine J_getf (k := 1) (pc := 8) dX3_ofSort_8 flX3_44 m53 rfl ?_
    refine J_icmp_geN (tgt := 48) (pc := 11) dX3_ofSort_11 (by decide) (by omega) (by omega) (fun c11 => by exfalso; first | omega | simp_all) (fun c11 => ?_)
    refine J_iload_n (i := 3) (pc := 14) dX3_ofSort_14 rfl rfl ?_
    refine J_iload_n (i := 1) (pc := 15) dX3_ofSort_15 rfl rfl ?_
    refine J_iload (i := 4) (pc := 16) dX3_ofSort_16 rfl ?_
    refine J_cSi (st := [.int (nI (a))]) (As := [.int (nI (s)), .int (nI (b))]) (pc := 18) dX3_ofSort_18 okX3_has q3_184 q3_185 rfl (Nat.le_of_ble_eq_true rfl) (Nat.le_of_ble_eq_true rfl) (m_has (by omega) (by omega)) ?_
    refine J_if_eqB (tgt := 39) (pc := 21) dX3_ofSort_21 (by decide) (fun c21 => ?_) (fun c21 => ?_)
    · skip
      refine J_iconst (v := nI (0)) (pc := 39) dX3_ofSort_39 rfl ?_
      refine J_iaddN (pc := 40) dX3_ofSort_40 ?_
      refine J_istore_n (i := 3) (lv' := [(3, .int (nI (a))), (4, .int (nI (b))), (0, .ref (53)), (1, .int (nI (s))), (2, .int (nI (z)))]) (pc := 41) dX3_ofSort_41 rfl (by decide) rfl ?_
      refine J_iinc (i := 4) (v := nI (b + 1)) (lv' := [(4, .int (nI (b + 1))), (3, .int (nI (a))), (0, .ref (53)), (1, .int (nI (s))), (2, .int (nI (z)))]) (pc := 42) dX3_ofSort_42 rfl (nI_add (b) 1) (by decide) rfl ?_
      refine J_goto (tgt := 5) (pc := 45) dX3_ofSort_45 (by decide) ?_
      refine J_sub (lv' := [(4, .int (nI (b + 1))), (3, .int (nI (a))), (0, .ref (53)), (1, .int (nI (s))), (2, .int (nI (z)))]) [0, 1, 2, 3, 4] rfl ?_
      refine ih (b + 1) a (by omega) ?_
      rw [pcn, mkS_bit β s z b hb, ← ha]
      first
      | (rw [c21]; rfl)
      | (rw [show (β.2.2.2 b == z) = false from by simpa using c32, Bool.and_false]; rfl)
    · skip
      refine J_aload_n (i := 0) (pc := 24) dX3_ofSort_24 rfl rfl ?_
      refine J_getf (k := 3) (pc := 25) dX3_ofSort_25 flX3_13 m53 rfl ?_
      refine J_iload (i := 4) (pc := 28) dX3_ofSort_28 rfl ?_
      refine J_iald (j := b) (pc := 30) dX3_ofSort_30 m55 rfl (by omega) (by omega) ?_
      rw [show sf b = nI (β.2.2.2 b) from es b hb]
      refine J_iload_n (i := 2) (pc := 31) dX3_ofSort_31 rfl rfl ?_
      refine J_icmp_neN (tgt := 39) (pc := 32) dX3_ofSort_32 (by decide) (by omega) (by omega) (fun c32 => ?_) (fun c32 => ?_)
      · skip
        refine J_iconst (v := nI (0)) (pc := 39) dX3_ofSort_39 rfl ?_
        refine J_iaddN (pc := 40) dX3_ofSort_40 ?_
        refine J_istore_n (i := 3) (lv' := [(3, .int (nI (a))), (4, .int (nI (b))), (0, .ref (53)), (1, .int (nI (s))), (2, .int (nI (z)))]) (pc := 41) dX3_ofSort_41 rfl (by decide) rfl ?_
        refine J_iinc (i := 4) (v := nI (b + 1)) (lv' := [(4, .int (nI (b + 1))), (3, .int (nI (a))), (0, .ref (53)), (1, .int (nI (s))), (2, .int (nI (z)))]) (pc := 42) dX3_ofSort_42 rfl (nI_add (b) 1) (by decide) rfl ?_
        refine J_goto (tgt := 5) (pc := 45) dX3_ofSort_45 (by decide) ?_
        refine J_sub (lv' := [(4, .int (nI (b + 1))), (3, .int (nI (a))), (0, .ref (53)), (1, .int (nI (s))), (2, .int (nI (z)))]) [0, 1, 2, 3, 4] rfl ?_
        refine ih (b + 1) a (by omega) ?_
        rw [pcn, mkS_bit β s z b hb, ← ha]
        first
        | (rw [c21]; rfl)
        | (rw [show (β.2.2.2 b == z) = false from by simpa using c32, Bool.and_false]; rfl)
      · skip
        refine J_iconst (v := nI (1)) (pc := 35) dX3_ofSort_35 rfl ?_
        refine J_goto (tgt := 40) (pc := 36) dX3_ofSort_36 (by decide) ?_
        refine J_iaddN (pc := 40) dX3_ofSort_40 ?_
        refine J_istore_n (i := 3) (lv' := [(3, .int (nI (a + 1))), (4, .int (nI (b))), (0, .ref (53)), (1, .int (nI (s))), (2, .int (nI (z)))]) (pc := 41) dX3_ofSort_41 rfl (by decide) rfl ?_
        refine J_iinc (i := 4) (v := nI (b + 1)) (lv' := [(4, .int (nI (b + 1))), (3, .int (nI (a + 1))), (0, .ref (53)), (1, .int (nI (s))), (2, .int (nI (z)))]) (pc := 42) dX3_ofSort_42 rfl (nI_add (b) 1) (by decide) rfl ?_
        refine J_goto (tgt := 5) (pc := 45) dX3_ofSort_45 (by decide) ?_
        refine J_sub (lv' := [(4, .int (nI (b + 1))), (3, .int (nI (a + 1))), (0, .ref (53)), (1, .int (nI (s))), (2, .int (nI (z)))]) [0, 1, 2, 3, 4] rfl ?_
        refine ih (b + 1) (a + 1) (by omega) ?_
        rw [pcn, mkS_bit β s z b hb, c21, c32, beq_self_eq_true, ← ha]
        rfl
theorem m_ofSort {g : GT} {d : Nat} {h : MH} {β : BT} (hM : MS h β) {s z : Nat} (hs : s < 2 ^ 20) (hz : z < 3) : J g (d + 1) 0 0 mX3_ofSort 0 (lv_args 0 [.ref 53, .int (nI s), .int (nI z)]) [] h (RI (nI (ofS β s z)) h) := by
  refine J_iconst (v := nI (0)) (pc := 0) dX3_ofSort_0 rfl ?_
  refine J_istore_n (i := 3) (lv' := [(3, .int (nI (0))), (0, .ref (53)), (1, .int (nI (s))), (2, .int (nI (z)))]) (pc := 1) dX3_ofSort_1 rfl (by decide) rfl ?_
  refine J_iconst (v := nI (0)) (pc := 2) dX3_ofSort_2 rfl ?_
  refine J_istore (i := 4) (lv' := [(4, .int (nI (0))), (3, .int (nI (0))), (0, .ref (53)), (1, .int (nI (s))), (2, .int (nI (z)))]) (pc := 3) dX3_ofSort_3 (by decide) rfl ?_
  refine J_sub (lv' := [(4, .int (nI (0))), (3, .int (nI (0))), (0, .ref (53)), (1, .int (nI (s))), (2, .int (nI (z)))]) [0, 1, 2, 3, 4] rfl ?_
  exact mo_loop hM hs hz β.1 0 0 (Nat.zero_add _) rfl

theorem cnt_3 {β : BT} (hW : WF β) {s : Nat} (hs : s < 2 ^ β.1) : ofS β s 0 + ofS β s 1 + ofS β s 2 = cnt s := by
  have h20 : ¬ 20 < β.1 := by have := hW.1; omega
  rw [(pcn_sort (β := β) s 0).resolve_right h20, (pcn_sort (β := β) s 1).resolve_right h20, (pcn_sort (β := β) s 2).resolve_right h20]
  obtain ⟨k, hk⟩ : ∃ k, 20 = β.1 + k := ⟨20 - β.1, by omega⟩
  have e : cnt s = pcn s β.1 := by
    show pcn _ 20 = _
    rw [hk]
    exact pcn_up hs k
  rw [e]
  have key : ∀ n, n ≤ β.1 → pcn (s &&& mkS β 0) n + pcn (s &&& mkS β 1) n + pcn (s &&& mkS β 2) n = pcn s n := by
    intro n
    induction n with
    | zero => intro _; rfl
    | succ n ih =>
      intro hn
      have h1 := ih (by omega)
      have h2 := hW.2.2.2 n (by omega)
      rw [pcn, pcn, pcn, pcn, mkS_bit β s 0 n (by omega), mkS_bit β s 1 n (by omega), mkS_bit β s 2 n (by omega)]
      cases s.testBit n
      · simp only [Bool.false_and]
        simp
        omega
      · obtain e | e | e : β.2.2.2 n = 0 ∨ β.2.2.2 n = 1 ∨ β.2.2.2 n = 2 := by omega
        · rw [e]; simp; omega
        · rw [e]; simp; omega
        · rw [e]; simp; omega
  exact key β.1 (Nat.le_refl _)
theorem lt20 {β : BT} (hW : WF β) {s : Nat} (hs : s < 2 ^ β.1) : s < 2 ^ 20 := Nat.lt_of_lt_of_le hs (Nat.pow_le_pow_right (by decide) hW.1)

set_option maxHeartbeats 2000000 in
set_option maxRecDepth 20000 in
theorem m_many {g : GT} {d : Nat} {h : MH} {β : BT} (hM : MS h β) {s : Nat} (hs : s < 2 ^ β.1) : J g (d + 2) 0 0 mX3_many 0 (lv_args 0 [.ref (53), .int (nI (s))]) [] h (RI (nI (cnt s)) h) := by
  obtain ⟨hW, ⟨th, dq, lq, kk, m53⟩, ⟨mf, m54, em⟩, ⟨sf, m55, es⟩⟩ := id hM
  obtain ⟨hn, hc9, hm5, hs2⟩ := id hW
  have hp9 := pw_le hn
  have hs20 := lt20 hW hs
  refine J_aload_n (i := 0) (pc := 0) dX3_many_0 rfl rfl ?_
  refine J_iload_n (i := 1) (pc := 1) dX3_many_1 rfl rfl ?_
  refine J_iconst (v := nI (0)) (pc := 2) dX3_many_2 rfl ?_
  refine J_cVi (st := []) (As := [.int (nI (s)), .int (nI (0))]) (pc := 3) dX3_many_3 okX3_ofSort q3_215 q3_217 qs2_2 (rfl : vwCl[3]? = some _) m53 rfl (Nat.le_of_ble_eq_true rfl) (Nat.le_of_ble_eq_true rfl) (m_ofSort hM (by omega) (by omega)) ?_
  refine J_aload_n (i := 0) (pc := 6) dX3_many_6 rfl rfl ?_
  refine J_iload_n (i := 1) (pc := 7) dX3_many_7 rfl rfl ?_
  refine J_iconst (v := nI (1)) (pc := 8) dX3_many_8 rfl ?_
  refine J_cVi (st := [.int (nI (ofS β s 0))]) (As := [.int (nI (s)), .int (nI (1))]) (pc := 9) dX3_many_9 okX3_ofSort q3_215 q3_217 qs2_2 (rfl : vwCl[3]? = some _) m53 rfl (Nat.le_of_ble_eq_true rfl) (Nat.le_of_ble_eq_true rfl) (m_ofSort hM (by omega) (by omega)) ?_
  refine J_iaddN (pc := 12) dX3_many_12 ?_
  refine J_aload_n (i := 0) (pc := 13) dX3_many_13 rfl rfl ?_
  refine J_iload_n (i := 1) (pc := 14) dX3_many_14 rfl rfl ?_
  refine J_iconst (v := nI (2)) (pc := 15) dX3_many_15 rfl ?_
  refine J_cVi (st := [.int (nI ((ofS β s 0) + (ofS β s 1)))]) (As := [.int (nI (s)), .int (nI (2))]) (pc := 16) dX3_many_16 okX3_ofSort q3_215 q3_217 qs2_2 (rfl : vwCl[3]? = some _) m53 rfl (Nat.le_of_ble_eq_true rfl) (Nat.le_of_ble_eq_true rfl) (m_ofSort hM (by omega) (by omega)) ?_
  refine J_iaddN (pc := 19) dX3_many_19 ?_
  refine J_iret (ty := .int) (pc := 20) dX3_many_20 rfl rfl ?_
  exact ⟨congrArg (fun z : Int32 => (Sum.inl (some (Value.int z)) : RT)) (by rw [cnt_3 hW hs]), rfl⟩

set_option maxHeartbeats 2000000 in
set_option maxRecDepth 20000 in
theorem m_squares {g : GT} {d : Nat} {h : MH} {β : BT} (hM : MS h β) {s : Nat} (hs : s < 2 ^ 20) : J g (d + 2) 0 0 mX3_squares 0 (lv_args 0 [.ref 53, .int (nI s)]) [] h (RJl (lN (sqs β s)) h) := by
  obtain ⟨hW, ⟨th, dq, lq, kk, m53⟩, ⟨mf, m54, em⟩, ⟨sf, m55, es⟩⟩ := id hM
  obtain ⟨hn, hc9, hm5, hs2⟩ := id hW
  have hp9 := pw_le hn
  have o0 := ofS_le β s 0
  have o1 := ofS_le β s 1
  have o2 := ofS_le β s 2
  refine J_lconst (v := lN 0) (pc := 0) dX3_squares_0 rfl ?_
  refine J_lstore_n (i := 2) (lv' := [(2, .long (lN (0))), (0, .ref (53)), (1, .int (nI (s)))]) (pc := 1) dX3_squares_1 rfl (by decide) rfl ?_
  refine J_iconst (v := nI (0)) (pc := 2) dX3_squares_2 rfl ?_
  refine J_istore (i := 4) (lv' := [(4, .int (nI (0))), (2, .long (lN (0))), (0, .ref (53)), (1, .int (nI (s)))]) (pc := 3) dX3_squares_3 (by decide) rfl ?_
  refine J_iload (i := 4) (pc := 5) dX3_squares_5 rfl ?_
  refine J_iconst (v := nI (3)) (pc := 7) dX3_squares_7 rfl ?_
  refine J_icmp_geN (tgt := 37) (pc := 8) dX3_squares_8 (by decide) (by omega) (by omega) (fun c8 => by exfalso; first | omega | simp_all) (fun c8 => ?_)
  refine J_lload_n (i := 2) (pc := 11) dX3_squares_11 rfl rfl ?_
  refine J_aload_n (i := 0) (pc := 12) dX3_squares_12 rfl rfl ?_
  refine J_iload_n (i := 1) (pc := 13) dX3_squares_13 rfl rfl ?_
  refine J_iload (i := 4) (pc := 14) dX3_squares_14 rfl ?_
  refine J_cVi (st := [.long (lN (0))]) (As := [.int (nI (s)), .int (nI (0))]) (pc := 16) dX3_squares_16 okX3_ofSort q3_215 q3_217 qs2_2 (rfl : vwCl[3]? = some _) m53 rfl (Nat.le_of_ble_eq_true rfl) (Nat.le_of_ble_eq_true rfl) (m_ofSort hM (by omega) (by omega)) ?_
  refine J_i2lN (pc := 19) dX3_squares_19 (by omega) ?_
  refine J_aload_n (i := 0) (pc := 20) dX3_squares_20 rfl rfl ?_
  refine J_iload_n (i := 1) (pc := 21) dX3_squares_21 rfl rfl ?_
  refine J_iload (i := 4) (pc := 22) dX3_squares_22 rfl ?_
  refine J_cVi (st := [.long (lN (ofS β s 0)), .long (lN (0))]) (As := [.int (nI (s)), .int (nI (0))]) (pc := 24) dX3_squares_24 okX3_ofSort q3_215 q3_217 qs2_2 (rfl : vwCl[3]? = some _) m53 rfl (Nat.le_of_ble_eq_true rfl) (Nat.le_of_ble_eq_true rfl) (m_ofSort hM (by omega) (by omega)) ?_
  refine J_i2lN (pc := 27) dX3_squares_27 (by omega) ?_
  refine J_lmulN (pc := 28) dX3_squares_28 ?_
  refine J_laddN (pc := 29) dX3_squares_29 ?_
  refine J_lstore_n (i := 2) (lv' := [(2, .long (lN ((0) + ((ofS β s 0) * (ofS β s 0))))), (4, .int (nI (0))), (0, .ref (53)), (1, .int (nI (s)))]) (pc := 30) dX3_squares_30 rfl (by decide) rfl ?_
  refine J_iinc (i := 4) (v := nI (1)) (lv' := [(4, .int (nI (1))), (2, .long (lN ((0) + ((ofS β s 0) * (ofS β s 0))))), (0, .ref (53)), (1, .int (nI (s)))]) (pc := 31) dX3_squares_31 rfl rfl (by decide) rfl ?_
  refine J_goto (tgt := 5) (pc := 34) dX3_squares_34 (by decide) ?_
  refine J_iload (i := 4) (pc := 5) dX3_squares_5 rfl ?_
  refine J_iconst (v := nI (3)) (pc := 7) dX3_squares_7 rfl ?_
  refine J_icmp_geN (tgt := 37) (pc := 8) dX3_squares_8 (by decide) (by omega) (by omega) (fun c8 => by exfalso; first | omega | simp_all) (fun c8 => ?_)
  refine J_lload_n (i := 2) (pc := 11) dX3_squares_11 rfl rfl ?_
  refine J_aload_n (i := 0) (pc := 12) dX3_squares_12 rfl rfl ?_
  refine J_iload_n (i := 1) (pc := 13) dX3_squares_13 rfl rfl ?_
  refine J_iload (i := 4) (pc := 14) dX3_squares_14 rfl ?_
  refine J_cVi (st := [.long (lN ((0) + ((ofS β s 0) * (ofS β s 0))))]) (As := [.int (nI (s)), .int (nI (1))]) (pc := 16) dX3_squares_16 okX3_ofSort q3_215 q3_217 qs2_2 (rfl : vwCl[3]? = some _) m53 rfl (Nat.le_of_ble_eq_true rfl) (Nat.le_of_ble_eq_true rfl) (m_ofSort hM (by omega) (by omega)) ?_
  refine J_i2lN (pc := 19) dX3_squares_19 (by omega) ?_
  refine J_aload_n (i := 0) (pc := 20) dX3_squares_20 rfl rfl ?_
  refine J_iload_n (i := 1) (pc := 21) dX3_squares_21 rfl rfl ?_
  refine J_iload (i := 4) (pc := 22) dX3_squares_22 rfl ?_
  refine J_cVi (st := [.long (lN (ofS β s 1)), .long (lN ((0) + ((ofS β s 0) * (ofS β s 0))))]) (As := [.int (nI (s)), .int (nI (1))]) (pc := 24) dX3_squares_24 okX3_ofSort q3_215 q3_217 qs2_2 (rfl : vwCl[3]? = some _) m53 rfl (Nat.le_of_ble_eq_true rfl) (Nat.le_of_ble_eq_true rfl) (m_ofSort hM (by omega) (by omega)) ?_
  refine J_i2lN (pc := 27) dX3_squares_27 (by omega) ?_
  refine J_lmulN (pc := 28) dX3_squares_28 ?_
  refine J_laddN (pc := 29) dX3_squares_29 ?_
  refine J_lstore_n (i := 2) (lv' := [(2, .long (lN (((0) + ((ofS β s 0) * (ofS β s 0))) + ((ofS β s 1) * (ofS β s 1))))), (4, .int (nI (1))), (0, .ref (53)), (1, .int (nI (s)))]) (pc := 30) dX3_squares_30 rfl (by decide) rfl ?_
  refine J_iinc (i := 4) (v := nI (2)) (lv' := [(4, .int (nI (2))), (2, .long (lN (((0) + ((ofS β s 0) * (ofS β s 0))) + ((ofS β s 1) * (ofS β s 1))))), (0, .ref (53)), (1, .int (nI (s)))]) (pc := 31) dX3_squares_31 rfl rfl (by decide) rfl ?_
  refine J_goto (tgt := 5) (pc := 34) dX3_squares_34 (by decide) ?_
  refine J_iload (i := 4) (pc := 5) dX3_squares_5 rfl ?_
  refine J_iconst (v := nI (3)) (pc := 7) dX3_squares_7 rfl ?_
  refine J_icmp_geN (tgt := 37) (pc := 8) dX3_squares_8 (by decide) (by omega) (by omega) (fun c8 => by exfalso; first | omega | simp_all) (fun c8 => ?_)
  refine J_lload_n (i := 2) (pc := 11) dX3_squares_11 rfl rfl ?_
  refine J_aload_n (i := 0) (pc := 12) dX3_squares_12 rfl rfl ?_
  refine J_iload_n (i := 1) (pc := 13) dX3_squares_13 rfl rfl ?_
  refine J_iload (i := 4) (pc := 14) dX3_squares_14 rfl ?_
  refine J_cVi (st := [.long (lN (((0) + ((ofS β s 0) * (ofS β s 0))) + ((ofS β s 1) * (ofS β s 1))))]) (As := [.int (nI (s)), .int (nI (2))]) (pc := 16) dX3_squares_16 okX3_ofSort q3_215 q3_217 qs2_2 (rfl : vwCl[3]? = some _) m53 rfl (Nat.le_of_ble_eq_true rfl) (Nat.le_of_ble_eq_true rfl) (m_ofSort hM (by omega) (by omega)) ?_
  refine J_i2lN (pc := 19) dX3_squares_19 (by omega) ?_
  refine J_aload_n (i := 0) (pc := 20) dX3_squares_20 rfl rfl ?_
  refine J_iload_n (i := 1) (pc := 21) dX3_squares_21 rfl rfl ?_
  refine J_iload (i := 4) (pc := 22) dX3_squares_22 rfl ?_
  refine J_cVi (st := [.long (lN (ofS β s 2)), .long (lN (((0) + ((ofS β s 0) * (ofS β s 0))) + ((ofS β s 1) * (ofS β s 1))))]) (As := [.int (nI (s)), .int (nI (2))]) (pc := 24) dX3_squares_24 okX3_ofSort q3_215 q3_217 qs2_2 (rfl : vwCl[3]? = some _) m53 rfl (Nat.le_of_ble_eq_true rfl) (Nat.le_of_ble_eq_true rfl) (m_ofSort hM (by omega) (by omega)) ?_
  refine J_i2lN (pc := 27) dX3_squares_27 (by omega) ?_
  refine J_lmulN (pc := 28) dX3_squares_28 ?_
  refine J_laddN (pc := 29) dX3_squares_29 ?_
  refine J_lstore_n (i := 2) (lv' := [(2, .long (lN ((((0) + ((ofS β s 0) * (ofS β s 0))) + ((ofS β s 1) * (ofS β s 1))) + ((ofS β s 2) * (ofS β s 2))))), (4, .int (nI (2))), (0, .ref (53)), (1, .int (nI (s)))]) (pc := 30) dX3_squares_30 rfl (by decide) rfl ?_
  refine J_iinc (i := 4) (v := nI (3)) (lv' := [(4, .int (nI (3))), (2, .long (lN ((((0) + ((ofS β s 0) * (ofS β s 0))) + ((ofS β s 1) * (ofS β s 1))) + ((ofS β s 2) * (ofS β s 2))))), (0, .ref (53)), (1, .int (nI (s)))]) (pc := 31) dX3_squares_31 rfl rfl (by decide) rfl ?_
  refine J_goto (tgt := 5) (pc := 34) dX3_squares_34 (by decide) ?_
  refine J_iload (i := 4) (pc := 5) dX3_squares_5 rfl ?_
  refine J_iconst (v := nI (3)) (pc := 7) dX3_squares_7 rfl ?_
  refine J_icmp_geN (tgt := 37) (pc := 8) dX3_squares_8 (by decide) (by omega) (by omega) (fun c8 => ?_) (fun c8 => by exfalso; first | omega | simp_all)
  refine J_lload_n (i := 2) (pc := 37) dX3_squares_37 rfl rfl ?_
  refine J_lret (pc := 38) dX3_squares_38 rfl ?_
  exact ⟨congrArg (fun z : Nat => (Sum.inl (some (Value.long (lN z))) : RT)) (by unfold sqs; omega), rfl⟩

set_option maxHeartbeats 2000000 in
set_option maxRecDepth 20000 in
theorem m_sortOf {g : GT} {d : Nat} {h : MH} {β : BT} (hM : MS h β) {s : Nat} (hs : s < 2 ^ 20) : J g (d + 2) 0 0 mX3_sortOf 0 (lv_args 0 [.ref (53), .int (nI (s))]) [] h (RI (nI (mostS β s)) h) := by
  obtain ⟨hW, ⟨th, dq, lq, kk, m53⟩, ⟨mf, m54, em⟩, ⟨sf, m55, es⟩⟩ := id hM
  obtain ⟨hn, hc9, hm5, hs2⟩ := id hW
  have hp9 := pw_le hn
  have h0 := ofS_le β s 0
  have h1 := ofS_le β s 1
  have h2 := ofS_le β s 2
  refine J_iconst (v := nI (0)) (pc := 0) dX3_sortOf_0 rfl ?_
  refine J_istore_n (i := 2) (lv' := [(2, .int (nI (0))), (0, .ref (53)), (1, .int (nI (s)))]) (pc := 1) dX3_sortOf_1 rfl (by decide) rfl ?_
  refine J_iconst (v := nI (1)) (pc := 2) dX3_sortOf_2 rfl ?_
  refine J_istore_n (i := 3) (lv' := [(3, .int (nI (1))), (2, .int (nI (0))), (0, .ref (53)), (1, .int (nI (s)))]) (pc := 3) dX3_sortOf_3 rfl (by decide) rfl ?_
  refine J_iload_n (i := 3) (pc := 4) dX3_sortOf_4 rfl rfl ?_
  refine J_iconst (v := nI (3)) (pc := 5) dX3_sortOf_5 rfl ?_
  refine J_icmp_geN (tgt := 32) (pc := 6) dX3_sortOf_6 (by decide) (by omega) (by omega) (fun c6 => by exfalso; first | omega | simp_all) (fun c6 => ?_)
  refine J_aload_n (i := 0) (pc := 9) dX3_sortOf_9 rfl rfl ?_
  refine J_iload_n (i := 1) (pc := 10) dX3_sortOf_10 rfl rfl ?_
  refine J_iload_n (i := 3) (pc := 11) dX3_sortOf_11 rfl rfl ?_
  refine J_cVi (st := []) (As := [.int (nI (s)), .int (nI (1))]) (pc := 12) dX3_sortOf_12 okX3_ofSort q3_215 q3_217 qs2_2 (rfl : vwCl[3]? = some _) m53 rfl (Nat.le_of_ble_eq_true rfl) (Nat.le_of_ble_eq_true rfl) (m_ofSort hM (by omega) (by omega)) ?_
  refine J_aload_n (i := 0) (pc := 15) dX3_sortOf_15 rfl rfl ?_
  refine J_iload_n (i := 1) (pc := 16) dX3_sortOf_16 rfl rfl ?_
  refine J_iload_n (i := 2) (pc := 17) dX3_sortOf_17 rfl rfl ?_
  refine J_cVi (st := [.int (nI (ofS β s 1))]) (As := [.int (nI (s)), .int (nI (0))]) (pc := 18) dX3_sortOf_18 okX3_ofSort q3_215 q3_217 qs2_2 (rfl : vwCl[3]? = some _) m53 rfl (Nat.le_of_ble_eq_true rfl) (Nat.le_of_ble_eq_true rfl) (m_ofSort hM (by omega) (by omega)) ?_
  refine J_icmp_leN (tgt := 26) (pc := 21) dX3_sortOf_21 (by decide) (by omega) (by omega) (fun c21 => ?_) (fun c21 => ?_)
  · skip
    refine J_iinc (i := 3) (v := nI (2)) (lv' := [(3, .int (nI (2))), (2, .int (nI (0))), (0, .ref (53)), (1, .int (nI (s)))]) (pc := 26) dX3_sortOf_26 rfl rfl (by decide) rfl ?_
    refine J_goto (tgt := 4) (pc := 29) dX3_sortOf_29 (by decide) ?_
    refine J_iload_n (i := 3) (pc := 4) dX3_sortOf_4 rfl rfl ?_
    refine J_iconst (v := nI (3)) (pc := 5) dX3_sortOf_5 rfl ?_
    refine J_icmp_geN (tgt := 32) (pc := 6) dX3_sortOf_6 (by decide) (by omega) (by omega) (fun c6 => by exfalso; first | omega | simp_all) (fun c6 => ?_)
    refine J_aload_n (i := 0) (pc := 9) dX3_sortOf_9 rfl rfl ?_
    refine J_iload_n (i := 1) (pc := 10) dX3_sortOf_10 rfl rfl ?_
    refine J_iload_n (i := 3) (pc := 11) dX3_sortOf_11 rfl rfl ?_
    refine J_cVi (st := []) (As := [.int (nI (s)), .int (nI (2))]) (pc := 12) dX3_sortOf_12 okX3_ofSort q3_215 q3_217 qs2_2 (rfl : vwCl[3]? = some _) m53 rfl (Nat.le_of_ble_eq_true rfl) (Nat.le_of_ble_eq_true rfl) (m_ofSort hM (by omega) (by omega)) ?_
    refine J_aload_n (i := 0) (pc := 15) dX3_sortOf_15 rfl rfl ?_
    refine J_iload_n (i := 1) (pc := 16) dX3_sortOf_16 rfl rfl ?_
    refine J_iload_n (i := 2) (pc := 17) dX3_sortOf_17 rfl rfl ?_
    refine J_cVi (st := [.int (nI (ofS β s 2))]) (As := [.int (nI (s)), .int (nI (0))]) (pc := 18) dX3_sortOf_18 okX3_ofSort q3_215 q3_217 qs2_2 (rfl : vwCl[3]? = some _) m53 rfl (Nat.le_of_ble_eq_true rfl) (Nat.le_of_ble_eq_true rfl) (m_ofSort hM (by omega) (by omega)) ?_
    refine J_icmp_leN (tgt := 26) (pc := 21) dX3_sortOf_21 (by decide) (by omega) (by omega) (fun c21 => ?_) (fun c21 => ?_)
    · skip
      refine J_iinc (i := 3) (v := nI (3)) (lv' := [(3, .int (nI (3))), (2, .int (nI (0))), (0, .ref (53)), (1, .int (nI (s)))]) (pc := 26) dX3_sortOf_26 rfl rfl (by decide) rfl ?_
      refine J_goto (tgt := 4) (pc := 29) dX3_sortOf_29 (by decide) ?_
      refine J_iload_n (i := 3) (pc := 4) dX3_sortOf_4 rfl rfl ?_
      refine J_iconst (v := nI (3)) (pc := 5) dX3_sortOf_5 rfl ?_
      refine J_icmp_geN (tgt := 32) (pc := 6) dX3_sortOf_6 (by decide) (by omega) (by omega) (fun c6 => ?_) (fun c6 => by exfalso; first | omega | simp_all)
      refine J_iload_n (i := 2) (pc := 32) dX3_sortOf_32 rfl rfl ?_
      refine J_iret (ty := .int) (pc := 33) dX3_sortOf_33 rfl rfl ?_
      exact ⟨congrArg (fun z : Int32 => (Sum.inl (some (Value.int z)) : RT)) (by congr 1; unfold mostS mostA; (repeat' split) <;> omega), rfl⟩
    · skip
      refine J_iload_n (i := 3) (pc := 24) dX3_sortOf_24 rfl rfl ?_
      refine J_istore_n (i := 2) (lv' := [(2, .int (nI (2))), (3, .int (nI (2))), (0, .ref (53)), (1, .int (nI (s)))]) (pc := 25) dX3_sortOf_25 rfl (by decide) rfl ?_
      refine J_iinc (i := 3) (v := nI (3)) (lv' := [(3, .int (nI (3))), (2, .int (nI (2))), (0, .ref (53)), (1, .int (nI (s)))]) (pc := 26) dX3_sortOf_26 rfl rfl (by decide) rfl ?_
      refine J_goto (tgt := 4) (pc := 29) dX3_sortOf_29 (by decide) ?_
      refine J_iload_n (i := 3) (pc := 4) dX3_sortOf_4 rfl rfl ?_
      refine J_iconst (v := nI (3)) (pc := 5) dX3_sortOf_5 rfl ?_
      refine J_icmp_geN (tgt := 32) (pc := 6) dX3_sortOf_6 (by decide) (by omega) (by omega) (fun c6 => ?_) (fun c6 => by exfalso; first | omega | simp_all)
      refine J_iload_n (i := 2) (pc := 32) dX3_sortOf_32 rfl rfl ?_
      refine J_iret (ty := .int) (pc := 33) dX3_sortOf_33 rfl rfl ?_
      exact ⟨congrArg (fun z : Int32 => (Sum.inl (some (Value.int z)) : RT)) (by congr 1; unfold mostS mostA; (repeat' split) <;> omega), rfl⟩
  · skip
    refine J_iload_n (i := 3) (pc := 24) dX3_sortOf_24 rfl rfl ?_
    refine J_istore_n (i := 2) (lv' := [(2, .int (nI (1))), (3, .int (nI (1))), (0, .ref (53)), (1, .int (nI (s)))]) (pc := 25) dX3_sortOf_25 rfl (by decide) rfl ?_
    refine J_iinc (i := 3) (v := nI (2)) (lv' := [(3, .int (nI (2))), (2, .int (nI (1))), (0, .ref (53)), (1, .int (nI (s)))]) (pc := 26) dX3_sortOf_26 rfl rfl (by decide) rfl ?_
    refine J_goto (tgt := 4) (pc := 29) dX3_sortOf_29 (by decide) ?_
    refine J_iload_n (i := 3) (pc := 4) dX3_sortOf_4 rfl rfl ?_
    refine J_iconst (v := nI (3)) (pc := 5) dX3_sortOf_5 rfl ?_
    refine J_icmp_geN (tgt := 32) (pc := 6) dX3_sortOf_6 (by decide) (by omega) (by omega) (fun c6 => by exfalso; first | omega | simp_all) (fun c6 => ?_)
    refine J_aload_n (i := 0) (pc := 9) dX3_sortOf_9 rfl rfl ?_
    refine J_iload_n (i := 1) (pc := 10) dX3_sortOf_10 rfl rfl ?_
    refine J_iload_n (i := 3) (pc := 11) dX3_sortOf_11 rfl rfl ?_
    refine J_cVi (st := []) (As := [.int (nI (s)), .int (nI (2))]) (pc := 12) dX3_sortOf_12 okX3_ofSort q3_215 q3_217 qs2_2 (rfl : vwCl[3]? = some _) m53 rfl (Nat.le_of_ble_eq_true rfl) (Nat.le_of_ble_eq_true rfl) (m_ofSort hM (by omega) (by omega)) ?_
    refine J_aload_n (i := 0) (pc := 15) dX3_sortOf_15 rfl rfl ?_
    refine J_iload_n (i := 1) (pc := 16) dX3_sortOf_16 rfl rfl ?_
    refine J_iload_n (i := 2) (pc := 17) dX3_sortOf_17 rfl rfl ?_
    refine J_cVi (st := [.int (nI (ofS β s 2))]) (As := [.int (nI (s)), .int (nI (1))]) (pc := 18) dX3_sortOf_18 okX3_ofSort q3_215 q3_217 qs2_2 (rfl : vwCl[3]? = some _) m53 rfl (Nat.le_of_ble_eq_true rfl) (Nat.le_of_ble_eq_true rfl) (m_ofSort hM (by omega) (by omega)) ?_
    refine J_icmp_leN (tgt := 26) (pc := 21) dX3_sortOf_21 (by decide) (by omega) (by omega) (fun c21 => ?_) (fun c21 => ?_)
    · skip
      refine J_iinc (i := 3) (v := nI (3)) (lv' := [(3, .int (nI (3))), (2, .int (nI (1))), (0, .ref (53)), (1, .int (nI (s)))]) (pc := 26) dX3_sortOf_26 rfl rfl (by decide) rfl ?_
      refine J_goto (tgt := 4) (pc := 29) dX3_sortOf_29 (by decide) ?_
      refine J_iload_n (i := 3) (pc := 4) dX3_sortOf_4 rfl rfl ?_
      refine J_iconst (v := nI (3)) (pc := 5) dX3_sortOf_5 rfl ?_
      refine J_icmp_geN (tgt := 32) (pc := 6) dX3_sortOf_6 (by decide) (by omega) (by omega) (fun c6 => ?_) (fun c6 => by exfalso; first | omega | simp_all)
      refine J_iload_n (i := 2) (pc := 32) dX3_sortOf_32 rfl rfl ?_
      refine J_iret (ty := .int) (pc := 33) dX3_sortOf_33 rfl rfl ?_
      exact ⟨congrArg (fun z : Int32 => (Sum.inl (some (Value.int z)) : RT)) (by congr 1; unfold mostS mostA; (repeat' split) <;> omega), rfl⟩
    · skip
      refine J_iload_n (i := 3) (pc := 24) dX3_sortOf_24 rfl rfl ?_
      refine J_istore_n (i := 2) (lv' := [(2, .int (nI (2))), (3, .int (nI (2))), (0, .ref (53)), (1, .int (nI (s)))]) (pc := 25) dX3_sortOf_25 rfl (by decide) rfl ?_
      refine J_iinc (i := 3) (v := nI (3)) (lv' := [(3, .int (nI (3))), (2, .int (nI (2))), (0, .ref (53)), (1, .int (nI (s)))]) (pc := 26) dX3_sortOf_26 rfl rfl (by decide) rfl ?_
      refine J_goto (tgt := 4) (pc := 29) dX3_sortOf_29 (by decide) ?_
      refine J_iload_n (i := 3) (pc := 4) dX3_sortOf_4 rfl rfl ?_
      refine J_iconst (v := nI (3)) (pc := 5) dX3_sortOf_5 rfl ?_
      refine J_icmp_geN (tgt := 32) (pc := 6) dX3_sortOf_6 (by decide) (by omega) (by omega) (fun c6 => ?_) (fun c6 => by exfalso; first | omega | simp_all)
      refine J_iload_n (i := 2) (pc := 32) dX3_sortOf_32 rfl rfl ?_
      refine J_iret (ty := .int) (pc := 33) dX3_sortOf_33 rfl rfl ?_
      exact ⟨congrArg (fun z : Int32 => (Sum.inl (some (Value.int z)) : RT)) (by congr 1; unfold mostS mostA; (repeat' split) <;> omega), rfl⟩

theorem msk_low (β : BT) (s m x : Nat) : msk (fun k => s.testBit k && decide (β.2.2.1 m k ≤ x)) β.1 = s &&& mkL β m x := by
  apply Nat.eq_of_testBit_eq
  intro i
  rw [msk_bit, Nat.testBit_and]
  have e : (mkL β m x).testBit i = (decide (i < β.1) && decide (β.2.2.1 m i ≤ x)) := msk_bit _ _ _
  rw [e]
  cases s.testBit i <;> cases decide (i < β.1) <;> cases decide (β.2.2.1 m i ≤ x) <;> rfl

set_option maxHeartbeats 2000000 in
set_option maxRecDepth 20000 in
theorem ml_loop {g : GT} {d : Nat} {h : MH} {β : BT} (hM : MS h β) {s m x : Nat} (hs : s < 2 ^ 20) (hm : m < 3) (hx : x < 1000) : ∀ (k b : Nat), b + k = β.1 → J g (d + 1) 0 0 mX3_lowOf 6 [(5, .int (nI (b))), (4, .int (nI (msk (fun k => s.testBit k && decide (β.2.2.1 m k ≤ x)) b))), (0, .ref (53)), (1, .int (nI (s))), (2, .int (nI (m))), (3, .int (nI (x)))] [] h (RI (nI (s &&& mkL β m x)) h) := by
  obtain ⟨hW, ⟨th, dq, lq, kk, m53⟩, ⟨mf, m54, em⟩, ⟨sf, m55, es⟩⟩ := id hM
  obtain ⟨hn, hc9, hm5, hs2⟩ := id hW
  have hp9 := pw_le hn
  intro k
  induction k with
  | zero =>
    intro b hb
    obtain rfl : b = β.1 := by omega
    refine J_iload (i := 5) (pc := 6) dX3_lowOf_6 rfl ?_
    refine J_aload_n (i := 0) (pc := 8) dX3_lowOf_8 rfl rfl ?_
    refine J_getf (k := 1) (pc := 9) dX3_lowOf_9 flX3_44 m53 rfl ?_
    refine J_icmp_geN (tgt := 54) (pc := 12) dX3_lowOf_12 (by decide) (by omega) (by omega) (fun c12 => ?_) (fun c12 => by exfalso; first | omega | simp_all)
    refine J_iload (i := 4) (pc := 54) dX3_lowOf_54 rfl ?_
    refine J_iret (ty := .int) (pc := 56) dX3_lowOf_56 rfl rfl ?_
    exact ⟨congrArg (fun z : Int32 => (Sum.inl (some (Value.int z)) : RT)) (by rw [msk_low]), rfl⟩
  | succ k ih =>
    intro b hk
    have hb : b < β.1 := by omega
    have hmm := hm5 m b hb
    refine J_iload (i := 5) (pc := 6) dX3_lowOf_6 rfl ?_
    refine J_aload_n (i := 0) (pc := 8) dX3_lowOf_8 rfl rfl ?_
    refine J_getf (k := 1) (pc := 9) dX3_lowOf_9 flX3_44 m53 rfl ?_
    refine J_icmp_geN (tgt := 54) (pc := 12) dX3_lowOf_12 (by decide) (by omega) (by omega) (fun c12 => by exfalso; first | omega | simp_all) (fun c12 => ?_)
    refine J_iload (i := 4) (pc := 15) dX3_lowOf_15 rfl ?_
    refine J_iload_n (i := 1) (pc := 17) dX3_lowOf_17 rfl rfl ?_
    refine J_iload (i := 5) (pc := 18) dX3_lowOf_18 rfl ?_
    refine J_cSi (st := [.int (nI (msk (fun k => s.testBit k && decide (β.2.2.1 m k ≤ x)) b))]) (As := [.int (nI (s)), .int (nI (b))]) (pc := 20) dX3_lowOf_20 okX3_has q3_184 q3_185 rfl (Nat.le_of_ble_eq_true rfl) (Nat.le_of_ble_eq_true rfl) (m_has (by omega) (by omega)) ?_
    refine J_if_eqB (tgt := 44) (pc := 23) dX3_lowOf_23 (by decide) (fun c23 => ?_) (fun c23 => ?_)
    · skip
      refine J_iconst (v := nI (0)) (pc := 44) dX3_lowOf_44 rfl ?_
      refine J_iorN (pc := 45) dX3_lowOf_45 ?_
      refine J_istore (i := 4) (lv' := [(4, .int (nI ((msk (fun k => s.testBit k && decide (β.2.2.1 m k ≤ x)) b) ||| (0)))), (5, .int (nI (b))), (0, .ref (53)), (1, .int (nI (s))), (2, .int (nI (m))), (3, .int (nI (x)))]) (pc := 46) dX3_lowOf_46 (by decide) rfl ?_
      refine J_iinc (i := 5) (v := nI (b + 1)) (lv' := [(5, .int (nI (b + 1))), (4, .int (nI ((msk (fun k => s.testBit k && decide (β.2.2.1 m k ≤ x)) b) ||| (0)))), (0, .ref (53)), (1, .int (nI (s))), (2, .int (nI (m))), (3, .int (nI (x)))]) (pc := 48) dX3_lowOf_48 rfl (nI_add (b) 1) (by decide) rfl ?_
      refine J_goto (tgt := 6) (pc := 51) dX3_lowOf_51 (by decide) ?_
      refine J_sub (lv' := [(5, .int (nI (b + 1))), (4, .int (nI ((msk (fun k => s.testBit k && decide (β.2.2.1 m k ≤ x)) b) ||| (0)))), (0, .ref (53)), (1, .int (nI (s))), (2, .int (nI (m))), (3, .int (nI (x)))]) [0, 1, 2, 3, 4, 5] rfl ?_
      rw [show msk (fun k => s.testBit k && decide (β.2.2.1 m k ≤ x)) b ||| 0 = msk (fun k => s.testBit k && decide (β.2.2.1 m k ≤ x)) (b + 1) from by rw [Nat.or_zero, msk, if_neg (by first | (rw [c23]; simp; done) | (rw [decide_eq_false (by omega)]; simp; done)), Nat.add_zero]]
      exact ih (b + 1) (by omega)
    · skip
      refine J_aload_n (i := 0) (pc := 26) dX3_lowOf_26 rfl rfl ?_
      refine J_iload (i := 5) (pc := 27) dX3_lowOf_27 rfl ?_
      refine J_iload_n (i := 2) (pc := 29) dX3_lowOf_29 rfl rfl ?_
      refine J_cVi (st := [.int (nI (msk (fun k => s.testBit k && decide (β.2.2.1 m k ≤ x)) b))]) (As := [.int (nI (b)), .int (nI (m))]) (pc := 30) dX3_lowOf_30 okX3_measure q3_231 q3_233 qs2_6 (rfl : vwCl[3]? = some _) m53 rfl (Nat.le_of_ble_eq_true rfl) (Nat.le_of_ble_eq_true rfl) (m_measure hM (by omega) (by omega)) ?_
      refine J_iload_n (i := 3) (pc := 33) dX3_lowOf_33 rfl rfl ?_
      refine J_icmp_gtN (tgt := 44) (pc := 34) dX3_lowOf_34 (by decide) (by omega) (by omega) (fun c34 => ?_) (fun c34 => ?_)
      · skip
        refine J_iconst (v := nI (0)) (pc := 44) dX3_lowOf_44 rfl ?_
        refine J_iorN (pc := 45) dX3_lowOf_45 ?_
        refine J_istore (i := 4) (lv' := [(4, .int (nI ((msk (fun k => s.testBit k && decide (β.2.2.1 m k ≤ x)) b) ||| (0)))), (5, .int (nI (b))), (0, .ref (53)), (1, .int (nI (s))), (2, .int (nI (m))), (3, .int (nI (x)))]) (pc := 46) dX3_lowOf_46 (by decide) rfl ?_
        refine J_iinc (i := 5) (v := nI (b + 1)) (lv' := [(5, .int (nI (b + 1))), (4, .int (nI ((msk (fun k => s.testBit k && decide (β.2.2.1 m k ≤ x)) b) ||| (0)))), (0, .ref (53)), (1, .int (nI (s))), (2, .int (nI (m))), (3, .int (nI (x)))]) (pc := 48) dX3_lowOf_48 rfl (nI_add (b) 1) (by decide) rfl ?_
        refine J_goto (tgt := 6) (pc := 51) dX3_lowOf_51 (by decide) ?_
        refine J_sub (lv' := [(5, .int (nI (b + 1))), (4, .int (nI ((msk (fun k => s.testBit k && decide (β.2.2.1 m k ≤ x)) b) ||| (0)))), (0, .ref (53)), (1, .int (nI (s))), (2, .int (nI (m))), (3, .int (nI (x)))]) [0, 1, 2, 3, 4, 5] rfl ?_
        rw [show msk (fun k => s.testBit k && decide (β.2.2.1 m k ≤ x)) b ||| 0 = msk (fun k => s.testBit k && decide (β.2.2.1 m k ≤ x)) (b + 1) from by rw [Nat.or_zero, msk, if_neg (by first | (rw [c23]; simp; done) | (rw [decide_eq_false (by omega)]; simp; done)), Nat.add_zero]]
        exact ih (b + 1) (by omega)
      · skip
        refine J_iconst (v := nI (1)) (pc := 37) dX3_lowOf_37 rfl ?_
        refine J_iload (i := 5) (pc := 38) dX3_lowOf_38 rfl ?_
        refine J_ishlN (pc := 40) dX3_lowOf_40 (by omega) ?_
        refine J_goto (tgt := 45) (pc := 41) dX3_lowOf_41 (by decide) ?_
        refine J_iorN (pc := 45) dX3_lowOf_45 ?_
        refine J_istore (i := 4) (lv' := [(4, .int (nI ((msk (fun k => s.testBit k && decide (β.2.2.1 m k ≤ x)) b) ||| (2 ^ (b))))), (5, .int (nI (b))), (0, .ref (53)), (1, .int (nI (s))), (2, .int (nI (m))), (3, .int (nI (x)))]) (pc := 46) dX3_lowOf_46 (by decide) rfl ?_
        refine J_iinc (i := 5) (v := nI (b + 1)) (lv' := [(5, .int (nI (b + 1))), (4, .int (nI ((msk (fun k => s.testBit k && decide (β.2.2.1 m k ≤ x)) b) ||| (2 ^ (b))))), (0, .ref (53)), (1, .int (nI (s))), (2, .int (nI (m))), (3, .int (nI (x)))]) (pc := 48) dX3_lowOf_48 rfl (nI_add (b) 1) (by decide) rfl ?_
        refine J_goto (tgt := 6) (pc := 51) dX3_lowOf_51 (by decide) ?_
        refine J_sub (lv' := [(5, .int (nI (b + 1))), (4, .int (nI ((msk (fun k => s.testBit k && decide (β.2.2.1 m k ≤ x)) b) ||| (2 ^ (b))))), (0, .ref (53)), (1, .int (nI (s))), (2, .int (nI (m))), (3, .int (nI (x)))]) [0, 1, 2, 3, 4, 5] rfl ?_
        rw [show msk (fun k => s.testBit k && decide (β.2.2.1 m k ≤ x)) b ||| 2 ^ b = msk (fun k => s.testBit k && decide (β.2.2.1 m k ≤ x)) (b + 1) from by rw [msk_or, msk, if_pos (by rw [c23, decide_eq_true c34]; rfl)]]
        exact ih (b + 1) (by omega)
theorem m_lowOf {g : GT} {d : Nat} {h : MH} {β : BT} (hM : MS h β) {s m x : Nat} (hs : s < 2 ^ 20) (hm : m < 3) (hx : x < 1000) : J g (d + 1) 0 0 mX3_lowOf 0 (lv_args 0 [.ref 53, .int (nI s), .int (nI m), .int (nI x)]) [] h (RI (nI (s &&& mkL β m x)) h) := by
  refine J_iconst (v := nI (0)) (pc := 0) dX3_lowOf_0 rfl ?_
  refine J_istore (i := 4) (lv' := [(4, .int (nI (0))), (0, .ref (53)), (1, .int (nI (s))), (2, .int (nI (m))), (3, .int (nI (x)))]) (pc := 1) dX3_lowOf_1 (by decide) rfl ?_
  refine J_iconst (v := nI (0)) (pc := 3) dX3_lowOf_3 rfl ?_
  refine J_istore (i := 5) (lv' := [(5, .int (nI (0))), (4, .int (nI (0))), (0, .ref (53)), (1, .int (nI (s))), (2, .int (nI (m))), (3, .int (nI (x)))]) (pc := 4) dX3_lowOf_4 (by decide) rfl ?_
  refine J_sub (lv' := [(5, .int (nI (0))), (4, .int (nI (0))), (0, .ref (53)), (1, .int (nI (s))), (2, .int (nI (m))), (3, .int (nI (x)))]) [0, 1, 2, 3, 4, 5] rfl ?_
  exact ml_loop hM hs hm hx β.1 0 (Nat.zero_add _)

set_option maxHeartbeats 2000000 in
set_option maxRecDepth 20000 in
theorem mz_loop {g : GT} {d : Nat} {h : MH} {β : BT} (hM : MS h β) {s m : Nat} (hs : s < 2 ^ 20) (hm : m < 3) : ∀ (k b : Nat), b + k = β.1 → J g (d + 1) 0 0 mX3_lowOf 6 [(5, .int (nI (b))), (4, .int (nI (0))), (0, .ref (53)), (1, .int (nI (s))), (2, .int (nI (m))), (3, .int (-1))] [] h (RI (nI 0) h) := by
  obtain ⟨hW, ⟨th, dq, lq, kk, m53⟩, ⟨mf, m54, em⟩, ⟨sf, m55, es⟩⟩ := id hM
  obtain ⟨hn, hc9, hm5, hs2⟩ := id hW
  have hp9 := pw_le hn
  intro k
  induction k with
  | zero =>
    intro b hb
    refine J_iload (i := 5) (pc := 6) dX3_lowOf_6 rfl ?_
    refine J_aload_n (i := 0) (pc := 8) dX3_lowOf_8 rfl rfl ?_
    refine J_getf (k := 1) (pc := 9) dX3_lowOf_9 flX3_44 m53 rfl ?_
    refine J_icmp_geN (tgt := 54) (pc := 12) dX3_lowOf_12 (by decide) (by omega) (by omega) (fun c12 => ?_) (fun c12 => by exfalso; first | omega | simp_all)
    refine J_iload (i := 4) (pc := 54) dX3_lowOf_54 rfl ?_
    refine J_iret (ty := .int) (pc := 56) dX3_lowOf_56 rfl rfl ?_
    exact ⟨rfl, rfl⟩
  | succ k ih =>
    intro b hk
    have hb : b < β.1 := by omega
    have hmm := hm5 m b hb
    refine J_iload (i := 5) (pc := 6) dX3_lowOf_6 rfl ?_
    refine J_aload_n (i := 0) (pc := 8) dX3_lowOf_8 rfl rfl ?_
    refine J_getf (k := 1) (pc := 9) dX3_lowOf_9 flX3_44 m53 rfl ?_
    refine J_icmp_geN (tgt := 54) (pc := 12) dX3_lowOf_12 (by decide) (by omega) (by omega) (fun c12 => by exfalso; first | omega | simp_all) (fun c12 => ?_)
    refine J_iload (i := 4) (pc := 15) dX3_lowOf_15 rfl ?_
    refine J_iload_n (i := 1) (pc := 17) dX3_lowOf_17 rfl rfl ?_
    refine J_iload (i := 5) (pc := 18) dX3_lowOf_18 rfl ?_
    refine J_cSi (st := [.int (nI (0))]) (As := [.int (nI (s)), .int (nI (b))]) (pc := 20) dX3_lowOf_20 okX3_has q3_184 q3_185 rfl (Nat.le_of_ble_eq_true rfl) (Nat.le_of_ble_eq_true rfl) (m_has (by omega) (by omega)) ?_
    refine J_if_eqB (tgt := 44) (pc := 23) dX3_lowOf_23 (by decide) (fun c23 => ?_) (fun c23 => ?_)
    · skip
      refine J_iconst (v := nI (0)) (pc := 44) dX3_lowOf_44 rfl ?_
      refine J_iorN (pc := 45) dX3_lowOf_45 ?_
      refine J_istore (i := 4) (lv' := [(4, .int (nI ((0) ||| (0)))), (5, .int (nI (b))), (0, .ref (53)), (1, .int (nI (s))), (2, .int (nI (m))), (3, .int (-1))]) (pc := 46) dX3_lowOf_46 (by decide) rfl ?_
      refine J_iinc (i := 5) (v := nI (b + 1)) (lv' := [(5, .int (nI (b + 1))), (4, .int (nI ((0) ||| (0)))), (0, .ref (53)), (1, .int (nI (s))), (2, .int (nI (m))), (3, .int (-1))]) (pc := 48) dX3_lowOf_48 rfl (nI_add (b) 1) (by decide) rfl ?_
      refine J_goto (tgt := 6) (pc := 51) dX3_lowOf_51 (by decide) ?_
      refine J_sub (lv' := [(5, .int (nI (b + 1))), (4, .int (nI ((0) ||| (0)))), (0, .ref (53)), (1, .int (nI (s))), (2, .int (nI (m))), (3, .int (-1))]) [0, 1, 2, 3, 4, 5] rfl ?_
      exact ih (b + 1) (by omega)
    · skip
      refine J_aload_n (i := 0) (pc := 26) dX3_lowOf_26 rfl rfl ?_
      refine J_iload (i := 5) (pc := 27) dX3_lowOf_27 rfl ?_
      refine J_iload_n (i := 2) (pc := 29) dX3_lowOf_29 rfl rfl ?_
      refine J_cVi (st := [.int (nI (0))]) (As := [.int (nI (b)), .int (nI (m))]) (pc := 30) dX3_lowOf_30 okX3_measure q3_231 q3_233 qs2_6 (rfl : vwCl[3]? = some _) m53 rfl (Nat.le_of_ble_eq_true rfl) (Nat.le_of_ble_eq_true rfl) (m_measure hM (by omega) (by omega)) ?_
      refine J_iload_n (i := 3) (pc := 33) dX3_lowOf_33 rfl rfl ?_
      refine J_icmp_gt (tgt := 44) (pc := 34) dX3_lowOf_34 (by decide) (fun c34 => ?_) (fun c34 => absurd c34 (by show ¬ ¬ (-1 : Int32) < nI (β.2.2.1 m b); rw [Int32.lt_iff_toInt_lt, nI_toInt (by omega), m32]; omega))
      refine J_iconst (v := nI (0)) (pc := 44) dX3_lowOf_44 rfl ?_
      refine J_iorN (pc := 45) dX3_lowOf_45 ?_
      refine J_istore (i := 4) (lv' := [(4, .int (nI ((0) ||| (0)))), (5, .int (nI (b))), (0, .ref (53)), (1, .int (nI (s))), (2, .int (nI (m))), (3, .int (-1))]) (pc := 46) dX3_lowOf_46 (by decide) rfl ?_
      refine J_iinc (i := 5) (v := nI (b + 1)) (lv' := [(5, .int (nI (b + 1))), (4, .int (nI ((0) ||| (0)))), (0, .ref (53)), (1, .int (nI (s))), (2, .int (nI (m))), (3, .int (-1))]) (pc := 48) dX3_lowOf_48 rfl (nI_add (b) 1) (by decide) rfl ?_
      refine J_goto (tgt := 6) (pc := 51) dX3_lowOf_51 (by decide) ?_
      refine J_sub (lv' := [(5, .int (nI (b + 1))), (4, .int (nI ((0) ||| (0)))), (0, .ref (53)), (1, .int (nI (s))), (2, .int (nI (m))), (3, .int (-1))]) [0, 1, 2, 3, 4, 5] rfl ?_
      exact ih (b + 1) (by omega)
theorem m_lowZ {g : GT} {d : Nat} {h : MH} {β : BT} (hM : MS h β) {s m : Nat} (hs : s < 2 ^ 20) (hm : m < 3) : J g (d + 1) 0 0 mX3_lowOf 0 (lv_args 0 [.ref 53, .int (nI s), .int (nI m), .int (-1)]) [] h (RI (nI 0) h) := by
  refine J_iconst (v := nI (0)) (pc := 0) dX3_lowOf_0 rfl ?_
  refine J_istore (i := 4) (lv' := [(4, .int (nI (0))), (0, .ref (53)), (1, .int (nI (s))), (2, .int (nI (m))), (3, .int (-1))]) (pc := 1) dX3_lowOf_1 (by decide) rfl ?_
  refine J_iconst (v := nI (0)) (pc := 3) dX3_lowOf_3 rfl ?_
  refine J_istore (i := 5) (lv' := [(5, .int (nI (0))), (4, .int (nI (0))), (0, .ref (53)), (1, .int (nI (s))), (2, .int (nI (m))), (3, .int (-1))]) (pc := 4) dX3_lowOf_4 (by decide) rfl ?_
  refine J_sub (lv' := [(5, .int (nI (0))), (4, .int (nI (0))), (0, .ref (53)), (1, .int (nI (s))), (2, .int (nI (m))), (3, .int (-1))]) [0, 1, 2, 3, 4, 5] rfl ?_
  exact mz_loop hM hs hm β.1 0 (Nat.zero_add _)

def stp : Nat → Nat → Nat → Prop
  | 0, _, y => y = 0
  | m + 1, x, y => y = 0 ∨ stp m y (x % y)
theorem stp_ok : ∀ (k m x y : Nat), y < 2 ^ k → 2 * k ≤ m → stp m x y
  | 0, m, x, y, hy, hm => by
    obtain rfl : y = 0 := by omega
    cases m with
    | zero => rfl
    | succ m => exact Or.inl rfl
  | k + 1, m, x, y, hy, hm => by
    obtain ⟨m, rfl⟩ : ∃ z, m = z + 2 := ⟨m - 2, by omega⟩
    by_cases e : y = 0
    · exact Or.inl e
    · right
      by_cases e2 : x % y = 0
      · exact Or.inl e2
      · right
        have h2 : y % (x % y) < x % y := Nat.mod_lt _ (by omega)
        have h3 : x % y < y := Nat.mod_lt _ (by omega)
        have h4 := Nat.mod_add_div y (x % y)
        have h5 : 0 < y / (x % y) := Nat.div_pos (Nat.le_of_lt h3) (by omega)
        have h6 := Nat.le_mul_of_pos_right (x % y) h5
        exact stp_ok k m (x % y) (y % (x % y)) (by rw [Nat.pow_succ] at hy; omega) (by omega)
theorem lN_0 {y : Nat} (h : y < 2 ^ 31) : lg_cmp (lN y) (lN 0) = 0 ↔ y = 0 := by
  by_cases e : y = 0
  · subst e
    simp
    decide
  · refine ⟨fun q => ?_, fun q => absurd q e⟩
    have h1 := (lgc_le (a := y) (b := 0) (by omega) (by omega)).mp (by rw [q]; decide)
    omega

set_option maxHeartbeats 2000000 in
set_option maxRecDepth 20000 in
theorem m_div0 {g : GT} {d : Nat} {h : MH} : ∀ (m x y : Nat), stp m x y → x < 2 ^ 31 → y < 2 ^ 31 → J g (d + m) 0 0 mX3_divisor 0 (lv_args 0 [.long (lN x), .long (lN y)]) [] h (RJl (lN (Nat.gcd x y)) h) := by
  intro m
  induction m with
  | zero =>
    intro x y hm hx hy
    obtain rfl : y = 0 := hm
    rw [Nat.gcd_zero_right]
    refine J_lload_n (i := 2) (pc := 0) dX3_divisor_0 rfl rfl ?_
    refine J_lconst (v := lN 0) (pc := 1) dX3_divisor_1 rfl ?_
    refine J_lcmp (pc := 2) dX3_divisor_2 ?_
    refine J_if_ne (tgt := 10) (pc := 3) dX3_divisor_3 (by decide) (fun c3 => absurd c3 (fun q => q ((lN_0 (y := 0) (by decide)).mpr rfl))) (fun c3 => ?_)
    refine J_lload_n (i := 0) (pc := 6) dX3_divisor_6 rfl rfl ?_
    refine J_goto (tgt := 17) (pc := 7) dX3_divisor_7 (by decide) ?_
    refine J_lret (pc := 17) dX3_divisor_17 rfl ?_
    exact ⟨rfl, rfl⟩
  | succ m ih =>
    intro x y hm hx hy
    show J g (d + m + 1) 0 0 mX3_divisor 0 (lv_args 0 [.long (lN x), .long (lN y)]) [] h (RJl (lN (Nat.gcd x y)) h)
    by_cases hy0 : y = 0
    · subst hy0
      rw [Nat.gcd_zero_right]
      refine J_lload_n (i := 2) (pc := 0) dX3_divisor_0 rfl rfl ?_
      refine J_lconst (v := lN 0) (pc := 1) dX3_divisor_1 rfl ?_
      refine J_lcmp (pc := 2) dX3_divisor_2 ?_
      refine J_if_ne (tgt := 10) (pc := 3) dX3_divisor_3 (by decide) (fun c3 => absurd c3 (fun q => q ((lN_0 (y := 0) (by decide)).mpr rfl))) (fun c3 => ?_)
      refine J_lload_n (i := 0) (pc := 6) dX3_divisor_6 rfl rfl ?_
      refine J_goto (tgt := 17) (pc := 7) dX3_divisor_7 (by decide) ?_
      refine J_lret (pc := 17) dX3_divisor_17 rfl ?_
      exact ⟨rfl, rfl⟩
    · have hs : stp m y (x % y) := hm.resolve_left hy0
      have hlt : x % y < y := Nat.mod_lt _ (by omega)
      rw [show Nat.gcd x y = Nat.gcd y (x % y) from by rw [Nat.gcd_comm, Nat.gcd_rec, Nat.gcd_comm]]
      refine J_lload_n (i := 2) (pc := 0) dX3_divisor_0 rfl rfl ?_
      refine J_lconst (v := lN 0) (pc := 1) dX3_divisor_1 rfl ?_
      refine J_lcmp (pc := 2) dX3_divisor_2 ?_
      refine J_if_ne (tgt := 10) (pc := 3) dX3_divisor_3 (by decide) (fun c3 => ?_) (fun c3 => absurd c3 (fun q => hy0 ((lN_0 hy).mp (by omega))))
      refine J_lload_n (i := 2) (pc := 10) dX3_divisor_10 rfl rfl ?_
      refine J_lload_n (i := 0) (pc := 11) dX3_divisor_11 rfl rfl ?_
      refine J_lload_n (i := 2) (pc := 12) dX3_divisor_12 rfl rfl ?_
      refine J_lremN (pc := 13) dX3_divisor_13 (by omega) (by omega) (by omega) ?_
      refine J_cSl (st := []) (As := [.long (lN (y)), .long (lN ((x) % (y)))]) (pc := 14) dX3_divisor_14 okX3_divisor q4_101 q4_102 rfl (Nat.le_of_ble_eq_true rfl) (Nat.le_of_ble_eq_true rfl) (ih y (x % y) hs hy (by omega)) ?_
      refine J_lret (pc := 17) dX3_divisor_17 rfl ?_
      exact ⟨rfl, rfl⟩
theorem m_div {g : GT} {d : Nat} {h : MH} {x y : Nat} (hx : x < 2 ^ 20) (hy : y < 2 ^ 20) : J g (d + 40) 0 0 mX3_divisor 0 (lv_args 0 [.long (lN x), .long (lN y)]) [] h (RJl (lN (Nat.gcd x y)) h) := m_div0 40 x y (stp_ok 20 40 x y hy (by omega)) (by omega) (by omega)

