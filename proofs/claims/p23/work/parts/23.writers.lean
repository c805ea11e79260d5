-- the writers of Beans
def lfx (lf : Nat → Int32) (m x b : Nat) : Nat → Int32 := fun i => if m * 51 + x ≤ i ∧ i < m * 51 + 51 then lf i ||| nI (2 ^ b) else lf i
theorem lfx_end (lf : Nat → Int32) (m b : Nat) : lfx lf m 51 b = lf := by
  funext i
  unfold lfx
  rw [if_neg (by omega)]
theorem lfx_step (lf : Nat → Int32) (m x b : Nat) (hx : x < 51) : lfx (upd lf (m * 51 + x) (lf (m * 51 + x) ||| nI (2 ^ b))) m (x + 1) b = lfx lf m x b := by
  funext i
  unfold lfx upd
  by_cases e : i = m * 51 + x
  · subst e
    rw [if_neg (by omega), if_pos rfl, if_pos (by omega)]
  · rw [if_neg e]
    by_cases e2 : m * 51 + (x + 1) ≤ i ∧ i < m * 51 + 51
    · rw [if_pos e2, if_pos (by omega)]
    · rw [if_neg e2, if_neg (by omega)]

set_option maxHeartbeats 2000000 in
set_option maxRecDepth 20000 in
theorem am_loop {g : GT} {d n ck b m : Nat} {Q : RT → MH → Prop} (hb : b < 20) (hm : m < 3) : ∀ (k x : Nat) (h : MH) (lf : Nat → Int32), x + k = 51 → h.2 2 = some (oB 0 [.ref 3, .ref 7, .ref 8, .ref 9, .int (nI n), .int (nI ck)]) → h.2 9 = some (aI 153 lf) →
    (∀ h', h'.1 = h.1 → h'.2 9 = some (aI 153 (lfx lf m x b)) → (∀ i, i ≠ 9 → h'.2 i = h.2 i) → Q (.inl none) h') → J g d 0 0 mX0_addMeasure 12 [(4, .int (nI (x))), (0, .ref (2)), (1, .int (nI (b))), (2, .int (nI (m)))] [] h Q := by
  intro k
  induction k with
  | zero =>
    intro x h lf hx b2 b9 hk
    obtain rfl : x = 51 := by omega
    refine J_iload (i := 4) (pc := 12) dX0_addMeasure_12 rfl ?_
    refine J_bipush (v := nI (51)) (pc := 14) dX0_addMeasure_14 rfl ?_
    refine J_icmp_geN (tgt := 43) (pc := 16) dX0_addMeasure_16 (by decide) (by omega) (by omega) (fun c16 => ?_) (fun c16 => by exfalso; first | omega | simp_all)
    refine J_vret (pc := 43) dX0_addMeasure_43 rfl ?_
    exact hk h rfl (by rw [lfx_end]; exact b9) (fun i _ => rfl)
  | succ k ih =>
    intro x h lf hx b2 b9 hk
    refine J_iload (i := 4) (pc := 12) dX0_addMeasure_12 rfl ?_
    refine J_bipush (v := nI (51)) (pc := 14) dX0_addMeasure_14 rfl ?_
    refine J_icmp_geN (tgt := 43) (pc := 16) dX0_addMeasure_16 (by decide) (by omega) (by omega) (fun c16 => by exfalso; first | omega | simp_all) (fun c16 => ?_)
    refine J_aload_n (i := 0) (pc := 19) dX0_addMeasure_19 rfl rfl ?_
    refine J_getf (k := 3) (pc := 20) dX0_addMeasure_20 flX0_23 b2 rfl ?_
    refine J_iload_n (i := 2) (pc := 23) dX0_addMeasure_23 rfl rfl ?_
    refine J_bipush (v := nI (51)) (pc := 24) dX0_addMeasure_24 rfl ?_
    refine J_imulN (pc := 26) dX0_addMeasure_26 ?_
    refine J_iload (i := 4) (pc := 27) dX0_addMeasure_27 rfl ?_
    refine J_iaddN (pc := 29) dX0_addMeasure_29 ?_
    refine J_dup2 (pc := 30) dX0_addMeasure_30 rfl rfl ?_
    refine J_iald (j := ((m) * (51)) + x) (pc := 31) dX0_addMeasure_31 b9 rfl (by omega) (by omega) ?_
    refine J_iconst (v := nI (1)) (pc := 32) dX0_addMeasure_32 rfl ?_
    refine J_iload_n (i := 1) (pc := 33) dX0_addMeasure_33 rfl rfl ?_
    refine J_ishlN (pc := 34) dX0_addMeasure_34 (by omega) ?_
    refine J_ior (pc := 35) dX0_addMeasure_35 ?_
    refine J_iast (j := ((m) * (51)) + x) (pc := 36) dX0_addMeasure_36 b9 rfl (by omega) (by omega) ?_
    obtain ⟨h_1, eh_1⟩ : ∃ z : MH, z = (h.1, hset h.2 (9) (aI (153) (upd lf (((m) * (51)) + x) (((lf (((m) * (51)) + x)) ||| nI (2 ^ (b))))))) := ⟨_, rfl⟩
    refine J_heq (h2 := h_1) eh_1 ?_
    have H_2 : h_1.2 (2) = some (oB 0 [.ref (3), .ref (7), .ref (8), .ref (9), .int (nI (n)), .int (nI (ck))]) := (hs_n eh_1 (by omega)).trans b2
    have H_3 : h_1.2 (9) = some (aI (153) (upd lf (((m) * (51)) + x) (((lf (((m) * (51)) + x)) ||| nI (2 ^ (b)))))) := hs_s eh_1
    refine J_iinc (i := 4) (v := nI (x + 1)) (lv' := [(4, .int (nI (x + 1))), (0, .ref (2)), (1, .int (nI (b))), (2, .int (nI (m)))]) (pc := 37) dX0_addMeasure_37 rfl (nI_add (x) 1) (by decide) rfl ?_
    refine J_goto (tgt := 12) (pc := 40) dX0_addMeasure_40 (by decide) ?_
    refine J_sub (lv' := [(4, .int (nI (x + 1))), (0, .ref (2)), (1, .int (nI (b))), (2, .int (nI (m)))]) [0, 1, 2, 3] rfl ?_
    refine ih (x + 1) h_1 _ (by omega) H_2 H_3 ?_
    intro h' k1 k2 k3
    refine hk h' (k1.trans (by rw [eh_1])) ?_ (fun i hi => (k3 i hi).trans (hs_n eh_1 hi))
    rw [k2, lfx_step _ _ _ _ (by omega)]
theorem c_addMeasure {g : GT} {d n ck b m a : Nat} {h : MH} {f lf : Nat → Int32} (hb : b < 20) (hm : m < 3) (ha : a < 51) (b2 : h.2 2 = some (oB 0 [.ref 3, .ref 7, .ref 8, .ref 9, .int (nI n), .int (nI ck)])) (b3 : h.2 3 = some (aG 3 (fun i => if i < 3 then some (4 + i) else none))) (bm : h.2 (4 + m) = some (aI 20 f)) (b9 : h.2 9 = some (aI 153 lf)) :
    J g d 0 0 mX0_addMeasure 0 (lv_args 0 [.ref 2, .int (nI b), .int (nI m), .int (nI a)]) [] h (RV (fun h' => h'.1 = h.1 ∧ h'.2 (4 + m) = some (aI 20 (upd f b (nI a))) ∧ h'.2 9 = some (aI 153 (lfx lf m a b)) ∧ ∀ i, i ≠ 4 + m → i ≠ 9 → h'.2 i = h.2 i)) := by
  refine J_aload_n (i := 0) (pc := 0) dX0_addMeasure_0 rfl rfl ?_
  refine J_getf (k := 0) (pc := 1) dX0_addMeasure_1 flX0_11 b2 rfl ?_
  refine J_iload_n (i := 2) (pc := 4) dX0_addMeasure_4 rfl rfl ?_
  refine J_aald (j := m) (b := 4 + m) (pc := 5) dX0_addMeasure_5 (by decide) b3 rfl (by omega) (by omega) (if_pos hm) ?_
  refine J_iload_n (i := 1) (pc := 6) dX0_addMeasure_6 rfl rfl ?_
  refine J_iload_n (i := 3) (pc := 7) dX0_addMeasure_7 rfl rfl ?_
  refine J_iast (j := b) (pc := 8) dX0_addMeasure_8 bm rfl (by omega) (by omega) ?_
  obtain ⟨h_1, eh_1⟩ : ∃ z : MH, z = (h.1, hset h.2 (4 + m) (aI (20) (upd f (b) (nI (a))))) := ⟨_, rfl⟩
  refine J_heq (h2 := h_1) eh_1 ?_
  have H_2 : h_1.2 (3) = some (aG (3) ((fun i => if i < 3 then some (4 + i) else none))) := (hs_n eh_1 (by omega)).trans b3
  have H_3 : h_1.2 (2) = some (oB 0 [.ref (3), .ref (7), .ref (8), .ref (9), .int (nI (n)), .int (nI (ck))]) := (hs_n eh_1 (by omega)).trans b2
  have H_4 : h_1.2 (9) = some (aI (153) (lf)) := (hs_n eh_1 (by omega)).trans b9
  have H_5 : h_1.2 (4 + m) = some (aI (20) (upd f (b) (nI (a)))) := hs_s eh_1
  refine J_iload_n (i := 3) (pc := 9) dX0_addMeasure_9 rfl rfl ?_
  refine J_istore (i := 4) (lv' := [(4, .int (nI (a))), (0, .ref (2)), (1, .int (nI (b))), (2, .int (nI (m))), (3, .int (nI (a)))]) (pc := 10) dX0_addMeasure_10 (by decide) rfl ?_
  refine J_sub (lv' := [(4, .int (nI (a))), (0, .ref (2)), (1, .int (nI (b))), (2, .int (nI (m)))]) [0, 1, 2, 3] rfl ?_
  refine am_loop hb hm (51 - a) a h_1 lf (by omega) H_3 H_4 ?_
  intro h' k1 k2 k3
  exact ⟨rfl, k1.trans (by rw [eh_1]), (k3 _ (by omega)).trans H_5, k2, fun i i1 i2 => (k3 i i2).trans (hs_n eh_1 i1)⟩

set_option maxHeartbeats 2000000 in
set_option maxRecDepth 20000 in
theorem c_add0 {g : GT} {d n ck a b c s : Nat} {h : MH} {f0 f1 f2 sf tf lf : Nat → Int32} (hn : n < 20) (ha : a < 51) (hb : b < 51) (hc : c < 51) (hs : s < 3) (b2 : h.2 2 = some (oB 0 [.ref 3, .ref 7, .ref 8, .ref 9, .int (nI n), .int (nI ck)])) (b3 : h.2 3 = some (aG 3 (fun i => if i < 3 then some (4 + i) else none))) (b4 : h.2 4 = some (aI 20 f0)) (b5 : h.2 5 = some (aI 20 f1)) (b6 : h.2 6 = some (aI 20 f2))
    (b7 : h.2 7 = some (aI 20 sf)) (b8 : h.2 8 = some (aI 3 tf)) (b9 : h.2 9 = some (aI 153 lf)) :
    J g (d + 1) 0 0 mX0_add 0 (lv_args 0 [.ref 2, .int (nI a), .int (nI b), .int (nI c), .int (nI s)]) [] h (RH (nI n) (fun h' => h'.2 2 = some (oB 0 [.ref 3, .ref 7, .ref 8, .ref 9, .int (nI (n + 1)), .int (nI ck)]) ∧ h'.2 3 = some (aG 3 (fun i => if i < 3 then some (4 + i) else none)) ∧ h'.2 4 = some (aI 20 (upd f0 n (nI a))) ∧ h'.2 5 = some (aI 20 (upd f1 n (nI b))) ∧ h'.2 6 = some (aI 20 (upd f2 n (nI c))) ∧
      h'.2 7 = some (aI 20 (upd sf n (nI s))) ∧ h'.2 8 = some (aI 3 (upd tf s (tf s ||| nI (2 ^ n)))) ∧ h'.2 9 = some (aI 153 (lfx (lfx (lfx lf 0 a n) 1 b n) 2 c n)) ∧ Fr 2 9 h h')) := by
  refine J_aload_n (i := 0) (pc := 0) dX0_add_0 rfl rfl ?_
  refine J_getf (k := 4) (pc := 1) dX0_add_1 flX0_26 b2 rfl ?_
  refine J_istore (i := 5) (lv' := [(5, .int (nI (n))), (0, .ref (2)), (1, .int (nI (a))), (2, .int (nI (b))), (3, .int (nI (c))), (4, .int (nI (s)))]) (pc := 4) dX0_add_4 (by decide) rfl ?_
  refine J_aload_n (i := 0) (pc := 6) dX0_add_6 rfl rfl ?_
  refine J_dup (pc := 7) dX0_add_7 rfl ?_
  refine J_getf (k := 4) (pc := 8) dX0_add_8 flX0_26 b2 rfl ?_
  refine J_iconst (v := nI (1)) (pc := 11) dX0_add_11 rfl ?_
  refine J_iaddN (pc := 12) dX0_add_12 ?_
  refine J_putf (k := 4) (pc := 13) dX0_add_13 fpX0_add_26 (fun g => ⟨rfl, rfl⟩) b2 (Nat.le_of_ble_eq_true rfl) ?_
  obtain ⟨h_1, eh_1⟩ : ∃ z : MH, z = (h.1, hset h.2 (2) (oB 0 [.ref (3), .ref (7), .ref (8), .ref (9), .int (nI (n + 1)), .int (nI (ck))])) := ⟨_, rfl⟩
  refine J_heq (h2 := h_1) eh_1 ?_
  have H_2 : h_1.2 (2) = some (oB 0 [.ref (3), .ref (7), .ref (8), .ref (9), .int (nI (n + 1)), .int (nI (ck))]) := hs_s eh_1
  have H_3 : h_1.2 (3) = some (aG (3) ((fun i => if i < 3 then some (4 + i) else none))) := (hs_n eh_1 (by omega)).trans b3
  have H_4 : h_1.2 (4) = some (aI (20) (f0)) := (hs_n eh_1 (by omega)).trans b4
  have H_5 : h_1.2 (5) = some (aI (20) (f1)) := (hs_n eh_1 (by omega)).trans b5
  have H_6 : h_1.2 (6) = some (aI (20) (f2)) := (hs_n eh_1 (by omega)).trans b6
  have H_7 : h_1.2 (7) = some (aI (20) (sf)) := (hs_n eh_1 (by omega)).trans b7
  have H_8 : h_1.2 (8) = some (aI (3) (tf)) := (hs_n eh_1 (by omega)).trans b8
  have H_9 : h_1.2 (9) = some (aI (153) (lf)) := (hs_n eh_1 (by omega)).trans b9
  have H_10 : Fr (2) (9) h h_1 := by rw [eh_1]; exact Fr_st Fr_rfl (by omega) (by omega)
  refine J_aload_n (i := 0) (pc := 16) dX0_add_16 rfl rfl ?_
  refine J_iload (i := 5) (pc := 17) dX0_add_17 rfl ?_
  refine J_iconst (v := nI (0)) (pc := 19) dX0_add_19 rfl ?_
  refine J_iload_n (i := 1) (pc := 20) dX0_add_20 rfl rfl ?_
  refine J_cVv (st := []) (As := [.int (nI (n)), .int (nI (0)), .int (nI (a))]) (pc := 21) dX0_add_21 okX0_addMeasure q3_55 q3_57 qs1_12 (rfl : vwCl[0]? = some _) H_2 rfl (Nat.le_of_ble_eq_true rfl) (Nat.le_of_ble_eq_true rfl) (c_addMeasure (m := 0) (by omega) (by omega) (by omega) H_2 H_3 H_4 H_9) (fun h_11 q_12 => ?_)
  obtain ⟨x0, y0, z0, w0⟩ := q_12
  have H_13 : h_11.2 (2) = some (oB 0 [.ref (3), .ref (7), .ref (8), .ref (9), .int (nI (n + 1)), .int (nI (ck))]) := (w0 _ (by omega) (by omega)).trans H_2
  have H_14 : h_11.2 (3) = some (aG (3) ((fun i => if i < 3 then some (4 + i) else none))) := (w0 _ (by omega) (by omega)).trans H_3
  have H_15 : h_11.2 4 = some (aI 20 (upd f0 n (nI a))) := y0
  have H_16 : h_11.2 (5) = some (aI (20) (f1)) := (w0 _ (by omega) (by omega)).trans H_5
  have H_17 : h_11.2 (6) = some (aI (20) (f2)) := (w0 _ (by omega) (by omega)).trans H_6
  have H_18 : h_11.2 (7) = some (aI (20) (sf)) := (w0 _ (by omega) (by omega)).trans H_7
  have H_19 : h_11.2 (8) = some (aI (3) (tf)) := (w0 _ (by omega) (by omega)).trans H_8
  have H_20 : h_11.2 9 = some (aI 153 (lfx lf 0 a n)) := z0
  have H_21 : Fr 2 9 h h_11 := Fr_tr H_10 ⟨x0, fun i hi => w0 i (by omega) (by omega)⟩
  refine J_aload_n (i := 0) (pc := 24) dX0_add_24 rfl rfl ?_
  refine J_iload (i := 5) (pc := 25) dX0_add_25 rfl ?_
  refine J_iconst (v := nI (1)) (pc := 27) dX0_add_27 rfl ?_
  refine J_iload_n (i := 2) (pc := 28) dX0_add_28 rfl rfl ?_
  refine J_cVv (st := []) (As := [.int (nI (n)), .int (nI (1)), .int (nI (b))]) (pc := 29) dX0_add_29 okX0_addMeasure q3_55 q3_57 qs1_12 (rfl : vwCl[0]? = some _) H_13 rfl (Nat.le_of_ble_eq_true rfl) (Nat.le_of_ble_eq_true rfl) (c_addMeasure (m := 1) (by omega) (by omega) (by omega) H_13 H_14 H_16 H_20) (fun h_22 q_23 => ?_)
  obtain ⟨x1, y1, z1, w1⟩ := q_23
  have H_24 : h_22.2 (2) = some (oB 0 [.ref (3), .ref (7), .ref (8), .ref (9), .int (nI (n + 1)), .int (nI (ck))]) := (w1 _ (by omega) (by omega)).trans H_13
  have H_25 : h_22.2 (3) = some (aG (3) ((fun i => if i < 3 then some (4 + i) else none))) := (w1 _ (by omega) (by omega)).trans H_14
  have H_26 : h_22.2 (4) = some (aI (20) (upd f0 n (nI a))) := (w1 _ (by omega) (by omega)).trans H_15
  have H_27 : h_22.2 5 = some (aI 20 (upd f1 n (nI b))) := y1
  have H_28 : h_22.2 (6) = some (aI (20) (f2)) := (w1 _ (by omega) (by omega)).trans H_17
  have H_29 : h_22.2 (7) = some (aI (20) (sf)) := (w1 _ (by omega) (by omega)).trans H_18
  have H_30 : h_22.2 (8) = some (aI (3) (tf)) := (w1 _ (by omega) (by omega)).trans H_19
  have H_31 : h_22.2 9 = some (aI 153 (lfx (lfx lf 0 a n) 1 b n)) := z1
  have H_32 : Fr 2 9 h h_22 := Fr_tr H_21 ⟨x1, fun i hi => w1 i (by omega) (by omega)⟩
  refine J_aload_n (i := 0) (pc := 32) dX0_add_32 rfl rfl ?_
  refine J_iload (i := 5) (pc := 33) dX0_add_33 rfl ?_
  refine J_iconst (v := nI (2)) (pc := 35) dX0_add_35 rfl ?_
  refine J_iload_n (i := 3) (pc := 36) dX0_add_36 rfl rfl ?_
  refine J_cVv (st := []) (As := [.int (nI (n)), .int (nI (2)), .int (nI (c))]) (pc := 37) dX0_add_37 okX0_addMeasure q3_55 q3_57 qs1_12 (rfl : vwCl[0]? = some _) H_24 rfl (Nat.le_of_ble_eq_true rfl) (Nat.le_of_ble_eq_true rfl) (c_addMeasure (m := 2) (by omega) (by omega) (by omega) H_24 H_25 H_28 H_31) (fun h_33 q_34 => ?_)
  obtain ⟨x2, y2, z2, w2⟩ := q_34
  have H_35 : h_33.2 (2) = some (oB 0 [.ref (3), .ref (7), .ref (8), .ref (9), .int (nI (n + 1)), .int (nI (ck))]) := (w2 _ (by omega) (by omega)).trans H_24
  have H_36 : h_33.2 (3) = some (aG (3) ((fun i => if i < 3 then some (4 + i) else none))) := (w2 _ (by omega) (by omega)).trans H_25
  have H_37 : h_33.2 (4) = some (aI (20) (upd f0 n (nI a))) := (w2 _ (by omega) (by omega)).trans H_26
  have H_38 : h_33.2 (5) = some (aI (20) (upd f1 n (nI b))) := (w2 _ (by omega) (by omega)).trans H_27
  have H_39 : h_33.2 6 = some (aI 20 (upd f2 n (nI c))) := y2
  have H_40 : h_33.2 (7) = some (aI (20) (sf)) := (w2 _ (by omega) (by omega)).trans H_29
  have H_41 : h_33.2 (8) = some (aI (3) (tf)) := (w2 _ (by omega) (by omega)).trans H_30
  have H_42 : h_33.2 9 = some (aI 153 (lfx (lfx (lfx lf 0 a n) 1 b n) 2 c n)) := z2
  have H_43 : Fr 2 9 h h_33 := Fr_tr H_32 ⟨x2, fun i hi => w2 i (by omega) (by omega)⟩
  refine J_aload_n (i := 0) (pc := 40) dX0_add_40 rfl rfl ?_
  refine J_getf (k := 1) (pc := 41) dX0_add_41 flX0_16 H_35 rfl ?_
  refine J_iload (i := 5) (pc := 44) dX0_add_44 rfl ?_
  refine J_iload (i := 4) (pc := 46) dX0_add_46 rfl ?_
  refine J_iast (j := n) (pc := 48) dX0_add_48 H_40 rfl (by omega) (by omega) ?_
  obtain ⟨h_44, eh_44⟩ : ∃ z : MH, z = (h_33.1, hset h_33.2 (7) (aI (20) (upd sf (n) (nI (s))))) := ⟨_, rfl⟩
  refine J_heq (h2 := h_44) eh_44 ?_
  have H_45 : h_44.2 (2) = some (oB 0 [.ref (3), .ref (7), .ref (8), .ref (9), .int (nI (n + 1)), .int (nI (ck))]) := (hs_n eh_44 (by omega)).trans H_35
  have H_46 : h_44.2 (3) = some (aG (3) ((fun i => if i < 3 then some (4 + i) else none))) := (hs_n eh_44 (by omega)).trans H_36
  have H_47 : h_44.2 (4) = some (aI (20) (upd f0 n (nI a))) := (hs_n eh_44 (by omega)).trans H_37
  have H_48 : h_44.2 (5) = some (aI (20) (upd f1 n (nI b))) := (hs_n eh_44 (by omega)).trans H_38
  have H_49 : h_44.2 (6) = some (aI (20) (upd f2 n (nI c))) := (hs_n eh_44 (by omega)).trans H_39
  have H_50 : h_44.2 (7) = some (aI (20) (upd sf (n) (nI (s)))) := hs_s eh_44
  have H_51 : h_44.2 (8) = some (aI (3) (tf)) := (hs_n eh_44 (by omega)).trans H_41
  have H_52 : h_44.2 (9) = some (aI (153) (lfx (lfx (lfx lf 0 a n) 1 b n) 2 c n)) := (hs_n eh_44 (by omega)).trans H_42
  have H_53 : Fr (2) (9) h h_44 := by rw [eh_44]; exact Fr_st H_43 (by omega) (by omega)
  refine J_aload_n (i := 0) (pc := 49) dX0_add_49 rfl rfl ?_
  refine J_getf (k := 2) (pc := 50) dX0_add_50 flX0_20 H_45 rfl ?_
  refine J_iload (i := 4) (pc := 53) dX0_add_53 rfl ?_
  refine J_dup2 (pc := 55) dX0_add_55 rfl rfl ?_
  refine J_iald (j := s) (pc := 56) dX0_add_56 H_51 rfl (by omega) (by omega) ?_
  refine J_iconst (v := nI (1)) (pc := 57) dX0_add_57 rfl ?_
  refine J_iload (i := 5) (pc := 58) dX0_add_58 rfl ?_
  refine J_ishlN (pc := 60) dX0_add_60 (by omega) ?_
  refine J_ior (pc := 61) dX0_add_61 ?_
  refine J_iast (j := s) (pc := 62) dX0_add_62 H_51 rfl (by omega) (by omega) ?_
  obtain ⟨h_54, eh_54⟩ : ∃ z : MH, z = (h_44.1, hset h_44.2 (8) (aI (3) (upd tf (s) (((tf s) ||| nI (2 ^ (n))))))) := ⟨_, rfl⟩
  refine J_heq (h2 := h_54) eh_54 ?_
  have H_55 : h_54.2 (2) = some (oB 0 [.ref (3), .ref (7), .ref (8), .ref (9), .int (nI (n + 1)), .int (nI (ck))]) := (hs_n eh_54 (by omega)).trans H_45
  have H_56 : h_54.2 (3) = some (aG (3) ((fun i => if i < 3 then some (4 + i) else none))) := (hs_n eh_54 (by omega)).trans H_46
  have H_57 : h_54.2 (4) = some (aI (20) (upd f0 n (nI a))) := (hs_n eh_54 (by omega)).trans H_47
  have H_58 : h_54.2 (5) = some (aI (20) (upd f1 n (nI b))) := (hs_n eh_54 (by omega)).trans H_48
  have H_59 : h_54.2 (6) = some (aI (20) (upd f2 n (nI c))) := (hs_n eh_54 (by omega)).trans H_49
  have H_60 : h_54.2 (7) = some (aI (20) (upd sf (n) (nI (s)))) := (hs_n eh_54 (by omega)).trans H_50
  have H_61 : h_54.2 (8) = some (aI (3) (upd tf (s) (((tf s) ||| nI (2 ^ (n)))))) := hs_s eh_54
  have H_62 : h_54.2 (9) = some (aI (153) (lfx (lfx (lfx lf 0 a n) 1 b n) 2 c n)) := (hs_n eh_54 (by omega)).trans H_52
  have H_63 : Fr (2) (9) h h_54 := by rw [eh_54]; exact Fr_st H_53 (by omega) (by omega)
  refine J_iload (i := 5) (pc := 63) dX0_add_63 rfl ?_
  refine J_iret (ty := .int) (pc := 65) dX0_add_65 rfl rfl ?_
  exact ⟨rfl, H_55, H_56, H_57, H_58, H_59, H_60, H_61, H_62, H_63⟩

def addB (β : BT) (a b c s : Nat) : BT := (β.1 + 1, β.2.1, fun m k => if k = β.1 then (if m = 0 then a else if m = 1 then b else c) else β.2.2.1 m k, fun k => if k = β.1 then s else β.2.2.2 k)
def sortB (β : BT) (b s : Nat) : BT := (β.1, β.2.1, β.2.2.1, fun k => if k = b then s else β.2.2.2 k)
def checkB (β : BT) (b : Nat) (v : Bool) : BT := (β.1, (if v then β.2.1 ||| 2 ^ b else sdf β.2.1 (2 ^ b)), β.2.2.1, β.2.2.2)
theorem msk_or (p : Nat → Bool) (n : Nat) : msk p n ||| 2 ^ n = msk p n + 2 ^ n := by
  have h := Nat.two_pow_add_eq_or_of_lt (msk_lt p n) 1
  rw [Nat.mul_one] at h
  rw [Nat.or_comm, ← h, Nat.add_comm]
theorem WF_add {β : BT} (hW : WF β) (hn : β.1 < 20) {a b c s : Nat} (ha : a < 51) (hb : b < 51) (hc : c < 51) (hs : s < 3) : WF (addB β a b c s) := by
  refine ⟨hn, ?_, ?_, ?_⟩
  · show β.2.1 < 2 ^ (β.1 + 1)
    have := hW.2.1
    rw [Nat.pow_succ]
    omega
  · intro m k hk
    show (if k = β.1 then (if m = 0 then a else if m = 1 then b else c) else β.2.2.1 m k) ≤ 50
    have hk2 : k < β.1 + 1 := hk
    split
    · (repeat' split) <;> omega
    · exact hW.2.2.1 m k (by omega)
  · intro k hk
    show (if k = β.1 then s else β.2.2.2 k) ≤ 2
    have hk2 : k < β.1 + 1 := hk
    split
    · omega
    · exact hW.2.2.2 k (by omega)
theorem mkL_add (β : BT) (a b c s m x : Nat) : mkL (addB β a b c s) m x = (if (if m = 0 then a else if m = 1 then b else c) ≤ x then mkL β m x ||| 2 ^ β.1 else mkL β m x) := by
  have e : msk (fun k => decide ((addB β a b c s).2.2.1 m k ≤ x)) β.1 = mkL β m x := msk_congr (fun k hk => by
    show decide ((if k = β.1 then _ else β.2.2.1 m k) ≤ x) = _
    rw [if_neg (by omega)])
  have e2 : decide ((addB β a b c s).2.2.1 m β.1 ≤ x) = decide ((if m = 0 then a else if m = 1 then b else c) ≤ x) := by
    show decide ((if β.1 = β.1 then _ else _) ≤ x) = _
    rw [if_pos rfl]
  show msk _ (β.1 + 1) = _
  rw [msk, e, e2]
  by_cases hc : (if m = 0 then a else if m = 1 then b else c) ≤ x
  · rw [if_pos (decide_eq_true hc), if_pos hc]
    exact (msk_or _ _).symm
  · rw [if_neg (by simp only [hc, decide_false]; decide), if_neg hc]
    rfl
theorem mkS_add (β : BT) (a b c s z : Nat) : mkS (addB β a b c s) z = (if s = z then mkS β z ||| 2 ^ β.1 else mkS β z) := by
  have e : msk (fun k => (addB β a b c s).2.2.2 k == z) β.1 = mkS β z := msk_congr (fun k hk => by
    show ((if k = β.1 then s else β.2.2.2 k) == z) = _
    rw [if_neg (by omega)])
  have e2 : ((addB β a b c s).2.2.2 β.1 == z) = (s == z) := by
    show ((if β.1 = β.1 then _ else _) == z) = _
    rw [if_pos rfl]
  show msk _ (β.1 + 1) = _
  rw [msk, e, e2]
  by_cases hc : s = z
  · subst hc
    rw [if_pos (by simp), if_pos rfl]
    exact (msk_or _ _).symm
  · rw [if_neg (by simp [hc]), if_neg hc]
    rfl
theorem lfx_val {lf : Nat → Int32} {m a b i x z : Nat} (hz : z < 51) (hm : m = i) (hx : lf (i * 51 + z) = nI x) : lfx lf m a b (i * 51 + z) = nI (if a ≤ z then x ||| 2 ^ b else x) := by
  subst hm
  unfold lfx
  by_cases h : a ≤ z
  · rw [if_pos (by omega), if_pos h, hx, orNN]
  · rw [if_neg (by omega), if_neg h, hx]
theorem lfx_oth {lf : Nat → Int32} {m a b i z : Nat} (hz : z < 51) (hm : m ≠ i) : lfx lf m a b (i * 51 + z) = lf (i * 51 + z) := by
  unfold lfx
  exact if_neg (by omega)

set_option maxHeartbeats 2000000 in
set_option maxRecDepth 20000 in
theorem c_add {g : GT} {d : Nat} {h : MH} {β : BT} (hB : BH h β) {a b c s : Nat} (hn : β.1 < 20) (ha : a < 51) (hb : b < 51) (hc : c < 51) (hs : s < 3) :
    J g (d + 1) 0 0 mX0_add 0 (lv_args 0 [.ref 2, .int (nI a), .int (nI b), .int (nI c), .int (nI s)]) [] h (RH (nI β.1) (fun h' => Fr 2 9 h h' ∧ BH h' (addB β a b c s))) := by
  obtain ⟨hW, mf, sf, tf, lf, b2, b3, bm, b7, b8, b9, em, es, et, el⟩ := id hB
  refine J_mono ?_ (c_add0 hn ha hb hc hs b2 b3 (bm 0 (by decide)) (bm 1 (by decide)) (bm 2 (by decide)) b7 b8 b9)
  rintro r h' ⟨r1, r2, r3, r4, r5, r6, r7, r8, r9, r10⟩
  refine ⟨r1, r10, WF_add hW hn ha hb hc hs, (fun m => upd (mf m) β.1 (nI (if m = 0 then a else if m = 1 then b else c))), _, _, _, r2, r3, ?_, r7, r8, r9, ?_, ?_, ?_, ?_⟩
  · intro m hm
    obtain rfl | rfl | rfl : m = 0 ∨ m = 1 ∨ m = 2 := by omega
    · exact r4
    · exact r5
    · exact r6
  · intro m k hm hk
    show (if k = β.1 then _ else _) = nI (if k = β.1 then _ else β.2.2.1 m k)
    have hk2 : k < β.1 + 1 := hk
    by_cases e : k = β.1
    · rw [if_pos e, if_pos e]
    · rw [if_neg e, if_neg e]
      exact em m k hm (by omega)
  · intro k hk
    show (if k = β.1 then _ else _) = nI (if k = β.1 then _ else β.2.2.2 k)
    have hk2 : k < β.1 + 1 := hk
    by_cases e : k = β.1
    · rw [if_pos e, if_pos e]
    · rw [if_neg e, if_neg e]
      exact es k (by omega)
  · intro z hz
    rw [mkS_add]
    show (if z = s then _ else _) = _
    by_cases e : s = z
    · subst e
      rw [if_pos rfl, if_pos rfl, et s hz, orNN]
    · rw [if_neg (fun q => e q.symm), if_neg e]
      exact et z hz
  · intro m x hm hx
    rw [mkL_add]
    obtain rfl | rfl | rfl : m = 0 ∨ m = 1 ∨ m = 2 := by omega
    · rw [lfx_oth hx (by decide), lfx_oth hx (by decide)]
      exact lfx_val hx rfl (el 0 x hm hx)
    · rw [lfx_oth hx (by decide)]
      exact lfx_val hx rfl ((lfx_oth hx (by decide)).trans (el 1 x hm hx))
    · exact lfx_val hx rfl ((lfx_oth hx (by decide)).trans ((lfx_oth hx (by decide)).trans (el 2 x hm hx)))

set_option maxHeartbeats 2000000 in
set_option maxRecDepth 20000 in
theorem c_makeCheck0 {g : GT} {d n ck b : Nat} {h : MH} {v : Bool} (hb : b < 20) (b2 : h.2 2 = some (oB 0 [.ref 3, .ref 7, .ref 8, .ref 9, .int (nI n), .int (nI ck)])) :
    J g d 0 0 mX0_makeCheck 0 (lv_args 0 [.ref 2, .int (nI b), .int (bI v)]) [] h (RV (fun h' => Fr 2 2 h h' ∧ h'.2 2 = some (oB 0 [.ref 3, .ref 7, .ref 8, .ref 9, .int (nI n), .int (nI (if v then ck ||| 2 ^ b else sdf ck (2 ^ b)))]))) := by
  refine J_aload_n (i := 0) (pc := 0) dX0_makeCheck_0 rfl rfl ?_
  refine J_iload_n (i := 2) (pc := 1) dX0_makeCheck_1 rfl rfl ?_
  refine J_if_eqB (tgt := 16) (pc := 2) dX0_makeCheck_2 (by decide) (fun c2 => ?_) (fun c2 => ?_)
  · skip
    subst c2
    refine J_aload_n (i := 0) (pc := 16) dX0_makeCheck_16 rfl rfl ?_
    refine J_getf (k := 5) (pc := 17) dX0_makeCheck_17 flX0_30 b2 rfl ?_
    refine J_iconst (v := nI (1)) (pc := 20) dX0_makeCheck_20 rfl ?_
    refine J_iload_n (i := 1) (pc := 21) dX0_makeCheck_21 rfl rfl ?_
    refine J_ishlN (pc := 22) dX0_makeCheck_22 (by omega) ?_
    refine J_iconst (v := (-1)) (pc := 23) dX0_makeCheck_23 rfl ?_
    refine J_ixor (pc := 24) dX0_makeCheck_24 ?_
    refine J_iandX (pc := 25) dX0_makeCheck_25 ?_
    refine J_putf (k := 5) (pc := 26) dX0_makeCheck_26 fpX0_makeCheck_30 (fun g => ⟨rfl, rfl⟩) b2 (Nat.le_of_ble_eq_true rfl) ?_
    obtain ⟨h_1, eh_1⟩ : ∃ z : MH, z = (h.1, hset h.2 (2) (oB 0 [.ref (3), .ref (7), .ref (8), .ref (9), .int (nI (n)), .int (nI (sdf (ck) (2 ^ (b))))])) := ⟨_, rfl⟩
    refine J_heq (h2 := h_1) eh_1 ?_
    have H_2 : h_1.2 (2) = some (oB 0 [.ref (3), .ref (7), .ref (8), .ref (9), .int (nI (n)), .int (nI (sdf (ck) (2 ^ (b))))]) := hs_s eh_1
    have H_3 : Fr (2) (2) h h_1 := by rw [eh_1]; exact Fr_st Fr_rfl (by omega) (by omega)
    refine J_vret (pc := 29) dX0_makeCheck_29 rfl ?_
    exact ⟨rfl, H_3, H_2⟩
  · skip
    subst c2
    refine J_aload_n (i := 0) (pc := 5) dX0_makeCheck_5 rfl rfl ?_
    refine J_getf (k := 5) (pc := 6) dX0_makeCheck_6 flX0_30 b2 rfl ?_
    refine J_iconst (v := nI (1)) (pc := 9) dX0_makeCheck_9 rfl ?_
    refine J_iload_n (i := 1) (pc := 10) dX0_makeCheck_10 rfl rfl ?_
    refine J_ishlN (pc := 11) dX0_makeCheck_11 (by omega) ?_
    refine J_iorN (pc := 12) dX0_makeCheck_12 ?_
    refine J_goto (tgt := 26) (pc := 13) dX0_makeCheck_13 (by decide) ?_
    refine J_putf (k := 5) (pc := 26) dX0_makeCheck_26 fpX0_makeCheck_30 (fun g => ⟨rfl, rfl⟩) b2 (Nat.le_of_ble_eq_true rfl) ?_
    obtain ⟨h_4, eh_4⟩ : ∃ z : MH, z = (h.1, hset h.2 (2) (oB 0 [.ref (3), .ref (7), .ref (8), .ref (9), .int (nI (n)), .int (nI ((ck) ||| (2 ^ (b))))])) := ⟨_, rfl⟩
    refine J_heq (h2 := h_4) eh_4 ?_
    have H_5 : h_4.2 (2) = some (oB 0 [.ref (3), .ref (7), .ref (8), .ref (9), .int (nI (n)), .int (nI ((ck) ||| (2 ^ (b))))]) := hs_s eh_4
    have H_6 : Fr (2) (2) h h_4 := by rw [eh_4]; exact Fr_st Fr_rfl (by omega) (by omega)
    refine J_vret (pc := 29) dX0_makeCheck_29 rfl ?_
    exact ⟨rfl, H_6, H_5⟩
theorem c_makeCheck {g : GT} {d : Nat} {h : MH} {β : BT} (hB : BH h β) {b : Nat} {v : Bool} (hb : b < β.1) :
    J g d 0 0 mX0_makeCheck 0 (lv_args 0 [.ref 2, .int (nI b), .int (bI v)]) [] h (RV (fun h' => Fr 2 9 h h' ∧ BH h' (checkB β b v))) := by
  obtain ⟨hW, mf, sf, tf, lf, b2, b3, bm, b7, b8, b9, em, es, et, el⟩ := id hB
  refine J_mono ?_ (c_makeCheck0 (by have := hW.1; omega) b2)
  rintro r h' ⟨r1, r2, r3⟩
  refine ⟨r1, Fr_up r2 (by decide) (by decide), ⟨hW.1, ?_, hW.2.2⟩, mf, sf, tf, lf, r3, (r2.2 _ (by omega)).trans b3, fun m hm => (r2.2 _ (by omega)).trans (bm m hm), (r2.2 _ (by omega)).trans b7, (r2.2 _ (by omega)).trans b8, (r2.2 _ (by omega)).trans b9, em, es, et, el⟩
  show (if v then β.2.1 ||| 2 ^ b else sdf β.2.1 (2 ^ b)) < 2 ^ β.1
  have h1 := hW.2.1
  split
  · exact Nat.or_lt_two_pow h1 (Nat.pow_lt_pow_right (by decide) hb)
  · exact Nat.lt_of_le_of_lt (sdf_le _ _) h1
