-- the grove: felling, the digest
def shl {α : Type} (f : Nat → α) (j : Nat) : Nat → α := fun i => if i < j then f i else f (i + 1)
def fePi (π : Nat → Nat) (j b : Nat) : Nat → Nat := fun i => if j ≤ i ∧ i < b then π (i + 1) else π i
def fePi2 (π : Nat → Nat) (j s : Nat) : Nat → Nat := fun i => if i = s then π j else fePi π j s i
theorem SL_fe {π : Nat → Nat} (hS : SL π) {j s : Nat} (hj : j ≤ s) (hs : s < 5) : SL (fePi2 π j s) := by
  have hv : ∀ i, i < 5 → ∃ i', i' < 5 ∧ fePi2 π j s i = π i' ∧ (if i = s then i' = j else if j ≤ i ∧ i < s then i' = i + 1 else i' = i) := by
    intro i hi
    unfold fePi2 fePi
    by_cases e : i = s
    · exact ⟨j, by omega, if_pos e, by rw [if_pos e]⟩
    · rw [if_neg e]
      by_cases e2 : j ≤ i ∧ i < s
      · exact ⟨i + 1, by omega, if_pos e2, by rw [if_neg e, if_pos e2]⟩
      · exact ⟨i, hi, if_neg e2, by rw [if_neg e, if_neg e2]⟩
  refine ⟨?_, ?_⟩
  · intro i hi
    obtain ⟨i', h1, h2, _⟩ := hv i hi
    rw [h2]
    exact hS.1 i' h1
  · intro a b ha hb e
    obtain ⟨a', a1, a2, a3⟩ := hv a ha
    obtain ⟨b', b1, b2, b3⟩ := hv b hb
    rw [a2, b2] at e
    have e2 := hS.2 a' b' a1 b1 e
    subst e2
    (repeat' split at a3) <;> (repeat' split at b3) <;> omega
theorem GP_fell {h h' : MH} {σ : ST} {π : Nat → Nat} {j : Nat} (hG : GP h σ π) (hj : j < σ.2.1.1) (h1 : h'.2 1 = some (oB 2 [.ref 2, .ref 10, .ref 11, .int (nI (σ.2.1.1 - 1)), .int (nI σ.2.1.2.1), .int (nI σ.2.1.2.2)])) (h0 : h'.1 = h.1) (h10 : ∃ f, h'.2 10 = some (aT 5 f) ∧ ∀ i, i < 5 → f i = some (fePi2 π j (σ.2.1.1 - 1) i)) (ho : ∀ i, i ≠ 1 → i ≠ 10 → h'.2 i = h.2 i) :
    Fr 1 52 h h' ∧ GP h' (σ.1, (σ.2.1.1 - 1, σ.2.1.2.1, σ.2.1.2.2), shl σ.2.2.1 j, shl σ.2.2.2.1 j, shl σ.2.2.2.2 j) (fePi2 π j (σ.2.1.1 - 1)) := by
  obtain ⟨g1, g2, g3, g4, g5, g6, g7, g8⟩ := id hG
  have h5 := g2.1
  have hS := SL_fe g3 (show j ≤ σ.2.1.1 - 1 by omega) (show σ.2.1.1 - 1 < 5 by omega)
  have kf : Fr 1 10 h h' := ⟨h0, fun i hi => ho i (by omega) (by omega)⟩
  have hv : ∀ i, i < 5 → ∃ i', i' < 5 ∧ fePi2 π j (σ.2.1.1 - 1) i = π i' ∧ (i < σ.2.1.1 - 1 → i' = if i < j then i else i + 1) := by
    intro i hi
    unfold fePi2 fePi
    by_cases e : i = σ.2.1.1 - 1
    · exact ⟨j, by omega, if_pos e, by omega⟩
    · rw [if_neg e]
      by_cases e2 : j ≤ i ∧ i < σ.2.1.1 - 1
      · exact ⟨i + 1, by omega, if_pos e2, fun _ => by rw [if_neg (by omega)]⟩
      · exact ⟨i, hi, if_neg e2, fun q => by rw [if_pos (by omega)]⟩
  refine ⟨Fr_up kf (Nat.le_refl 1) (by decide), ?_, ⟨by show σ.2.1.1 - 1 ≤ 5; omega, g2.2.1, g2.2.2.1, ?_⟩, hS, h1, h10, TA_fr kf (by omega) g6, ?_, ?_⟩
  · obtain ⟨hW, mf, sf, tf, lf, b2, b3, bm, b7, b8, b9, r⟩ := g1
    exact ⟨hW, mf, sf, tf, lf, (ho _ (by omega) (by omega)).trans b2, (ho _ (by omega) (by omega)).trans b3, fun m hm => (ho _ (by omega) (by omega)).trans (bm m hm), (ho _ (by omega) (by omega)).trans b7, (ho _ (by omega) (by omega)).trans b8, (ho _ (by omega) (by omega)).trans b9, r⟩
  · intro i hi
    have hi2 : i < σ.2.1.1 - 1 := hi
    show okT 5 (shl σ.2.2.1 j i) ∧ nN 5 (shl σ.2.2.1 j i) ≤ 39
    unfold shl
    split
    · exact g2.2.2.2 i (by omega)
    · exact g2.2.2.2 (i + 1) (by omega)
  · intro i hi
    obtain ⟨i', i1, i2, _⟩ := hv i hi
    rw [i2]
    have := SL_ge g3 i1
    exact TA_fr kf (by omega) (g7 i' i1)
  · intro i hi
    have hi2 : i < σ.2.1.1 - 1 := hi
    obtain ⟨i', i1, i2, i3⟩ := hv i (by omega)
    have i4 := i3 hi2
    have := SL_ge g3 i1
    show TT h' (fePi2 π j (σ.2.1.1 - 1) i) (shl σ.2.2.1 j i) (shl σ.2.2.2.1 j i) (shl σ.2.2.2.2 j i)
    have e : ∀ {α : Type} (f : Nat → α), shl f j i = f i' := by
      intro α f
      unfold shl
      rw [i4]
      split <;> rfl
    rw [i2, e, e, e]
    refine TT_fr kf (by omega) (g8 i' ?_)
    rw [i4]
    split <;> omega

set_option maxHeartbeats 2000000 in
set_option maxRecDepth 20000 in
theorem fe_loop {g : GT} {d : Nat} {hh : MH} {σ : ST} {π : Nat → Nat} (hG : GP hh σ π) {j : Nat} (hj : j < σ.2.1.1) : ∀ (m b : Nat) (h : MH) (f : Nat → Option Nat), b + m = σ.2.1.1 - 1 ∧ j ≤ b → h.2 1 = some (oB 2 [.ref 2, .ref 10, .ref 11, .int (nI (σ.2.1.1 - 1)), .int (nI σ.2.1.2.1), .int (nI σ.2.1.2.2)]) → h.2 10 = some (aT 5 f) → (∀ i, i < 5 → f i = some (fePi π j b i)) → h.1 = hh.1 → (∀ i, i ≠ 1 → i ≠ 10 → h.2 i = hh.2 i) →
    J g d 0 0 mX2_fell 37 [(3, .int (nI (b))), (2, .ref (π j)), (0, .ref (1)), (1, .int (nI (j)))] [] h (RH (nI (σ.2.1.1 - 1)) (fun h' => Fr 1 52 hh h' ∧ GP h' (σ.1, (σ.2.1.1 - 1, σ.2.1.2.1, σ.2.1.2.2), shl σ.2.2.1 j, shl σ.2.2.2.1 j, shl σ.2.2.2.2 j) (fePi2 π j (σ.2.1.1 - 1)))) := by
  have h5 := hG.2.1.1
  have hj5 : j < 5 := by omega
  obtain ⟨p18, p46, fs, hfs⟩ := GP_tr hG hj5
  intro m
  induction m with
  | zero =>
    intro b h f hb h1 h10 hf h0 ho
    have eb : σ.2.1.1 - 1 = b := by omega
    have hfs2 := (ho (π j) (by omega) (by omega)).trans hfs
    refine J_iload_n (i := 3) (pc := 37) dX2_fell_37 rfl rfl ?_
    refine J_aload_n (i := 0) (pc := 38) dX2_fell_38 rfl rfl ?_
    refine J_getf (k := 3) (pc := 39) dX2_fell_39 flX2_27 h1 rfl ?_
    refine J_icmp_geN (tgt := 65) (pc := 42) dX2_fell_42 (by decide) (by omega) (by omega) (fun c42 => ?_) (fun c42 => by exfalso; first | omega | simp_all)
    refine J_aload_n (i := 0) (pc := 65) dX2_fell_65 rfl rfl ?_
    refine J_getf (k := 1) (pc := 66) dX2_fell_66 flX2_18 h1 rfl ?_
    refine J_aload_n (i := 0) (pc := 69) dX2_fell_69 rfl rfl ?_
    refine J_getf (k := 3) (pc := 70) dX2_fell_70 flX2_27 h1 rfl ?_
    refine J_aload_n (i := 2) (pc := 73) dX2_fell_73 rfl rfl ?_
    refine J_astT (j := σ.2.1.1 - 1) (pc := 74) dX2_fell_74 h10 hfs2 rfl (by omega) (by omega) ?_
    obtain ⟨h_1, eh_1⟩ : ∃ z : MH, z = (h.1, hset h.2 (10) (aT (5) (va_up f (σ.2.1.1 - 1) (some (π j))))) := ⟨_, rfl⟩
    refine J_heq (h2 := h_1) eh_1 ?_
    have H_2 : h_1.2 (1) = some (oB 2 [.ref (2), .ref (10), .ref (11), .int (nI (σ.2.1.1 - 1)), .int (nI (σ.2.1.2.1)), .int (nI (σ.2.1.2.2))]) := (hs_n eh_1 (by omega)).trans h1
    have H_3 : h_1.2 (10) = some (aT (5) (va_up f (σ.2.1.1 - 1) (some (π j)))) := hs_s eh_1
    have H_4 : h_1.2 (π j) = some (.inr (1, fs)) := (hs_n eh_1 (by omega)).trans hfs2
    refine J_aload_n (i := 0) (pc := 75) dX2_fell_75 rfl rfl ?_
    refine J_getf (k := 3) (pc := 76) dX2_fell_76 flX2_27 H_2 rfl ?_
    refine J_iret (ty := .int) (pc := 79) dX2_fell_79 rfl rfl ?_
    refine ⟨rfl, GP_fell hG hj H_2 (by rw [eh_1]; exact h0) ⟨_, H_3, ?_⟩ (fun i i1 i2 => (hs_n eh_1 i2).trans (ho i i1 i2))⟩
    intro i hi
    unfold fePi2
    by_cases e : i = σ.2.1.1 - 1
    · rw [e, va_up_self, if_pos rfl]
    · rw [va_up_ne _ _ e, if_neg e, hf i hi, eb]
  | succ m ih =>
    intro b h f hb h1 h10 hf h0 ho
    obtain ⟨q18, q46, fs1, hfs1⟩ := GP_tr hG (show b + 1 < 5 by omega)
    have hfs2 := (ho (π (b + 1)) (by omega) (by omega)).trans hfs1
    have hfb : f (b + 1) = some (π (b + 1)) := by
      rw [hf (b + 1) (by omega)]
      unfold fePi
      rw [if_neg (by omega)]
    refine J_iload_n (i := 3) (pc := 37) dX2_fell_37 rfl rfl ?_
    refine J_aload_n (i := 0) (pc := 38) dX2_fell_38 rfl rfl ?_
    refine J_getf (k := 3) (pc := 39) dX2_fell_39 flX2_27 h1 rfl ?_
    refine J_icmp_geN (tgt := 65) (pc := 42) dX2_fell_42 (by decide) (by omega) (by omega) (fun c42 => by exfalso; first | omega | simp_all) (fun c42 => ?_)
    refine J_aload_n (i := 0) (pc := 45) dX2_fell_45 rfl rfl ?_
    refine J_getf (k := 1) (pc := 46) dX2_fell_46 flX2_18 h1 rfl ?_
    refine J_iload_n (i := 3) (pc := 49) dX2_fell_49 rfl rfl ?_
    refine J_aload_n (i := 0) (pc := 50) dX2_fell_50 rfl rfl ?_
    refine J_getf (k := 1) (pc := 51) dX2_fell_51 flX2_18 h1 rfl ?_
    refine J_iload_n (i := 3) (pc := 54) dX2_fell_54 rfl rfl ?_
    refine J_iconst (v := nI (1)) (pc := 55) dX2_fell_55 rfl ?_
    refine J_iaddN (pc := 56) dX2_fell_56 ?_
    refine J_aald (j := b + 1) (b := π (b + 1)) (pc := 57) dX2_fell_57 (by decide) h10 rfl (by omega) (by omega) hfb ?_
    refine J_astT (j := b) (pc := 58) dX2_fell_58 h10 hfs2 rfl (by omega) (by omega) ?_
    obtain ⟨h_1, eh_1⟩ : ∃ z : MH, z = (h.1, hset h.2 (10) (aT (5) (va_up f (b) (some (π (b + 1)))))) := ⟨_, rfl⟩
    refine J_heq (h2 := h_1) eh_1 ?_
    have H_2 : h_1.2 (1) = some (oB 2 [.ref (2), .ref (10), .ref (11), .int (nI (σ.2.1.1 - 1)), .int (nI (σ.2.1.2.1)), .int (nI (σ.2.1.2.2))]) := (hs_n eh_1 (by omega)).trans h1
    have H_3 : h_1.2 (10) = some (aT (5) (va_up f (b) (some (π (b + 1))))) := hs_s eh_1
    have H_4 : h_1.2 (π (b + 1)) = some (.inr (1, fs1)) := (hs_n eh_1 (by omega)).trans hfs2
    refine J_iinc (i := 3) (v := nI (b + 1)) (lv' := [(3, .int (nI (b + 1))), (2, .ref (π j)), (0, .ref (1)), (1, .int (nI (j)))]) (pc := 59) dX2_fell_59 rfl (nI_add (b) 1) (by decide) rfl ?_
    refine J_goto (tgt := 37) (pc := 62) dX2_fell_62 (by decide) ?_
    refine J_sub (lv' := [(3, .int (nI (b + 1))), (2, .ref (π j)), (0, .ref (1)), (1, .int (nI (j)))]) [0, 1, 2, 3] rfl ?_
    refine ih (b + 1) h_1 _ (by omega) H_2 H_3 ?_ (by rw [eh_1]; exact h0) (fun i i1 i2 => (hs_n eh_1 i2).trans (ho i i1 i2))
    intro i hi
    show va_up f b (some (π (b + 1))) i = _
    unfold fePi
    by_cases e : i = b
    · rw [e, va_up_self, if_pos (by omega)]
    · rw [va_up_ne _ _ e, hf i hi]
      unfold fePi
      by_cases e2 : j ≤ i ∧ i < b
      · rw [if_pos e2, if_pos (by omega)]
      · rw [if_neg e2, if_neg (by omega)]

set_option maxHeartbeats 2000000 in
set_option maxRecDepth 20000 in
theorem c_fell {g : GT} {d : Nat} {h : MH} {σ : ST} {π : Nat → Nat} (hG : GP h σ π) {j : Nat} (hj : j < σ.2.1.1) : J g (d + 1) 0 0 mX2_fell 0 (lv_args 0 [.ref 1, .int (nI j)]) [] h (RH (nI (σ.2.1.1 - 1)) (fun h' => Fr 1 52 h h' ∧ GP h' (σ.1, (σ.2.1.1 - 1, σ.2.1.2.1, σ.2.1.2.2), shl σ.2.2.1 j, shl σ.2.2.2.1 j, shl σ.2.2.2.2 j) (fePi2 π j (σ.2.1.1 - 1)))) := by
  obtain ⟨g1, g2, g3, g4, ⟨tf, g5, g5b⟩, g6, g7, g8⟩ := id hG
  obtain ⟨o1, o2, o3, o4⟩ := id g2
  have hB := g1
  have b9 := BH_2 g1
  obtain ⟨hn, hc9, hm5, hs2⟩ := id g1.1
  have hp9 := pw_le hn
  have hj5 : j < 5 := by omega
  refine J_aload_n (i := 0) (pc := 0) dX2_fell_0 rfl rfl ?_
  refine J_iload_n (i := 1) (pc := 1) dX2_fell_1 rfl rfl ?_
  refine J_cVi (st := []) (As := [.int (nI (j))]) (pc := 2) dX2_fell_2 okX2_isTree q1_233 q1_235 qs1_6 (rfl : vwCl[2]? = some _) g4 rfl (Nat.le_of_ble_eq_true rfl) (Nat.le_of_ble_eq_true rfl) (c_isTreeT hG hj) ?_
  refine J_if_neN (tgt := 18) (pc := 5) dX2_fell_5 (by decide) (by omega) (fun c5 => ?_) (fun c5 => by exfalso; first | omega | simp_all)
  refine J_aload_n (i := 0) (pc := 18) dX2_fell_18 rfl rfl ?_
  refine J_getf (k := 1) (pc := 19) dX2_fell_19 flX2_18 g4 rfl ?_
  refine J_iload_n (i := 1) (pc := 22) dX2_fell_22 rfl rfl ?_
  refine J_aald (j := j) (b := π j) (pc := 23) dX2_fell_23 (by decide) g5 rfl (by omega) (by omega) (g5b j hj5) ?_
  refine J_astore_n (i := 2) (lv' := [(2, .ref (π j)), (0, .ref (1)), (1, .int (nI (j)))]) (pc := 24) dX2_fell_24 rfl (by decide) rfl ?_
  refine J_aload_n (i := 0) (pc := 25) dX2_fell_25 rfl rfl ?_
  refine J_dup (pc := 26) dX2_fell_26 rfl ?_
  refine J_getf (k := 3) (pc := 27) dX2_fell_27 flX2_27 g4 rfl ?_
  refine J_iconst (v := nI (1)) (pc := 30) dX2_fell_30 rfl ?_
  refine J_isubN (pc := 31) dX2_fell_31 (by omega) ?_
  refine J_putf (k := 3) (pc := 32) dX2_fell_32 fpX2_fell_27 (fun g => ⟨rfl, rfl⟩) g4 (Nat.le_of_ble_eq_true rfl) ?_
  obtain ⟨h_1, eh_1⟩ : ∃ z : MH, z = (h.1, hset h.2 (1) (oB 2 [.ref (2), .ref (10), .ref (11), .int (nI ((σ.2.1.1) - (1))), .int (nI (σ.2.1.2.1)), .int (nI (σ.2.1.2.2))])) := ⟨_, rfl⟩
  refine J_heq (h2 := h_1) eh_1 ?_
  have H_2 : h_1.2 (1) = some (oB 2 [.ref (2), .ref (10), .ref (11), .int (nI ((σ.2.1.1) - (1))), .int (nI (σ.2.1.2.1)), .int (nI (σ.2.1.2.2))]) := hs_s eh_1
  have H_3 : h_1.2 (10) = some (aT (5) (tf)) := (hs_n eh_1 (by omega)).trans g5
  refine J_iload_n (i := 1) (pc := 35) dX2_fell_35 rfl rfl ?_
  refine J_istore_n (i := 3) (lv' := [(3, .int (nI (j))), (2, .ref (π j)), (0, .ref (1)), (1, .int (nI (j)))]) (pc := 36) dX2_fell_36 rfl (by decide) rfl ?_
  refine J_sub (lv' := [(3, .int (nI (j))), (2, .ref (π j)), (0, .ref (1)), (1, .int (nI (j)))]) [0, 1, 2, 3] rfl ?_
  refine fe_loop hG hj (σ.2.1.1 - 1 - j) j h_1 tf (by omega) H_2 H_3 (fun i hi => by rw [g5b i hi]; unfold fePi; rw [if_neg (by omega)]) (by rw [eh_1]) (fun i i1 i2 => hs_n eh_1 i1)

abbrev RG (v : Value) (P : MH → Prop) : RT → MH → Prop := fun r h' => r = .inl (some v) ∧ P h'
theorem J_cVg {g : GT} {d ca sa : Nat} {M : MT} {pc : Nat} {lv : List (Nat × Value)} {st : List Value} {h : MH} {Q : RT → MH → Prop} {M1 : MT} {index n a ci : Nat} {fs As : List Value} {v : Value} {P : MH → Prop} {T : u_T} {N : Nat} (hd : decode M.2.1 pc = .ok (.invokevirtual index, 3)) (hM : MOK M1 n) (hl : Cond.methodLink M.1.cls index M1.1 ∈ lw_tbl) (hi : Cond.instanceMethod M1.1 ∈ lw_tbl) (hs : Cond.selects M1.1.cls M1.1 M1.1 ∈ lw_tbl)
    (hc : vwCl[ci]? = some (M1.1.cls, T, N)) (ha : h.2 a = some (.inr (ci, fs))) (hn : As.length = n) (hlen : (lg_sl (.ref a :: As)).length ≤ M1.2.2.1) (hst : (st.map fun v => v.category).sum ≤ 8) (hj : J g d 0 0 M1 0 (lv_args 0 (.ref a :: As)) [] h (RG v P))
    (kk : ∀ h', P h' → J g (d + 1) ca sa M (pc + 3) lv (v :: st) h' Q) : J g (d + 1) ca sa M pc lv (As.reverse ++ .ref a :: st) h Q :=
  J_callV hd hM hl hi hs hc ha hn hlen hst (fun E h' q => by cases q.1) hj (Nat.le_of_eq (Nat.zero_add _)) (Nat.le_of_eq (Nat.zero_add _)) (fun v h' q => by obtain ⟨q1, q2⟩ := q; cases q1; exact kk h' q2)
def dgC (σ : ST) : Int64 := ((((((((((((((1699) * (31)) + ((nI (ctS σ 0)).toInt64)) * (31)) + ((nI (ctS σ 1)).toInt64)) * (31)) + ((nI (ctS σ 2)).toInt64)) * (31)) + ((nI (ctS σ 3)).toInt64)) * (31)) + ((nI (ctS σ 4)).toInt64)) * (31)) + ((nI (ctS σ 5)).toInt64)) * (31)) + ((nI (ctS σ 6)).toInt64)
def dgB (σ : ST) : Nat → Nat → Int64 → Int64
  | 0, _, d => d
  | k + 1, b, d => dgB σ k (b + 1) (((((((((((d) * (31)) + ((nI (toS σ b 0)).toInt64)) * (31)) + ((nI (toS σ b 1)).toInt64)) * (31)) + ((nI (toS σ b 2)).toInt64)) * (31)) + ((nI (toS σ b 3)).toInt64)) * (31)) + ((nI (toS σ b 4)).toInt64))
def dgN (t : TR 5) : Nat → Nat → Int64 → Int64
  | 0, _, d => d
  | k + 1, p, d => dgN t k (p + 1) (((((((((((((((d) * (31)) + ((enc (ndS t p 0)).toInt64)) * (31)) + ((enc (ndS t p 1)).toInt64)) * (31)) + ((enc (ndS t p 2)).toInt64)) * (31)) + ((enc (ndS t p 3)).toInt64)) * (31)) + ((enc (ndS t p 4)).toInt64)) * (31)) + ((enc (ndS t p 5)).toInt64)) * (31)) + ((enc (ndS t p 6)).toInt64))
def dgT (σ : ST) (j : Nat) (d : Int64) : Int64 := dgN (σ.2.2.1 j) (nN 5 (σ.2.2.1 j)) 0 (((((((((((((((d) * (31)) + ((abS σ j 0).toInt64)) * (31)) + ((abS σ j 1).toInt64)) * (31)) + ((abS σ j 2).toInt64)) * (31)) + ((abS σ j 3).toInt64)) * (31)) + ((abS σ j 4).toInt64)) * (31)) + ((abS σ j 5).toInt64)) * (31)) + ((abS σ j 6).toInt64))
def dgF (σ : ST) : Nat → Nat → Int64 → Int64
  | 0, _, d => d
  | k + 1, j, d => dgF σ k (j + 1) (dgT σ j d)
def dgS (σ : ST) : Int64 := dgF σ σ.2.1.1 0 (dgB σ σ.1.1 0 (dgC σ))

set_option maxHeartbeats 2000000 in
set_option maxRecDepth 20000 in
theorem dn_loop {g : GT} {d : Nat} {h : MH} {σ : ST} {π : Nat → Nat} (hG : GP h σ π) {j : Nat} (hj : j < σ.2.1.1) {Q : RT → MH → Prop} : ∀ (k p : Nat) (D : Int64), p + k = nN 5 (σ.2.2.1 j) → Q (.inl (some (.long (dgN (σ.2.2.1 j) k p D)))) h → J g (d + 3) 0 0 mX2_digestTree 39 [(6, .int (nI (p))), (4, .long (D)), (0, .ref (1)), (3, .int (nI (j)))] [] h Q := by
  obtain ⟨g1, g2, g3, g4, ⟨tf, g5, g5b⟩, g6, g7, g8⟩ := id hG
  obtain ⟨o1, o2, o3, o4⟩ := id g2
  have hB := g1
  have b9 := BH_2 g1
  obtain ⟨hn, hc9, hm5, hs2⟩ := id g1.1
  have hp9 := pw_le hn
  have hj5 : j < 5 := by omega
  obtain ⟨cf, sf, gf, df, mf, rf, hT, hK⟩ := g8 j hj
  obtain ⟨okj, n39⟩ := o4 j hj
  have n1 := nN_pos 5 (σ.2.2.1 j)
  obtain ⟨p18, p46, fs, hfs⟩ := GP_tr hG hj5
  intro k
  induction k with
  | zero =>
    intro p D hp hq
    refine J_iload (i := 6) (pc := 39) dX2_digestTree_39 rfl ?_
    refine J_aload_n (i := 0) (pc := 41) dX2_digestTree_41 rfl rfl ?_
    refine J_getf (k := 1) (pc := 42) dX2_digestTree_42 flX2_18 g4 rfl ?_
    refine J_iload_n (i := 3) (pc := 45) dX2_digestTree_45 rfl rfl ?_
    refine J_aald (j := j) (b := π j) (pc := 46) dX2_digestTree_46 (by decide) g5 rfl (by omega) (by omega) (g5b j hj5) ?_
    refine J_cVi (st := [.int (nI (p))]) (As := []) (pc := 47) dX2_digestTree_47 okX1_howManyNodes q2_68 q2_69 q2_70 (rfl : vwCl[1]? = some _) hfs rfl (Nat.le_of_ble_eq_true rfl) (Nat.le_of_ble_eq_true rfl) (c_howManyNodes (p := 0) hT n39) ?_
    refine J_icmp_geN (tgt := 94) (pc := 50) dX2_digestTree_50 (by decide) (by omega) (by omega) (fun c50 => ?_) (fun c50 => by exfalso; first | omega | simp_all)
    refine J_lload (i := 4) (pc := 94) dX2_digestTree_94 rfl ?_
    refine J_lret (pc := 96) dX2_digestTree_96 rfl ?_
    exact hq
  | succ k ih =>
    intro p D hp hq
    refine J_iload (i := 6) (pc := 39) dX2_digestTree_39 rfl ?_
    refine J_aload_n (i := 0) (pc := 41) dX2_digestTree_41 rfl rfl ?_
    refine J_getf (k := 1) (pc := 42) dX2_digestTree_42 flX2_18 g4 rfl ?_
    refine J_iload_n (i := 3) (pc := 45) dX2_digestTree_45 rfl rfl ?_
    refine J_aald (j := j) (b := π j) (pc := 46) dX2_digestTree_46 (by decide) g5 rfl (by omega) (by omega) (g5b j hj5) ?_
    refine J_cVi (st := [.int (nI (p))]) (As := []) (pc := 47) dX2_digestTree_47 okX1_howManyNodes q2_68 q2_69 q2_70 (rfl : vwCl[1]? = some _) hfs rfl (Nat.le_of_ble_eq_true rfl) (Nat.le_of_ble_eq_true rfl) (c_howManyNodes (p := 0) hT n39) ?_
    refine J_icmp_geN (tgt := 94) (pc := 50) dX2_digestTree_50 (by decide) (by omega) (by omega) (fun c50 => by exfalso; first | omega | simp_all) (fun c50 => ?_)
    refine J_iconst (v := nI (0)) (pc := 53) dX2_digestTree_53 rfl ?_
    refine J_istore (i := 7) (lv' := [(7, .int (nI (0))), (6, .int (nI (p))), (4, .long (D)), (0, .ref (1)), (3, .int (nI (j)))]) (pc := 54) dX2_digestTree_54 (by decide) rfl ?_
    refine J_iload (i := 7) (pc := 56) dX2_digestTree_56 rfl ?_
    refine J_bipush (v := nI (6)) (pc := 58) dX2_digestTree_58 rfl ?_
    refine J_icmp_gtN (tgt := 88) (pc := 60) dX2_digestTree_60 (by decide) (by omega) (by omega) (fun c60 => by exfalso; first | omega | simp_all) (fun c60 => ?_)
    refine J_lload (i := 4) (pc := 63) dX2_digestTree_63 rfl ?_
    refine J_ldc2 (v := 31) (pc := 65) dX2_digestTree_65 q2_167 ?_
    refine J_lmul (pc := 68) dX2_digestTree_68 ?_
    refine J_aload_n (i := 0) (pc := 69) dX2_digestTree_69 rfl rfl ?_
    refine J_iload_n (i := 3) (pc := 70) dX2_digestTree_70 rfl rfl ?_
    refine J_iload (i := 6) (pc := 71) dX2_digestTree_71 rfl ?_
    refine J_iload (i := 7) (pc := 73) dX2_digestTree_73 rfl ?_
    refine J_cVi (st := [.long ((D) * (31))]) (As := [.int (nI (j)), .int (nI (p)), .int (nI (0))]) (pc := 75) dX2_digestTree_75 okX2_node q2_175 q2_24 q2_25 (rfl : vwCl[2]? = some _) g4 rfl (Nat.le_of_ble_eq_true rfl) (Nat.le_of_ble_eq_true rfl) (c_node0 hG hj (by omega)) ?_
    refine J_i2l (pc := 78) dX2_digestTree_78 ?_
    refine J_ladd (pc := 79) dX2_digestTree_79 ?_
    refine J_lstore (i := 4) (lv' := [(4, .long (((D) * (31)) + (((enc (ndS (σ.2.2.1 j) p 0))).toInt64))), (7, .int (nI (0))), (6, .int (nI (p))), (0, .ref (1)), (3, .int (nI (j)))]) (pc := 80) dX2_digestTree_80 (by decide) rfl ?_
    refine J_iinc (i := 7) (v := nI (1)) (lv' := [(7, .int (nI (1))), (4, .long (((D) * (31)) + (((enc (ndS (σ.2.2.1 j) p 0))).toInt64))), (6, .int (nI (p))), (0, .ref (1)), (3, .int (nI (j)))]) (pc := 82) dX2_digestTree_82 rfl rfl (by decide) rfl ?_
    refine J_goto (tgt := 56) (pc := 85) dX2_digestTree_85 (by decide) ?_
    refine J_iload (i := 7) (pc := 56) dX2_digestTree_56 rfl ?_
    refine J_bipush (v := nI (6)) (pc := 58) dX2_digestTree_58 rfl ?_
    refine J_icmp_gtN (tgt := 88) (pc := 60) dX2_digestTree_60 (by decide) (by omega) (by omega) (fun c60 => by exfalso; first | omega | simp_all) (fun c60 => ?_)
    refine J_lload (i := 4) (pc := 63) dX2_digestTree_63 rfl ?_
    refine J_ldc2 (v := 31) (pc := 65) dX2_digestTree_65 q2_167 ?_
    refine J_lmul (pc := 68) dX2_digestTree_68 ?_
    refine J_aload_n (i := 0) (pc := 69) dX2_digestTree_69 rfl rfl ?_
    refine J_iload_n (i := 3) (pc := 70) dX2_digestTree_70 rfl rfl ?_
    refine J_iload (i := 6) (pc := 71) dX2_digestTree_71 rfl ?_
    refine J_iload (i := 7) (pc := 73) dX2_digestTree_73 rfl ?_
    refine J_cVi (st := [.long ((((D) * (31)) + (((enc (ndS (σ.2.2.1 j) p 0))).toInt64)) * (31))]) (As := [.int (nI (j)), .int (nI (p)), .int (nI (1))]) (pc := 75) dX2_digestTree_75 okX2_node q2_175 q2_24 q2_25 (rfl : vwCl[2]? = some _) g4 rfl (Nat.le_of_ble_eq_true rfl) (Nat.le_of_ble_eq_true rfl) (c_node1 hG hj (by omega)) ?_
    refine J_i2l (pc := 78) dX2_digestTree_78 ?_
    refine J_ladd (pc := 79) dX2_digestTree_79 ?_
    refine J_lstore (i := 4) (lv' := [(4, .long (((((D) * (31)) + (((enc (ndS (σ.2.2.1 j) p 0))).toInt64)) * (31)) + (((enc (ndS (σ.2.2.1 j) p 1))).toInt64))), (7, .int (nI (1))), (6, .int (nI (p))), (0, .ref (1)), (3, .int (nI (j)))]) (pc := 80) dX2_digestTree_80 (by decide) rfl ?_
    refine J_iinc (i := 7) (v := nI (2)) (lv' := [(7, .int (nI (2))), (4, .long (((((D) * (31)) + (((enc (ndS (σ.2.2.1 j) p 0))).toInt64)) * (31)) + (((enc (ndS (σ.2.2.1 j) p 1))).toInt64))), (6, .int (nI (p))), (0, .ref (1)), (3, .int (nI (j)))]) (pc := 82) dX2_digestTree_82 rfl rfl (by decide) rfl ?_
    refine J_goto (tgt := 56) (pc := 85) dX2_digestTree_85 (by decide) ?_
    refine J_iload (i := 7) (pc := 56) dX2_digestTree_56 rfl ?_
    refine J_bipush (v := nI (6)) (pc := 58) dX2_digestTree_58 rfl ?_
    refine J_icmp_gtN (tgt := 88) (pc := 60) dX2_digestTree_60 (by decide) (by omega) (by omega) (fun c60 => by exfalso; first | omega | simp_all) (fun c60 => ?_)
    refine J_lload (i := 4) (pc := 63) dX2_digestTree_63 rfl ?_
    refine J_ldc2 (v := 31) (pc := 65) dX2_digestTree_65 q2_167 ?_
    refine J_lmul (pc := 68) dX2_digestTree_68 ?_
    refine J_aload_n (i := 0) (pc := 69) dX2_digestTree_69 rfl rfl ?_
    refine J_iload_n (i := 3) (pc := 70) dX2_digestTree_70 rfl rfl ?_
    refine J_iload (i := 6) (pc := 71) dX2_digestTree_71 rfl ?_
    refine J_iload (i := 7) (pc := 73) dX2_digestTree_73 rfl ?_
    refine J_cVi (st := [.long ((((((D) * (31)) + (((enc (ndS (σ.2.2.1 j) p 0))).toInt64)) * (31)) + (((enc (ndS (σ.2.2.1 j) p 1))).toInt64)) * (31))]) (As := [.int (nI (j)), .int (nI (p)), .int (nI (2))]) (pc := 75) dX2_digestTree_75 okX2_node q2_175 q2_24 q2_25 (rfl : vwCl[2]? = some _) g4 rfl (Nat.le_of_ble_eq_true rfl) (Nat.le_of_ble_eq_true rfl) (c_node2 hG hj (by omega)) ?_
    refine J_i2l (pc := 78) dX2_digestTree_78 ?_
    refine J_ladd (pc := 79) dX2_digestTree_79 ?_
    refine J_lstore (i := 4) (lv' := [(4, .long (((((((D) * (31)) + (((enc (ndS (σ.2.2.1 j) p 0))).toInt64)) * (31)) + (((enc (ndS (σ.2.2.1 j) p 1))).toInt64)) * (31)) + (((enc (ndS (σ.2.2.1 j) p 2))).toInt64))), (7, .int (nI (2))), (6, .int (nI (p))), (0, .ref (1)), (3, .int (nI (j)))]) (pc := 80) dX2_digestTree_80 (by decide) rfl ?_
    refine J_iinc (i := 7) (v := nI (3)) (lv' := [(7, .int (nI (3))), (4, .long (((((((D) * (31)) + (((enc (ndS (σ.2.2.1 j) p 0))).toInt64)) * (31)) + (((enc (ndS (σ.2.2.1 j) p 1))).toInt64)) * (31)) + (((enc (ndS (σ.2.2.1 j) p 2))).toInt64))), (6, .int (nI (p))), (0, .ref (1)), (3, .int (nI (j)))]) (pc := 82) dX2_digestTree_82 rfl rfl (by decide) rfl ?_
    refine J_goto (tgt := 56) (pc := 85) dX2_digestTree_85 (by decide) ?_
    refine J_iload (i := 7) (pc := 56) dX2_digestTree_56 rfl ?_
    refine J_bipush (v := nI (6)) (pc := 58) dX2_digestTree_58 rfl ?_
    refine J_icmp_gtN (tgt := 88) (pc := 60) dX2_digestTree_60 (by decide) (by omega) (by omega) (fun c60 => by exfalso; first | omega | simp_all) (fun c60 => ?_)
    refine J_lload (i := 4) (pc := 63) dX2_digestTree_63 rfl ?_
    refine J_ldc2 (v := 31) (pc := 65) dX2_digestTree_65 q2_167 ?_
    refine J_lmul (pc := 68) dX2_digestTree_68 ?_
    refine J_aload_n (i := 0) (pc := 69) dX2_digestTree_69 rfl rfl ?_
    refine J_iload_n (i := 3) (pc := 70) dX2_digestTree_70 rfl rfl ?_
    refine J_iload (i := 6) (pc := 71) dX2_digestTree_71 rfl ?_
    refine J_iload (i := 7) (pc := 73) dX2_digestTree_73 rfl ?_
    refine J_cVi (st := [.long ((((((((D) * (31)) + (((enc (ndS (σ.2.2.1 j) p 0))).toInt64)) * (31)) + (((enc (ndS (σ.2.2.1 j) p 1))).toInt64)) * (31)) + (((enc (ndS (σ.2.2.1 j) p 2))).toInt64)) * (31))]) (As := [.int (nI (j)), .int (nI (p)), .int (nI (3))]) (pc := 75) dX2_digestTree_75 okX2_node q2_175 q2_24 q2_25 (rfl : vwCl[2]? = some _) g4 rfl (Nat.le_of_ble_eq_true rfl) (Nat.le_of_ble_eq_true rfl) (c_node3 hG hj (by omega)) ?_
    refine J_i2l (pc := 78) dX2_digestTree_78 ?_
    refine J_ladd (pc := 79) dX2_digestTree_79 ?_
    refine J_lstore (i := 4) (lv' := [(4, .long (((((((((D) * (31)) + (((enc (ndS (σ.2.2.1 j) p 0))).toInt64)) * (31)) + (((enc (ndS (σ.2.2.1 j) p 1))).toInt64)) * (31)) + (((enc (ndS (σ.2.2.1 j) p 2))).toInt64)) * (31)) + (((enc (ndS (σ.2.2.1 j) p 3))).toInt64))), (7, .int (nI (3))), (6, .int (nI (p))), (0, .ref (1)), (3, .int (nI (j)))]) (pc := 80) dX2_digestTree_80 (by decide) rfl ?_
    refine J_iinc (i := 7) (v := nI (4)) (lv' := [(7, .int (nI (4))), (4, .long (((((((((D) * (31)) + (((enc (ndS (σ.2.2.1 j) p 0))).toInt64)) * (31)) + (((enc (ndS (σ.2.2.1 j) p 1))).toInt64)) * (31)) + (((enc (ndS (σ.2.2.1 j) p 2))).toInt64)) * (31)) + (((enc (ndS (σ.2.2.1 j) p 3))).toInt64))), (6, .int (nI (p))), (0, .ref (1)), (3, .int (nI (j)))]) (pc := 82) dX2_digestTree_82 rfl rfl (by decide) rfl ?_
    refine J_goto (tgt := 56) (pc := 85) dX2_digestTree_85 (by decide) ?_
    refine J_iload (i := 7) (pc := 56) dX2_digestTree_56 rfl ?_
    refine J_bipush (v := nI (6)) (pc := 58) dX2_digestTree_58 rfl ?_
    refine J_icmp_gtN (tgt := 88) (pc := 60) dX2_digestTree_60 (by decide) (by omega) (by omega) (fun c60 => by exfalso; first | omega | simp_all) (fun c60 => ?_)
    refine J_lload (i := 4) (pc := 63) dX2_digestTree_63 rfl ?_
    refine J_ldc2 (v := 31) (pc := 65) dX2_digestTree_65 q2_167 ?_
    refine J_lmul (pc := 68) dX2_digestTree_68 ?_
    refine J_aload_n (i := 0) (pc := 69) dX2_digestTree_69 rfl rfl ?_
    refine J_iload_n (i := 3) (pc := 70) dX2_digestTree_70 rfl rfl ?_
    refine J_iload (i := 6) (pc := 71) dX2_digestTree_71 rfl ?_
    refine J_iload (i := 7) (pc := 73) dX2_digestTree_73 rfl ?_
    refine J_cVi (st := [.long ((((((((((D) * (31)) + (((enc (ndS (σ.2.2.1 j) p 0))).toInt64)) * (31)) + (((enc (ndS (σ.2.2.1 j) p 1))).toInt64)) * (31)) + (((enc (ndS (σ.2.2.1 j) p 2))).toInt64)) * (31)) + (((enc (ndS (σ.2.2.1 j) p 3))).toInt64)) * (31))]) (As := [.int (nI (j)), .int (nI (p)), .int (nI (4))]) (pc := 75) dX2_digestTree_75 okX2_node q2_175 q2_24 q2_25 (rfl : vwCl[2]? = some _) g4 rfl (Nat.le_of_ble_eq_true rfl) (Nat.le_of_ble_eq_true rfl) (c_node4 hG hj (by omega)) ?_
    refine J_i2l (pc := 78) dX2_digestTree_78 ?_
    refine J_ladd (pc := 79) dX2_digestTree_79 ?_
    refine J_lstore (i := 4) (lv' := [(4, .long (((((((((((D) * (31)) + (((enc (ndS (σ.2.2.1 j) p 0))).toInt64)) * (31)) + (((enc (ndS (σ.2.2.1 j) p 1))).toInt64)) * (31)) + (((enc (ndS (σ.2.2.1 j) p 2))).toInt64)) * (31)) + (((enc (ndS (σ.2.2.1 j) p 3))).toInt64)) * (31)) + (((enc (ndS (σ.2.2.1 j) p 4))).toInt64))), (7, .int (nI (4))), (6, .int (nI (p))), (0, .ref (1)), (3, .int (nI (j)))]) (pc := 80) dX2_digestTree_80 (by decide) rfl ?_
    refine J_iinc (i := 7) (v := nI (5)) (lv' := [(7, .int (nI (5))), (4, .long (((((((((((D) * (31)) + (((enc (ndS (σ.2.2.1 j) p 0))).toInt64)) * (31)) + (((enc (ndS (σ.2.2.1 j) p 1))).toInt64)) * (31)) + (((enc (ndS (σ.2.2.1 j) p 2))).toInt64)) * (31)) + (((enc (ndS (σ.2.2.1 j) p 3))).toInt64)) * (31)) + (((enc (ndS (σ.2.2.1 j) p 4))).toInt64))), (6, .int (nI (p))), (0, .ref (1)), (3, .int (nI (j)))]) (pc := 82) dX2_digestTree_82 rfl rfl (by decide) rfl ?_
    refine J_goto (tgt := 56) (pc := 85) dX2_digestTree_85 (by decide) ?_
    refine J_iload (i := 7) (pc := 56) dX2_digestTree_56 rfl ?_
    refine J_bipush (v := nI (6)) (pc := 58) dX2_digestTree_58 rfl ?_
    refine J_icmp_gtN (tgt := 88) (pc := 60) dX2_digestTree_60 (by decide) (by omega) (by omega) (fun c60 => by exfalso; first | omega | simp_all) (fun c60 => ?_)
    refine J_lload (i := 4) (pc := 63) dX2_digestTree_63 rfl ?_
    refine J_ldc2 (v := 31) (pc := 65) dX2_digestTree_65 q2_167 ?_
    refine J_lmul (pc := 68) dX2_digestTree_68 ?_
    refine J_aload_n (i := 0) (pc := 69) dX2_digestTree_69 rfl rfl ?_
    refine J_iload_n (i := 3) (pc := 70) dX2_digestTree_70 rfl rfl ?_
    refine J_iload (i := 6) (pc := 71) dX2_digestTree_71 rfl ?_
    refine J_iload (i := 7) (pc := 73) dX2_digestTree_73 rfl ?_
    refine J_cVi (st := [.long ((((((((((((D) * (31)) + (((enc (ndS (σ.2.2.1 j) p 0))).toInt64)) * (31)) + (((enc (ndS (σ.2.2.1 j) p 1))).toInt64)) * (31)) + (((enc (ndS (σ.2.2.1 j) p 2))).toInt64)) * (31)) + (((enc (ndS (σ.2.2.1 j) p 3))).toInt64)) * (31)) + (((enc (ndS (σ.2.2.1 j) p 4))).toInt64)) * (31))]) (As := [.int (nI (j)), .int (nI (p)), .int (nI (5))]) (pc := 75) dX2_digestTree_75 okX2_node q2_175 q2_24 q2_25 (rfl : vwCl[2]? = some _) g4 rfl (Nat.le_of_ble_eq_true rfl) (Nat.le_of_ble_eq_true rfl) (c_node5 hG hj (by omega)) ?_
    refine J_i2l (pc := 78) dX2_digestTree_78 ?_
    refine J_ladd (pc := 79) dX2_digestTree_79 ?_
    refine J_lstore (i := 4) (lv' := [(4, .long (((((((((((((D) * (31)) + (((enc (ndS (σ.2.2.1 j) p 0))).toInt64)) * (31)) + (((enc (ndS (σ.2.2.1 j) p 1))).toInt64)) * (31)) + (((enc (ndS (σ.2.2.1 j) p 2))).toInt64)) * (31)) + (((enc (ndS (σ.2.2.1 j) p 3))).toInt64)) * (31)) + (((enc (ndS (σ.2.2.1 j) p 4))).toInt64)) * (31)) + (((enc (ndS (σ.2.2.1 j) p 5))).toInt64))), (7, .int (nI (5))), (6, .int (nI (p))), (0, .ref (1)), (3, .int (nI (j)))]) (pc := 80) dX2_digestTree_80 (by decide) rfl ?_
    refine J_iinc (i := 7) (v := nI (6)) (lv' := [(7, .int (nI (6))), (4, .long (((((((((((((D) * (31)) + (((enc (ndS (σ.2.2.1 j) p 0))).toInt64)) * (31)) + (((enc (ndS (σ.2.2.1 j) p 1))).toInt64)) * (31)) + (((enc (ndS (σ.2.2.1 j) p 2))).toInt64)) * (31)) + (((enc (ndS (σ.2.2.1 j) p 3))).toInt64)) * (31)) + (((enc (ndS (σ.2.2.1 j) p 4))).toInt64)) * (31)) + (((enc (ndS (σ.2.2.1 j) p 5))).toInt64))), (6, .int (nI (p))), (0, .ref (1)), (3, .int (nI (j)))]) (pc := 82) dX2_digestTree_82 rfl rfl (by decide) rfl ?_
    refine J_goto (tgt := 56) (pc := 85) dX2_digestTree_85 (by decide) ?_
    refine J_iload (i := 7) (pc := 56) dX2_digestTree_56 rfl ?_
    refine J_bipush (v := nI (6)) (pc := 58) dX2_digestTree_58 rfl ?_
    refine J_icmp_gtN (tgt := 88) (pc := 60) dX2_digestTree_60 (by decide) (by omega) (by omega) (fun c60 => by exfalso; first | omega | simp_all) (fun c60 => ?_)
    refine J_lload (i := 4) (pc := 63) dX2_digestTree_63 rfl ?_
    refine J_ldc2 (v := 31) (pc := 65) dX2_digestTree_65 q2_167 ?_
    refine J_lmul (pc := 68) dX2_digestTree_68 ?_
    refine J_aload_n (i := 0) (pc := 69) dX2_digestTree_69 rfl rfl ?_
    refine J_iload_n (i := 3) (pc := 70) dX2_digestTree_70 rfl rfl ?_
    refine J_iload (i := 6) (pc := 71) dX2_digestTree_71 rfl ?_
    refine J_iload (i := 7) (pc := 73) dX2_digestTree_73 rfl ?_
    refine J_cVi (st := [.long ((((((((((((((D) * (31)) + (((enc (ndS (σ.2.2.1 j) p 0))).toInt64)) * (31)) + (((enc (ndS (σ.2.2.1 j) p 1))).toInt64)) * (31)) + (((enc (ndS (σ.2.2.1 j) p 2))).toInt64)) * (31)) + (((enc (ndS (σ.2.2.1 j) p 3))).toInt64)) * (31)) + (((enc (ndS (σ.2.2.1 j) p 4))).toInt64)) * (31)) + (((enc (ndS (σ.2.2.1 j) p 5))).toInt64)) * (31))]) (As := [.int (nI (j)), .int (nI (p)), .int (nI (6))]) (pc := 75) dX2_digestTree_75 okX2_node q2_175 q2_24 q2_25 (rfl : vwCl[2]? = some _) g4 rfl (Nat.le_of_ble_eq_true rfl) (Nat.le_of_ble_eq_true rfl) (c_node6 hG hj (by omega)) ?_
    refine J_i2l (pc := 78) dX2_digestTree_78 ?_
    refine J_ladd (pc := 79) dX2_digestTree_79 ?_
    refine J_lstore (i := 4) (lv' := [(4, .long (((((((((((((((D) * (31)) + (((enc (ndS (σ.2.2.1 j) p 0))).toInt64)) * (31)) + (((enc (ndS (σ.2.2.1 j) p 1))).toInt64)) * (31)) + (((enc (ndS (σ.2.2.1 j) p 2))).toInt64)) * (31)) + (((enc (ndS (σ.2.2.1 j) p 3))).toInt64)) * (31)) + (((enc (ndS (σ.2.2.1 j) p 4))).toInt64)) * (31)) + (((enc (ndS (σ.2.2.1 j) p 5))).toInt64)) * (31)) + (((enc (ndS (σ.2.2.1 j) p 6))).toInt64))), (7, .int (nI (6))), (6, .int (nI (p))), (0, .ref (1)), (3, .int (nI (j)))]) (pc := 80) dX2_digestTree_80 (by decide) rfl ?_
    refine J_iinc (i := 7) (v := nI (7)) (lv' := [(7, .int (nI (7))), (4, .long (((((((((((((((D) * (31)) + (((enc (ndS (σ.2.2.1 j) p 0))).toInt64)) * (31)) + (((enc (ndS (σ.2.2.1 j) p 1))).toInt64)) * (31)) + (((enc (ndS (σ.2.2.1 j) p 2))).toInt64)) * (31)) + (((enc (ndS (σ.2.2.1 j) p 3))).toInt64)) * (31)) + (((enc (ndS (σ.2.2.1 j) p 4))).toInt64)) * (31)) + (((enc (ndS (σ.2.2.1 j) p 5))).toInt64)) * (31)) + (((enc (ndS (σ.2.2.1 j) p 6))).toInt64))), (6, .int (nI (p))), (0, .ref (1)), (3, .int (nI (j)))]) (pc := 82) dX2_digestTree_82 rfl rfl (by decide) rfl ?_
    refine J_goto (tgt := 56) (pc := 85) dX2_digestTree_85 (by decide) ?_
    refine J_iload (i := 7) (pc := 56) dX2_digestTree_56 rfl ?_
    refine J_bipush (v := nI (6)) (pc := 58) dX2_digestTree_58 rfl ?_
    refine J_icmp_gtN (tgt := 88) (pc := 60) dX2_digestTree_60 (by decide) (by omega) (by omega) (fun c60 => ?_) (fun c60 => by exfalso; first | omega | simp_all)
    refine J_iinc (i := 6) (v := nI (p + 1)) (lv' := [(6, .int (nI (p + 1))), (7, .int (nI (7))), (4, .long (((((((((((((((D) * (31)) + (((enc (ndS (σ.2.2.1 j) p 0))).toInt64)) * (31)) + (((enc (ndS (σ.2.2.1 j) p 1))).toInt64)) * (31)) + (((enc (ndS (σ.2.2.1 j) p 2))).toInt64)) * (31)) + (((enc (ndS (σ.2.2.1 j) p 3))).toInt64)) * (31)) + (((enc (ndS (σ.2.2.1 j) p 4))).toInt64)) * (31)) + (((enc (ndS (σ.2.2.1 j) p 5))).toInt64)) * (31)) + (((enc (ndS (σ.2.2.1 j) p 6))).toInt64))), (0, .ref (1)), (3, .int (nI (j)))]) (pc := 88) dX2_digestTree_88 rfl (nI_add (p) 1) (by decide) rfl ?_
    refine J_goto (tgt := 39) (pc := 91) dX2_digestTree_91 (by decide) ?_
    refine J_sub (lv' := [(6, .int (nI (p + 1))), (4, .long (((((((((((((((D) * (31)) + (((enc (ndS (σ.2.2.1 j) p 0))).toInt64)) * (31)) + (((enc (ndS (σ.2.2.1 j) p 1))).toInt64)) * (31)) + (((enc (ndS (σ.2.2.1 j) p 2))).toInt64)) * (31)) + (((enc (ndS (σ.2.2.1 j) p 3))).toInt64)) * (31)) + (((enc (ndS (σ.2.2.1 j) p 4))).toInt64)) * (31)) + (((enc (ndS (σ.2.2.1 j) p 5))).toInt64)) * (31)) + (((enc (ndS (σ.2.2.1 j) p 6))).toInt64))), (0, .ref (1)), (3, .int (nI (j)))]) [0, 2, 3, 4] rfl ?_
    exact ih (p + 1) _ (by omega) hq

set_option maxHeartbeats 2000000 in
set_option maxRecDepth 20000 in
theorem c_digestTree {g : GT} {d : Nat} {h : MH} {σ : ST} {π : Nat → Nat} (hG : GP h σ π) {j : Nat} (hj : j < σ.2.1.1) {D : Int64} : J g (d + 4) 0 0 mX2_digestTree 0 (lv_args 0 [.ref 1, .long D, .int (nI j)]) [] h (RG (.long (dgT σ j D)) (fun h' => Fr 1 52 h h' ∧ GP h' σ π)) := by
  obtain ⟨g1, g2, g3, g4, ⟨tf, g5, g5b⟩, g6, g7, g8⟩ := id hG
  obtain ⟨o1, o2, o3, o4⟩ := id g2
  have hB := g1
  have b9 := BH_2 g1
  obtain ⟨hn, hc9, hm5, hs2⟩ := id g1.1
  have hp9 := pw_le hn
  refine J_lload_n (i := 1) (pc := 0) dX2_digestTree_0 rfl rfl ?_
  refine J_lstore (i := 4) (lv' := [(4, .long (D)), (0, .ref (1)), (1, .long (D)), (3, .int (nI (j)))]) (pc := 1) dX2_digestTree_1 (by decide) rfl ?_
  refine J_iconst (v := nI (0)) (pc := 3) dX2_digestTree_3 rfl ?_
  refine J_istore (i := 6) (lv' := [(6, .int (nI (0))), (4, .long (D)), (0, .ref (1)), (1, .long (D)), (3, .int (nI (j)))]) (pc := 4) dX2_digestTree_4 (by decide) rfl ?_
  refine J_iload (i := 6) (pc := 6) dX2_digestTree_6 rfl ?_
  refine J_bipush (v := nI (6)) (pc := 8) dX2_digestTree_8 rfl ?_
  refine J_icmp_gtN (tgt := 36) (pc := 10) dX2_digestTree_10 (by decide) (by omega) (by omega) (fun c10 => by exfalso; first | omega | simp_all) (fun c10 => ?_)
  refine J_lload (i := 4) (pc := 13) dX2_digestTree_13 rfl ?_
  refine J_ldc2 (v := 31) (pc := 15) dX2_digestTree_15 q2_167 ?_
  refine J_lmul (pc := 18) dX2_digestTree_18 ?_
  refine J_aload_n (i := 0) (pc := 19) dX2_digestTree_19 rfl rfl ?_
  refine J_iload_n (i := 3) (pc := 20) dX2_digestTree_20 rfl rfl ?_
  refine J_iload (i := 6) (pc := 21) dX2_digestTree_21 rfl ?_
  refine J_cVh (st := [.long ((D) * (31))]) (As := [.int (nI (j)), .int (nI (0))]) (pc := 23) dX2_digestTree_23 okX2_about q2_174 q2_65 q2_66 (rfl : vwCl[2]? = some _) g4 rfl (Nat.le_of_ble_eq_true rfl) (Nat.le_of_ble_eq_true rfl) (c_about0 hG hj) (fun h_1 q_2 => ?_)
  obtain ⟨fu_3, Gu_3⟩ := q_2
  obtain ⟨_, _, _, ku_3, _⟩ := id Gu_3
  refine J_i2l (pc := 26) dX2_digestTree_26 ?_
  refine J_ladd (pc := 27) dX2_digestTree_27 ?_
  refine J_lstore (i := 4) (lv' := [(4, .long (((D) * (31)) + (((abS σ j 0)).toInt64))), (6, .int (nI (0))), (0, .ref (1)), (1, .long (D)), (3, .int (nI (j)))]) (pc := 28) dX2_digestTree_28 (by decide) rfl ?_
  refine J_iinc (i := 6) (v := nI (1)) (lv' := [(6, .int (nI (1))), (4, .long (((D) * (31)) + (((abS σ j 0)).toInt64))), (0, .ref (1)), (1, .long (D)), (3, .int (nI (j)))]) (pc := 30) dX2_digestTree_30 rfl rfl (by decide) rfl ?_
  refine J_goto (tgt := 6) (pc := 33) dX2_digestTree_33 (by decide) ?_
  refine J_iload (i := 6) (pc := 6) dX2_digestTree_6 rfl ?_
  refine J_bipush (v := nI (6)) (pc := 8) dX2_digestTree_8 rfl ?_
  refine J_icmp_gtN (tgt := 36) (pc := 10) dX2_digestTree_10 (by decide) (by omega) (by omega) (fun c10 => by exfalso; first | omega | simp_all) (fun c10 => ?_)
  refine J_lload (i := 4) (pc := 13) dX2_digestTree_13 rfl ?_
  refine J_ldc2 (v := 31) (pc := 15) dX2_digestTree_15 q2_167 ?_
  refine J_lmul (pc := 18) dX2_digestTree_18 ?_
  refine J_aload_n (i := 0) (pc := 19) dX2_digestTree_19 rfl rfl ?_
  refine J_iload_n (i := 3) (pc := 20) dX2_digestTree_20 rfl rfl ?_
  refine J_iload (i := 6) (pc := 21) dX2_digestTree_21 rfl ?_
  refine J_cVh (st := [.long ((((D) * (31)) + (((abS σ j 0)).toInt64)) * (31))]) (As := [.int (nI (j)), .int (nI (1))]) (pc := 23) dX2_digestTree_23 okX2_about q2_174 q2_65 q2_66 (rfl : vwCl[2]? = some _) ku_3 rfl (Nat.le_of_ble_eq_true rfl) (Nat.le_of_ble_eq_true rfl) (c_about1 Gu_3 hj) (fun h_4 q_5 => ?_)
  obtain ⟨fu_6, Gu_6⟩ := q_5
  obtain ⟨_, _, _, ku_6, _⟩ := id Gu_6
  refine J_i2l (pc := 26) dX2_digestTree_26 ?_
  refine J_ladd (pc := 27) dX2_digestTree_27 ?_
  refine J_lstore (i := 4) (lv' := [(4, .long (((((D) * (31)) + (((abS σ j 0)).toInt64)) * (31)) + (((abS σ j 1)).toInt64))), (6, .int (nI (1))), (0, .ref (1)), (1, .long (D)), (3, .int (nI (j)))]) (pc := 28) dX2_digestTree_28 (by decide) rfl ?_
  refine J_iinc (i := 6) (v := nI (2)) (lv' := [(6, .int (nI (2))), (4, .long (((((D) * (31)) + (((abS σ j 0)).toInt64)) * (31)) + (((abS σ j 1)).toInt64))), (0, .ref (1)), (1, .long (D)), (3, .int (nI (j)))]) (pc := 30) dX2_digestTree_30 rfl rfl (by decide) rfl ?_
  refine J_goto (tgt := 6) (pc := 33) dX2_digestTree_33 (by decide) ?_
  refine J_iload (i := 6) (pc := 6) dX2_digestTree_6 rfl ?_
  refine J_bipush (v := nI (6)) (pc := 8) dX2_digestTree_8 rfl ?_
  refine J_icmp_gtN (tgt := 36) (pc := 10) dX2_digestTree_10 (by decide) (by omega) (by omega) (fun c10 => by exfalso; first | omega | simp_all) (fun c10 => ?_)
  refine J_lload (i := 4) (pc := 13) dX2_digestTree_13 rfl ?_
  refine J_ldc2 (v := 31) (pc := 15) dX2_digestTree_15 q2_167 ?_
  refine J_lmul (pc := 18) dX2_digestTree_18 ?_
  refine J_aload_n (i := 0) (pc := 19) dX2_digestTree_19 rfl rfl ?_
  refine J_iload_n (i := 3) (pc := 20) dX2_digestTree_20 rfl rfl ?_
  refine J_iload (i := 6) (pc := 21) dX2_digestTree_21 rfl ?_
  refine J_cVh (st := [.long ((((((D) * (31)) + (((abS σ j 0)).toInt64)) * (31)) + (((abS σ j 1)).toInt64)) * (31))]) (As := [.int (nI (j)), .int (nI (2))]) (pc := 23) dX2_digestTree_23 okX2_about q2_174 q2_65 q2_66 (rfl : vwCl[2]? = some _) ku_6 rfl (Nat.le_of_ble_eq_true rfl) (Nat.le_of_ble_eq_true rfl) (c_about2 Gu_6 hj) (fun h_7 q_8 => ?_)
  obtain ⟨fu_9, Gu_9⟩ := q_8
  obtain ⟨_, _, _, ku_9, _⟩ := id Gu_9
  refine J_i2l (pc := 26) dX2_digestTree_26 ?_
  refine J_ladd (pc := 27) dX2_digestTree_27 ?_
  refine J_lstore (i := 4) (lv' := [(4, .long (((((((D) * (31)) + (((abS σ j 0)).toInt64)) * (31)) + (((abS σ j 1)).toInt64)) * (31)) + (((abS σ j 2)).toInt64))), (6, .int (nI (2))), (0, .ref (1)), (1, .long (D)), (3, .int (nI (j)))]) (pc := 28) dX2_digestTree_28 (by decide) rfl ?_
  refine J_iinc (i := 6) (v := nI (3)) (lv' := [(6, .int (nI (3))), (4, .long (((((((D) * (31)) + (((abS σ j 0)).toInt64)) * (31)) + (((abS σ j 1)).toInt64)) * (31)) + (((abS σ j 2)).toInt64))), (0, .ref (1)), (1, .long (D)), (3, .int (nI (j)))]) (pc := 30) dX2_digestTree_30 rfl rfl (by decide) rfl ?_
  refine J_goto (tgt := 6) (pc := 33) dX2_digestTree_33 (by decide) ?_
  refine J_iload (i := 6) (pc := 6) dX2_digestTree_6 rfl ?_
  refine J_bipush (v := nI (6)) (pc := 8) dX2_digestTree_8 rfl ?_
  refine J_icmp_gtN (tgt := 36) (pc := 10) dX2_digestTree_10 (by decide) (by omega) (by omega) (fun c10 => by exfalso; first | omega | simp_all) (fun c10 => ?_)
  refine J_lload (i := 4) (pc := 13) dX2_digestTree_13 rfl ?_
  refine J_ldc2 (v := 31) (pc := 15) dX2_digestTree_15 q2_167 ?_
  refine J_lmul (pc := 18) dX2_digestTree_18 ?_
  refine J_aload_n (i := 0) (pc := 19) dX2_digestTree_19 rfl rfl ?_
  refine J_iload_n (i := 3) (pc := 20) dX2_digestTree_20 rfl rfl ?_
  refine J_iload (i := 6) (pc := 21) dX2_digestTree_21 rfl ?_
  refine J_cVh (st := [.long ((((((((D) * (31)) + (((abS σ j 0)).toInt64)) * (31)) + (((abS σ j 1)).toInt64)) * (31)) + (((abS σ j 2)).toInt64)) * (31))]) (As := [.int (nI (j)), .int (nI (3))]) (pc := 23) dX2_digestTree_23 okX2_about q2_174 q2_65 q2_66 (rfl : vwCl[2]? = some _) ku_9 rfl (Nat.le_of_ble_eq_true rfl) (Nat.le_of_ble_eq_true rfl) (c_about3 Gu_9 hj) (fun h_10 q_11 => ?_)
  obtain ⟨fu_12, Gu_12⟩ := q_11
  obtain ⟨_, _, _, ku_12, _⟩ := id Gu_12
  refine J_i2l (pc := 26) dX2_digestTree_26 ?_
  refine J_ladd (pc := 27) dX2_digestTree_27 ?_
  refine J_lstore (i := 4) (lv' := [(4, .long (((((((((D) * (31)) + (((abS σ j 0)).toInt64)) * (31)) + (((abS σ j 1)).toInt64)) * (31)) + (((abS σ j 2)).toInt64)) * (31)) + (((abS σ j 3)).toInt64))), (6, .int (nI (3))), (0, .ref (1)), (1, .long (D)), (3, .int (nI (j)))]) (pc := 28) dX2_digestTree_28 (by decide) rfl ?_
  refine J_iinc (i := 6) (v := nI (4)) (lv' := [(6, .int (nI (4))), (4, .long (((((((((D) * (31)) + (((abS σ j 0)).toInt64)) * (31)) + (((abS σ j 1)).toInt64)) * (31)) + (((abS σ j 2)).toInt64)) * (31)) + (((abS σ j 3)).toInt64))), (0, .ref (1)), (1, .long (D)), (3, .int (nI (j)))]) (pc := 30) dX2_digestTree_30 rfl rfl (by decide) rfl ?_
  refine J_goto (tgt := 6) (pc := 33) dX2_digestTree_33 (by decide) ?_
  refine J_iload (i := 6) (pc := 6) dX2_digestTree_6 rfl ?_
  refine J_bipush (v := nI (6)) (pc := 8) dX2_digestTree_8 rfl ?_
  refine J_icmp_gtN (tgt := 36) (pc := 10) dX2_digestTree_10 (by decide) (by omega) (by omega) (fun c10 => by exfalso; first | omega | simp_all) (fun c10 => ?_)
  refine J_lload (i := 4) (pc := 13) dX2_digestTree_13 rfl ?_
  refine J_ldc2 (v := 31) (pc := 15) dX2_digestTree_15 q2_167 ?_
  refine J_lmul (pc := 18) dX2_digestTree_18 ?_
  refine J_aload_n (i := 0) (pc := 19) dX2_digestTree_19 rfl rfl ?_
  refine J_iload_n (i := 3) (pc := 20) dX2_digestTree_20 rfl rfl ?_
  refine J_iload (i := 6) (pc := 21) dX2_digestTree_21 rfl ?_
  refine J_cVh (st := [.long ((((((((((D) * (31)) + (((abS σ j 0)).toInt64)) * (31)) + (((abS σ j 1)).toInt64)) * (31)) + (((abS σ j 2)).toInt64)) * (31)) + (((abS σ j 3)).toInt64)) * (31))]) (As := [.int (nI (j)), .int (nI (4))]) (pc := 23) dX2_digestTree_23 okX2_about q2_174 q2_65 q2_66 (rfl : vwCl[2]? = some _) ku_12 rfl (Nat.le_of_ble_eq_true rfl) (Nat.le_of_ble_eq_true rfl) (c_about4 Gu_12 hj) (fun h_13 q_14 => ?_)
  obtain ⟨fu_15, Gu_15⟩ := q_14
  obtain ⟨_, _, _, ku_15, _⟩ := id Gu_15
  refine J_i2l (pc := 26) dX2_digestTree_26 ?_
  refine J_ladd (pc := 27) dX2_digestTree_27 ?_
  refine J_lstore (i := 4) (lv' := [(4, .long (((((((((((D) * (31)) + (((abS σ j 0)).toInt64)) * (31)) + (((abS σ j 1)).toInt64)) * (31)) + (((abS σ j 2)).toInt64)) * (31)) + (((abS σ j 3)).toInt64)) * (31)) + (((abS σ j 4)).toInt64))), (6, .int (nI (4))), (0, .ref (1)), (1, .long (D)), (3, .int (nI (j)))]) (pc := 28) dX2_digestTree_28 (by decide) rfl ?_
  refine J_iinc (i := 6) (v := nI (5)) (lv' := [(6, .int (nI (5))), (4, .long (((((((((((D) * (31)) + (((abS σ j 0)).toInt64)) * (31)) + (((abS σ j 1)).toInt64)) * (31)) + (((abS σ j 2)).toInt64)) * (31)) + (((abS σ j 3)).toInt64)) * (31)) + (((abS σ j 4)).toInt64))), (0, .ref (1)), (1, .long (D)), (3, .int (nI (j)))]) (pc := 30) dX2_digestTree_30 rfl rfl (by decide) rfl ?_
  refine J_goto (tgt := 6) (pc := 33) dX2_digestTree_33 (by decide) ?_
  refine J_iload (i := 6) (pc := 6) dX2_digestTree_6 rfl ?_
  refine J_bipush (v := nI (6)) (pc := 8) dX2_digestTree_8 rfl ?_
  refine J_icmp_gtN (tgt := 36) (pc := 10) dX2_digestTree_10 (by decide) (by omega) (by omega) (fun c10 => by exfalso; first | omega | simp_all) (fun c10 => ?_)
  refine J_lload (i := 4) (pc := 13) dX2_digestTree_13 rfl ?_
  refine J_ldc2 (v := 31) (pc := 15) dX2_digestTree_15 q2_167 ?_
  refine J_lmul (pc := 18) dX2_digestTree_18 ?_
  refine J_aload_n (i := 0) (pc := 19) dX2_digestTree_19 rfl rfl ?_
  refine J_iload_n (i := 3) (pc := 20) dX2_digestTree_20 rfl rfl ?_
  refine J_iload (i := 6) (pc := 21) dX2_digestTree_21 rfl ?_
  refine J_cVh (st := [.long ((((((((((((D) * (31)) + (((abS σ j 0)).toInt64)) * (31)) + (((abS σ j 1)).toInt64)) * (31)) + (((abS σ j 2)).toInt64)) * (31)) + (((abS σ j 3)).toInt64)) * (31)) + (((abS σ j 4)).toInt64)) * (31))]) (As := [.int (nI (j)), .int (nI (5))]) (pc := 23) dX2_digestTree_23 okX2_about q2_174 q2_65 q2_66 (rfl : vwCl[2]? = some _) ku_15 rfl (Nat.le_of_ble_eq_true rfl) (Nat.le_of_ble_eq_true rfl) (c_about5 Gu_15 hj) (fun h_16 q_17 => ?_)
  obtain ⟨fu_18, Gu_18⟩ := q_17
  obtain ⟨_, _, _, ku_18, _⟩ := id Gu_18
  refine J_i2l (pc := 26) dX2_digestTree_26 ?_
  refine J_ladd (pc := 27) dX2_digestTree_27 ?_
  refine J_lstore (i := 4) (lv' := [(4, .long (((((((((((((D) * (31)) + (((abS σ j 0)).toInt64)) * (31)) + (((abS σ j 1)).toInt64)) * (31)) + (((abS σ j 2)).toInt64)) * (31)) + (((abS σ j 3)).toInt64)) * (31)) + (((abS σ j 4)).toInt64)) * (31)) + (((abS σ j 5)).toInt64))), (6, .int (nI (5))), (0, .ref (1)), (1, .long (D)), (3, .int (nI (j)))]) (pc := 28) dX2_digestTree_28 (by decide) rfl ?_
  refine J_iinc (i := 6) (v := nI (6)) (lv' := [(6, .int (nI (6))), (4, .long (((((((((((((D) * (31)) + (((abS σ j 0)).toInt64)) * (31)) + (((abS σ j 1)).toInt64)) * (31)) + (((abS σ j 2)).toInt64)) * (31)) + (((abS σ j 3)).toInt64)) * (31)) + (((abS σ j 4)).toInt64)) * (31)) + (((abS σ j 5)).toInt64))), (0, .ref (1)), (1, .long (D)), (3, .int (nI (j)))]) (pc := 30) dX2_digestTree_30 rfl rfl (by decide) rfl ?_
  refine J_goto (tgt := 6) (pc := 33) dX2_digestTree_33 (by decide) ?_
  refine J_iload (i := 6) (pc := 6) dX2_digestTree_6 rfl ?_
  refine J_bipush (v := nI (6)) (pc := 8) dX2_digestTree_8 rfl ?_
  refine J_icmp_gtN (tgt := 36) (pc := 10) dX2_digestTree_10 (by decide) (by omega) (by omega) (fun c10 => by exfalso; first | omega | simp_all) (fun c10 => ?_)
  refine J_lload (i := 4) (pc := 13) dX2_digestTree_13 rfl ?_
  refine J_ldc2 (v := 31) (pc := 15) dX2_digestTree_15 q2_167 ?_
  refine J_lmul (pc := 18) dX2_digestTree_18 ?_
  refine J_aload_n (i := 0) (pc := 19) dX2_digestTree_19 rfl rfl ?_
  refine J_iload_n (i := 3) (pc := 20) dX2_digestTree_20 rfl rfl ?_
  refine J_iload (i := 6) (pc := 21) dX2_digestTree_21 rfl ?_
  refine J_cVh (st := [.long ((((((((((((((D) * (31)) + (((abS σ j 0)).toInt64)) * (31)) + (((abS σ j 1)).toInt64)) * (31)) + (((abS σ j 2)).toInt64)) * (31)) + (((abS σ j 3)).toInt64)) * (31)) + (((abS σ j 4)).toInt64)) * (31)) + (((abS σ j 5)).toInt64)) * (31))]) (As := [.int (nI (j)), .int (nI (6))]) (pc := 23) dX2_digestTree_23 okX2_about q2_174 q2_65 q2_66 (rfl : vwCl[2]? = some _) ku_18 rfl (Nat.le_of_ble_eq_true rfl) (Nat.le_of_ble_eq_true rfl) (c_about6 Gu_18 hj) (fun h_19 q_20 => ?_)
  obtain ⟨fu_21, Gu_21⟩ := q_20
  obtain ⟨_, _, _, ku_21, _⟩ := id Gu_21
  refine J_i2l (pc := 26) dX2_digestTree_26 ?_
  refine J_ladd (pc := 27) dX2_digestTree_27 ?_
  refine J_lstore (i := 4) (lv' := [(4, .long (((((((((((((((D) * (31)) + (((abS σ j 0)).toInt64)) * (31)) + (((abS σ j 1)).toInt64)) * (31)) + (((abS σ j 2)).toInt64)) * (31)) + (((abS σ j 3)).toInt64)) * (31)) + (((abS σ j 4)).toInt64)) * (31)) + (((abS σ j 5)).toInt64)) * (31)) + (((abS σ j 6)).toInt64))), (6, .int (nI (6))), (0, .ref (1)), (1, .long (D)), (3, .int (nI (j)))]) (pc := 28) dX2_digestTree_28 (by decide) rfl ?_
  refine J_iinc (i := 6) (v := nI (7)) (lv' := [(6, .int (nI (7))), (4, .long (((((((((((((((D) * (31)) + (((abS σ j 0)).toInt64)) * (31)) + (((abS σ j 1)).toInt64)) * (31)) + (((abS σ j 2)).toInt64)) * (31)) + (((abS σ j 3)).toInt64)) * (31)) + (((abS σ j 4)).toInt64)) * (31)) + (((abS σ j 5)).toInt64)) * (31)) + (((abS σ j 6)).toInt64))), (0, .ref (1)), (1, .long (D)), (3, .int (nI (j)))]) (pc := 30) dX2_digestTree_30 rfl rfl (by decide) rfl ?_
  refine J_goto (tgt := 6) (pc := 33) dX2_digestTree_33 (by decide) ?_
  refine J_iload (i := 6) (pc := 6) dX2_digestTree_6 rfl ?_
  refine J_bipush (v := nI (6)) (pc := 8) dX2_digestTree_8 rfl ?_
  refine J_icmp_gtN (tgt := 36) (pc := 10) dX2_digestTree_10 (by decide) (by omega) (by omega) (fun c10 => ?_) (fun c10 => by exfalso; first | omega | simp_all)
  refine J_iconst (v := nI (0)) (pc := 36) dX2_digestTree_36 rfl ?_
  refine J_istore (i := 6) (lv' := [(6, .int (nI (0))), (4, .long (((((((((((((((D) * (31)) + (((abS σ j 0)).toInt64)) * (31)) + (((abS σ j 1)).toInt64)) * (31)) + (((abS σ j 2)).toInt64)) * (31)) + (((abS σ j 3)).toInt64)) * (31)) + (((abS σ j 4)).toInt64)) * (31)) + (((abS σ j 5)).toInt64)) * (31)) + (((abS σ j 6)).toInt64))), (0, .ref (1)), (1, .long (D)), (3, .int (nI (j)))]) (pc := 37) dX2_digestTree_37 (by decide) rfl ?_
  refine J_sub (lv' := [(6, .int (nI (0))), (4, .long (((((((((((((((D) * (31)) + (((abS σ j 0)).toInt64)) * (31)) + (((abS σ j 1)).toInt64)) * (31)) + (((abS σ j 2)).toInt64)) * (31)) + (((abS σ j 3)).toInt64)) * (31)) + (((abS σ j 4)).toInt64)) * (31)) + (((abS σ j 5)).toInt64)) * (31)) + (((abS σ j 6)).toInt64))), (0, .ref (1)), (3, .int (nI (j)))]) [0, 1, 2, 4] rfl ?_
  exact dn_loop Gu_21 hj _ 0 _ (Nat.zero_add _) ⟨rfl, (Fr_tr (Fr_tr (Fr_tr (Fr_tr (Fr_tr (Fr_tr (Fr_tr Fr_rfl fu_3) fu_6) fu_9) fu_12) fu_15) fu_18) fu_21), Gu_21⟩

set_option maxHeartbeats 2000000 in
set_option maxRecDepth 20000 in
theorem dt_loop {g : GT} {d : Nat} {σ : ST} {π : Nat → Nat} {Q : RT → MH → Prop} : ∀ (k j : Nat) (D : Int64) (h : MH), j + k = σ.2.1.1 → GP h σ π → (∀ h', Fr 1 52 h h' → GP h' σ π → Q (.inl (some (.long (dgF σ k j D)))) h') → J g (d + 5) 0 0 mX2_digest 82 [(3, .int (nI (j))), (1, .long (D)), (0, .ref (1))] [] h Q := by
  intro k
  induction k with
  | zero =>
    intro j D h hj hG hq
    obtain ⟨g1, g2, g3, g4, ⟨tf, g5, g5b⟩, g6, g7, g8⟩ := id hG
    obtain ⟨o1, o2, o3, o4⟩ := id g2
    have hB := g1
    have b9 := BH_2 g1
    obtain ⟨hn, hc9, hm5, hs2⟩ := id g1.1
    have hp9 := pw_le hn
    refine J_iload_n (i := 3) (pc := 82) dX2_digest_82 rfl rfl ?_
    refine J_aload_n (i := 0) (pc := 83) dX2_digest_83 rfl rfl ?_
    refine J_getf (k := 3) (pc := 84) dX2_digest_84 flX2_27 g4 rfl ?_
    refine J_icmp_geN (tgt := 103) (pc := 87) dX2_digest_87 (by decide) (by omega) (by omega) (fun c87 => ?_) (fun c87 => by exfalso; first | omega | simp_all)
    refine J_lload_n (i := 1) (pc := 103) dX2_digest_103 rfl rfl ?_
    refine J_lret (pc := 104) dX2_digest_104 rfl ?_
    exact hq h Fr_rfl hG
  | succ k ih =>
    intro j D h hk hG hq
    have hj : j < σ.2.1.1 := by omega
    obtain ⟨g1, g2, g3, g4, ⟨tf, g5, g5b⟩, g6, g7, g8⟩ := id hG
    obtain ⟨o1, o2, o3, o4⟩ := id g2
    have hB := g1
    have b9 := BH_2 g1
    obtain ⟨hn, hc9, hm5, hs2⟩ := id g1.1
    have hp9 := pw_le hn
    refine J_iload_n (i := 3) (pc := 82) dX2_digest_82 rfl rfl ?_
    refine J_aload_n (i := 0) (pc := 83) dX2_digest_83 rfl rfl ?_
    refine J_getf (k := 3) (pc := 84) dX2_digest_84 flX2_27 g4 rfl ?_
    refine J_icmp_geN (tgt := 103) (pc := 87) dX2_digest_87 (by decide) (by omega) (by omega) (fun c87 => by exfalso; first | omega | simp_all) (fun c87 => ?_)
    refine J_aload_n (i := 0) (pc := 90) dX2_digest_90 rfl rfl ?_
    refine J_lload_n (i := 1) (pc := 91) dX2_digest_91 rfl rfl ?_
    refine J_iload_n (i := 3) (pc := 92) dX2_digest_92 rfl rfl ?_
    refine J_cVg (st := []) (As := [.long (D), .int (nI (j))]) (pc := 93) dX2_digest_93 okX2_digestTree q2_170 q2_172 qs1_11 (rfl : vwCl[2]? = some _) g4 rfl (Nat.le_of_ble_eq_true rfl) (Nat.le_of_ble_eq_true rfl) (c_digestTree hG hj) (fun h_1 q_2 => ?_)
    obtain ⟨fu_3, Gu_3⟩ := q_2
    obtain ⟨_, _, _, ku_3, _⟩ := id Gu_3
    refine J_lstore_n (i := 1) (lv' := [(1, .long (dgT σ j D)), (3, .int (nI (j))), (0, .ref (1))]) (pc := 96) dX2_digest_96 rfl (by decide) rfl ?_
    refine J_iinc (i := 3) (v := nI (j + 1)) (lv' := [(3, .int (nI (j + 1))), (1, .long (dgT σ j D)), (0, .ref (1))]) (pc := 97) dX2_digest_97 rfl (nI_add (j) 1) (by decide) rfl ?_
    refine J_goto (tgt := 82) (pc := 100) dX2_digest_100 (by decide) ?_
    refine J_sub (lv' := [(3, .int (nI (j + 1))), (1, .long (dgT σ j D)), (0, .ref (1))]) [0, 1, 2] rfl ?_
    exact ih (j + 1) _ _ (by omega) Gu_3 (fun h' f9 g9 => hq h' (Fr_tr (Fr_tr Fr_rfl fu_3) f9) g9)
theorem db_loop {g : GT} {d : Nat} {h : MH} {σ : ST} {π : Nat → Nat} (hG : GP h σ π) {Q : RT → MH → Prop} (hq : ∀ h', Fr 1 52 h h' → GP h' σ π → Q (.inl (some (.long (dgS σ)))) h') : ∀ (k b : Nat) (D : Int64), b + k = σ.1.1 → dgB σ k b D = dgB σ σ.1.1 0 (dgC σ) → J g (d + 5) 0 0 mX2_digest 33 [(3, .int (nI (b))), (1, .long (D)), (0, .ref (1))] [] h Q := by
  obtain ⟨g1, g2, g3, g4, ⟨tf, g5, g5b⟩, g6, g7, g8⟩ := id hG
  obtain ⟨o1, o2, o3, o4⟩ := id g2
  have hB := g1
  have b9 := BH_2 g1
  obtain ⟨hn, hc9, hm5, hs2⟩ := id g1.1
  have hp9 := pw_le hn
  intro k
  induction k with
  | zero =>
    intro b D hb eD
    have eD2 : D = dgB σ σ.1.1 0 (dgC σ) := eD
    refine J_iload_n (i := 3) (pc := 33) dX2_digest_33 rfl rfl ?_
    refine J_aload_n (i := 0) (pc := 34) dX2_digest_34 rfl rfl ?_
    refine J_getf (k := 0) (pc := 35) dX2_digest_35 flX2_12 g4 rfl ?_
    refine J_cVi (st := [.int (nI (b))]) (As := []) (pc := 38) dX2_digest_38 okX0_howMany q1_21 q1_22 q1_23 (rfl : vwCl[0]? = some _) b9 rfl (Nat.le_of_ble_eq_true rfl) (Nat.le_of_ble_eq_true rfl) (c_howMany hB) ?_
    refine J_icmp_geN (tgt := 80) (pc := 41) dX2_digest_41 (by decide) (by omega) (by omega) (fun c41 => ?_) (fun c41 => by exfalso; first | omega | simp_all)
    refine J_iconst (v := nI (0)) (pc := 80) dX2_digest_80 rfl ?_
    refine J_istore_n (i := 3) (lv' := [(3, .int (nI (0))), (1, .long (D)), (0, .ref (1))]) (pc := 81) dX2_digest_81 rfl (by decide) rfl ?_
    refine J_sub (lv' := [(3, .int (nI (0))), (1, .long (D)), (0, .ref (1))]) [0, 1, 2] rfl ?_
    exact dt_loop σ.2.1.1 0 D h (Nat.zero_add _) hG (fun h' f9 g9 => by rw [eD2]; exact hq h' f9 g9)
  | succ k ih =>
    intro b D hk eD
    have hb : b < σ.1.1 := by omega
    refine J_iload_n (i := 3) (pc := 33) dX2_digest_33 rfl rfl ?_
    refine J_aload_n (i := 0) (pc := 34) dX2_digest_34 rfl rfl ?_
    refine J_getf (k := 0) (pc := 35) dX2_digest_35 flX2_12 g4 rfl ?_
    refine J_cVi (st := [.int (nI (b))]) (As := []) (pc := 38) dX2_digest_38 okX0_howMany q1_21 q1_22 q1_23 (rfl : vwCl[0]? = some _) b9 rfl (Nat.le_of_ble_eq_true rfl) (Nat.le_of_ble_eq_true rfl) (c_howMany hB) ?_
    refine J_icmp_geN (tgt := 80) (pc := 41) dX2_digest_41 (by decide) (by omega) (by omega) (fun c41 => by exfalso; first | omega | simp_all) (fun c41 => ?_)
    refine J_iconst (v := nI (0)) (pc := 44) dX2_digest_44 rfl ?_
    refine J_istore (i := 4) (lv' := [(4, .int (nI (0))), (3, .int (nI (b))), (1, .long (D)), (0, .ref (1))]) (pc := 45) dX2_digest_45 (by decide) rfl ?_
    refine J_iload (i := 4) (pc := 47) dX2_digest_47 rfl ?_
    refine J_iconst (v := nI (4)) (pc := 49) dX2_digest_49 rfl ?_
    refine J_icmp_gtN (tgt := 74) (pc := 50) dX2_digest_50 (by decide) (by omega) (by omega) (fun c50 => by exfalso; first | omega | simp_all) (fun c50 => ?_)
    refine J_lload_n (i := 1) (pc := 53) dX2_digest_53 rfl rfl ?_
    refine J_ldc2 (v := 31) (pc := 54) dX2_digest_54 q2_167 ?_
    refine J_lmul (pc := 57) dX2_digest_57 ?_
    refine J_aload_n (i := 0) (pc := 58) dX2_digest_58 rfl rfl ?_
    refine J_iload_n (i := 3) (pc := 59) dX2_digest_59 rfl rfl ?_
    refine J_iload (i := 4) (pc := 60) dX2_digest_60 rfl ?_
    refine J_cVi (st := [.long ((D) * (31))]) (As := [.int (nI (b)), .int (nI (0))]) (pc := 62) dX2_digest_62 okX2_told q2_169 q2_97 q2_98 (rfl : vwCl[2]? = some _) g4 rfl (Nat.le_of_ble_eq_true rfl) (Nat.le_of_ble_eq_true rfl) (c_told0 hG hb) ?_
    refine J_i2l (pc := 65) dX2_digest_65 ?_
    refine J_ladd (pc := 66) dX2_digest_66 ?_
    refine J_lstore_n (i := 1) (lv' := [(1, .long (((D) * (31)) + (((nI (toS σ b 0))).toInt64))), (4, .int (nI (0))), (3, .int (nI (b))), (0, .ref (1))]) (pc := 67) dX2_digest_67 rfl (by decide) rfl ?_
    refine J_iinc (i := 4) (v := nI (1)) (lv' := [(4, .int (nI (1))), (1, .long (((D) * (31)) + (((nI (toS σ b 0))).toInt64))), (3, .int (nI (b))), (0, .ref (1))]) (pc := 68) dX2_digest_68 rfl rfl (by decide) rfl ?_
    refine J_goto (tgt := 47) (pc := 71) dX2_digest_71 (by decide) ?_
    refine J_iload (i := 4) (pc := 47) dX2_digest_47 rfl ?_
    refine J_iconst (v := nI (4)) (pc := 49) dX2_digest_49 rfl ?_
    refine J_icmp_gtN (tgt := 74) (pc := 50) dX2_digest_50 (by decide) (by omega) (by omega) (fun c50 => by exfalso; first | omega | simp_all) (fun c50 => ?_)
    refine J_lload_n (i := 1) (pc := 53) dX2_digest_53 rfl rfl ?_
    refine J_ldc2 (v := 31) (pc := 54) dX2_digest_54 q2_167 ?_
    refine J_lmul (pc := 57) dX2_digest_57 ?_
    refine J_aload_n (i := 0) (pc := 58) dX2_digest_58 rfl rfl ?_
    refine J_iload_n (i := 3) (pc := 59) dX2_digest_59 rfl rfl ?_
    refine J_iload (i := 4) (pc := 60) dX2_digest_60 rfl ?_
    refine J_cVi (st := [.long ((((D) * (31)) + (((nI (toS σ b 0))).toInt64)) * (31))]) (As := [.int (nI (b)), .int (nI (1))]) (pc := 62) dX2_digest_62 okX2_told q2_169 q2_97 q2_98 (rfl : vwCl[2]? = some _) g4 rfl (Nat.le_of_ble_eq_true rfl) (Nat.le_of_ble_eq_true rfl) (c_told1 hG hb) ?_
    refine J_i2l (pc := 65) dX2_digest_65 ?_
    refine J_ladd (pc := 66) dX2_digest_66 ?_
    refine J_lstore_n (i := 1) (lv' := [(1, .long (((((D) * (31)) + (((nI (toS σ b 0))).toInt64)) * (31)) + (((nI (toS σ b 1))).toInt64))), (4, .int (nI (1))), (3, .int (nI (b))), (0, .ref (1))]) (pc := 67) dX2_digest_67 rfl (by decide) rfl ?_
    refine J_iinc (i := 4) (v := nI (2)) (lv' := [(4, .int (nI (2))), (1, .long (((((D) * (31)) + (((nI (toS σ b 0))).toInt64)) * (31)) + (((nI (toS σ b 1))).toInt64))), (3, .int (nI (b))), (0, .ref (1))]) (pc := 68) dX2_digest_68 rfl rfl (by decide) rfl ?_
    refine J_goto (tgt := 47) (pc := 71) dX2_digest_71 (by decide) ?_
    refine J_iload (i := 4) (pc := 47) dX2_digest_47 rfl ?_
    refine J_iconst (v := nI (4)) (pc := 49) dX2_digest_49 rfl ?_
    refine J_icmp_gtN (tgt := 74) (pc := 50) dX2_digest_50 (by decide) (by omega) (by omega) (fun c50 => by exfalso; first | omega | simp_all) (fun c50 => ?_)
    refine J_lload_n (i := 1) (pc := 53) dX2_digest_53 rfl rfl ?_
    refine J_ldc2 (v := 31) (pc := 54) dX2_digest_54 q2_167 ?_
    refine J_lmul (pc := 57) dX2_digest_57 ?_
    refine J_aload_n (i := 0) (pc := 58) dX2_digest_58 rfl rfl ?_
    refine J_iload_n (i := 3) (pc := 59) dX2_digest_59 rfl rfl ?_
    refine J_iload (i := 4) (pc := 60) dX2_digest_60 rfl ?_
    refine J_cVi (st := [.long ((((((D) * (31)) + (((nI (toS σ b 0))).toInt64)) * (31)) + (((nI (toS σ b 1))).toInt64)) * (31))]) (As := [.int (nI (b)), .int (nI (2))]) (pc := 62) dX2_digest_62 okX2_told q2_169 q2_97 q2_98 (rfl : vwCl[2]? = some _) g4 rfl (Nat.le_of_ble_eq_true rfl) (Nat.le_of_ble_eq_true rfl) (c_told2 hG hb) ?_
    refine J_i2l (pc := 65) dX2_digest_65 ?_
    refine J_ladd (pc := 66) dX2_digest_66 ?_
    refine J_lstore_n (i := 1) (lv' := [(1, .long (((((((D) * (31)) + (((nI (toS σ b 0))).toInt64)) * (31)) + (((nI (toS σ b 1))).toInt64)) * (31)) + (((nI (toS σ b 2))).toInt64))), (4, .int (nI (2))), (3, .int (nI (b))), (0, .ref (1))]) (pc := 67) dX2_digest_67 rfl (by decide) rfl ?_
    refine J_iinc (i := 4) (v := nI (3)) (lv' := [(4, .int (nI (3))), (1, .long (((((((D) * (31)) + (((nI (toS σ b 0))).toInt64)) * (31)) + (((nI (toS σ b 1))).toInt64)) * (31)) + (((nI (toS σ b 2))).toInt64))), (3, .int (nI (b))), (0, .ref (1))]) (pc := 68) dX2_digest_68 rfl rfl (by decide) rfl ?_
    refine J_goto (tgt := 47) (pc := 71) dX2_digest_71 (by decide) ?_
    refine J_iload (i := 4) (pc := 47) dX2_digest_47 rfl ?_
    refine J_iconst (v := nI (4)) (pc := 49) dX2_digest_49 rfl ?_
    refine J_icmp_gtN (tgt := 74) (pc := 50) dX2_digest_50 (by decide) (by omega) (by omega) (fun c50 => by exfalso; first | omega | simp_all) (fun c50 => ?_)
    refine J_lload_n (i := 1) (pc := 53) dX2_digest_53 rfl rfl ?_
    refine J_ldc2 (v := 31) (pc := 54) dX2_digest_54 q2_167 ?_
    refine J_lmul (pc := 57) dX2_digest_57 ?_
    refine J_aload_n (i := 0) (pc := 58) dX2_digest_58 rfl rfl ?_
    refine J_iload_n (i := 3) (pc := 59) dX2_digest_59 rfl rfl ?_
    refine J_iload (i := 4) (pc := 60) dX2_digest_60 rfl ?_
    refine J_cVi (st := [.long ((((((((D) * (31)) + (((nI (toS σ b 0))).toInt64)) * (31)) + (((nI (toS σ b 1))).toInt64)) * (31)) + (((nI (toS σ b 2))).toInt64)) * (31))]) (As := [.int (nI (b)), .int (nI (3))]) (pc := 62) dX2_digest_62 okX2_told q2_169 q2_97 q2_98 (rfl : vwCl[2]? = some _) g4 rfl (Nat.le_of_ble_eq_true rfl) (Nat.le_of_ble_eq_true rfl) (c_told3 hG hb) ?_
    refine J_i2l (pc := 65) dX2_digest_65 ?_
    refine J_ladd (pc := 66) dX2_digest_66 ?_
    refine J_lstore_n (i := 1) (lv' := [(1, .long (((((((((D) * (31)) + (((nI (toS σ b 0))).toInt64)) * (31)) + (((nI (toS σ b 1))).toInt64)) * (31)) + (((nI (toS σ b 2))).toInt64)) * (31)) + (((nI (toS σ b 3))).toInt64))), (4, .int (nI (3))), (3, .int (nI (b))), (0, .ref (1))]) (pc := 67) dX2_digest_67 rfl (by decide) rfl ?_
    refine J_iinc (i := 4) (v := nI (4)) (lv' := [(4, .int (nI (4))), (1, .long (((((((((D) * (31)) + (((nI (toS σ b 0))).toInt64)) * (31)) + (((nI (toS σ b 1))).toInt64)) * (31)) + (((nI (toS σ b 2))).toInt64)) * (31)) + (((nI (toS σ b 3))).toInt64))), (3, .int (nI (b))), (0, .ref (1))]) (pc := 68) dX2_digest_68 rfl rfl (by decide) rfl ?_
    refine J_goto (tgt := 47) (pc := 71) dX2_digest_71 (by decide) ?_
    refine J_iload (i := 4) (pc := 47) dX2_digest_47 rfl ?_
    refine J_iconst (v := nI (4)) (pc := 49) dX2_digest_49 rfl ?_
    refine J_icmp_gtN (tgt := 74) (pc := 50) dX2_digest_50 (by decide) (by omega) (by omega) (fun c50 => by exfalso; first | omega | simp_all) (fun c50 => ?_)
    refine J_lload_n (i := 1) (pc := 53) dX2_digest_53 rfl rfl ?_
    refine J_ldc2 (v := 31) (pc := 54) dX2_digest_54 q2_167 ?_
    refine J_lmul (pc := 57) dX2_digest_57 ?_
    refine J_aload_n (i := 0) (pc := 58) dX2_digest_58 rfl rfl ?_
    refine J_iload_n (i := 3) (pc := 59) dX2_digest_59 rfl rfl ?_
    refine J_iload (i := 4) (pc := 60) dX2_digest_60 rfl ?_
    refine J_cVi (st := [.long ((((((((((D) * (31)) + (((nI (toS σ b 0))).toInt64)) * (31)) + (((nI (toS σ b 1))).toInt64)) * (31)) + (((nI (toS σ b 2))).toInt64)) * (31)) + (((nI (toS σ b 3))).toInt64)) * (31))]) (As := [.int (nI (b)), .int (nI (4))]) (pc := 62) dX2_digest_62 okX2_told q2_169 q2_97 q2_98 (rfl : vwCl[2]? = some _) g4 rfl (Nat.le_of_ble_eq_true rfl) (Nat.le_of_ble_eq_true rfl) (c_told4 hG hb) ?_
    refine J_i2l (pc := 65) dX2_digest_65 ?_
    refine J_ladd (pc := 66) dX2_digest_66 ?_
    refine J_lstore_n (i := 1) (lv' := [(1, .long (((((((((((D) * (31)) + (((nI (toS σ b 0))).toInt64)) * (31)) + (((nI (toS σ b 1))).toInt64)) * (31)) + (((nI (toS σ b 2))).toInt64)) * (31)) + (((nI (toS σ b 3))).toInt64)) * (31)) + (((nI (toS σ b 4))).toInt64))), (4, .int (nI (4))), (3, .int (nI (b))), (0, .ref (1))]) (pc := 67) dX2_digest_67 rfl (by decide) rfl ?_
    refine J_iinc (i := 4) (v := nI (5)) (lv' := [(4, .int (nI (5))), (1, .long (((((((((((D) * (31)) + (((nI (toS σ b 0))).toInt64)) * (31)) + (((nI (toS σ b 1))).toInt64)) * (31)) + (((nI (toS σ b 2))).toInt64)) * (31)) + (((nI (toS σ b 3))).toInt64)) * (31)) + (((nI (toS σ b 4))).toInt64))), (3, .int (nI (b))), (0, .ref (1))]) (pc := 68) dX2_digest_68 rfl rfl (by decide) rfl ?_
    refine J_goto (tgt := 47) (pc := 71) dX2_digest_71 (by decide) ?_
    refine J_iload (i := 4) (pc := 47) dX2_digest_47 rfl ?_
    refine J_iconst (v := nI (4)) (pc := 49) dX2_digest_49 rfl ?_
    refine J_icmp_gtN (tgt := 74) (pc := 50) dX2_digest_50 (by decide) (by omega) (by omega) (fun c50 => ?_) (fun c50 => by exfalso; first | omega | simp_all)
    refine J_iinc (i := 3) (v := nI (b + 1)) (lv' := [(3, .int (nI (b + 1))), (4, .int (nI (5))), (1, .long (((((((((((D) * (31)) + (((nI (toS σ b 0))).toInt64)) * (31)) + (((nI (toS σ b 1))).toInt64)) * (31)) + (((nI (toS σ b 2))).toInt64)) * (31)) + (((nI (toS σ b 3))).toInt64)) * (31)) + (((nI (toS σ b 4))).toInt64))), (0, .ref (1))]) (pc := 74) dX2_digest_74 rfl (nI_add (b) 1) (by decide) rfl ?_
    refine J_goto (tgt := 33) (pc := 77) dX2_digest_77 (by decide) ?_
    refine J_sub (lv' := [(3, .int (nI (b + 1))), (1, .long (((((((((((D) * (31)) + (((nI (toS σ b 0))).toInt64)) * (31)) + (((nI (toS σ b 1))).toInt64)) * (31)) + (((nI (toS σ b 2))).toInt64)) * (31)) + (((nI (toS σ b 3))).toInt64)) * (31)) + (((nI (toS σ b 4))).toInt64))), (0, .ref (1))]) [0, 2, 3] rfl ?_
    exact ih (b + 1) _ (by omega) eD
theorem c_digest {g : GT} {d : Nat} {h : MH} {σ : ST} {π : Nat → Nat} (hG : GP h σ π) : J g (d + 5) 0 0 mX2_digest 0 (lv_args 0 [.ref 1]) [] h (RG (.long (dgS σ)) (fun h' => Fr 1 52 h h' ∧ GP h' σ π)) := by
  obtain ⟨g1, g2, g3, g4, ⟨tf, g5, g5b⟩, g6, g7, g8⟩ := id hG
  obtain ⟨o1, o2, o3, o4⟩ := id g2
  have hB := g1
  have b9 := BH_2 g1
  obtain ⟨hn, hc9, hm5, hs2⟩ := id g1.1
  have hp9 := pw_le hn
  refine J_ldc2 (v := 1699) (pc := 0) dX2_digest_0 q2_166 ?_
  refine J_lstore_n (i := 1) (lv' := [(1, .long (1699)), (0, .ref (1))]) (pc := 3) dX2_digest_3 rfl (by decide) rfl ?_
  refine J_iconst (v := nI (0)) (pc := 4) dX2_digest_4 rfl ?_
  refine J_istore_n (i := 3) (lv' := [(3, .int (nI (0))), (1, .long (1699)), (0, .ref (1))]) (pc := 5) dX2_digest_5 rfl (by decide) rfl ?_
  refine J_iload_n (i := 3) (pc := 6) dX2_digest_6 rfl rfl ?_
  refine J_bipush (v := nI (6)) (pc := 7) dX2_digest_7 rfl ?_
  refine J_icmp_gtN (tgt := 31) (pc := 9) dX2_digest_9 (by decide) (by omega) (by omega) (fun c9 => by exfalso; first | omega | simp_all) (fun c9 => ?_)
  refine J_lload_n (i := 1) (pc := 12) dX2_digest_12 rfl rfl ?_
  refine J_ldc2 (v := 31) (pc := 13) dX2_digest_13 q2_167 ?_
  refine J_lmul (pc := 16) dX2_digest_16 ?_
  refine J_aload_n (i := 0) (pc := 17) dX2_digest_17 rfl rfl ?_
  refine J_iload_n (i := 3) (pc := 18) dX2_digest_18 rfl rfl ?_
  refine J_cVi (st := [.long ((1699) * (31))]) (As := [.int (nI (0))]) (pc := 19) dX2_digest_19 okX2_count q2_168 q2_110 q2_111 (rfl : vwCl[2]? = some _) g4 rfl (Nat.le_of_ble_eq_true rfl) (Nat.le_of_ble_eq_true rfl) (c_count0 hG) ?_
  refine J_i2l (pc := 22) dX2_digest_22 ?_
  refine J_ladd (pc := 23) dX2_digest_23 ?_
  refine J_lstore_n (i := 1) (lv' := [(1, .long (((1699) * (31)) + (((nI (ctS σ 0))).toInt64))), (3, .int (nI (0))), (0, .ref (1))]) (pc := 24) dX2_digest_24 rfl (by decide) rfl ?_
  refine J_iinc (i := 3) (v := nI (1)) (lv' := [(3, .int (nI (1))), (1, .long (((1699) * (31)) + (((nI (ctS σ 0))).toInt64))), (0, .ref (1))]) (pc := 25) dX2_digest_25 rfl rfl (by decide) rfl ?_
  refine J_goto (tgt := 6) (pc := 28) dX2_digest_28 (by decide) ?_
  refine J_iload_n (i := 3) (pc := 6) dX2_digest_6 rfl rfl ?_
  refine J_bipush (v := nI (6)) (pc := 7) dX2_digest_7 rfl ?_
  refine J_icmp_gtN (tgt := 31) (pc := 9) dX2_digest_9 (by decide) (by omega) (by omega) (fun c9 => by exfalso; first | omega | simp_all) (fun c9 => ?_)
  refine J_lload_n (i := 1) (pc := 12) dX2_digest_12 rfl rfl ?_
  refine J_ldc2 (v := 31) (pc := 13) dX2_digest_13 q2_167 ?_
  refine J_lmul (pc := 16) dX2_digest_16 ?_
  refine J_aload_n (i := 0) (pc := 17) dX2_digest_17 rfl rfl ?_
  refine J_iload_n (i := 3) (pc := 18) dX2_digest_18 rfl rfl ?_
  refine J_cVi (st := [.long ((((1699) * (31)) + (((nI (ctS σ 0))).toInt64)) * (31))]) (As := [.int (nI (1))]) (pc := 19) dX2_digest_19 okX2_count q2_168 q2_110 q2_111 (rfl : vwCl[2]? = some _) g4 rfl (Nat.le_of_ble_eq_true rfl) (Nat.le_of_ble_eq_true rfl) (c_count1 hG) ?_
  refine J_i2l (pc := 22) dX2_digest_22 ?_
  refine J_ladd (pc := 23) dX2_digest_23 ?_
  refine J_lstore_n (i := 1) (lv' := [(1, .long (((((1699) * (31)) + (((nI (ctS σ 0))).toInt64)) * (31)) + (((nI (ctS σ 1))).toInt64))), (3, .int (nI (1))), (0, .ref (1))]) (pc := 24) dX2_digest_24 rfl (by decide) rfl ?_
  refine J_iinc (i := 3) (v := nI (2)) (lv' := [(3, .int (nI (2))), (1, .long (((((1699) * (31)) + (((nI (ctS σ 0))).toInt64)) * (31)) + (((nI (ctS σ 1))).toInt64))), (0, .ref (1))]) (pc := 25) dX2_digest_25 rfl rfl (by decide) rfl ?_
  refine J_goto (tgt := 6) (pc := 28) dX2_digest_28 (by decide) ?_
  refine J_iload_n (i := 3) (pc := 6) dX2_digest_6 rfl rfl ?_
  refine J_bipush (v := nI (6)) (pc := 7) dX2_digest_7 rfl ?_
  refine J_icmp_gtN (tgt := 31) (pc := 9) dX2_digest_9 (by decide) (by omega) (by omega) (fun c9 => by exfalso; first | omega | simp_all) (fun c9 => ?_)
  refine J_lload_n (i := 1) (pc := 12) dX2_digest_12 rfl rfl ?_
  refine J_ldc2 (v := 31) (pc := 13) dX2_digest_13 q2_167 ?_
  refine J_lmul (pc := 16) dX2_digest_16 ?_
  refine J_aload_n (i := 0) (pc := 17) dX2_digest_17 rfl rfl ?_
  refine J_iload_n (i := 3) (pc := 18) dX2_digest_18 rfl rfl ?_
  refine J_cVi (st := [.long ((((((1699) * (31)) + (((nI (ctS σ 0))).toInt64)) * (31)) + (((nI (ctS σ 1))).toInt64)) * (31))]) (As := [.int (nI (2))]) (pc := 19) dX2_digest_19 okX2_count q2_168 q2_110 q2_111 (rfl : vwCl[2]? = some _) g4 rfl (Nat.le_of_ble_eq_true rfl) (Nat.le_of_ble_eq_true rfl) (c_count2 hG) ?_
  refine J_i2l (pc := 22) dX2_digest_22 ?_
  refine J_ladd (pc := 23) dX2_digest_23 ?_
  refine J_lstore_n (i := 1) (lv' := [(1, .long (((((((1699) * (31)) + (((nI (ctS σ 0))).toInt64)) * (31)) + (((nI (ctS σ 1))).toInt64)) * (31)) + (((nI (ctS σ 2))).toInt64))), (3, .int (nI (2))), (0, .ref (1))]) (pc := 24) dX2_digest_24 rfl (by decide) rfl ?_
  refine J_iinc (i := 3) (v := nI (3)) (lv' := [(3, .int (nI (3))), (1, .long (((((((1699) * (31)) + (((nI (ctS σ 0))).toInt64)) * (31)) + (((nI (ctS σ 1))).toInt64)) * (31)) + (((nI (ctS σ 2))).toInt64))), (0, .ref (1))]) (pc := 25) dX2_digest_25 rfl rfl (by decide) rfl ?_
  refine J_goto (tgt := 6) (pc := 28) dX2_digest_28 (by decide) ?_
  refine J_iload_n (i := 3) (pc := 6) dX2_digest_6 rfl rfl ?_
  refine J_bipush (v := nI (6)) (pc := 7) dX2_digest_7 rfl ?_
  refine J_icmp_gtN (tgt := 31) (pc := 9) dX2_digest_9 (by decide) (by omega) (by omega) (fun c9 => by exfalso; first | omega | simp_all) (fun c9 => ?_)
  refine J_lload_n (i := 1) (pc := 12) dX2_digest_12 rfl rfl ?_
  refine J_ldc2 (v := 31) (pc := 13) dX2_digest_13 q2_167 ?_
  refine J_lmul (pc := 16) dX2_digest_16 ?_
  refine J_aload_n (i := 0) (pc := 17) dX2_digest_17 rfl rfl ?_
  refine J_iload_n (i := 3) (pc := 18) dX2_digest_18 rfl rfl ?_
  refine J_cVi (st := [.long ((((((((1699) * (31)) + (((nI (ctS σ 0))).toInt64)) * (31)) + (((nI (ctS σ 1))).toInt64)) * (31)) + (((nI (ctS σ 2))).toInt64)) * (31))]) (As := [.int (nI (3))]) (pc := 19) dX2_digest_19 okX2_count q2_168 q2_110 q2_111 (rfl : vwCl[2]? = some _) g4 rfl (Nat.le_of_ble_eq_true rfl) (Nat.le_of_ble_eq_true rfl) (c_count3 hG) ?_
  refine J_i2l (pc := 22) dX2_digest_22 ?_
  refine J_ladd (pc := 23) dX2_digest_23 ?_
  refine J_lstore_n (i := 1) (lv' := [(1, .long (((((((((1699) * (31)) + (((nI (ctS σ 0))).toInt64)) * (31)) + (((nI (ctS σ 1))).toInt64)) * (31)) + (((nI (ctS σ 2))).toInt64)) * (31)) + (((nI (ctS σ 3))).toInt64))), (3, .int (nI (3))), (0, .ref (1))]) (pc := 24) dX2_digest_24 rfl (by decide) rfl ?_
  refine J_iinc (i := 3) (v := nI (4)) (lv' := [(3, .int (nI (4))), (1, .long (((((((((1699) * (31)) + (((nI (ctS σ 0))).toInt64)) * (31)) + (((nI (ctS σ 1))).toInt64)) * (31)) + (((nI (ctS σ 2))).toInt64)) * (31)) + (((nI (ctS σ 3))).toInt64))), (0, .ref (1))]) (pc := 25) dX2_digest_25 rfl rfl (by decide) rfl ?_
  refine J_goto (tgt := 6) (pc := 28) dX2_digest_28 (by decide) ?_
  refine J_iload_n (i := 3) (pc := 6) dX2_digest_6 rfl rfl ?_
  refine J_bipush (v := nI (6)) (pc := 7) dX2_digest_7 rfl ?_
  refine J_icmp_gtN (tgt := 31) (pc := 9) dX2_digest_9 (by decide) (by omega) (by omega) (fun c9 => by exfalso; first | omega | simp_all) (fun c9 => ?_)
  refine J_lload_n (i := 1) (pc := 12) dX2_digest_12 rfl rfl ?_
  refine J_ldc2 (v := 31) (pc := 13) dX2_digest_13 q2_167 ?_
  refine J_lmul (pc := 16) dX2_digest_16 ?_
  refine J_aload_n (i := 0) (pc := 17) dX2_digest_17 rfl rfl ?_
  refine J_iload_n (i := 3) (pc := 18) dX2_digest_18 rfl rfl ?_
  refine J_cVi (st := [.long ((((((((((1699) * (31)) + (((nI (ctS σ 0))).toInt64)) * (31)) + (((nI (ctS σ 1))).toInt64)) * (31)) + (((nI (ctS σ 2))).toInt64)) * (31)) + (((nI (ctS σ 3))).toInt64)) * (31))]) (As := [.int (nI (4))]) (pc := 19) dX2_digest_19 okX2_count q2_168 q2_110 q2_111 (rfl : vwCl[2]? = some _) g4 rfl (Nat.le_of_ble_eq_true rfl) (Nat.le_of_ble_eq_true rfl) (c_count4 hG) ?_
  refine J_i2l (pc := 22) dX2_digest_22 ?_
  refine J_ladd (pc := 23) dX2_digest_23 ?_
  refine J_lstore_n (i := 1) (lv' := [(1, .long (((((((((((1699) * (31)) + (((nI (ctS σ 0))).toInt64)) * (31)) + (((nI (ctS σ 1))).toInt64)) * (31)) + (((nI (ctS σ 2))).toInt64)) * (31)) + (((nI (ctS σ 3))).toInt64)) * (31)) + (((nI (ctS σ 4))).toInt64))), (3, .int (nI (4))), (0, .ref (1))]) (pc := 24) dX2_digest_24 rfl (by decide) rfl ?_
  refine J_iinc (i := 3) (v := nI (5)) (lv' := [(3, .int (nI (5))), (1, .long (((((((((((1699) * (31)) + (((nI (ctS σ 0))).toInt64)) * (31)) + (((nI (ctS σ 1))).toInt64)) * (31)) + (((nI (ctS σ 2))).toInt64)) * (31)) + (((nI (ctS σ 3))).toInt64)) * (31)) + (((nI (ctS σ 4))).toInt64))), (0, .ref (1))]) (pc := 25) dX2_digest_25 rfl rfl (by decide) rfl ?_
  refine J_goto (tgt := 6) (pc := 28) dX2_digest_28 (by decide) ?_
  refine J_iload_n (i := 3) (pc := 6) dX2_digest_6 rfl rfl ?_
  refine J_bipush (v := nI (6)) (pc := 7) dX2_digest_7 rfl ?_
  refine J_icmp_gtN (tgt := 31) (pc := 9) dX2_digest_9 (by decide) (by omega) (by omega) (fun c9 => by exfalso; first | omega | simp_all) (fun c9 => ?_)
  refine J_lload_n (i := 1) (pc := 12) dX2_digest_12 rfl rfl ?_
  refine J_ldc2 (v := 31) (pc := 13) dX2_digest_13 q2_167 ?_
  refine J_lmul (pc := 16) dX2_digest_16 ?_
  refine J_aload_n (i := 0) (pc := 17) dX2_digest_17 rfl rfl ?_
  refine J_iload_n (i := 3) (pc := 18) dX2_digest_18 rfl rfl ?_
  refine J_cVi (st := [.long ((((((((((((1699) * (31)) + (((nI (ctS σ 0))).toInt64)) * (31)) + (((nI (ctS σ 1))).toInt64)) * (31)) + (((nI (ctS σ 2))).toInt64)) * (31)) + (((nI (ctS σ 3))).toInt64)) * (31)) + (((nI (ctS σ 4))).toInt64)) * (31))]) (As := [.int (nI (5))]) (pc := 19) dX2_digest_19 okX2_count q2_168 q2_110 q2_111 (rfl : vwCl[2]? = some _) g4 rfl (Nat.le_of_ble_eq_true rfl) (Nat.le_of_ble_eq_true rfl) (c_count5 hG) ?_
  refine J_i2l (pc := 22) dX2_digest_22 ?_
  refine J_ladd (pc := 23) dX2_digest_23 ?_
  refine J_lstore_n (i := 1) (lv' := [(1, .long (((((((((((((1699) * (31)) + (((nI (ctS σ 0))).toInt64)) * (31)) + (((nI (ctS σ 1))).toInt64)) * (31)) + (((nI (ctS σ 2))).toInt64)) * (31)) + (((nI (ctS σ 3))).toInt64)) * (31)) + (((nI (ctS σ 4))).toInt64)) * (31)) + (((nI (ctS σ 5))).toInt64))), (3, .int (nI (5))), (0, .ref (1))]) (pc := 24) dX2_digest_24 rfl (by decide) rfl ?_
  refine J_iinc (i := 3) (v := nI (6)) (lv' := [(3, .int (nI (6))), (1, .long (((((((((((((1699) * (31)) + (((nI (ctS σ 0))).toInt64)) * (31)) + (((nI (ctS σ 1))).toInt64)) * (31)) + (((nI (ctS σ 2))).toInt64)) * (31)) + (((nI (ctS σ 3))).toInt64)) * (31)) + (((nI (ctS σ 4))).toInt64)) * (31)) + (((nI (ctS σ 5))).toInt64))), (0, .ref (1))]) (pc := 25) dX2_digest_25 rfl rfl (by decide) rfl ?_
  refine J_goto (tgt := 6) (pc := 28) dX2_digest_28 (by decide) ?_
  refine J_iload_n (i := 3) (pc := 6) dX2_digest_6 rfl rfl ?_
  refine J_bipush (v := nI (6)) (pc := 7) dX2_digest_7 rfl ?_
  refine J_icmp_gtN (tgt := 31) (pc := 9) dX2_digest_9 (by decide) (by omega) (by omega) (fun c9 => by exfalso; first | omega | simp_all) (fun c9 => ?_)
  refine J_lload_n (i := 1) (pc := 12) dX2_digest_12 rfl rfl ?_
  refine J_ldc2 (v := 31) (pc := 13) dX2_digest_13 q2_167 ?_
  refine J_lmul (pc := 16) dX2_digest_16 ?_
  refine J_aload_n (i := 0) (pc := 17) dX2_digest_17 rfl rfl ?_
  refine J_iload_n (i := 3) (pc := 18) dX2_digest_18 rfl rfl ?_
  refine J_cVi (st := [.long ((((((((((((((1699) * (31)) + (((nI (ctS σ 0))).toInt64)) * (31)) + (((nI (ctS σ 1))).toInt64)) * (31)) + (((nI (ctS σ 2))).toInt64)) * (31)) + (((nI (ctS σ 3))).toInt64)) * (31)) + (((nI (ctS σ 4))).toInt64)) * (31)) + (((nI (ctS σ 5))).toInt64)) * (31))]) (As := [.int (nI (6))]) (pc := 19) dX2_digest_19 okX2_count q2_168 q2_110 q2_111 (rfl : vwCl[2]? = some _) g4 rfl (Nat.le_of_ble_eq_true rfl) (Nat.le_of_ble_eq_true rfl) (c_count6 hG) ?_
  refine J_i2l (pc := 22) dX2_digest_22 ?_
  refine J_ladd (pc := 23) dX2_digest_23 ?_
  refine J_lstore_n (i := 1) (lv' := [(1, .long (((((((((((((((1699) * (31)) + (((nI (ctS σ 0))).toInt64)) * (31)) + (((nI (ctS σ 1))).toInt64)) * (31)) + (((nI (ctS σ 2))).toInt64)) * (31)) + (((nI (ctS σ 3))).toInt64)) * (31)) + (((nI (ctS σ 4))).toInt64)) * (31)) + (((nI (ctS σ 5))).toInt64)) * (31)) + (((nI (ctS σ 6))).toInt64))), (3, .int (nI (6))), (0, .ref (1))]) (pc := 24) dX2_digest_24 rfl (by decide) rfl ?_
  refine J_iinc (i := 3) (v := nI (7)) (lv' := [(3, .int (nI (7))), (1, .long (((((((((((((((1699) * (31)) + (((nI (ctS σ 0))).toInt64)) * (31)) + (((nI (ctS σ 1))).toInt64)) * (31)) + (((nI (ctS σ 2))).toInt64)) * (31)) + (((nI (ctS σ 3))).toInt64)) * (31)) + (((nI (ctS σ 4))).toInt64)) * (31)) + (((nI (ctS σ 5))).toInt64)) * (31)) + (((nI (ctS σ 6))).toInt64))), (0, .ref (1))]) (pc := 25) dX2_digest_25 rfl rfl (by decide) rfl ?_
  refine J_goto (tgt := 6) (pc := 28) dX2_digest_28 (by decide) ?_
  refine J_iload_n (i := 3) (pc := 6) dX2_digest_6 rfl rfl ?_
  refine J_bipush (v := nI (6)) (pc := 7) dX2_digest_7 rfl ?_
  refine J_icmp_gtN (tgt := 31) (pc := 9) dX2_digest_9 (by decide) (by omega) (by omega) (fun c9 => ?_) (fun c9 => by exfalso; first | omega | simp_all)
  refine J_iconst (v := nI (0)) (pc := 31) dX2_digest_31 rfl ?_
  refine J_istore_n (i := 3) (lv' := [(3, .int (nI (0))), (1, .long (((((((((((((((1699) * (31)) + (((nI (ctS σ 0))).toInt64)) * (31)) + (((nI (ctS σ 1))).toInt64)) * (31)) + (((nI (ctS σ 2))).toInt64)) * (31)) + (((nI (ctS σ 3))).toInt64)) * (31)) + (((nI (ctS σ 4))).toInt64)) * (31)) + (((nI (ctS σ 5))).toInt64)) * (31)) + (((nI (ctS σ 6))).toInt64))), (0, .ref (1))]) (pc := 32) dX2_digest_32 rfl (by decide) rfl ?_
  refine J_sub (lv' := [(3, .int (nI (0))), (1, .long (((((((((((((((1699) * (31)) + (((nI (ctS σ 0))).toInt64)) * (31)) + (((nI (ctS σ 1))).toInt64)) * (31)) + (((nI (ctS σ 2))).toInt64)) * (31)) + (((nI (ctS σ 3))).toInt64)) * (31)) + (((nI (ctS σ 4))).toInt64)) * (31)) + (((nI (ctS σ 5))).toInt64)) * (31)) + (((nI (ctS σ 6))).toInt64))), (0, .ref (1))]) [0, 1, 2] rfl ?_
  exact db_loop hG (fun h' f9 g9 => ⟨rfl, f9, g9⟩) σ.1.1 0 _ (Nat.zero_add _) rfl
