-- the reference: growing in a row by doubling
def RW (f : Nat → Int32) : (d : Nat) → Nat → TR d → Prop
  | 0, s, (st, mn) => f (5 * s) = nI 1 ∧ f (5 * s + 3) = nI st ∧ f (5 * s + 4) = nI mn
  | _ + 1, s, ((st, mn), none) => f (5 * s) = nI 1 ∧ f (5 * s + 3) = nI st ∧ f (5 * s + 4) = nI mn
  | d + 1, s, ((st, mn), some (c, l, r)) => (f (5 * s) = nI 2 ∧ f (5 * s + 1) = nI (c / 51) ∧ f (5 * s + 2) = nI (c % 51) ∧ f (5 * s + 3) = nI st ∧ f (5 * s + 4) = nI mn) ∧ RW f d (2 * s) l ∧ RW f d (2 * s + 1) r
def inS : Nat → Nat → Nat → Prop
  | 0, s, q => q = s
  | d + 1, s, q => q = s ∨ inS d (2 * s) q ∨ inS d (2 * s + 1) q
theorem inS_div : ∀ (d s q : Nat), inS d s q → ∃ j, j ≤ d ∧ q / 2 ^ j = s
  | 0, s, q, h => ⟨0, Nat.le_refl 0, by rw [Nat.pow_zero, Nat.div_one]; exact h⟩
  | d + 1, s, q, h => by
    rcases h with h | h | h
    · exact ⟨0, Nat.zero_le _, by rw [Nat.pow_zero, Nat.div_one]; exact h⟩
    · obtain ⟨j, hj, e⟩ := inS_div d (2 * s) q h
      refine ⟨j + 1, by omega, ?_⟩
      rw [Nat.pow_succ, ← Nat.div_div_eq_div_mul, e]
      omega
    · obtain ⟨j, hj, e⟩ := inS_div d (2 * s + 1) q h
      refine ⟨j + 1, by omega, ?_⟩
      rw [Nat.pow_succ, ← Nat.div_div_eq_div_mul, e]
      omega
theorem div_lt2 {a b q s t : Nat} (ha : q / 2 ^ a = s) (hb : q / 2 ^ b = t) (hab : a < b) (hs : 1 ≤ s) : t ≤ s / 2 := by
  obtain ⟨k, rfl⟩ : ∃ k, b = a + 1 + k := ⟨b - (a + 1), by omega⟩
  rw [Nat.pow_add, Nat.pow_succ, ← Nat.div_div_eq_div_mul, ← Nat.div_div_eq_div_mul, ha] at hb
  rw [← hb]
  exact Nat.div_le_self _ _
theorem inS_dj {d s q : Nat} (hs : 1 ≤ s) (h1 : inS d (2 * s) q) (h2 : inS d (2 * s + 1) q) : False := by
  obtain ⟨a, _, ea⟩ := inS_div d _ q h1
  obtain ⟨b, _, eb⟩ := inS_div d _ q h2
  rcases Nat.lt_trichotomy a b with h | h | h
  · have := div_lt2 ea eb h (by omega)
    omega
  · subst h
    omega
  · have := div_lt2 eb ea h (by omega)
    omega
theorem inS_ne {d s q : Nat} (hs : 1 ≤ s) (h : inS d (2 * s) q ∨ inS d (2 * s + 1) q) : q ≠ s := by
  intro e
  subst e
  rcases h with h | h
  · obtain ⟨a, _, ea⟩ := inS_div d _ _ h
    have := Nat.div_le_self q (2 ^ a)
    omega
  · obtain ⟨a, _, ea⟩ := inS_div d _ _ h
    have := Nat.div_le_self q (2 ^ a)
    omega
theorem RW_congr {f f' : Nat → Int32} : ∀ (d s : Nat) (t : TR d), (∀ q e, inS d s q → e < 5 → f' (5 * q + e) = f (5 * q + e)) → RW f d s t → RW f' d s t
  | 0, s, (st, mn), h, hr => ⟨(h s 0 rfl (by decide)).trans hr.1, (h s 3 rfl (by decide)).trans hr.2.1, (h s 4 rfl (by decide)).trans hr.2.2⟩
  | d + 1, s, t, h, hr => by
    rcases TR_c t with ⟨st, mn, rfl⟩ | ⟨st, mn, c, l, r, rfl⟩
    · exact ⟨(h s 0 (Or.inl rfl) (by decide)).trans hr.1, (h s 3 (Or.inl rfl) (by decide)).trans hr.2.1, (h s 4 (Or.inl rfl) (by decide)).trans hr.2.2⟩
    · obtain ⟨⟨r0, r1, r2, r3, r4⟩, hl, hh⟩ := hr
      exact ⟨⟨(h s 0 (Or.inl rfl) (by decide)).trans r0, (h s 1 (Or.inl rfl) (by decide)).trans r1, (h s 2 (Or.inl rfl) (by decide)).trans r2, (h s 3 (Or.inl rfl) (by decide)).trans r3, (h s 4 (Or.inl rfl) (by decide)).trans r4⟩, RW_congr d _ l (fun q e hq he => h q e (Or.inr (Or.inl hq)) he) hl, RW_congr d _ r (fun q e hq he => h q e (Or.inr (Or.inr hq)) he) hh⟩
/-- new cells, and A may differ -/
def EA (A : Nat) (h h' : MH) : Prop := h.1 ≤ h'.1 ∧ ∀ i, i < h.1 → i ≠ A → h'.2 i = h.2 i
theorem EA_rfl {A : Nat} {h : MH} : EA A h h := ⟨Nat.le_refl _, fun _ _ _ => rfl⟩
theorem EA_tr {A : Nat} {h h1 h2 : MH} (k : EA A h h1) (l : EA A h1 h2) : EA A h h2 := ⟨Nat.le_trans k.1 l.1, fun i hi hA => (l.2 i (Nat.lt_of_lt_of_le hi k.1) hA).trans (k.2 i hi hA)⟩
theorem EA_ext {A : Nat} {h h1 : MH} (k : Ext h h1) : EA A h h1 := ⟨k.1, fun i hi _ => k.2 i hi⟩
theorem EA_new {A B : Nat} {h0 h h1 : MH} {c : MC} (k : EA A h0 h) (eB : B = h.1) (e : h1 = (B + 1, hset h.2 B c)) : EA A h0 h1 := by
  subst eB
  subst e
  exact EA_tr k ⟨Nat.le_succ _, fun i hi _ => hset_n (Nat.ne_of_lt hi)⟩
theorem EA_st {A i : Nat} {h0 h h1 : MH} {c : MC} (k : EA A h0 h) (hi : i = A ∨ h0.1 ≤ i) (e : h1 = (h.1, hset h.2 i c)) : EA A h0 h1 := by
  subst e
  exact ⟨k.1, fun j hj hA => (hset_n (by omega)).trans (k.2 j hj hA)⟩
theorem MS_EA {A : Nat} {h h' : MH} {β : BT} (k : EA A h h') (hz : 60 ≤ h.1) (hA : 60 ≤ A) (hm : MS h β) : MS h' β := MS_oth (fun i i1 i2 => k.2 i (by omega) (by omega)) hm

theorem nI_nem1 {n : Nat} (h : n < 2 ^ 31) : ¬ nI n = -1 := by
  intro q
  have := nI_pos h
  rw [q] at this
  exact this (by decide)

set_option maxHeartbeats 2000000 in
set_option maxRecDepth 20000 in
theorem m_grow {g : GT} {dd : Nat} {β : BT} {A le : Nat} (he : 1 ≤ le) (he2 : le < 1000) : ∀ (d m s X : Nat) (h : MH) (f : Nat → Int32), MS h β → 60 ≤ h.1 → h.2 A = some (aI 320 f) → 60 ≤ A → A < h.1 → 1 ≤ s → X < 2 ^ β.1 → 1 ≤ cnt X → m ≤ d → (s + 1) * 2 ^ d ≤ 64 → d ≤ 5 →
    J g (dd + d + 5) (3 * (cnt X * m) + cnt X) (11 * (cnt X * m) + 5 * cnt X) mX3_grow 0 (lv_args 0 [.ref 53, .ref A, .int (nI s), .int (nI X), .int (nI m), .int (nI le)]) [] h (fun r h' => r = .inl none ∧ EA A h h' ∧ ∃ f', h'.2 A = some (aI 320 f') ∧ RW f' d s (grT β le d m X) ∧ ∀ q e, ¬ inS d s q → e < 5 → f' (5 * q + e) = f (5 * q + e)) := by
  intro d
  induction d with
  | zero =>
    intro m s X h f hM hz hA hA1 hA2 hs1 hX hX1 hm hs hd5
    obtain rfl : m = 0 := by omega
    obtain ⟨hW, ⟨th, dq, lq, kk, m53⟩, ⟨mf, m54, em⟩, ⟨sf, m55, es⟩⟩ := id hM
    obtain ⟨hn, hc9, hm5, hs2⟩ := id hW
    have hp9 := pw_le hn
    have hs20 := lt20 hW hX
    have hof := ofS_le β X (mostS β X)
    have hcx := cnt_le X
    have hms := mostS_le β X
    have hs64 : s < 64 := by omega
    refine J_aload_n (i := 0) (pc := 0) dX3_grow_0 rfl rfl ?_
    refine J_iload_n (i := 3) (pc := 1) dX3_grow_1 rfl rfl ?_
    refine J_cVi (st := []) (As := [.int (nI (X))]) (pc := 2) dX3_grow_2 okX3_sortOf q3_211 q3_213 qs2_1 (rfl : vwCl[3]? = some _) m53 rfl (Nat.le_of_ble_eq_true rfl) (Nat.le_of_ble_eq_true rfl) (m_sortOf hM (by omega)) ?_
    refine J_istore (i := 6) (lv' := [(6, .int (nI (mostS β X))), (0, .ref (53)), (1, .ref (A)), (2, .int (nI (s))), (3, .int (nI (X))), (4, .int (nI (0))), (5, .int (nI (le)))]) (pc := 5) dX3_grow_5 (by decide) rfl ?_
    refine J_iload (i := 4) (pc := 7) dX3_grow_7 rfl ?_
    refine J_if_eqN (tgt := 27) (pc := 9) dX3_grow_9 (by decide) (by omega) (fun c9 => ?_) (fun c9 => by exfalso; first | omega | simp_all)
    refine J_iconst (v := (-1)) (pc := 27) dX3_grow_27 rfl ?_
    refine J_goto (tgt := 38) (pc := 28) dX3_grow_28 (by decide) ?_
    refine J_istore (i := 7) (lv' := [(7, .int (-1)), (6, .int (nI (mostS β X))), (0, .ref (53)), (1, .ref (A)), (2, .int (nI (s))), (3, .int (nI (X))), (4, .int (nI (0))), (5, .int (nI (le)))]) (pc := 38) dX3_grow_38 (by decide) rfl ?_
    refine J_iconst (v := nI (5)) (pc := 40) dX3_grow_40 rfl ?_
    obtain ⟨A_1, eA_1⟩ : ∃ z : Nat, z = h.1 := ⟨_, rfl⟩
    obtain ⟨h_2, eh_2⟩ : ∃ z : MH, z = (A_1 + 1, hset h.2 A_1 (aI (5) (fun _ => 0))) := ⟨_, rfl⟩
    refine J_newIA (A := A_1) (h' := h_2) (n := 5) (ca' := 0) (sa' := 0) (pc := 41) dX3_grow_41 rfl (by decide) (by omega) (by omega) eA_1 eh_2 ?_
    have zh_2 : h_2.1 = A_1 + 1 := by rw [eh_2]
    have H_3 : h_2.2 (53) = some (oB 3 [.int (th), .int (nI (β.1)), .ref (54), .ref (55), .int (nI (β.2.1)), .int (dq), .int (lq), .int (kk), .ref (56), .ref (57), .ref (58)]) := (ha_n eh_2 (by omega)).trans m53
    have H_4 : h_2.2 (54) = some (aI (60) (mf)) := (ha_n eh_2 (by omega)).trans m54
    have H_5 : h_2.2 (55) = some (aI (20) (sf)) := (ha_n eh_2 (by omega)).trans m55
    have H_6 : EA A h h_2 := EA_new EA_rfl eA_1 eh_2
    have H_7 : MS h_2 β := MS_oth (fun i i1 i2 => ha_n eh_2 (by omega)) hM
    have H_8 : h_2.2 (A) = some (aI (320) (f)) := (ha_n eh_2 (by omega)).trans hA
    have H_9 : h_2.2 (A_1) = some (aI (5) (fun _ => 0)) := ha_s eh_2
    refine J_dup (pc := 43) dX3_grow_43 rfl ?_
    refine J_iconst (v := nI (0)) (pc := 44) dX3_grow_44 rfl ?_
    refine J_iload (i := 7) (pc := 45) dX3_grow_45 rfl ?_
    refine J_iconst (v := (-1)) (pc := 47) dX3_grow_47 rfl ?_
    refine J_icmp_ne (tgt := 55) (pc := 48) dX3_grow_48 (by decide) (fun c48 => absurd c48 (fun q => q rfl)) (fun c48 => ?_)
    refine J_iconst (v := nI (1)) (pc := 51) dX3_grow_51 rfl ?_
    refine J_goto (tgt := 56) (pc := 52) dX3_grow_52 (by decide) ?_
    refine J_iast (j := 0) (pc := 56) dX3_grow_56 H_9 rfl (by omega) (by omega) ?_
    obtain ⟨h_10, eh_10⟩ : ∃ z : MH, z = (h_2.1, hset h_2.2 (A_1) (aI (5) (upd ((fun _ => 0)) (0) (nI (1))))) := ⟨_, rfl⟩
    refine J_heq (h2 := h_10) eh_10 ?_
    have zh_10 : h_10.1 = h_2.1 := by rw [eh_10]
    have H_11 : h_10.2 (53) = some (oB 3 [.int (th), .int (nI (β.1)), .ref (54), .ref (55), .int (nI (β.2.1)), .int (dq), .int (lq), .int (kk), .ref (56), .ref (57), .ref (58)]) := (hs_n eh_10 (by omega)).trans H_3
    have H_12 : h_10.2 (54) = some (aI (60) (mf)) := (hs_n eh_10 (by omega)).trans H_4
    have H_13 : h_10.2 (55) = some (aI (20) (sf)) := (hs_n eh_10 (by omega)).trans H_5
    have H_14 : EA A h h_10 := by rw [eh_10]; exact EA_st H_6 (by omega) rfl
    have H_15 : MS h_10 β := by rw [eh_10]; exact MS_oth (fun i i1 i2 => hset_n (by omega)) H_7
    have H_16 : h_10.2 (A) = some (aI (320) (f)) := (hs_n eh_10 (by omega)).trans H_8
    have H_17 : h_10.2 (A_1) = some (aI (5) (upd ((fun _ => 0)) (0) (nI (1)))) := hs_s eh_10
    refine J_dup (pc := 57) dX3_grow_57 rfl ?_
    refine J_iconst (v := nI (1)) (pc := 58) dX3_grow_58 rfl ?_
    refine J_iload (i := 7) (pc := 59) dX3_grow_59 rfl ?_
    refine J_bipush (v := nI (51)) (pc := 61) dX3_grow_61 rfl ?_
    refine J_idiv (pc := 63) dX3_grow_63 (by decide) ?_
    refine J_iast (j := 1) (pc := 64) dX3_grow_64 H_17 rfl (by omega) (by omega) ?_
    obtain ⟨h_18, eh_18⟩ : ∃ z : MH, z = (h_10.1, hset h_10.2 (A_1) (aI (5) (upd (upd ((fun _ => 0)) (0) (nI (1))) (1) (((-1) / nI (51)))))) := ⟨_, rfl⟩
    refine J_heq (h2 := h_18) eh_18 ?_
    have zh_18 : h_18.1 = h_10.1 := by rw [eh_18]
    have H_19 : h_18.2 (53) = some (oB 3 [.int (th), .int (nI (β.1)), .ref (54), .ref (55), .int (nI (β.2.1)), .int (dq), .int (lq), .int (kk), .ref (56), .ref (57), .ref (58)]) := (hs_n eh_18 (by omega)).trans H_11
    have H_20 : h_18.2 (54) = some (aI (60) (mf)) := (hs_n eh_18 (by omega)).trans H_12
    have H_21 : h_18.2 (55) = some (aI (20) (sf)) := (hs_n eh_18 (by omega)).trans H_13
    have H_22 : EA A h h_18 := by rw [eh_18]; exact EA_st H_14 (by omega) rfl
    have H_23 : MS h_18 β := by rw [eh_18]; exact MS_oth (fun i i1 i2 => hset_n (by omega)) H_15
    have H_24 : h_18.2 (A) = some (aI (320) (f)) := (hs_n eh_18 (by omega)).trans H_16
    have H_25 : h_18.2 (A_1) = some (aI (5) (upd (upd ((fun _ => 0)) (0) (nI (1))) (1) (((-1) / nI (51))))) := hs_s eh_18
    refine J_dup (pc := 65) dX3_grow_65 rfl ?_
    refine J_iconst (v := nI (2)) (pc := 66) dX3_grow_66 rfl ?_
    refine J_iload (i := 7) (pc := 67) dX3_grow_67 rfl ?_
    refine J_bipush (v := nI (51)) (pc := 69) dX3_grow_69 rfl ?_
    refine J_irem (pc := 71) dX3_grow_71 (by decide) ?_
    refine J_iast (j := 2) (pc := 72) dX3_grow_72 H_25 rfl (by omega) (by omega) ?_
    obtain ⟨h_26, eh_26⟩ : ∃ z : MH, z = (h_18.1, hset h_18.2 (A_1) (aI (5) (upd (upd (upd ((fun _ => 0)) (0) (nI (1))) (1) (((-1) / nI (51)))) (2) (((-1) - (-1) / nI (51) * nI (51)))))) := ⟨_, rfl⟩
    refine J_heq (h2 := h_26) eh_26 ?_
    have zh_26 : h_26.1 = h_18.1 := by rw [eh_26]
    have H_27 : h_26.2 (53) = some (oB 3 [.int (th), .int (nI (β.1)), .ref (54), .ref (55), .int (nI (β.2.1)), .int (dq), .int (lq), .int (kk), .ref (56), .ref (57), .ref (58)]) := (hs_n eh_26 (by omega)).trans H_19
    have H_28 : h_26.2 (54) = some (aI (60) (mf)) := (hs_n eh_26 (by omega)).trans H_20
    have H_29 : h_26.2 (55) = some (aI (20) (sf)) := (hs_n eh_26 (by omega)).trans H_21
    have H_30 : EA A h h_26 := by rw [eh_26]; exact EA_st H_22 (by omega) rfl
    have H_31 : MS h_26 β := by rw [eh_26]; exact MS_oth (fun i i1 i2 => hset_n (by omega)) H_23
    have H_32 : h_26.2 (A) = some (aI (320) (f)) := (hs_n eh_26 (by omega)).trans H_24
    have H_33 : h_26.2 (A_1) = some (aI (5) (upd (upd (upd ((fun _ => 0)) (0) (nI (1))) (1) (((-1) / nI (51)))) (2) (((-1) - (-1) / nI (51) * nI (51))))) := hs_s eh_26
    refine J_dup (pc := 73) dX3_grow_73 rfl ?_
    refine J_iconst (v := nI (3)) (pc := 74) dX3_grow_74 rfl ?_
    refine J_iload (i := 6) (pc := 75) dX3_grow_75 rfl ?_
    refine J_iast (j := 3) (pc := 77) dX3_grow_77 H_33 rfl (by omega) (by omega) ?_
    obtain ⟨h_34, eh_34⟩ : ∃ z : MH, z = (h_26.1, hset h_26.2 (A_1) (aI (5) (upd (upd (upd (upd ((fun _ => 0)) (0) (nI (1))) (1) (((-1) / nI (51)))) (2) (((-1) - (-1) / nI (51) * nI (51)))) (3) (nI (mostS β X))))) := ⟨_, rfl⟩
    refine J_heq (h2 := h_34) eh_34 ?_
    have zh_34 : h_34.1 = h_26.1 := by rw [eh_34]
    have H_35 : h_34.2 (53) = some (oB 3 [.int (th), .int (nI (β.1)), .ref (54), .ref (55), .int (nI (β.2.1)), .int (dq), .int (lq), .int (kk), .ref (56), .ref (57), .ref (58)]) := (hs_n eh_34 (by omega)).trans H_27
    have H_36 : h_34.2 (54) = some (aI (60) (mf)) := (hs_n eh_34 (by omega)).trans H_28
    have H_37 : h_34.2 (55) = some (aI (20) (sf)) := (hs_n eh_34 (by omega)).trans H_29
    have H_38 : EA A h h_34 := by rw [eh_34]; exact EA_st H_30 (by omega) rfl
    have H_39 : MS h_34 β := by rw [eh_34]; exact MS_oth (fun i i1 i2 => hset_n (by omega)) H_31
    have H_40 : h_34.2 (A) = some (aI (320) (f)) := (hs_n eh_34 (by omega)).trans H_32
    have H_41 : h_34.2 (A_1) = some (aI (5) (upd (upd (upd (upd ((fun _ => 0)) (0) (nI (1))) (1) (((-1) / nI (51)))) (2) (((-1) - (-1) / nI (51) * nI (51)))) (3) (nI (mostS β X)))) := hs_s eh_34
    refine J_dup (pc := 78) dX3_grow_78 rfl ?_
    refine J_iconst (v := nI (4)) (pc := 79) dX3_grow_79 rfl ?_
    refine J_aload_n (i := 0) (pc := 80) dX3_grow_80 rfl rfl ?_
    refine J_iload_n (i := 3) (pc := 81) dX3_grow_81 rfl rfl ?_
    refine J_cVi (st := [.int (nI (4)), .ref (A_1), .ref (A_1)]) (As := [.int (nI (X))]) (pc := 82) dX3_grow_82 okX3_many q3_219 q3_221 qs2_3 (rfl : vwCl[3]? = some _) H_35 rfl (Nat.le_of_ble_eq_true rfl) (Nat.le_of_ble_eq_true rfl) (m_many H_39 (by omega)) ?_
    refine J_iast (j := 4) (pc := 85) dX3_grow_85 H_41 rfl (by omega) (by omega) ?_
    obtain ⟨h_42, eh_42⟩ : ∃ z : MH, z = (h_34.1, hset h_34.2 (A_1) (aI (5) (upd (upd (upd (upd (upd ((fun _ => 0)) (0) (nI (1))) (1) (((-1) / nI (51)))) (2) (((-1) - (-1) / nI (51) * nI (51)))) (3) (nI (mostS β X))) (4) (nI (cnt X))))) := ⟨_, rfl⟩
    refine J_heq (h2 := h_42) eh_42 ?_
    have zh_42 : h_42.1 = h_34.1 := by rw [eh_42]
    have H_43 : h_42.2 (53) = some (oB 3 [.int (th), .int (nI (β.1)), .ref (54), .ref (55), .int (nI (β.2.1)), .int (dq), .int (lq), .int (kk), .ref (56), .ref (57), .ref (58)]) := (hs_n eh_42 (by omega)).trans H_35
    have H_44 : h_42.2 (54) = some (aI (60) (mf)) := (hs_n eh_42 (by omega)).trans H_36
    have H_45 : h_42.2 (55) = some (aI (20) (sf)) := (hs_n eh_42 (by omega)).trans H_37
    have H_46 : EA A h h_42 := by rw [eh_42]; exact EA_st H_38 (by omega) rfl
    have H_47 : MS h_42 β := by rw [eh_42]; exact MS_oth (fun i i1 i2 => hset_n (by omega)) H_39
    have H_48 : h_42.2 (A) = some (aI (320) (f)) := (hs_n eh_42 (by omega)).trans H_40
    have H_49 : h_42.2 (A_1) = some (aI (5) (upd (upd (upd (upd (upd ((fun _ => 0)) (0) (nI (1))) (1) (((-1) / nI (51)))) (2) (((-1) - (-1) / nI (51) * nI (51)))) (3) (nI (mostS β X))) (4) (nI (cnt X)))) := hs_s eh_42
    refine J_astore (i := 8) (lv' := [(8, .ref (A_1)), (7, .int (-1)), (6, .int (nI (mostS β X))), (0, .ref (53)), (1, .ref (A)), (2, .int (nI (s))), (3, .int (nI (X))), (4, .int (nI (0))), (5, .int (nI (le)))]) (pc := 86) dX3_grow_86 (by decide) rfl ?_
    refine J_aload (i := 8) (pc := 88) dX3_grow_88 rfl ?_
    refine J_iconst (v := nI (0)) (pc := 90) dX3_grow_90 rfl ?_
    refine J_aload_n (i := 1) (pc := 91) dX3_grow_91 rfl rfl ?_
    refine J_iconst (v := nI (5)) (pc := 92) dX3_grow_92 rfl ?_
    refine J_iload_n (i := 2) (pc := 93) dX3_grow_93 rfl rfl ?_
    refine J_imulN (pc := 94) dX3_grow_94 ?_
    refine J_iconst (v := nI (5)) (pc := 95) dX3_grow_95 rfl ?_
    refine J_copyI (st := []) (pc := 96) dX3_grow_96 q3_173 H_49 H_48 rfl rfl rfl (by omega) (by omega) (by omega) (by omega) (Nat.le_of_ble_eq_true rfl) ?_
    obtain ⟨h_50, eh_50⟩ : ∃ z : MH, z = (h_42.1, hset h_42.2 (A) (aI (320) (va_cpy (upd (upd (upd (upd (upd ((fun _ => 0)) (0) (nI (1))) (1) (((-1) / nI (51)))) (2) (((-1) - (-1) / nI (51) * nI (51)))) (3) (nI (mostS β X))) (4) (nI (cnt X))) f (0) ((5) * (s)) (5)))) := ⟨_, rfl⟩
    refine J_heq (h2 := h_50) eh_50 ?_
    have zh_50 : h_50.1 = h_42.1 := by rw [eh_50]
    have H_51 : h_50.2 (53) = some (oB 3 [.int (th), .int (nI (β.1)), .ref (54), .ref (55), .int (nI (β.2.1)), .int (dq), .int (lq), .int (kk), .ref (56), .ref (57), .ref (58)]) := (hs_n eh_50 (by omega)).trans H_43
    have H_52 : h_50.2 (54) = some (aI (60) (mf)) := (hs_n eh_50 (by omega)).trans H_44
    have H_53 : h_50.2 (55) = some (aI (20) (sf)) := (hs_n eh_50 (by omega)).trans H_45
    have H_54 : EA A h h_50 := by rw [eh_50]; exact EA_st H_46 (by omega) rfl
    have H_55 : MS h_50 β := by rw [eh_50]; exact MS_oth (fun i i1 i2 => hset_n (by omega)) H_47
    have H_56 : h_50.2 (A) = some (aI (320) (va_cpy (upd (upd (upd (upd (upd ((fun _ => 0)) (0) (nI (1))) (1) (((-1) / nI (51)))) (2) (((-1) - (-1) / nI (51) * nI (51)))) (3) (nI (mostS β X))) (4) (nI (cnt X))) f (0) ((5) * (s)) (5))) := hs_s eh_50
    have H_57 : h_50.2 (A_1) = some (aI (5) (upd (upd (upd (upd (upd ((fun _ => 0)) (0) (nI (1))) (1) (((-1) / nI (51)))) (2) (((-1) - (-1) / nI (51) * nI (51)))) (3) (nI (mostS β X))) (4) (nI (cnt X)))) := (hs_n eh_50 (by omega)).trans H_49
    refine J_iload (i := 7) (pc := 99) dX3_grow_99 rfl ?_
    refine J_iconst (v := (-1)) (pc := 101) dX3_grow_101 rfl ?_
    refine J_icmp_ne (tgt := 106) (pc := 102) dX3_grow_102 (by decide) (fun c102 => absurd c102 (fun q => q rfl)) (fun c102 => ?_)
    refine J_vret (pc := 105) dX3_grow_105 rfl ?_
    refine ⟨rfl, H_54, _, H_56, ?_, ?_⟩
    · show _ ∧ _ ∧ _
      refine ⟨?_, ?_, ?_⟩
      · rw [pk_cpy_in (by omega) (by omega), show 0 + (5 * s - 5 * s) = 0 by omega]; rfl
      · rw [pk_cpy_in (by omega) (by omega), show 0 + (5 * s + 3 - 5 * s) = 3 by omega]; rfl
      · rw [pk_cpy_in (by omega) (by omega), show 0 + (5 * s + 4 - 5 * s) = 4 by omega]; rfl
    · intro q e hq he
      have hqs : q ≠ s := fun z => hq (id z)
      exact pk_cpy_out (by omega)
  | succ d ih =>
    intro m s X h f hM hz hA hA1 hA2 hs1 hX hX1 hm hs hd5
    show J g (dd + d + 5 + 1) _ _ mX3_grow 0 _ [] h _
    obtain ⟨hW, ⟨th, dq, lq, kk, m53⟩, ⟨mf, m54, em⟩, ⟨sf, m55, es⟩⟩ := id hM
    obtain ⟨hn, hc9, hm5, hs2⟩ := id hW
    have hp9 := pw_le hn
    have hs20 := lt20 hW hX
    have hof := ofS_le β X (mostS β X)
    have hcx := cnt_le X
    have hms := mostS_le β X
    have hpow : (s + 1) * 2 ^ (d + 1) = 2 * ((s + 1) * 2 ^ d) := by rw [Nat.pow_succ]; grind
    have hpw := Nat.one_le_two_pow (n := d)
    have hsp : s + 1 ≤ (s + 1) * 2 ^ d := Nat.le_mul_of_pos_right _ (by omega)
    have hs64 : s < 64 := by omega
    have hd1 : (2 * s + 1) * 2 ^ d ≤ 64 ∧ (2 * s + 1 + 1) * 2 ^ d ≤ 64 := by
      have e1 : (2 * s + 1 + 1) * 2 ^ d = 2 * ((s + 1) * 2 ^ d) := by grind
      have e2 : (2 * s + 1) * 2 ^ d ≤ (2 * s + 1 + 1) * 2 ^ d := Nat.mul_le_mul_right _ (by omega)
      omega
    obtain ⟨hd1, hd2⟩ := hd1
    cases m with
    | zero =>
      refine J_aload_n (i := 0) (pc := 0) dX3_grow_0 rfl rfl ?_
      refine J_iload_n (i := 3) (pc := 1) dX3_grow_1 rfl rfl ?_
      refine J_cVi (st := []) (As := [.int (nI (X))]) (pc := 2) dX3_grow_2 okX3_sortOf q3_211 q3_213 qs2_1 (rfl : vwCl[3]? = some _) m53 rfl (Nat.le_of_ble_eq_true rfl) (Nat.le_of_ble_eq_true rfl) (m_sortOf hM (by omega)) ?_
      refine J_istore (i := 6) (lv' := [(6, .int (nI (mostS β X))), (0, .ref (53)), (1, .ref (A)), (2, .int (nI (s))), (3, .int (nI (X))), (4, .int (nI (0))), (5, .int (nI (le)))]) (pc := 5) dX3_grow_5 (by decide) rfl ?_
      refine J_iload (i := 4) (pc := 7) dX3_grow_7 rfl ?_
      refine J_if_eqN (tgt := 27) (pc := 9) dX3_grow_9 (by decide) (by omega) (fun c9 => ?_) (fun c9 => by exfalso; first | omega | simp_all)
      refine J_iconst (v := (-1)) (pc := 27) dX3_grow_27 rfl ?_
      refine J_goto (tgt := 38) (pc := 28) dX3_grow_28 (by decide) ?_
      refine J_istore (i := 7) (lv' := [(7, .int (-1)), (6, .int (nI (mostS β X))), (0, .ref (53)), (1, .ref (A)), (2, .int (nI (s))), (3, .int (nI (X))), (4, .int (nI (0))), (5, .int (nI (le)))]) (pc := 38) dX3_grow_38 (by decide) rfl ?_
      refine J_iconst (v := nI (5)) (pc := 40) dX3_grow_40 rfl ?_
      obtain ⟨A_1, eA_1⟩ : ∃ z : Nat, z = h.1 := ⟨_, rfl⟩
      obtain ⟨h_2, eh_2⟩ : ∃ z : MH, z = (A_1 + 1, hset h.2 A_1 (aI (5) (fun _ => 0))) := ⟨_, rfl⟩
      refine J_newIA (A := A_1) (h' := h_2) (n := 5) (ca' := 0) (sa' := 0) (pc := 41) dX3_grow_41 rfl (by decide) (by omega) (by omega) eA_1 eh_2 ?_
      have zh_2 : h_2.1 = A_1 + 1 := by rw [eh_2]
      have H_3 : h_2.2 (53) = some (oB 3 [.int (th), .int (nI (β.1)), .ref (54), .ref (55), .int (nI (β.2.1)), .int (dq), .int (lq), .int (kk), .ref (56), .ref (57), .ref (58)]) := (ha_n eh_2 (by omega)).trans m53
      have H_4 : h_2.2 (54) = some (aI (60) (mf)) := (ha_n eh_2 (by omega)).trans m54
      have H_5 : h_2.2 (55) = some (aI (20) (sf)) := (ha_n eh_2 (by omega)).trans m55
      have H_6 : EA A h h_2 := EA_new EA_rfl eA_1 eh_2
      have H_7 : MS h_2 β := MS_oth (fun i i1 i2 => ha_n eh_2 (by omega)) hM
      have H_8 : h_2.2 (A) = some (aI (320) (f)) := (ha_n eh_2 (by omega)).trans hA
      have H_9 : h_2.2 (A_1) = some (aI (5) (fun _ => 0)) := ha_s eh_2
      refine J_dup (pc := 43) dX3_grow_43 rfl ?_
      refine J_iconst (v := nI (0)) (pc := 44) dX3_grow_44 rfl ?_
      refine J_iload (i := 7) (pc := 45) dX3_grow_45 rfl ?_
      refine J_iconst (v := (-1)) (pc := 47) dX3_grow_47 rfl ?_
      refine J_icmp_ne (tgt := 55) (pc := 48) dX3_grow_48 (by decide) (fun c48 => absurd c48 (fun q => q rfl)) (fun c48 => ?_)
      refine J_iconst (v := nI (1)) (pc := 51) dX3_grow_51 rfl ?_
      refine J_goto (tgt := 56) (pc := 52) dX3_grow_52 (by decide) ?_
      refine J_iast (j := 0) (pc := 56) dX3_grow_56 H_9 rfl (by omega) (by omega) ?_
      obtain ⟨h_10, eh_10⟩ : ∃ z : MH, z = (h_2.1, hset h_2.2 (A_1) (aI (5) (upd ((fun _ => 0)) (0) (nI (1))))) := ⟨_, rfl⟩
      refine J_heq (h2 := h_10) eh_10 ?_
      have zh_10 : h_10.1 = h_2.1 := by rw [eh_10]
      have H_11 : h_10.2 (53) = some (oB 3 [.int (th), .int (nI (β.1)), .ref (54), .ref (55), .int (nI (β.2.1)), .int (dq), .int (lq), .int (kk), .ref (56), .ref (57), .ref (58)]) := (hs_n eh_10 (by omega)).trans H_3
      have H_12 : h_10.2 (54) = some (aI (60) (mf)) := (hs_n eh_10 (by omega)).trans H_4
      have H_13 : h_10.2 (55) = some (aI (20) (sf)) := (hs_n eh_10 (by omega)).trans H_5
      have H_14 : EA A h h_10 := by rw [eh_10]; exact EA_st H_6 (by omega) rfl
      have H_15 : MS h_10 β := by rw [eh_10]; exact MS_oth (fun i i1 i2 => hset_n (by omega)) H_7
      have H_16 : h_10.2 (A) = some (aI (320) (f)) := (hs_n eh_10 (by omega)).trans H_8
      have H_17 : h_10.2 (A_1) = some (aI (5) (upd ((fun _ => 0)) (0) (nI (1)))) := hs_s eh_10
      refine J_dup (pc := 57) dX3_grow_57 rfl ?_
      refine J_iconst (v := nI (1)) (pc := 58) dX3_grow_58 rfl ?_
      refine J_iload (i := 7) (pc := 59) dX3_grow_59 rfl ?_
      refine J_bipush (v := nI (51)) (pc := 61) dX3_grow_61 rfl ?_
      refine J_idiv (pc := 63) dX3_grow_63 (by decide) ?_
      refine J_iast (j := 1) (pc := 64) dX3_grow_64 H_17 rfl (by omega) (by omega) ?_
      obtain ⟨h_18, eh_18⟩ : ∃ z : MH, z = (h_10.1, hset h_10.2 (A_1) (aI (5) (upd (upd ((fun _ => 0)) (0) (nI (1))) (1) (((-1) / nI (51)))))) := ⟨_, rfl⟩
      refine J_heq (h2 := h_18) eh_18 ?_
      have zh_18 : h_18.1 = h_10.1 := by rw [eh_18]
      have H_19 : h_18.2 (53) = some (oB 3 [.int (th), .int (nI (β.1)), .ref (54), .ref (55), .int (nI (β.2.1)), .int (dq), .int (lq), .int (kk), .ref (56), .ref (57), .ref (58)]) := (hs_n eh_18 (by omega)).trans H_11
      have H_20 : h_18.2 (54) = some (aI (60) (mf)) := (hs_n eh_18 (by omega)).trans H_12
      have H_21 : h_18.2 (55) = some (aI (20) (sf)) := (hs_n eh_18 (by omega)).trans H_13
      have H_22 : EA A h h_18 := by rw [eh_18]; exact EA_st H_14 (by omega) rfl
      have H_23 : MS h_18 β := by rw [eh_18]; exact MS_oth (fun i i1 i2 => hset_n (by omega)) H_15
      have H_24 : h_18.2 (A) = some (aI (320) (f)) := (hs_n eh_18 (by omega)).trans H_16
      have H_25 : h_18.2 (A_1) = some (aI (5) (upd (upd ((fun _ => 0)) (0) (nI (1))) (1) (((-1) / nI (51))))) := hs_s eh_18
      refine J_dup (pc := 65) dX3_grow_65 rfl ?_
      refine J_iconst (v := nI (2)) (pc := 66) dX3_grow_66 rfl ?_
      refine J_iload (i := 7) (pc := 67) dX3_grow_67 rfl ?_
      refine J_bipush (v := nI (51)) (pc := 69) dX3_grow_69 rfl ?_
      refine J_irem (pc := 71) dX3_grow_71 (by decide) ?_
      refine J_iast (j := 2) (pc := 72) dX3_grow_72 H_25 rfl (by omega) (by omega) ?_
      obtain ⟨h_26, eh_26⟩ : ∃ z : MH, z = (h_18.1, hset h_18.2 (A_1) (aI (5) (upd (upd (upd ((fun _ => 0)) (0) (nI (1))) (1) (((-1) / nI (51)))) (2) (((-1) - (-1) / nI (51) * nI (51)))))) := ⟨_, rfl⟩
      refine J_heq (h2 := h_26) eh_26 ?_
      have zh_26 : h_26.1 = h_18.1 := by rw [eh_26]
      have H_27 : h_26.2 (53) = some (oB 3 [.int (th), .int (nI (β.1)), .ref (54), .ref (55), .int (nI (β.2.1)), .int (dq), .int (lq), .int (kk), .ref (56), .ref (57), .ref (58)]) := (hs_n eh_26 (by omega)).trans H_19
      have H_28 : h_26.2 (54) = some (aI (60) (mf)) := (hs_n eh_26 (by omega)).trans H_20
      have H_29 : h_26.2 (55) = some (aI (20) (sf)) := (hs_n eh_26 (by omega)).trans H_21
      have H_30 : EA A h h_26 := by rw [eh_26]; exact EA_st H_22 (by omega) rfl
      have H_31 : MS h_26 β := by rw [eh_26]; exact MS_oth (fun i i1 i2 => hset_n (by omega)) H_23
      have H_32 : h_26.2 (A) = some (aI (320) (f)) := (hs_n eh_26 (by omega)).trans H_24
      have H_33 : h_26.2 (A_1) = some (aI (5) (upd (upd (upd ((fun _ => 0)) (0) (nI (1))) (1) (((-1) / nI (51)))) (2) (((-1) - (-1) / nI (51) * nI (51))))) := hs_s eh_26
      refine J_dup (pc := 73) dX3_grow_73 rfl ?_
      refine J_iconst (v := nI (3)) (pc := 74) dX3_grow_74 rfl ?_
      refine J_iload (i := 6) (pc := 75) dX3_grow_75 rfl ?_
      refine J_iast (j := 3) (pc := 77) dX3_grow_77 H_33 rfl (by omega) (by omega) ?_
      obtain ⟨h_34, eh_34⟩ : ∃ z : MH, z = (h_26.1, hset h_26.2 (A_1) (aI (5) (upd (upd (upd (upd ((fun _ => 0)) (0) (nI (1))) (1) (((-1) / nI (51)))) (2) (((-1) - (-1) / nI (51) * nI (51)))) (3) (nI (mostS β X))))) := ⟨_, rfl⟩
      refine J_heq (h2 := h_34) eh_34 ?_
      have zh_34 : h_34.1 = h_26.1 := by rw [eh_34]
      have H_35 : h_34.2 (53) = some (oB 3 [.int (th), .int (nI (β.1)), .ref (54), .ref (55), .int (nI (β.2.1)), .int (dq), .int (lq), .int (kk), .ref (56), .ref (57), .ref (58)]) := (hs_n eh_34 (by omega)).trans H_27
      have H_36 : h_34.2 (54) = some (aI (60) (mf)) := (hs_n eh_34 (by omega)).trans H_28
      have H_37 : h_34.2 (55) = some (aI (20) (sf)) := (hs_n eh_34 (by omega)).trans H_29
      have H_38 : EA A h h_34 := by rw [eh_34]; exact EA_st H_30 (by omega) rfl
      have H_39 : MS h_34 β := by rw [eh_34]; exact MS_oth (fun i i1 i2 => hset_n (by omega)) H_31
      have H_40 : h_34.2 (A) = some (aI (320) (f)) := (hs_n eh_34 (by omega)).trans H_32
      have H_41 : h_34.2 (A_1) = some (aI (5) (upd (upd (upd (upd ((fun _ => 0)) (0) (nI (1))) (1) (((-1) / nI (51)))) (2) (((-1) - (-1) / nI (51) * nI (51)))) (3) (nI (mostS β X)))) := hs_s eh_34
      refine J_dup (pc := 78) dX3_grow_78 rfl ?_
      refine J_iconst (v := nI (4)) (pc := 79) dX3_grow_79 rfl ?_
      refine J_aload_n (i := 0) (pc := 80) dX3_grow_80 rfl rfl ?_
      refine J_iload_n (i := 3) (pc := 81) dX3_grow_81 rfl rfl ?_
      refine J_cVi (st := [.int (nI (4)), .ref (A_1), .ref (A_1)]) (As := [.int (nI (X))]) (pc := 82) dX3_grow_82 okX3_many q3_219 q3_221 qs2_3 (rfl : vwCl[3]? = some _) H_35 rfl (Nat.le_of_ble_eq_true rfl) (Nat.le_of_ble_eq_true rfl) (m_many H_39 (by omega)) ?_
      refine J_iast (j := 4) (pc := 85) dX3_grow_85 H_41 rfl (by omega) (by omega) ?_
      obtain ⟨h_42, eh_42⟩ : ∃ z : MH, z = (h_34.1, hset h_34.2 (A_1) (aI (5) (upd (upd (upd (upd (upd ((fun _ => 0)) (0) (nI (1))) (1) (((-1) / nI (51)))) (2) (((-1) - (-1) / nI (51) * nI (51)))) (3) (nI (mostS β X))) (4) (nI (cnt X))))) := ⟨_, rfl⟩
      refine J_heq (h2 := h_42) eh_42 ?_
      have zh_42 : h_42.1 = h_34.1 := by rw [eh_42]
      have H_43 : h_42.2 (53) = some (oB 3 [.int (th), .int (nI (β.1)), .ref (54), .ref (55), .int (nI (β.2.1)), .int (dq), .int (lq), .int (kk), .ref (56), .ref (57), .ref (58)]) := (hs_n eh_42 (by omega)).trans H_35
      have H_44 : h_42.2 (54) = some (aI (60) (mf)) := (hs_n eh_42 (by omega)).trans H_36
      have H_45 : h_42.2 (55) = some (aI (20) (sf)) := (hs_n eh_42 (by omega)).trans H_37
      have H_46 : EA A h h_42 := by rw [eh_42]; exact EA_st H_38 (by omega) rfl
      have H_47 : MS h_42 β := by rw [eh_42]; exact MS_oth (fun i i1 i2 => hset_n (by omega)) H_39
      have H_48 : h_42.2 (A) = some (aI (320) (f)) := (hs_n eh_42 (by omega)).trans H_40
      have H_49 : h_42.2 (A_1) = some (aI (5) (upd (upd (upd (upd (upd ((fun _ => 0)) (0) (nI (1))) (1) (((-1) / nI (51)))) (2) (((-1) - (-1) / nI (51) * nI (51)))) (3) (nI (mostS β X))) (4) (nI (cnt X)))) := hs_s eh_42
      refine J_astore (i := 8) (lv' := [(8, .ref (A_1)), (7, .int (-1)), (6, .int (nI (mostS β X))), (0, .ref (53)), (1, .ref (A)), (2, .int (nI (s))), (3, .int (nI (X))), (4, .int (nI (0))), (5, .int (nI (le)))]) (pc := 86) dX3_grow_86 (by decide) rfl ?_
      refine J_aload (i := 8) (pc := 88) dX3_grow_88 rfl ?_
      refine J_iconst (v := nI (0)) (pc := 90) dX3_grow_90 rfl ?_
      refine J_aload_n (i := 1) (pc := 91) dX3_grow_91 rfl rfl ?_
      refine J_iconst (v := nI (5)) (pc := 92) dX3_grow_92 rfl ?_
      refine J_iload_n (i := 2) (pc := 93) dX3_grow_93 rfl rfl ?_
      refine J_imulN (pc := 94) dX3_grow_94 ?_
      refine J_iconst (v := nI (5)) (pc := 95) dX3_grow_95 rfl ?_
      refine J_copyI (st := []) (pc := 96) dX3_grow_96 q3_173 H_49 H_48 rfl rfl rfl (by omega) (by omega) (by omega) (by omega) (Nat.le_of_ble_eq_true rfl) ?_
      obtain ⟨h_50, eh_50⟩ : ∃ z : MH, z = (h_42.1, hset h_42.2 (A) (aI (320) (va_cpy (upd (upd (upd (upd (upd ((fun _ => 0)) (0) (nI (1))) (1) (((-1) / nI (51)))) (2) (((-1) - (-1) / nI (51) * nI (51)))) (3) (nI (mostS β X))) (4) (nI (cnt X))) f (0) ((5) * (s)) (5)))) := ⟨_, rfl⟩
      refine J_heq (h2 := h_50) eh_50 ?_
      have zh_50 : h_50.1 = h_42.1 := by rw [eh_50]
      have H_51 : h_50.2 (53) = some (oB 3 [.int (th), .int (nI (β.1)), .ref (54), .ref (55), .int (nI (β.2.1)), .int (dq), .int (lq), .int (kk), .ref (56), .ref (57), .ref (58)]) := (hs_n eh_50 (by omega)).trans H_43
      have H_52 : h_50.2 (54) = some (aI (60) (mf)) := (hs_n eh_50 (by omega)).trans H_44
      have H_53 : h_50.2 (55) = some (aI (20) (sf)) := (hs_n eh_50 (by omega)).trans H_45
      have H_54 : EA A h h_50 := by rw [eh_50]; exact EA_st H_46 (by omega) rfl
      have H_55 : MS h_50 β := by rw [eh_50]; exact MS_oth (fun i i1 i2 => hset_n (by omega)) H_47
      have H_56 : h_50.2 (A) = some (aI (320) (va_cpy (upd (upd (upd (upd (upd ((fun _ => 0)) (0) (nI (1))) (1) (((-1) / nI (51)))) (2) (((-1) - (-1) / nI (51) * nI (51)))) (3) (nI (mostS β X))) (4) (nI (cnt X))) f (0) ((5) * (s)) (5))) := hs_s eh_50
      have H_57 : h_50.2 (A_1) = some (aI (5) (upd (upd (upd (upd (upd ((fun _ => 0)) (0) (nI (1))) (1) (((-1) / nI (51)))) (2) (((-1) - (-1) / nI (51) * nI (51)))) (3) (nI (mostS β X))) (4) (nI (cnt X)))) := (hs_n eh_50 (by omega)).trans H_49
      refine J_iload (i := 7) (pc := 99) dX3_grow_99 rfl ?_
      refine J_iconst (v := (-1)) (pc := 101) dX3_grow_101 rfl ?_
      refine J_icmp_ne (tgt := 106) (pc := 102) dX3_grow_102 (by decide) (fun c102 => absurd c102 (fun q => q rfl)) (fun c102 => ?_)
      refine J_vret (pc := 105) dX3_grow_105 rfl ?_
      refine ⟨rfl, H_54, _, H_56, ?_, ?_⟩
      · rw [gr_z]
        refine ⟨?_, ?_, ?_⟩
        · rw [pk_cpy_in (by omega) (by omega), show 0 + (5 * s - 5 * s) = 0 by omega]; rfl
        · rw [pk_cpy_in (by omega) (by omega), show 0 + (5 * s + 3 - 5 * s) = 3 by omega]; rfl
        · rw [pk_cpy_in (by omega) (by omega), show 0 + (5 * s + 4 - 5 * s) = 4 by omega]; rfl
      · intro q e hq he
        have hqs : q ≠ s := fun z => hq (Or.inl z)
        exact pk_cpy_out (by omega)
    | succ m =>
      have hmul : cnt X * (m + 1) = cnt X * m + cnt X := Nat.mul_succ _ _
      by_cases c1 : ofS β X (mostS β X) = cnt X
      · have ce : bestS β X le = none := one_best hW hX (by have := mostS_le β X; omega) c1
        refine J_aload_n (i := 0) (pc := 0) dX3_grow_0 rfl rfl ?_
        refine J_iload_n (i := 3) (pc := 1) dX3_grow_1 rfl rfl ?_
        refine J_cVi (st := []) (As := [.int (nI (X))]) (pc := 2) dX3_grow_2 okX3_sortOf q3_211 q3_213 qs2_1 (rfl : vwCl[3]? = some _) m53 rfl (Nat.le_of_ble_eq_true rfl) (Nat.le_of_ble_eq_true rfl) (m_sortOf hM (by omega)) ?_
        refine J_istore (i := 6) (lv' := [(6, .int (nI (mostS β X))), (0, .ref (53)), (1, .ref (A)), (2, .int (nI (s))), (3, .int (nI (X))), (4, .int (nI (m + 1))), (5, .int (nI (le)))]) (pc := 5) dX3_grow_5 (by decide) rfl ?_
        refine J_iload (i := 4) (pc := 7) dX3_grow_7 rfl ?_
        refine J_if_eqN (tgt := 27) (pc := 9) dX3_grow_9 (by decide) (by omega) (fun c9 => by exfalso; first | omega | simp_all) (fun c9 => ?_)
        refine J_aload_n (i := 0) (pc := 12) dX3_grow_12 rfl rfl ?_
        refine J_iload_n (i := 3) (pc := 13) dX3_grow_13 rfl rfl ?_
        refine J_iload (i := 6) (pc := 14) dX3_grow_14 rfl ?_
        refine J_cVi (st := []) (As := [.int (nI (X)), .int (nI (mostS β X))]) (pc := 16) dX3_grow_16 okX3_ofSort q3_215 q3_217 qs2_2 (rfl : vwCl[3]? = some _) m53 rfl (Nat.le_of_ble_eq_true rfl) (Nat.le_of_ble_eq_true rfl) (m_ofSort hM (by omega) (by omega)) ?_
        refine J_aload_n (i := 0) (pc := 19) dX3_grow_19 rfl rfl ?_
        refine J_iload_n (i := 3) (pc := 20) dX3_grow_20 rfl rfl ?_
        refine J_cVi (st := [.int (nI (ofS β X (mostS β X)))]) (As := [.int (nI (X))]) (pc := 21) dX3_grow_21 okX3_many q3_219 q3_221 qs2_3 (rfl : vwCl[3]? = some _) m53 rfl (Nat.le_of_ble_eq_true rfl) (Nat.le_of_ble_eq_true rfl) (m_many hM (by omega)) ?_
        refine J_icmp_neN (tgt := 31) (pc := 24) dX3_grow_24 (by decide) (by omega) (by omega) (fun c24 => by exfalso; first | omega | simp_all) (fun c24 => ?_)
        refine J_iconst (v := (-1)) (pc := 27) dX3_grow_27 rfl ?_
        refine J_goto (tgt := 38) (pc := 28) dX3_grow_28 (by decide) ?_
        refine J_istore (i := 7) (lv' := [(7, .int (-1)), (6, .int (nI (mostS β X))), (0, .ref (53)), (1, .ref (A)), (2, .int (nI (s))), (3, .int (nI (X))), (4, .int (nI (m + 1))), (5, .int (nI (le)))]) (pc := 38) dX3_grow_38 (by decide) rfl ?_
        refine J_iconst (v := nI (5)) (pc := 40) dX3_grow_40 rfl ?_
        obtain ⟨A_1, eA_1⟩ : ∃ z : Nat, z = h.1 := ⟨_, rfl⟩
        obtain ⟨h_2, eh_2⟩ : ∃ z : MH, z = (A_1 + 1, hset h.2 A_1 (aI (5) (fun _ => 0))) := ⟨_, rfl⟩
        refine J_newIA (A := A_1) (h' := h_2) (n := 5) (ca' := 0) (sa' := 0) (pc := 41) dX3_grow_41 rfl (by decide) (by omega) (by omega) eA_1 eh_2 ?_
        have zh_2 : h_2.1 = A_1 + 1 := by rw [eh_2]
        have H_3 : h_2.2 (53) = some (oB 3 [.int (th), .int (nI (β.1)), .ref (54), .ref (55), .int (nI (β.2.1)), .int (dq), .int (lq), .int (kk), .ref (56), .ref (57), .ref (58)]) := (ha_n eh_2 (by omega)).trans m53
        have H_4 : h_2.2 (54) = some (aI (60) (mf)) := (ha_n eh_2 (by omega)).trans m54
        have H_5 : h_2.2 (55) = some (aI (20) (sf)) := (ha_n eh_2 (by omega)).trans m55
        have H_6 : EA A h h_2 := EA_new EA_rfl eA_1 eh_2
        have H_7 : MS h_2 β := MS_oth (fun i i1 i2 => ha_n eh_2 (by omega)) hM
        have H_8 : h_2.2 (A) = some (aI (320) (f)) := (ha_n eh_2 (by omega)).trans hA
        have H_9 : h_2.2 (A_1) = some (aI (5) (fun _ => 0)) := ha_s eh_2
        refine J_dup (pc := 43) dX3_grow_43 rfl ?_
        refine J_iconst (v := nI (0)) (pc := 44) dX3_grow_44 rfl ?_
        refine J_iload (i := 7) (pc := 45) dX3_grow_45 rfl ?_
        refine J_iconst (v := (-1)) (pc := 47) dX3_grow_47 rfl ?_
        refine J_icmp_ne (tgt := 55) (pc := 48) dX3_grow_48 (by decide) (fun c48 => absurd c48 (fun q => q rfl)) (fun c48 => ?_)
        refine J_iconst (v := nI (1)) (pc := 51) dX3_grow_51 rfl ?_
        refine J_goto (tgt := 56) (pc := 52) dX3_grow_52 (by decide) ?_
        refine J_iast (j := 0) (pc := 56) dX3_grow_56 H_9 rfl (by omega) (by omega) ?_
        obtain ⟨h_10, eh_10⟩ : ∃ z : MH, z = (h_2.1, hset h_2.2 (A_1) (aI (5) (upd ((fun _ => 0)) (0) (nI (1))))) := ⟨_, rfl⟩
        refine J_heq (h2 := h_10) eh_10 ?_
        have zh_10 : h_10.1 = h_2.1 := by rw [eh_10]
        have H_11 : h_10.2 (53) = some (oB 3 [.int (th), .int (nI (β.1)), .ref (54), .ref (55), .int (nI (β.2.1)), .int (dq), .int (lq), .int (kk), .ref (56), .ref (57), .ref (58)]) := (hs_n eh_10 (by omega)).trans H_3
        have H_12 : h_10.2 (54) = some (aI (60) (mf)) := (hs_n eh_10 (by omega)).trans H_4
        have H_13 : h_10.2 (55) = some (aI (20) (sf)) := (hs_n eh_10 (by omega)).trans H_5
        have H_14 : EA A h h_10 := by rw [eh_10]; exact EA_st H_6 (by omega) rfl
        have H_15 : MS h_10 β := by rw [eh_10]; exact MS_oth (fun i i1 i2 => hset_n (by omega)) H_7
        have H_16 : h_10.2 (A) = some (aI (320) (f)) := (hs_n eh_10 (by omega)).trans H_8
        have H_17 : h_10.2 (A_1) = some (aI (5) (upd ((fun _ => 0)) (0) (nI (1)))) := hs_s eh_10
        refine J_dup (pc := 57) dX3_grow_57 rfl ?_
        refine J_iconst (v := nI (1)) (pc := 58) dX3_grow_58 rfl ?_
        refine J_iload (i := 7) (pc := 59) dX3_grow_59 rfl ?_
        refine J_bipush (v := nI (51)) (pc := 61) dX3_grow_61 rfl ?_
        refine J_idiv (pc := 63) dX3_grow_63 (by decide) ?_
        refine J_iast (j := 1) (pc := 64) dX3_grow_64 H_17 rfl (by omega) (by omega) ?_
        obtain ⟨h_18, eh_18⟩ : ∃ z : MH, z = (h_10.1, hset h_10.2 (A_1) (aI (5) (upd (upd ((fun _ => 0)) (0) (nI (1))) (1) (((-1) / nI (51)))))) := ⟨_, rfl⟩
        refine J_heq (h2 := h_18) eh_18 ?_
        have zh_18 : h_18.1 = h_10.1 := by rw [eh_18]
        have H_19 : h_18.2 (53) = some (oB 3 [.int (th), .int (nI (β.1)), .ref (54), .ref (55), .int (nI (β.2.1)), .int (dq), .int (lq), .int (kk), .ref (56), .ref (57), .ref (58)]) := (hs_n eh_18 (by omega)).trans H_11
        have H_20 : h_18.2 (54) = some (aI (60) (mf)) := (hs_n eh_18 (by omega)).trans H_12
        have H_21 : h_18.2 (55) = some (aI (20) (sf)) := (hs_n eh_18 (by omega)).trans H_13
        have H_22 : EA A h h_18 := by rw [eh_18]; exact EA_st H_14 (by omega) rfl
        have H_23 : MS h_18 β := by rw [eh_18]; exact MS_oth (fun i i1 i2 => hset_n (by omega)) H_15
        have H_24 : h_18.2 (A) = some (aI (320) (f)) := (hs_n eh_18 (by omega)).trans H_16
        have H_25 : h_18.2 (A_1) = some (aI (5) (upd (upd ((fun _ => 0)) (0) (nI (1))) (1) (((-1) / nI (51))))) := hs_s eh_18
        refine J_dup (pc := 65) dX3_grow_65 rfl ?_
        refine J_iconst (v := nI (2)) (pc := 66) dX3_grow_66 rfl ?_
        refine J_iload (i := 7) (pc := 67) dX3_grow_67 rfl ?_
        refine J_bipush (v := nI (51)) (pc := 69) dX3_grow_69 rfl ?_
        refine J_irem (pc := 71) dX3_grow_71 (by decide) ?_
        refine J_iast (j := 2) (pc := 72) dX3_grow_72 H_25 rfl (by omega) (by omega) ?_
        obtain ⟨h_26, eh_26⟩ : ∃ z : MH, z = (h_18.1, hset h_18.2 (A_1) (aI (5) (upd (upd (upd ((fun _ => 0)) (0) (nI (1))) (1) (((-1) / nI (51)))) (2) (((-1) - (-1) / nI (51) * nI (51)))))) := ⟨_, rfl⟩
        refine J_heq (h2 := h_26) eh_26 ?_
        have zh_26 : h_26.1 = h_18.1 := by rw [eh_26]
        have H_27 : h_26.2 (53) = some (oB 3 [.int (th), .int (nI (β.1)), .ref (54), .ref (55), .int (nI (β.2.1)), .int (dq), .int (lq), .int (kk), .ref (56), .ref (57), .ref (58)]) := (hs_n eh_26 (by omega)).trans H_19
        have H_28 : h_26.2 (54) = some (aI (60) (mf)) := (hs_n eh_26 (by omega)).trans H_20
        have H_29 : h_26.2 (55) = some (aI (20) (sf)) := (hs_n eh_26 (by omega)).trans H_21
        have H_30 : EA A h h_26 := by rw [eh_26]; exact EA_st H_22 (by omega) rfl
        have H_31 : MS h_26 β := by rw [eh_26]; exact MS_oth (fun i i1 i2 => hset_n (by omega)) H_23
        have H_32 : h_26.2 (A) = some (aI (320) (f)) := (hs_n eh_26 (by omega)).trans H_24
        have H_33 : h_26.2 (A_1) = some (aI (5) (upd (upd (upd ((fun _ => 0)) (0) (nI (1))) (1) (((-1) / nI (51)))) (2) (((-1) - (-1) / nI (51) * nI (51))))) := hs_s eh_26
        refine J_dup (pc := 73) dX3_grow_73 rfl ?_
        refine J_iconst (v := nI (3)) (pc := 74) dX3_grow_74 rfl ?_
        refine J_iload (i := 6) (pc := 75) dX3_grow_75 rfl ?_
        refine J_iast (j := 3) (pc := 77) dX3_grow_77 H_33 rfl (by omega) (by omega) ?_
        obtain ⟨h_34, eh_34⟩ : ∃ z : MH, z = (h_26.1, hset h_26.2 (A_1) (aI (5) (upd (upd (upd (upd ((fun _ => 0)) (0) (nI (1))) (1) (((-1) / nI (51)))) (2) (((-1) - (-1) / nI (51) * nI (51)))) (3) (nI (mostS β X))))) := ⟨_, rfl⟩
        refine J_heq (h2 := h_34) eh_34 ?_
        have zh_34 : h_34.1 = h_26.1 := by rw [eh_34]
        have H_35 : h_34.2 (53) = some (oB 3 [.int (th), .int (nI (β.1)), .ref (54), .ref (55), .int (nI (β.2.1)), .int (dq), .int (lq), .int (kk), .ref (56), .ref (57), .ref (58)]) := (hs_n eh_34 (by omega)).trans H_27
        have H_36 : h_34.2 (54) = some (aI (60) (mf)) := (hs_n eh_34 (by omega)).trans H_28
        have H_37 : h_34.2 (55) = some (aI (20) (sf)) := (hs_n eh_34 (by omega)).trans H_29
        have H_38 : EA A h h_34 := by rw [eh_34]; exact EA_st H_30 (by omega) rfl
        have H_39 : MS h_34 β := by rw [eh_34]; exact MS_oth (fun i i1 i2 => hset_n (by omega)) H_31
        have H_40 : h_34.2 (A) = some (aI (320) (f)) := (hs_n eh_34 (by omega)).trans H_32
        have H_41 : h_34.2 (A_1) = some (aI (5) (upd (upd (upd (upd ((fun _ => 0)) (0) (nI (1))) (1) (((-1) / nI (51)))) (2) (((-1) - (-1) / nI (51) * nI (51)))) (3) (nI (mostS β X)))) := hs_s eh_34
        refine J_dup (pc := 78) dX3_grow_78 rfl ?_
        refine J_iconst (v := nI (4)) (pc := 79) dX3_grow_79 rfl ?_
        refine J_aload_n (i := 0) (pc := 80) dX3_grow_80 rfl rfl ?_
        refine J_iload_n (i := 3) (pc := 81) dX3_grow_81 rfl rfl ?_
        refine J_cVi (st := [.int (nI (4)), .ref (A_1), .ref (A_1)]) (As := [.int (nI (X))]) (pc := 82) dX3_grow_82 okX3_many q3_219 q3_221 qs2_3 (rfl : vwCl[3]? = some _) H_35 rfl (Nat.le_of_ble_eq_true rfl) (Nat.le_of_ble_eq_true rfl) (m_many H_39 (by omega)) ?_
        refine J_iast (j := 4) (pc := 85) dX3_grow_85 H_41 rfl (by omega) (by omega) ?_
        obtain ⟨h_42, eh_42⟩ : ∃ z : MH, z = (h_34.1, hset h_34.2 (A_1) (aI (5) (upd (upd (upd (upd (upd ((fun _ => 0)) (0) (nI (1))) (1) (((-1) / nI (51)))) (2) (((-1) - (-1) / nI (51) * nI (51)))) (3) (nI (mostS β X))) (4) (nI (cnt X))))) := ⟨_, rfl⟩
        refine J_heq (h2 := h_42) eh_42 ?_
        have zh_42 : h_42.1 = h_34.1 := by rw [eh_42]
        have H_43 : h_42.2 (53) = some (oB 3 [.int (th), .int (nI (β.1)), .ref (54), .ref (55), .int (nI (β.2.1)), .int (dq), .int (lq), .int (kk), .ref (56), .ref (57), .ref (58)]) := (hs_n eh_42 (by omega)).trans H_35
        have H_44 : h_42.2 (54) = some (aI (60) (mf)) := (hs_n eh_42 (by omega)).trans H_36
        have H_45 : h_42.2 (55) = some (aI (20) (sf)) := (hs_n eh_42 (by omega)).trans H_37
        have H_46 : EA A h h_42 := by rw [eh_42]; exact EA_st H_38 (by omega) rfl
        have H_47 : MS h_42 β := by rw [eh_42]; exact MS_oth (fun i i1 i2 => hset_n (by omega)) H_39
        have H_48 : h_42.2 (A) = some (aI (320) (f)) := (hs_n eh_42 (by omega)).trans H_40
        have H_49 : h_42.2 (A_1) = some (aI (5) (upd (upd (upd (upd (upd ((fun _ => 0)) (0) (nI (1))) (1) (((-1) / nI (51)))) (2) (((-1) - (-1) / nI (51) * nI (51)))) (3) (nI (mostS β X))) (4) (nI (cnt X)))) := hs_s eh_42
        refine J_astore (i := 8) (lv' := [(8, .ref (A_1)), (7, .int (-1)), (6, .int (nI (mostS β X))), (0, .ref (53)), (1, .ref (A)), (2, .int (nI (s))), (3, .int (nI (X))), (4, .int (nI (m + 1))), (5, .int (nI (le)))]) (pc := 86) dX3_grow_86 (by decide) rfl ?_
        refine J_aload (i := 8) (pc := 88) dX3_grow_88 rfl ?_
        refine J_iconst (v := nI (0)) (pc := 90) dX3_grow_90 rfl ?_
        refine J_aload_n (i := 1) (pc := 91) dX3_grow_91 rfl rfl ?_
        refine J_iconst (v := nI (5)) (pc := 92) dX3_grow_92 rfl ?_
        refine J_iload_n (i := 2) (pc := 93) dX3_grow_93 rfl rfl ?_
        refine J_imulN (pc := 94) dX3_grow_94 ?_
        refine J_iconst (v := nI (5)) (pc := 95) dX3_grow_95 rfl ?_
        refine J_copyI (st := []) (pc := 96) dX3_grow_96 q3_173 H_49 H_48 rfl rfl rfl (by omega) (by omega) (by omega) (by omega) (Nat.le_of_ble_eq_true rfl) ?_
        obtain ⟨h_50, eh_50⟩ : ∃ z : MH, z = (h_42.1, hset h_42.2 (A) (aI (320) (va_cpy (upd (upd (upd (upd (upd ((fun _ => 0)) (0) (nI (1))) (1) (((-1) / nI (51)))) (2) (((-1) - (-1) / nI (51) * nI (51)))) (3) (nI (mostS β X))) (4) (nI (cnt X))) f (0) ((5) * (s)) (5)))) := ⟨_, rfl⟩
        refine J_heq (h2 := h_50) eh_50 ?_
        have zh_50 : h_50.1 = h_42.1 := by rw [eh_50]
        have H_51 : h_50.2 (53) = some (oB 3 [.int (th), .int (nI (β.1)), .ref (54), .ref (55), .int (nI (β.2.1)), .int (dq), .int (lq), .int (kk), .ref (56), .ref (57), .ref (58)]) := (hs_n eh_50 (by omega)).trans H_43
        have H_52 : h_50.2 (54) = some (aI (60) (mf)) := (hs_n eh_50 (by omega)).trans H_44
        have H_53 : h_50.2 (55) = some (aI (20) (sf)) := (hs_n eh_50 (by omega)).trans H_45
        have H_54 : EA A h h_50 := by rw [eh_50]; exact EA_st H_46 (by omega) rfl
        have H_55 : MS h_50 β := by rw [eh_50]; exact MS_oth (fun i i1 i2 => hset_n (by omega)) H_47
        have H_56 : h_50.2 (A) = some (aI (320) (va_cpy (upd (upd (upd (upd (upd ((fun _ => 0)) (0) (nI (1))) (1) (((-1) / nI (51)))) (2) (((-1) - (-1) / nI (51) * nI (51)))) (3) (nI (mostS β X))) (4) (nI (cnt X))) f (0) ((5) * (s)) (5))) := hs_s eh_50
        have H_57 : h_50.2 (A_1) = some (aI (5) (upd (upd (upd (upd (upd ((fun _ => 0)) (0) (nI (1))) (1) (((-1) / nI (51)))) (2) (((-1) - (-1) / nI (51) * nI (51)))) (3) (nI (mostS β X))) (4) (nI (cnt X)))) := (hs_n eh_50 (by omega)).trans H_49
        refine J_iload (i := 7) (pc := 99) dX3_grow_99 rfl ?_
        refine J_iconst (v := (-1)) (pc := 101) dX3_grow_101 rfl ?_
        refine J_icmp_ne (tgt := 106) (pc := 102) dX3_grow_102 (by decide) (fun c102 => absurd c102 (fun q => q rfl)) (fun c102 => ?_)
        refine J_vret (pc := 105) dX3_grow_105 rfl ?_
        refine ⟨rfl, H_54, _, H_56, ?_, ?_⟩
        · rw [gr_n ce]
          refine ⟨?_, ?_, ?_⟩
          · rw [pk_cpy_in (by omega) (by omega), show 0 + (5 * s - 5 * s) = 0 by omega]; rfl
          · rw [pk_cpy_in (by omega) (by omega), show 0 + (5 * s + 3 - 5 * s) = 3 by omega]; rfl
          · rw [pk_cpy_in (by omega) (by omega), show 0 + (5 * s + 4 - 5 * s) = 4 by omega]; rfl
        · intro q e hq he
          have hqs : q ≠ s := fun z => hq (Or.inl z)
          exact pk_cpy_out (by omega)
      · cases ce : bestS β X le with
        | none =>
          refine J_aload_n (i := 0) (pc := 0) dX3_grow_0 rfl rfl ?_
          refine J_iload_n (i := 3) (pc := 1) dX3_grow_1 rfl rfl ?_
          refine J_cVi (st := []) (As := [.int (nI (X))]) (pc := 2) dX3_grow_2 okX3_sortOf q3_211 q3_213 qs2_1 (rfl : vwCl[3]? = some _) m53 rfl (Nat.le_of_ble_eq_true rfl) (Nat.le_of_ble_eq_true rfl) (m_sortOf hM (by omega)) ?_
          refine J_istore (i := 6) (lv' := [(6, .int (nI (mostS β X))), (0, .ref (53)), (1, .ref (A)), (2, .int (nI (s))), (3, .int (nI (X))), (4, .int (nI (m + 1))), (5, .int (nI (le)))]) (pc := 5) dX3_grow_5 (by decide) rfl ?_
          refine J_iload (i := 4) (pc := 7) dX3_grow_7 rfl ?_
          refine J_if_eqN (tgt := 27) (pc := 9) dX3_grow_9 (by decide) (by omega) (fun c9 => by exfalso; first | omega | simp_all) (fun c9 => ?_)
          refine J_aload_n (i := 0) (pc := 12) dX3_grow_12 rfl rfl ?_
          refine J_iload_n (i := 3) (pc := 13) dX3_grow_13 rfl rfl ?_
          refine J_iload (i := 6) (pc := 14) dX3_grow_14 rfl ?_
          refine J_cVi (st := []) (As := [.int (nI (X)), .int (nI (mostS β X))]) (pc := 16) dX3_grow_16 okX3_ofSort q3_215 q3_217 qs2_2 (rfl : vwCl[3]? = some _) m53 rfl (Nat.le_of_ble_eq_true rfl) (Nat.le_of_ble_eq_true rfl) (m_ofSort hM (by omega) (by omega)) ?_
          refine J_aload_n (i := 0) (pc := 19) dX3_grow_19 rfl rfl ?_
          refine J_iload_n (i := 3) (pc := 20) dX3_grow_20 rfl rfl ?_
          refine J_cVi (st := [.int (nI (ofS β X (mostS β X)))]) (As := [.int (nI (X))]) (pc := 21) dX3_grow_21 okX3_many q3_219 q3_221 qs2_3 (rfl : vwCl[3]? = some _) m53 rfl (Nat.le_of_ble_eq_true rfl) (Nat.le_of_ble_eq_true rfl) (m_many hM (by omega)) ?_
          refine J_icmp_neN (tgt := 31) (pc := 24) dX3_grow_24 (by decide) (by omega) (by omega) (fun c24 => ?_) (fun c24 => by exfalso; first | omega | simp_all)
          refine J_aload_n (i := 0) (pc := 31) dX3_grow_31 rfl rfl ?_
          refine J_iload_n (i := 3) (pc := 32) dX3_grow_32 rfl rfl ?_
          refine J_iload (i := 5) (pc := 33) dX3_grow_33 rfl ?_
          refine J_cVB (st := []) (As := [.int (nI (X)), .int (nI (le))]) (v := some (.int (-1))) (ca1 := 1 + 3 * (cnt X - 1)) (sa1 := 2 + 2 * (3 * (cnt X - 1))) (ca2 := 1) (sa2 := 5) (pc := 35) dX3_grow_35 okX3_bestOf q3_223 q3_225 qs2_4 (rfl : vwCl[3]? = some _) m53 rfl (Nat.le_of_ble_eq_true rfl) (Nat.le_of_ble_eq_true rfl) ((by have r := m_bestOf (g := g) (d := dd + d + 1) hM (by omega) hX he he2; rw [ce] at r; exact r)) (by omega) (by omega) (fun h_1 q_2 => ?_)
          have H_3 : h_1.2 (53) = some (oB 3 [.int (th), .int (nI (β.1)), .ref (54), .ref (55), .int (nI (β.2.1)), .int (dq), .int (lq), .int (kk), .ref (56), .ref (57), .ref (58)]) := (q_2.2 _ (by omega)).trans m53
          have H_4 : h_1.2 (54) = some (aI (60) (mf)) := (q_2.2 _ (by omega)).trans m54
          have H_5 : h_1.2 (55) = some (aI (20) (sf)) := (q_2.2 _ (by omega)).trans m55
          have H_6 : EA A h h_1 := EA_tr EA_rfl (EA_ext q_2)
          have H_7 : MS h_1 β := MS_ext q_2 (by omega) hM
          have H_8 : h_1.2 (A) = some (aI (320) (f)) := (q_2.2 _ (by omega)).trans hA
          have zh_1 := q_2.1
          refine J_istore (i := 7) (lv' := [(7, .int (-1)), (6, .int (nI (mostS β X))), (0, .ref (53)), (1, .ref (A)), (2, .int (nI (s))), (3, .int (nI (X))), (4, .int (nI (m + 1))), (5, .int (nI (le)))]) (pc := 38) dX3_grow_38 (by decide) rfl ?_
          refine J_iconst (v := nI (5)) (pc := 40) dX3_grow_40 rfl ?_
          obtain ⟨A_9, eA_9⟩ : ∃ z : Nat, z = h_1.1 := ⟨_, rfl⟩
          obtain ⟨h_10, eh_10⟩ : ∃ z : MH, z = (A_9 + 1, hset h_1.2 A_9 (aI (5) (fun _ => 0))) := ⟨_, rfl⟩
          refine J_newIA (A := A_9) (h' := h_10) (n := 5) (ca' := 0) (sa' := 0) (pc := 41) dX3_grow_41 rfl (by decide) (by omega) (by omega) eA_9 eh_10 ?_
          have zh_10 : h_10.1 = A_9 + 1 := by rw [eh_10]
          have H_11 : h_10.2 (53) = some (oB 3 [.int (th), .int (nI (β.1)), .ref (54), .ref (55), .int (nI (β.2.1)), .int (dq), .int (lq), .int (kk), .ref (56), .ref (57), .ref (58)]) := (ha_n eh_10 (by omega)).trans H_3
          have H_12 : h_10.2 (54) = some (aI (60) (mf)) := (ha_n eh_10 (by omega)).trans H_4
          have H_13 : h_10.2 (55) = some (aI (20) (sf)) := (ha_n eh_10 (by omega)).trans H_5
          have H_14 : EA A h h_10 := EA_new H_6 eA_9 eh_10
          have H_15 : MS h_10 β := MS_oth (fun i i1 i2 => ha_n eh_10 (by omega)) H_7
          have H_16 : h_10.2 (A) = some (aI (320) (f)) := (ha_n eh_10 (by omega)).trans H_8
          have H_17 : h_10.2 (A_9) = some (aI (5) (fun _ => 0)) := ha_s eh_10
          refine J_dup (pc := 43) dX3_grow_43 rfl ?_
          refine J_iconst (v := nI (0)) (pc := 44) dX3_grow_44 rfl ?_
          refine J_iload (i := 7) (pc := 45) dX3_grow_45 rfl ?_
          refine J_iconst (v := (-1)) (pc := 47) dX3_grow_47 rfl ?_
          refine J_icmp_ne (tgt := 55) (pc := 48) dX3_grow_48 (by decide) (fun c48 => absurd c48 (fun q => q rfl)) (fun c48 => ?_)
          refine J_iconst (v := nI (1)) (pc := 51) dX3_grow_51 rfl ?_
          refine J_goto (tgt := 56) (pc := 52) dX3_grow_52 (by decide) ?_
          refine J_iast (j := 0) (pc := 56) dX3_grow_56 H_17 rfl (by omega) (by omega) ?_
          obtain ⟨h_18, eh_18⟩ : ∃ z : MH, z = (h_10.1, hset h_10.2 (A_9) (aI (5) (upd ((fun _ => 0)) (0) (nI (1))))) := ⟨_, rfl⟩
          refine J_heq (h2 := h_18) eh_18 ?_
          have zh_18 : h_18.1 = h_10.1 := by rw [eh_18]
          have H_19 : h_18.2 (53) = some (oB 3 [.int (th), .int (nI (β.1)), .ref (54), .ref (55), .int (nI (β.2.1)), .int (dq), .int (lq), .int (kk), .ref (56), .ref (57), .ref (58)]) := (hs_n eh_18 (by omega)).trans H_11
          have H_20 : h_18.2 (54) = some (aI (60) (mf)) := (hs_n eh_18 (by omega)).trans H_12
          have H_21 : h_18.2 (55) = some (aI (20) (sf)) := (hs_n eh_18 (by omega)).trans H_13
          have H_22 : EA A h h_18 := by rw [eh_18]; exact EA_st H_14 (by omega) rfl
          have H_23 : MS h_18 β := by rw [eh_18]; exact MS_oth (fun i i1 i2 => hset_n (by omega)) H_15
          have H_24 : h_18.2 (A) = some (aI (320) (f)) := (hs_n eh_18 (by omega)).trans H_16
          have H_25 : h_18.2 (A_9) = some (aI (5) (upd ((fun _ => 0)) (0) (nI (1)))) := hs_s eh_18
          refine J_dup (pc := 57) dX3_grow_57 rfl ?_
          refine J_iconst (v := nI (1)) (pc := 58) dX3_grow_58 rfl ?_
          refine J_iload (i := 7) (pc := 59) dX3_grow_59 rfl ?_
          refine J_bipush (v := nI (51)) (pc := 61) dX3_grow_61 rfl ?_
          refine J_idiv (pc := 63) dX3_grow_63 (by decide) ?_
          refine J_iast (j := 1) (pc := 64) dX3_grow_64 H_25 rfl (by omega) (by omega) ?_
          obtain ⟨h_26, eh_26⟩ : ∃ z : MH, z = (h_18.1, hset h_18.2 (A_9) (aI (5) (upd (upd ((fun _ => 0)) (0) (nI (1))) (1) (((-1) / nI (51)))))) := ⟨_, rfl⟩
          refine J_heq (h2 := h_26) eh_26 ?_
          have zh_26 : h_26.1 = h_18.1 := by rw [eh_26]
          have H_27 : h_26.2 (53) = some (oB 3 [.int (th), .int (nI (β.1)), .ref (54), .ref (55), .int (nI (β.2.1)), .int (dq), .int (lq), .int (kk), .ref (56), .ref (57), .ref (58)]) := (hs_n eh_26 (by omega)).trans H_19
          have H_28 : h_26.2 (54) = some (aI (60) (mf)) := (hs_n eh_26 (by omega)).trans H_20
          have H_29 : h_26.2 (55) = some (aI (20) (sf)) := (hs_n eh_26 (by omega)).trans H_21
          have H_30 : EA A h h_26 := by rw [eh_26]; exact EA_st H_22 (by omega) rfl
          have H_31 : MS h_26 β := by rw [eh_26]; exact MS_oth (fun i i1 i2 => hset_n (by omega)) H_23
          have H_32 : h_26.2 (A) = some (aI (320) (f)) := (hs_n eh_26 (by omega)).trans H_24
          have H_33 : h_26.2 (A_9) = some (aI (5) (upd (upd ((fun _ => 0)) (0) (nI (1))) (1) (((-1) / nI (51))))) := hs_s eh_26
          refine J_dup (pc := 65) dX3_grow_65 rfl ?_
          refine J_iconst (v := nI (2)) (pc := 66) dX3_grow_66 rfl ?_
          refine J_iload (i := 7) (pc := 67) dX3_grow_67 rfl ?_
          refine J_bipush (v := nI (51)) (pc := 69) dX3_grow_69 rfl ?_
          refine J_irem (pc := 71) dX3_grow_71 (by decide) ?_
          refine J_iast (j := 2) (pc := 72) dX3_grow_72 H_33 rfl (by omega) (by omega) ?_
          obtain ⟨h_34, eh_34⟩ : ∃ z : MH, z = (h_26.1, hset h_26.2 (A_9) (aI (5) (upd (upd (upd ((fun _ => 0)) (0) (nI (1))) (1) (((-1) / nI (51)))) (2) (((-1) - (-1) / nI (51) * nI (51)))))) := ⟨_, rfl⟩
          refine J_heq (h2 := h_34) eh_34 ?_
          have zh_34 : h_34.1 = h_26.1 := by rw [eh_34]
          have H_35 : h_34.2 (53) = some (oB 3 [.int (th), .int (nI (β.1)), .ref (54), .ref (55), .int (nI (β.2.1)), .int (dq), .int (lq), .int (kk), .ref (56), .ref (57), .ref (58)]) := (hs_n eh_34 (by omega)).trans H_27
          have H_36 : h_34.2 (54) = some (aI (60) (mf)) := (hs_n eh_34 (by omega)).trans H_28
          have H_37 : h_34.2 (55) = some (aI (20) (sf)) := (hs_n eh_34 (by omega)).trans H_29
          have H_38 : EA A h h_34 := by rw [eh_34]; exact EA_st H_30 (by omega) rfl
          have H_39 : MS h_34 β := by rw [eh_34]; exact MS_oth (fun i i1 i2 => hset_n (by omega)) H_31
          have H_40 : h_34.2 (A) = some (aI (320) (f)) := (hs_n eh_34 (by omega)).trans H_32
          have H_41 : h_34.2 (A_9) = some (aI (5) (upd (upd (upd ((fun _ => 0)) (0) (nI (1))) (1) (((-1) / nI (51)))) (2) (((-1) - (-1) / nI (51) * nI (51))))) := hs_s eh_34
          refine J_dup (pc := 73) dX3_grow_73 rfl ?_
          refine J_iconst (v := nI (3)) (pc := 74) dX3_grow_74 rfl ?_
          refine J_iload (i := 6) (pc := 75) dX3_grow_75 rfl ?_
          refine J_iast (j := 3) (pc := 77) dX3_grow_77 H_41 rfl (by omega) (by omega) ?_
          obtain ⟨h_42, eh_42⟩ : ∃ z : MH, z = (h_34.1, hset h_34.2 (A_9) (aI (5) (upd (upd (upd (upd ((fun _ => 0)) (0) (nI (1))) (1) (((-1) / nI (51)))) (2) (((-1) - (-1) / nI (51) * nI (51)))) (3) (nI (mostS β X))))) := ⟨_, rfl⟩
          refine J_heq (h2 := h_42) eh_42 ?_
          have zh_42 : h_42.1 = h_34.1 := by rw [eh_42]
          have H_43 : h_42.2 (53) = some (oB 3 [.int (th), .int (nI (β.1)), .ref (54), .ref (55), .int (nI (β.2.1)), .int (dq), .int (lq), .int (kk), .ref (56), .ref (57), .ref (58)]) := (hs_n eh_42 (by omega)).trans H_35
          have H_44 : h_42.2 (54) = some (aI (60) (mf)) := (hs_n eh_42 (by omega)).trans H_36
          have H_45 : h_42.2 (55) = some (aI (20) (sf)) := (hs_n eh_42 (by omega)).trans H_37
          have H_46 : EA A h h_42 := by rw [eh_42]; exact EA_st H_38 (by omega) rfl
          have H_47 : MS h_42 β := by rw [eh_42]; exact MS_oth (fun i i1 i2 => hset_n (by omega)) H_39
          have H_48 : h_42.2 (A) = some (aI (320) (f)) := (hs_n eh_42 (by omega)).trans H_40
          have H_49 : h_42.2 (A_9) = some (aI (5) (upd (upd (upd (upd ((fun _ => 0)) (0) (nI (1))) (1) (((-1) / nI (51)))) (2) (((-1) - (-1) / nI (51) * nI (51)))) (3) (nI (mostS β X)))) := hs_s eh_42
          refine J_dup (pc := 78) dX3_grow_78 rfl ?_
          refine J_iconst (v := nI (4)) (pc := 79) dX3_grow_79 rfl ?_
          refine J_aload_n (i := 0) (pc := 80) dX3_grow_80 rfl rfl ?_
          refine J_iload_n (i := 3) (pc := 81) dX3_grow_81 rfl rfl ?_
          refine J_cVi (st := [.int (nI (4)), .ref (A_9), .ref (A_9)]) (As := [.int (nI (X))]) (pc := 82) dX3_grow_82 okX3_many q3_219 q3_221 qs2_3 (rfl : vwCl[3]? = some _) H_43 rfl (Nat.le_of_ble_eq_true rfl) (Nat.le_of_ble_eq_true rfl) (m_many H_47 (by omega)) ?_
          refine J_iast (j := 4) (pc := 85) dX3_grow_85 H_49 rfl (by omega) (by omega) ?_
          obtain ⟨h_50, eh_50⟩ : ∃ z : MH, z = (h_42.1, hset h_42.2 (A_9) (aI (5) (upd (upd (upd (upd (upd ((fun _ => 0)) (0) (nI (1))) (1) (((-1) / nI (51)))) (2) (((-1) - (-1) / nI (51) * nI (51)))) (3) (nI (mostS β X))) (4) (nI (cnt X))))) := ⟨_, rfl⟩
          refine J_heq (h2 := h_50) eh_50 ?_
          have zh_50 : h_50.1 = h_42.1 := by rw [eh_50]
          have H_51 : h_50.2 (53) = some (oB 3 [.int (th), .int (nI (β.1)), .ref (54), .ref (55), .int (nI (β.2.1)), .int (dq), .int (lq), .int (kk), .ref (56), .ref (57), .ref (58)]) := (hs_n eh_50 (by omega)).trans H_43
          have H_52 : h_50.2 (54) = some (aI (60) (mf)) := (hs_n eh_50 (by omega)).trans H_44
          have H_53 : h_50.2 (55) = some (aI (20) (sf)) := (hs_n eh_50 (by omega)).trans H_45
          have H_54 : EA A h h_50 := by rw [eh_50]; exact EA_st H_46 (by omega) rfl
          have H_55 : MS h_50 β := by rw [eh_50]; exact MS_oth (fun i i1 i2 => hset_n (by omega)) H_47
          have H_56 : h_50.2 (A) = some (aI (320) (f)) := (hs_n eh_50 (by omega)).trans H_48
          have H_57 : h_50.2 (A_9) = some (aI (5) (upd (upd (upd (upd (upd ((fun _ => 0)) (0) (nI (1))) (1) (((-1) / nI (51)))) (2) (((-1) - (-1) / nI (51) * nI (51)))) (3) (nI (mostS β X))) (4) (nI (cnt X)))) := hs_s eh_50
          refine J_astore (i := 8) (lv' := [(8, .ref (A_9)), (7, .int (-1)), (6, .int (nI (mostS β X))), (0, .ref (53)), (1, .ref (A)), (2, .int (nI (s))), (3, .int (nI (X))), (4, .int (nI (m + 1))), (5, .int (nI (le)))]) (pc := 86) dX3_grow_86 (by decide) rfl ?_
          refine J_aload (i := 8) (pc := 88) dX3_grow_88 rfl ?_
          refine J_iconst (v := nI (0)) (pc := 90) dX3_grow_90 rfl ?_
          refine J_aload_n (i := 1) (pc := 91) dX3_grow_91 rfl rfl ?_
          refine J_iconst (v := nI (5)) (pc := 92) dX3_grow_92 rfl ?_
          refine J_iload_n (i := 2) (pc := 93) dX3_grow_93 rfl rfl ?_
          refine J_imulN (pc := 94) dX3_grow_94 ?_
          refine J_iconst (v := nI (5)) (pc := 95) dX3_grow_95 rfl ?_
          refine J_copyI (st := []) (pc := 96) dX3_grow_96 q3_173 H_57 H_56 rfl rfl rfl (by omega) (by omega) (by omega) (by omega) (Nat.le_of_ble_eq_true rfl) ?_
          obtain ⟨h_58, eh_58⟩ : ∃ z : MH, z = (h_50.1, hset h_50.2 (A) (aI (320) (va_cpy (upd (upd (upd (upd (upd ((fun _ => 0)) (0) (nI (1))) (1) (((-1) / nI (51)))) (2) (((-1) - (-1) / nI (51) * nI (51)))) (3) (nI (mostS β X))) (4) (nI (cnt X))) f (0) ((5) * (s)) (5)))) := ⟨_, rfl⟩
          refine J_heq (h2 := h_58) eh_58 ?_
          have zh_58 : h_58.1 = h_50.1 := by rw [eh_58]
          have H_59 : h_58.2 (53) = some (oB 3 [.int (th), .int (nI (β.1)), .ref (54), .ref (55), .int (nI (β.2.1)), .int (dq), .int (lq), .int (kk), .ref (56), .ref (57), .ref (58)]) := (hs_n eh_58 (by omega)).trans H_51
          have H_60 : h_58.2 (54) = some (aI (60) (mf)) := (hs_n eh_58 (by omega)).trans H_52
          have H_61 : h_58.2 (55) = some (aI (20) (sf)) := (hs_n eh_58 (by omega)).trans H_53
          have H_62 : EA A h h_58 := by rw [eh_58]; exact EA_st H_54 (by omega) rfl
          have H_63 : MS h_58 β := by rw [eh_58]; exact MS_oth (fun i i1 i2 => hset_n (by omega)) H_55
          have H_64 : h_58.2 (A) = some (aI (320) (va_cpy (upd (upd (upd (upd (upd ((fun _ => 0)) (0) (nI (1))) (1) (((-1) / nI (51)))) (2) (((-1) - (-1) / nI (51) * nI (51)))) (3) (nI (mostS β X))) (4) (nI (cnt X))) f (0) ((5) * (s)) (5))) := hs_s eh_58
          have H_65 : h_58.2 (A_9) = some (aI (5) (upd (upd (upd (upd (upd ((fun _ => 0)) (0) (nI (1))) (1) (((-1) / nI (51)))) (2) (((-1) - (-1) / nI (51) * nI (51)))) (3) (nI (mostS β X))) (4) (nI (cnt X)))) := (hs_n eh_58 (by omega)).trans H_57
          refine J_iload (i := 7) (pc := 99) dX3_grow_99 rfl ?_
          refine J_iconst (v := (-1)) (pc := 101) dX3_grow_101 rfl ?_
          refine J_icmp_ne (tgt := 106) (pc := 102) dX3_grow_102 (by decide) (fun c102 => absurd c102 (fun q => q rfl)) (fun c102 => ?_)
          refine J_vret (pc := 105) dX3_grow_105 rfl ?_
          refine ⟨rfl, H_62, _, H_64, ?_, ?_⟩
          · rw [gr_n ce]
            refine ⟨?_, ?_, ?_⟩
            · rw [pk_cpy_in (by omega) (by omega), show 0 + (5 * s - 5 * s) = 0 by omega]; rfl
            · rw [pk_cpy_in (by omega) (by omega), show 0 + (5 * s + 3 - 5 * s) = 3 by omega]; rfl
            · rw [pk_cpy_in (by omega) (by omega), show 0 + (5 * s + 4 - 5 * s) = 4 by omega]; rfl
          · intro q e hq he
            have hqs : q ≠ s := fun z => hq (Or.inl z)
            exact pk_cpy_out (by omega)
        | some c =>
        have hP := best_P ce
        have hc153 := hP.1
        have hP2 := hP.2.2.1
        have hP3 := hP.2.2.2.1
        have hcs := cnt_two β X c
        obtain ⟨n1, en1⟩ : ∃ z, z = cnt (X &&& mkC β c) := ⟨_, rfl⟩
        obtain ⟨n2, en2⟩ : ∃ z, z = cnt (sdf X (X &&& mkC β c)) := ⟨_, rfl⟩
        rw [← en1] at hcs hP2
        rw [← en2] at hcs hP3
        have hmul2 : cnt X * m = n1 * m + n2 * m := by rw [hcs, Nat.add_mul]
        refine J_aload_n (i := 0) (pc := 0) dX3_grow_0 rfl rfl ?_
        refine J_iload_n (i := 3) (pc := 1) dX3_grow_1 rfl rfl ?_
        refine J_cVi (st := []) (As := [.int (nI (X))]) (pc := 2) dX3_grow_2 okX3_sortOf q3_211 q3_213 qs2_1 (rfl : vwCl[3]? = some _) m53 rfl (Nat.le_of_ble_eq_true rfl) (Nat.le_of_ble_eq_true rfl) (m_sortOf hM (by omega)) ?_
        refine J_istore (i := 6) (lv' := [(6, .int (nI (mostS β X))), (0, .ref (53)), (1, .ref (A)), (2, .int (nI (s))), (3, .int (nI (X))), (4, .int (nI (m + 1))), (5, .int (nI (le)))]) (pc := 5) dX3_grow_5 (by decide) rfl ?_
        refine J_iload (i := 4) (pc := 7) dX3_grow_7 rfl ?_
        refine J_if_eqN (tgt := 27) (pc := 9) dX3_grow_9 (by decide) (by omega) (fun c9 => by exfalso; first | omega | simp_all) (fun c9 => ?_)
        refine J_aload_n (i := 0) (pc := 12) dX3_grow_12 rfl rfl ?_
        refine J_iload_n (i := 3) (pc := 13) dX3_grow_13 rfl rfl ?_
        refine J_iload (i := 6) (pc := 14) dX3_grow_14 rfl ?_
        refine J_cVi (st := []) (As := [.int (nI (X)), .int (nI (mostS β X))]) (pc := 16) dX3_grow_16 okX3_ofSort q3_215 q3_217 qs2_2 (rfl : vwCl[3]? = some _) m53 rfl (Nat.le_of_ble_eq_true rfl) (Nat.le_of_ble_eq_true rfl) (m_ofSort hM (by omega) (by omega)) ?_
        refine J_aload_n (i := 0) (pc := 19) dX3_grow_19 rfl rfl ?_
        refine J_iload_n (i := 3) (pc := 20) dX3_grow_20 rfl rfl ?_
        refine J_cVi (st := [.int (nI (ofS β X (mostS β X)))]) (As := [.int (nI (X))]) (pc := 21) dX3_grow_21 okX3_many q3_219 q3_221 qs2_3 (rfl : vwCl[3]? = some _) m53 rfl (Nat.le_of_ble_eq_true rfl) (Nat.le_of_ble_eq_true rfl) (m_many hM (by omega)) ?_
        refine J_icmp_neN (tgt := 31) (pc := 24) dX3_grow_24 (by decide) (by omega) (by omega) (fun c24 => ?_) (fun c24 => by exfalso; first | omega | simp_all)
        refine J_aload_n (i := 0) (pc := 31) dX3_grow_31 rfl rfl ?_
        refine J_iload_n (i := 3) (pc := 32) dX3_grow_32 rfl rfl ?_
        refine J_iload (i := 5) (pc := 33) dX3_grow_33 rfl ?_
        refine J_cVB (st := []) (As := [.int (nI (X)), .int (nI (le))]) (v := some (.int (nI (c)))) (ca1 := 1 + 3 * (cnt X - 1)) (sa1 := 2 + 2 * (3 * (cnt X - 1))) (ca2 := 1 + (3 * (n1 * m) + n1) + (3 * (n2 * m) + n2)) (sa2 := 5 + (11 * (n1 * m) + 5 * n1) + (11 * (n2 * m) + 5 * n2)) (pc := 35) dX3_grow_35 okX3_bestOf q3_223 q3_225 qs2_4 (rfl : vwCl[3]? = some _) m53 rfl (Nat.le_of_ble_eq_true rfl) (Nat.le_of_ble_eq_true rfl) ((by have r := m_bestOf (g := g) (d := dd + d + 1) hM (by omega) hX he he2; rw [ce] at r; exact r)) (by omega) (by omega) (fun h_1 q_2 => ?_)
        have H_3 : h_1.2 (53) = some (oB 3 [.int (th), .int (nI (β.1)), .ref (54), .ref (55), .int (nI (β.2.1)), .int (dq), .int (lq), .int (kk), .ref (56), .ref (57), .ref (58)]) := (q_2.2 _ (by omega)).trans m53
        have H_4 : h_1.2 (54) = some (aI (60) (mf)) := (q_2.2 _ (by omega)).trans m54
        have H_5 : h_1.2 (55) = some (aI (20) (sf)) := (q_2.2 _ (by omega)).trans m55
        have H_6 : EA A h h_1 := EA_tr EA_rfl (EA_ext q_2)
        have H_7 : MS h_1 β := MS_ext q_2 (by omega) hM
        have H_8 : h_1.2 (A) = some (aI (320) (f)) := (q_2.2 _ (by omega)).trans hA
        have zh_1 := q_2.1
        refine J_istore (i := 7) (lv' := [(7, .int (nI (c))), (6, .int (nI (mostS β X))), (0, .ref (53)), (1, .ref (A)), (2, .int (nI (s))), (3, .int (nI (X))), (4, .int (nI (m + 1))), (5, .int (nI (le)))]) (pc := 38) dX3_grow_38 (by decide) rfl ?_
        refine J_iconst (v := nI (5)) (pc := 40) dX3_grow_40 rfl ?_
        obtain ⟨A_9, eA_9⟩ : ∃ z : Nat, z = h_1.1 := ⟨_, rfl⟩
        obtain ⟨h_10, eh_10⟩ : ∃ z : MH, z = (A_9 + 1, hset h_1.2 A_9 (aI (5) (fun _ => 0))) := ⟨_, rfl⟩
        refine J_newIA (A := A_9) (h' := h_10) (n := 5) (ca' := (3 * (n1 * m) + n1) + (3 * (n2 * m) + n2)) (sa' := (11 * (n1 * m) + 5 * n1) + (11 * (n2 * m) + 5 * n2)) (pc := 41) dX3_grow_41 rfl (by decide) (by omega) (by omega) eA_9 eh_10 ?_
        have zh_10 : h_10.1 = A_9 + 1 := by rw [eh_10]
        have H_11 : h_10.2 (53) = some (oB 3 [.int (th), .int (nI (β.1)), .ref (54), .ref (55), .int (nI (β.2.1)), .int (dq), .int (lq), .int (kk), .ref (56), .ref (57), .ref (58)]) := (ha_n eh_10 (by omega)).trans H_3
        have H_12 : h_10.2 (54) = some (aI (60) (mf)) := (ha_n eh_10 (by omega)).trans H_4
        have H_13 : h_10.2 (55) = some (aI (20) (sf)) := (ha_n eh_10 (by omega)).trans H_5
        have H_14 : EA A h h_10 := EA_new H_6 eA_9 eh_10
        have H_15 : MS h_10 β := MS_oth (fun i i1 i2 => ha_n eh_10 (by omega)) H_7
        have H_16 : h_10.2 (A) = some (aI (320) (f)) := (ha_n eh_10 (by omega)).trans H_8
        have H_17 : h_10.2 (A_9) = some (aI (5) (fun _ => 0)) := ha_s eh_10
        refine J_dup (pc := 43) dX3_grow_43 rfl ?_
        refine J_iconst (v := nI (0)) (pc := 44) dX3_grow_44 rfl ?_
        refine J_iload (i := 7) (pc := 45) dX3_grow_45 rfl ?_
        refine J_iconst (v := (-1)) (pc := 47) dX3_grow_47 rfl ?_
        refine J_icmp_ne (tgt := 55) (pc := 48) dX3_grow_48 (by decide) (fun c48 => ?_) (fun c48 => absurd c48 (nI_nem1 (by omega)))
        refine J_iconst (v := nI (2)) (pc := 55) dX3_grow_55 rfl ?_
        refine J_iast (j := 0) (pc := 56) dX3_grow_56 H_17 rfl (by omega) (by omega) ?_
        obtain ⟨h_18, eh_18⟩ : ∃ z : MH, z = (h_10.1, hset h_10.2 (A_9) (aI (5) (upd ((fun _ => 0)) (0) (nI (2))))) := ⟨_, rfl⟩
        refine J_heq (h2 := h_18) eh_18 ?_
        have zh_18 : h_18.1 = h_10.1 := by rw [eh_18]
        have H_19 : h_18.2 (53) = some (oB 3 [.int (th), .int (nI (β.1)), .ref (54), .ref (55), .int (nI (β.2.1)), .int (dq), .int (lq), .int (kk), .ref (56), .ref (57), .ref (58)]) := (hs_n eh_18 (by omega)).trans H_11
        have H_20 : h_18.2 (54) = some (aI (60) (mf)) := (hs_n eh_18 (by omega)).trans H_12
        have H_21 : h_18.2 (55) = some (aI (20) (sf)) := (hs_n eh_18 (by omega)).trans H_13
        have H_22 : EA A h h_18 := by rw [eh_18]; exact EA_st H_14 (by omega) rfl
        have H_23 : MS h_18 β := by rw [eh_18]; exact MS_oth (fun i i1 i2 => hset_n (by omega)) H_15
        have H_24 : h_18.2 (A) = some (aI (320) (f)) := (hs_n eh_18 (by omega)).trans H_16
        have H_25 : h_18.2 (A_9) = some (aI (5) (upd ((fun _ => 0)) (0) (nI (2)))) := hs_s eh_18
        refine J_dup (pc := 57) dX3_grow_57 rfl ?_
        refine J_iconst (v := nI (1)) (pc := 58) dX3_grow_58 rfl ?_
        refine J_iload (i := 7) (pc := 59) dX3_grow_59 rfl ?_
        refine J_bipush (v := nI (51)) (pc := 61) dX3_grow_61 rfl ?_
        refine J_idivN (pc := 63) dX3_grow_63 (by omega) (by omega) (by omega) ?_
        refine J_iast (j := 1) (pc := 64) dX3_grow_64 H_25 rfl (by omega) (by omega) ?_
        obtain ⟨h_26, eh_26⟩ : ∃ z : MH, z = (h_18.1, hset h_18.2 (A_9) (aI (5) (upd (upd ((fun _ => 0)) (0) (nI (2))) (1) (nI ((c) / (51)))))) := ⟨_, rfl⟩
        refine J_heq (h2 := h_26) eh_26 ?_
        have zh_26 : h_26.1 = h_18.1 := by rw [eh_26]
        have H_27 : h_26.2 (53) = some (oB 3 [.int (th), .int (nI (β.1)), .ref (54), .ref (55), .int (nI (β.2.1)), .int (dq), .int (lq), .int (kk), .ref (56), .ref (57), .ref (58)]) := (hs_n eh_26 (by omega)).trans H_19
        have H_28 : h_26.2 (54) = some (aI (60) (mf)) := (hs_n eh_26 (by omega)).trans H_20
        have H_29 : h_26.2 (55) = some (aI (20) (sf)) := (hs_n eh_26 (by omega)).trans H_21
        have H_30 : EA A h h_26 := by rw [eh_26]; exact EA_st H_22 (by omega) rfl
        have H_31 : MS h_26 β := by rw [eh_26]; exact MS_oth (fun i i1 i2 => hset_n (by omega)) H_23
        have H_32 : h_26.2 (A) = some (aI (320) (f)) := (hs_n eh_26 (by omega)).trans H_24
        have H_33 : h_26.2 (A_9) = some (aI (5) (upd (upd ((fun _ => 0)) (0) (nI (2))) (1) (nI ((c) / (51))))) := hs_s eh_26
        refine J_dup (pc := 65) dX3_grow_65 rfl ?_
        refine J_iconst (v := nI (2)) (pc := 66) dX3_grow_66 rfl ?_
        refine J_iload (i := 7) (pc := 67) dX3_grow_67 rfl ?_
        refine J_bipush (v := nI (51)) (pc := 69) dX3_grow_69 rfl ?_
        refine J_iremN (pc := 71) dX3_grow_71 (by omega) (by omega) (by omega) ?_
        refine J_iast (j := 2) (pc := 72) dX3_grow_72 H_33 rfl (by omega) (by omega) ?_
        obtain ⟨h_34, eh_34⟩ : ∃ z : MH, z = (h_26.1, hset h_26.2 (A_9) (aI (5) (upd (upd (upd ((fun _ => 0)) (0) (nI (2))) (1) (nI ((c) / (51)))) (2) (nI ((c) % (51)))))) := ⟨_, rfl⟩
        refine J_heq (h2 := h_34) eh_34 ?_
        have zh_34 : h_34.1 = h_26.1 := by rw [eh_34]
        have H_35 : h_34.2 (53) = some (oB 3 [.int (th), .int (nI (β.1)), .ref (54), .ref (55), .int (nI (β.2.1)), .int (dq), .int (lq), .int (kk), .ref (56), .ref (57), .ref (58)]) := (hs_n eh_34 (by omega)).trans H_27
        have H_36 : h_34.2 (54) = some (aI (60) (mf)) := (hs_n eh_34 (by omega)).trans H_28
        have H_37 : h_34.2 (55) = some (aI (20) (sf)) := (hs_n eh_34 (by omega)).trans H_29
        have H_38 : EA A h h_34 := by rw [eh_34]; exact EA_st H_30 (by omega) rfl
        have H_39 : MS h_34 β := by rw [eh_34]; exact MS_oth (fun i i1 i2 => hset_n (by omega)) H_31
        have H_40 : h_34.2 (A) = some (aI (320) (f)) := (hs_n eh_34 (by omega)).trans H_32
        have H_41 : h_34.2 (A_9) = some (aI (5) (upd (upd (upd ((fun _ => 0)) (0) (nI (2))) (1) (nI ((c) / (51)))) (2) (nI ((c) % (51))))) := hs_s eh_34
        refine J_dup (pc := 73) dX3_grow_73 rfl ?_
        refine J_iconst (v := nI (3)) (pc := 74) dX3_grow_74 rfl ?_
        refine J_iload (i := 6) (pc := 75) dX3_grow_75 rfl ?_
        refine J_iast (j := 3) (pc := 77) dX3_grow_77 H_41 rfl (by omega) (by omega) ?_
        obtain ⟨h_42, eh_42⟩ : ∃ z : MH, z = (h_34.1, hset h_34.2 (A_9) (aI (5) (upd (upd (upd (upd ((fun _ => 0)) (0) (nI (2))) (1) (nI ((c) / (51)))) (2) (nI ((c) % (51)))) (3) (nI (mostS β X))))) := ⟨_, rfl⟩
        refine J_heq (h2 := h_42) eh_42 ?_
        have zh_42 : h_42.1 = h_34.1 := by rw [eh_42]
        have H_43 : h_42.2 (53) = some (oB 3 [.int (th), .int (nI (β.1)), .ref (54), .ref (55), .int (nI (β.2.1)), .int (dq), .int (lq), .int (kk), .ref (56), .ref (57), .ref (58)]) := (hs_n eh_42 (by omega)).trans H_35
        have H_44 : h_42.2 (54) = some (aI (60) (mf)) := (hs_n eh_42 (by omega)).trans H_36
        have H_45 : h_42.2 (55) = some (aI (20) (sf)) := (hs_n eh_42 (by omega)).trans H_37
        have H_46 : EA A h h_42 := by rw [eh_42]; exact EA_st H_38 (by omega) rfl
        have H_47 : MS h_42 β := by rw [eh_42]; exact MS_oth (fun i i1 i2 => hset_n (by omega)) H_39
        have H_48 : h_42.2 (A) = some (aI (320) (f)) := (hs_n eh_42 (by omega)).trans H_40
        have H_49 : h_42.2 (A_9) = some (aI (5) (upd (upd (upd (upd ((fun _ => 0)) (0) (nI (2))) (1) (nI ((c) / (51)))) (2) (nI ((c) % (51)))) (3) (nI (mostS β X)))) := hs_s eh_42
        refine J_dup (pc := 78) dX3_grow_78 rfl ?_
        refine J_iconst (v := nI (4)) (pc := 79) dX3_grow_79 rfl ?_
        refine J_aload_n (i := 0) (pc := 80) dX3_grow_80 rfl rfl ?_
        refine J_iload_n (i := 3) (pc := 81) dX3_grow_81 rfl rfl ?_
        refine J_cVi (st := [.int (nI (4)), .ref (A_9), .ref (A_9)]) (As := [.int (nI (X))]) (pc := 82) dX3_grow_82 okX3_many q3_219 q3_221 qs2_3 (rfl : vwCl[3]? = some _) H_43 rfl (Nat.le_of_ble_eq_true rfl) (Nat.le_of_ble_eq_true rfl) (m_many H_47 (by omega)) ?_
        refine J_iast (j := 4) (pc := 85) dX3_grow_85 H_49 rfl (by omega) (by omega) ?_
        obtain ⟨h_50, eh_50⟩ : ∃ z : MH, z = (h_42.1, hset h_42.2 (A_9) (aI (5) (upd (upd (upd (upd (upd ((fun _ => 0)) (0) (nI (2))) (1) (nI ((c) / (51)))) (2) (nI ((c) % (51)))) (3) (nI (mostS β X))) (4) (nI (cnt X))))) := ⟨_, rfl⟩
        refine J_heq (h2 := h_50) eh_50 ?_
        have zh_50 : h_50.1 = h_42.1 := by rw [eh_50]
        have H_51 : h_50.2 (53) = some (oB 3 [.int (th), .int (nI (β.1)), .ref (54), .ref (55), .int (nI (β.2.1)), .int (dq), .int (lq), .int (kk), .ref (56), .ref (57), .ref (58)]) := (hs_n eh_50 (by omega)).trans H_43
        have H_52 : h_50.2 (54) = some (aI (60) (mf)) := (hs_n eh_50 (by omega)).trans H_44
        have H_53 : h_50.2 (55) = some (aI (20) (sf)) := (hs_n eh_50 (by omega)).trans H_45
        have H_54 : EA A h h_50 := by rw [eh_50]; exact EA_st H_46 (by omega) rfl
        have H_55 : MS h_50 β := by rw [eh_50]; exact MS_oth (fun i i1 i2 => hset_n (by omega)) H_47
        have H_56 : h_50.2 (A) = some (aI (320) (f)) := (hs_n eh_50 (by omega)).trans H_48
        have H_57 : h_50.2 (A_9) = some (aI (5) (upd (upd (upd (upd (upd ((fun _ => 0)) (0) (nI (2))) (1) (nI ((c) / (51)))) (2) (nI ((c) % (51)))) (3) (nI (mostS β X))) (4) (nI (cnt X)))) := hs_s eh_50
        refine J_astore (i := 8) (lv' := [(8, .ref (A_9)), (7, .int (nI (c))), (6, .int (nI (mostS β X))), (0, .ref (53)), (1, .ref (A)), (2, .int (nI (s))), (3, .int (nI (X))), (4, .int (nI (m + 1))), (5, .int (nI (le)))]) (pc := 86) dX3_grow_86 (by decide) rfl ?_
        refine J_aload (i := 8) (pc := 88) dX3_grow_88 rfl ?_
        refine J_iconst (v := nI (0)) (pc := 90) dX3_grow_90 rfl ?_
        refine J_aload_n (i := 1) (pc := 91) dX3_grow_91 rfl rfl ?_
        refine J_iconst (v := nI (5)) (pc := 92) dX3_grow_92 rfl ?_
        refine J_iload_n (i := 2) (pc := 93) dX3_grow_93 rfl rfl ?_
        refine J_imulN (pc := 94) dX3_grow_94 ?_
        refine J_iconst (v := nI (5)) (pc := 95) dX3_grow_95 rfl ?_
        refine J_copyI (st := []) (pc := 96) dX3_grow_96 q3_173 H_57 H_56 rfl rfl rfl (by omega) (by omega) (by omega) (by omega) (Nat.le_of_ble_eq_true rfl) ?_
        obtain ⟨h_58, eh_58⟩ : ∃ z : MH, z = (h_50.1, hset h_50.2 (A) (aI (320) (va_cpy (upd (upd (upd (upd (upd ((fun _ => 0)) (0) (nI (2))) (1) (nI ((c) / (51)))) (2) (nI ((c) % (51)))) (3) (nI (mostS β X))) (4) (nI (cnt X))) f (0) ((5) * (s)) (5)))) := ⟨_, rfl⟩
        refine J_heq (h2 := h_58) eh_58 ?_
        have zh_58 : h_58.1 = h_50.1 := by rw [eh_58]
        have H_59 : h_58.2 (53) = some (oB 3 [.int (th), .int (nI (β.1)), .ref (54), .ref (55), .int (nI (β.2.1)), .int (dq), .int (lq), .int (kk), .ref (56), .ref (57), .ref (58)]) := (hs_n eh_58 (by omega)).trans H_51
        have H_60 : h_58.2 (54) = some (aI (60) (mf)) := (hs_n eh_58 (by omega)).trans H_52
        have H_61 : h_58.2 (55) = some (aI (20) (sf)) := (hs_n eh_58 (by omega)).trans H_53
        have H_62 : EA A h h_58 := by rw [eh_58]; exact EA_st H_54 (by omega) rfl
        have H_63 : MS h_58 β := by rw [eh_58]; exact MS_oth (fun i i1 i2 => hset_n (by omega)) H_55
        have H_64 : h_58.2 (A) = some (aI (320) (va_cpy (upd (upd (upd (upd (upd ((fun _ => 0)) (0) (nI (2))) (1) (nI ((c) / (51)))) (2) (nI ((c) % (51)))) (3) (nI (mostS β X))) (4) (nI (cnt X))) f (0) ((5) * (s)) (5))) := hs_s eh_58
        have H_65 : h_58.2 (A_9) = some (aI (5) (upd (upd (upd (upd (upd ((fun _ => 0)) (0) (nI (2))) (1) (nI ((c) / (51)))) (2) (nI ((c) % (51)))) (3) (nI (mostS β X))) (4) (nI (cnt X)))) := (hs_n eh_58 (by omega)).trans H_57
        refine J_iload (i := 7) (pc := 99) dX3_grow_99 rfl ?_
        refine J_iconst (v := (-1)) (pc := 101) dX3_grow_101 rfl ?_
        refine J_icmp_ne (tgt := 106) (pc := 102) dX3_grow_102 (by decide) (fun c102 => ?_) (fun c102 => absurd c102 (nI_nem1 (by omega)))
        refine J_aload_n (i := 0) (pc := 106) dX3_grow_106 rfl rfl ?_
        refine J_iload_n (i := 3) (pc := 107) dX3_grow_107 rfl rfl ?_
        refine J_aload (i := 8) (pc := 108) dX3_grow_108 rfl ?_
        refine J_iconst (v := nI (1)) (pc := 110) dX3_grow_110 rfl ?_
        refine J_iald (j := 1) (pc := 111) dX3_grow_111 H_65 rfl (by omega) (by omega) ?_
        rw [show upd (upd (upd (upd (upd ((fun _ => 0)) (0) (nI (2))) (1) (nI ((c) / (51)))) (2) (nI ((c) % (51)))) (3) (nI (mostS β X))) (4) (nI (cnt X)) 1 = nI (c / 51) from rfl]
        refine J_aload (i := 8) (pc := 112) dX3_grow_112 rfl ?_
        refine J_iconst (v := nI (2)) (pc := 114) dX3_grow_114 rfl ?_
        refine J_iald (j := 2) (pc := 115) dX3_grow_115 H_65 rfl (by omega) (by omega) ?_
        rw [show upd (upd (upd (upd (upd ((fun _ => 0)) (0) (nI (2))) (1) (nI ((c) / (51)))) (2) (nI ((c) % (51)))) (3) (nI (mostS β X))) (4) (nI (cnt X)) 2 = nI (c % 51) from rfl]
        refine J_cVi (st := []) (As := [.int (nI (X)), .int (nI (c / 51)), .int (nI (c % 51))]) (pc := 116) dX3_grow_116 okX3_lowOf q3_227 q3_229 qs2_5 (rfl : vwCl[3]? = some _) H_59 rfl (Nat.le_of_ble_eq_true rfl) (Nat.le_of_ble_eq_true rfl) (m_lowOf H_63 (by omega) (by omega) (by omega)) ?_
        obtain ⟨low, elow⟩ : ∃ z : Nat, z = X &&& mkL β (c / 51) (c % 51) := ⟨_, rfl⟩
        rw [← elow]
        have hlow : low ≤ X := by rw [elow]; exact Nat.and_le_left
        have elow2 : low = X &&& mkC β c := elow
        have hsd := sdf_le X low
        refine J_istore (i := 9) (lv' := [(9, .int (nI (low))), (8, .ref (A_9)), (7, .int (nI (c))), (6, .int (nI (mostS β X))), (0, .ref (53)), (1, .ref (A)), (2, .int (nI (s))), (3, .int (nI (X))), (4, .int (nI (m + 1))), (5, .int (nI (le)))]) (pc := 119) dX3_grow_119 (by decide) rfl ?_
        refine J_aload_n (i := 0) (pc := 121) dX3_grow_121 rfl rfl ?_
        refine J_aload_n (i := 1) (pc := 122) dX3_grow_122 rfl rfl ?_
        refine J_iconst (v := nI (2)) (pc := 123) dX3_grow_123 rfl ?_
        refine J_iload_n (i := 2) (pc := 124) dX3_grow_124 rfl rfl ?_
        refine J_imulN (pc := 125) dX3_grow_125 ?_
        refine J_iload (i := 9) (pc := 126) dX3_grow_126 rfl ?_
        refine J_iload (i := 4) (pc := 128) dX3_grow_128 rfl ?_
        refine J_iconst (v := nI (1)) (pc := 130) dX3_grow_130 rfl ?_
        refine J_isubN (pc := 131) dX3_grow_131 (by omega) ?_
        rw [show m + 1 - 1 = m by omega]
        refine J_iload (i := 5) (pc := 132) dX3_grow_132 rfl ?_
        refine J_cVB (st := []) (As := [.ref (A), .int (nI ((2) * (s))), .int (nI (low)), .int (nI (m)), .int (nI (le))]) (v := none) (ca1 := 3 * (n1 * m) + n1) (sa1 := 11 * (n1 * m) + 5 * n1) (ca2 := 3 * (n2 * m) + n2) (sa2 := 11 * (n2 * m) + 5 * n2) (pc := 134) dX3_grow_134 okX3_grow q3_207 q3_209 qs2_0 (rfl : vwCl[3]? = some _) H_59 rfl (Nat.le_of_ble_eq_true rfl) (Nat.le_of_ble_eq_true rfl) ((by have r := ih m (2 * s) low h_58 _ H_63 (by omega) H_64 (by omega) (by omega) (by omega) (by omega) (by rw [elow2, ← en1]; omega) (by omega) (by omega) (by omega); rw [show cnt low = n1 from by rw [en1, elow2]] at r; exact r)) (by omega) (by omega) (fun h_66 q_67 => ?_)
        obtain ⟨xa1, f1, hA1, rw1, fr1⟩ := q_67
        have zh_66 := xa1.1
        have H_68 : h_66.2 (53) = some (oB 3 [.int (th), .int (nI (β.1)), .ref (54), .ref (55), .int (nI (β.2.1)), .int (dq), .int (lq), .int (kk), .ref (56), .ref (57), .ref (58)]) := (xa1.2 _ (by omega) (by omega)).trans H_59
        have H_69 : h_66.2 (54) = some (aI (60) (mf)) := (xa1.2 _ (by omega) (by omega)).trans H_60
        have H_70 : h_66.2 (55) = some (aI (20) (sf)) := (xa1.2 _ (by omega) (by omega)).trans H_61
        have H_71 : EA A h h_66 := EA_tr H_62 xa1
        have H_72 : MS h_66 β := MS_EA xa1 (by omega) (by omega) H_63
        have H_74 : h_66.2 (A_9) = some (aI (5) (upd (upd (upd (upd (upd ((fun _ => 0)) (0) (nI (2))) (1) (nI ((c) / (51)))) (2) (nI ((c) % (51)))) (3) (nI (mostS β X))) (4) (nI (cnt X)))) := (xa1.2 _ (by omega) (by omega)).trans H_65
        refine J_aload_n (i := 0) (pc := 137) dX3_grow_137 rfl rfl ?_
        refine J_aload_n (i := 1) (pc := 138) dX3_grow_138 rfl rfl ?_
        refine J_iconst (v := nI (2)) (pc := 139) dX3_grow_139 rfl ?_
        refine J_iload_n (i := 2) (pc := 140) dX3_grow_140 rfl rfl ?_
        refine J_imulN (pc := 141) dX3_grow_141 ?_
        refine J_iconst (v := nI (1)) (pc := 142) dX3_grow_142 rfl ?_
        refine J_iaddN (pc := 143) dX3_grow_143 ?_
        refine J_iload_n (i := 3) (pc := 144) dX3_grow_144 rfl rfl ?_
        refine J_iload (i := 9) (pc := 145) dX3_grow_145 rfl ?_
        refine J_iconst (v := (-1)) (pc := 147) dX3_grow_147 rfl ?_
        refine J_ixor (pc := 148) dX3_grow_148 ?_
        refine J_iandX (pc := 149) dX3_grow_149 ?_
        refine J_iload (i := 4) (pc := 150) dX3_grow_150 rfl ?_
        refine J_iconst (v := nI (1)) (pc := 152) dX3_grow_152 rfl ?_
        refine J_isubN (pc := 153) dX3_grow_153 (by omega) ?_
        rw [show m + 1 - 1 = m by omega]
        refine J_iload (i := 5) (pc := 154) dX3_grow_154 rfl ?_
        refine J_cVB (st := []) (As := [.ref (A), .int (nI (((2) * (s)) + 1)), .int (nI (sdf (X) (low))), .int (nI (m)), .int (nI (le))]) (v := none) (ca1 := 3 * (n2 * m) + n2) (sa1 := 11 * (n2 * m) + 5 * n2) (ca2 := 0) (sa2 := 0) (pc := 156) dX3_grow_156 okX3_grow q3_207 q3_209 qs2_0 (rfl : vwCl[3]? = some _) H_68 rfl (Nat.le_of_ble_eq_true rfl) (Nat.le_of_ble_eq_true rfl) ((by have r := ih m (2 * s + 1) (sdf X low) h_66 _ H_72 (by omega) hA1 (by omega) (by omega) (by omega) (by omega) (by rw [elow2, ← en2]; omega) (by omega) (by omega) (by omega); rw [show cnt (sdf X low) = n2 from by rw [en2, elow2]] at r; exact r)) (by omega) (by omega) (fun h_75 q_76 => ?_)
        obtain ⟨xa2, f2, hA2, rw2, fr2⟩ := q_76
        have zh_75 := xa2.1
        have H_77 : h_75.2 (53) = some (oB 3 [.int (th), .int (nI (β.1)), .ref (54), .ref (55), .int (nI (β.2.1)), .int (dq), .int (lq), .int (kk), .ref (56), .ref (57), .ref (58)]) := (xa2.2 _ (by omega) (by omega)).trans H_68
        have H_78 : h_75.2 (54) = some (aI (60) (mf)) := (xa2.2 _ (by omega) (by omega)).trans H_69
        have H_79 : h_75.2 (55) = some (aI (20) (sf)) := (xa2.2 _ (by omega) (by omega)).trans H_70
        have H_80 : EA A h h_75 := EA_tr H_71 xa2
        have H_81 : MS h_75 β := MS_EA xa2 (by omega) (by omega) H_72
        have H_83 : h_75.2 (A_9) = some (aI (5) (upd (upd (upd (upd (upd ((fun _ => 0)) (0) (nI (2))) (1) (nI ((c) / (51)))) (2) (nI ((c) % (51)))) (3) (nI (mostS β X))) (4) (nI (cnt X)))) := (xa2.2 _ (by omega) (by omega)).trans H_74
        refine J_vret (pc := 159) dX3_grow_159 rfl ?_
        refine ⟨rfl, H_80, f2, hA2, ?_, ?_⟩
        · rw [gr_s ce]
          have ns : ∀ e, e < 5 → f2 (5 * s + e) = (va_cpy (upd (upd (upd (upd (upd ((fun _ => 0)) (0) (nI (2))) (1) (nI ((c) / (51)))) (2) (nI ((c) % (51)))) (3) (nI (mostS β X))) (4) (nI (cnt X))) f (0) ((5) * (s)) (5)) (5 * s + e) := fun e he => (fr2 s e (fun z => (inS_ne (by omega) (Or.inr z)) rfl) he).trans (fr1 s e (fun z => (inS_ne (by omega) (Or.inl z)) rfl) he)
          refine ⟨⟨?_, ?_, ?_, ?_, ?_⟩, ?_, ?_⟩
          · have z := ns 0 (by decide)
            rw [pk_cpy_in (by omega) (by omega), show 0 + (5 * s + 0 - 5 * s) = 0 by omega] at z
            exact z
          · rw [ns 1 (by decide), pk_cpy_in (by omega) (by omega), show 0 + (5 * s + 1 - 5 * s) = 1 by omega]; rfl
          · rw [ns 2 (by decide), pk_cpy_in (by omega) (by omega), show 0 + (5 * s + 2 - 5 * s) = 2 by omega]; rfl
          · rw [ns 3 (by decide), pk_cpy_in (by omega) (by omega), show 0 + (5 * s + 3 - 5 * s) = 3 by omega]; rfl
          · rw [ns 4 (by decide), pk_cpy_in (by omega) (by omega), show 0 + (5 * s + 4 - 5 * s) = 4 by omega]; rfl
          · rw [← elow2]
            exact RW_congr d _ _ (fun q e hq he => fr2 q e (fun z => inS_dj (by omega) hq z) he) rw1
          · rw [← elow2]
            exact rw2
        · intro q e hq he
          have hqs : q ≠ s := fun z => hq (Or.inl z)
          rw [fr2 q e (fun z => hq (Or.inr (Or.inr z))) he, fr1 q e (fun z => hq (Or.inr (Or.inl z))) he]
          exact pk_cpy_out (by omega)

set_option maxHeartbeats 2000000 in
set_option maxRecDepth 20000 in
theorem m_grown {g : GT} {dd : Nat} {h : MH} {β : BT} (hM : MS h β) {X m le : Nat} (hz : 60 ≤ h.1) (he : 1 ≤ le) (he2 : le < 1000) (hX : X < 2 ^ β.1) (hX1 : 1 ≤ cnt X) (hm : m ≤ 5) :
    J g (dd + 11) (1 + (3 * (cnt X * m) + cnt X)) (320 + (11 * (cnt X * m) + 5 * cnt X)) mX3_grown 0 (lv_args 0 [.ref 53, .int (nI X), .int (nI m), .int (nI le)]) [] h (RG (.ref h.1) (fun h' => Ext h h' ∧ h.1 < h'.1 ∧ ∃ f', h'.2 h.1 = some (aI 320 f') ∧ RW f' 5 1 (grT β le 5 m X))) := by
  obtain ⟨hW, ⟨th, dq, lq, kk, m53⟩, ⟨mf, m54, em⟩, ⟨sf, m55, es⟩⟩ := id hM
  obtain ⟨hn, hc9, hm5, hs2⟩ := id hW
  have hp9 := pw_le hn
  refine J_sipush (v := nI (320)) (pc := 0) dX3_grown_0 rfl ?_
  obtain ⟨A_1, eA_1⟩ : ∃ z : Nat, z = h.1 := ⟨_, rfl⟩
  obtain ⟨h_2, eh_2⟩ : ∃ z : MH, z = (A_1 + 1, hset h.2 A_1 (aI (320) (fun _ => 0))) := ⟨_, rfl⟩
  refine J_newIA (A := A_1) (h' := h_2) (n := 320) (ca' := 3 * (cnt X * m) + cnt X) (sa' := 11 * (cnt X * m) + 5 * cnt X) (pc := 3) dX3_grown_3 rfl (by decide) (by omega) (by omega) eA_1 eh_2 ?_
  have zh_2 : h_2.1 = A_1 + 1 := by rw [eh_2]
  have H_3 : h_2.2 (53) = some (oB 3 [.int (th), .int (nI (β.1)), .ref (54), .ref (55), .int (nI (β.2.1)), .int (dq), .int (lq), .int (kk), .ref (56), .ref (57), .ref (58)]) := (ha_n eh_2 (by omega)).trans m53
  have H_4 : h_2.2 (54) = some (aI (60) (mf)) := (ha_n eh_2 (by omega)).trans m54
  have H_5 : h_2.2 (55) = some (aI (20) (sf)) := (ha_n eh_2 (by omega)).trans m55
  have H_6 : Ext h h_2 := Ext_new Ext_rfl eA_1 eh_2
  have H_7 : MS h_2 β := MS_oth (fun i i1 i2 => ha_n eh_2 (by omega)) hM
  have H_8 : h_2.2 (A_1) = some (aI (320) (fun _ => 0)) := ha_s eh_2
  refine J_astore (i := 4) (lv' := [(4, .ref (A_1)), (0, .ref (53)), (1, .int (nI (X))), (2, .int (nI (m))), (3, .int (nI (le)))]) (pc := 5) dX3_grown_5 (by decide) rfl ?_
  refine J_aload_n (i := 0) (pc := 7) dX3_grown_7 rfl rfl ?_
  refine J_aload (i := 4) (pc := 8) dX3_grown_8 rfl ?_
  refine J_iconst (v := nI (1)) (pc := 10) dX3_grown_10 rfl ?_
  refine J_iload_n (i := 1) (pc := 11) dX3_grown_11 rfl rfl ?_
  refine J_iload_n (i := 2) (pc := 12) dX3_grown_12 rfl rfl ?_
  refine J_iload_n (i := 3) (pc := 13) dX3_grown_13 rfl rfl ?_
  refine J_cVB (st := []) (As := [.ref (A_1), .int (nI (1)), .int (nI (X)), .int (nI (m)), .int (nI (le))]) (v := none) (ca1 := 3 * (cnt X * m) + cnt X) (sa1 := 11 * (cnt X * m) + 5 * cnt X) (ca2 := 0) (sa2 := 0) (pc := 14) dX3_grown_14 okX3_grow q3_207 q3_209 qs2_0 (rfl : vwCl[3]? = some _) H_3 rfl (Nat.le_of_ble_eq_true rfl) (Nat.le_of_ble_eq_true rfl) (m_grow (A := A_1) he he2 5 m 1 X h_2 _ H_7 (by omega) H_8 (by omega) (by omega) (by decide) hX hX1 hm (by decide) (by decide)) (by omega) (by omega) (fun h_9 q_10 => ?_)
  obtain ⟨xa, f2, hA2, rw2, fr2⟩ := q_10
  refine J_aload (i := 4) (pc := 17) dX3_grown_17 rfl ?_
  refine J_aret (pc := 19) dX3_grown_19 rfl ?_
  exact ⟨by rw [eA_1], ⟨by have := xa.1; have := H_6.1; omega, fun i hi => (xa.2 i (by have := H_6.1; omega) (by omega)).trans (H_6.2 i hi)⟩, by have := xa.1; omega, f2, by rw [← eA_1]; exact hA2, rw2⟩

