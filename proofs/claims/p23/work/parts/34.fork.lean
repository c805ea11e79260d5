-- growing
theorem m1_sub {b : Nat} (h : 1 ≤ b) : nI b + Int32.ofInt (-1) = nI (b - 1) := by
  obtain ⟨k, rfl⟩ : ∃ k, b = k + 1 := ⟨b - 1, by omega⟩
  exact pk_m1 k
def cutP (β : BT) (X le c : Nat) : Prop := c < 153 ∧ c % 51 < 50 ∧ le ≤ cnt (X &&& mkC β c) ∧ le ≤ cnt (sdf X (X &&& mkC β c)) ∧ 0 < gA β X (X &&& mkC β c)
theorem cutP_step {β : BT} {X le m x : Nat} {t : Option Nat × Nat × Nat} (hm : m < 3) (hx : x < 50) (h : ∀ c, t.1 = some c → cutP β X le c) : ∀ c, (stepS β X le m x t).1 = some c → cutP β X le c := by
  intro c e
  unfold stepS at e
  split at e
  · rename_i q
    have e1 : m * 51 + x = c := Option.some.inj e
    have e2 : mkC β c = mkL β m x := by
      unfold mkC
      rw [← e1, show (m * 51 + x) / 51 = m by omega, show (m * 51 + x) % 51 = x by omega]
    obtain ⟨_, q2, q3⟩ := q
    rw [Bool.and_eq_true, decide_eq_true_eq, decide_eq_true_eq] at q2
    refine ⟨by omega, by omega, ?_⟩
    rw [e2]
    refine ⟨q2.1, q2.2, ?_⟩
    rcases Nat.eq_zero_or_pos (gA β X (X &&& mkL β m x)) with e0 | e0
    · rw [e0, Nat.zero_mul] at q3
      omega
    · exact e0
  · exact h c e
theorem cutP_scF {β : BT} {X le m : Nat} (hm : m < 3) : ∀ (k x : Nat) (t : Option Nat × Nat × Nat), x + k ≤ 50 → (∀ c, t.1 = some c → cutP β X le c) → ∀ c, (scF β X le m k x t).1 = some c → cutP β X le c
  | 0, _, _, _, h => h
  | k + 1, x, _, hx, h => cutP_scF hm k (x + 1) _ (by omega) (cutP_step hm (by omega) h)
theorem cutP_soF {β : BT} {X le : Nat} : ∀ (k m : Nat) (t : Option Nat × Nat × Nat), m + k ≤ 3 → (∀ c, t.1 = some c → cutP β X le c) → ∀ c, (soF β X le k m t).1 = some c → cutP β X le c
  | 0, _, _, _, h => h
  | k + 1, m, _, hx, h => cutP_soF k (m + 1) _ (by omega) (cutP_scF (by omega) 50 0 _ (by omega) h)
theorem best_P {β : BT} {X le c : Nat} (h : bestS β X le = some c) : cutP β X le c := cutP_soF 3 0 (none, 0, 1) (by omega) (fun c e => by cases e) c h
theorem cnt_two (β : BT) (X c : Nat) : cnt X = cnt (X &&& mkC β c) + cnt (sdf X (X &&& mkC β c)) := cnt_split2 X (mkC β c)
def grT (β : BT) (le : Nat) : (d : Nat) → Nat → Nat → TR d
  | 0, _, X => (mostS β X, cnt X)
  | d + 1, m, X => ((mostS β X, cnt X), match m with
    | 0 => none
    | m + 1 => match bestS β X le with
      | none => none
      | some c => some (c, grT β le d m (X &&& mkC β c), grT β le d m (sdf X (X &&& mkC β c))))
theorem gr_z (β : BT) (le d X : Nat) : grT β le (d + 1) 0 X = ((mostS β X, cnt X), none) := rfl
theorem gr_n {β : BT} {le d m X : Nat} (h : bestS β X le = none) : grT β le (d + 1) m X = ((mostS β X, cnt X), none) := by
  cases m with
  | zero => rfl
  | succ m => rw [grT, h]
theorem gr_s {β : BT} {le d m X c : Nat} (h : bestS β X le = some c) : grT β le (d + 1) (m + 1) X = ((mostS β X, cnt X), some (c, grT β le d m (X &&& mkC β c), grT β le d m (sdf X (X &&& mkC β c)))) := by rw [grT, h]
theorem nN_gr {β : BT} {le : Nat} (hl : 1 ≤ le) : ∀ (d m X : Nat), 1 ≤ cnt X → nN d (grT β le d m X) + 1 ≤ 2 * cnt X
  | 0, m, X, h => by
    show 1 + 1 ≤ 2 * cnt X
    omega
  | d + 1, m, X, h => by
    cases m with
    | zero =>
      show 1 + 1 ≤ 2 * cnt X
      omega
    | succ m =>
      cases e : bestS β X le with
      | none =>
        rw [gr_n e]
        show 1 + 1 ≤ 2 * cnt X
        omega
      | some c =>
        obtain ⟨_, _, p1, p2, _⟩ := best_P e
        have h1 := nN_gr (β := β) hl d m (X &&& mkC β c) (by omega)
        have h2 := nN_gr (β := β) hl d m (sdf X (X &&& mkC β c)) (by omega)
        have h3 := cnt_two β X c
        rw [gr_s e, nN_f]
        omega
theorem mostS_le (β : BT) (X : Nat) : mostS β X ≤ 2 := by
  unfold mostS mostA
  (repeat' split) <;> omega
theorem ok_gr (β : BT) (le : Nat) : ∀ (d m X : Nat), okT d (grT β le d m X)
  | 0, m, X => ⟨mostS_le β X, cnt_le X⟩
  | d + 1, m, X => by
    cases m with
    | zero => exact ⟨mostS_le β X, cnt_le X⟩
    | succ m =>
      cases e : bestS β X le with
      | none =>
        rw [gr_n e]
        exact ⟨mostS_le β X, cnt_le X⟩
      | some c =>
        rw [gr_s e]
        exact ⟨⟨mostS_le β X, cnt_le X⟩, (best_P e).1, ok_gr β le d m _, ok_gr β le d m _⟩
/-- what lies behind p moved by two, as far as b -/
def shf (n b : Nat) (f : Nat → Int32) : Nat → Int32 := fun q => if b + 2 < q ∧ q ≤ n + 1 then f (q - 2) else f q
theorem shf_lo {n b q : Nat} {f : Nat → Int32} (h : q ≤ b + 2) : shf n b f q = f q := if_neg (by omega)
theorem shf_hi {n b q : Nat} {f : Nat → Int32} (h : b + 2 < q) (h2 : q ≤ n + 1) : shf n b f q = f (q - 2) := if_pos ⟨h, h2⟩
theorem shf_0 {n : Nat} {f : Nat → Int32} (h : 1 ≤ n) : shf n (n - 1) f = f := by
  funext q
  exact if_neg (by omega)
theorem shf_s {n b : Nat} {f : Nat → Int32} (h : 1 ≤ b) (h2 : b < n) : upd (shf n b f) (b + 2) (shf n b f b) = shf n (b - 1) f := by
  funext q
  unfold upd shf
  by_cases e : q = b + 2
  · subst e
    rw [if_pos rfl, if_neg (by omega), if_pos (by omega)]
    congr 1
  · rw [if_neg e]
    by_cases e2 : b + 2 < q ∧ q ≤ n + 1
    · rw [if_pos e2, if_pos (by omega)]
    · rw [if_neg e2, if_neg (by omega)]

set_option maxHeartbeats 2000000 in
set_option maxRecDepth 20000 in
theorem fk_loop {g : GT} {dd : Nat} {t : Nat} {pa le : Int32} {cf sf gf df mf rf : Nat → Int32} {n p c : Nat} {Q : RT → MH → Prop} (hn : n + 2 ≤ 39) : ∀ (k b : Nat) (h : MH), TO h t (nI n) pa le (shf n (b) cf) (shf n (b) sf) (shf n (b) gf) (shf n (b) df) (shf n (b) mf) rf → p + k = b → b < n →
    (∀ h', Fr t (t + 5) h h' → TO h' t (nI n) pa le (shf n (p) cf) (shf n (p) sf) (shf n (p) gf) (shf n (p) df) (shf n (p) mf) rf → J g (dd + 1) 0 0 mX1_fork 30 [(4, .int (nI (p))), (0, .ref (t)), (1, .ref (2)), (2, .int (nI (p))), (3, .int (nI (c)))] [] h' Q) → J g (dd + 1) 0 0 mX1_fork 8 [(4, .int (nI (b))), (0, .ref (t)), (1, .ref (2)), (2, .int (nI (p))), (3, .int (nI (c)))] [] h Q := by
  intro k
  induction k with
  | zero =>
    intro b h hT h1 h2 hk
    obtain rfl : p = b := h1
    obtain ⟨k0, k1, k2, k3, k4, k5, k6⟩ := id hT
    refine J_iload (i := 4) (pc := 8) dX1_fork_8 rfl ?_
    refine J_iload_n (i := 2) (pc := 10) dX1_fork_10 rfl rfl ?_
    refine J_icmp_leN (tgt := 30) (pc := 11) dX1_fork_11 (by decide) (by omega) (by omega) (fun c11 => ?_) (fun c11 => by exfalso; first | omega | simp_all)
    exact hk h Fr_rfl hT
  | succ k ih =>
    intro b h hT h1 h2 hk
    have hb1 : 1 ≤ b := by omega
    have hb2 : b < n := h2
    obtain ⟨k0, k1, k2, k3, k4, k5, k6⟩ := id hT
    refine J_iload (i := 4) (pc := 8) dX1_fork_8 rfl ?_
    refine J_iload_n (i := 2) (pc := 10) dX1_fork_10 rfl rfl ?_
    refine J_icmp_leN (tgt := 30) (pc := 11) dX1_fork_11 (by decide) (by omega) (by omega) (fun c11 => by exfalso; first | omega | simp_all) (fun c11 => ?_)
    refine J_aload_n (i := 0) (pc := 14) dX1_fork_14 rfl rfl ?_
    refine J_iload (i := 4) (pc := 15) dX1_fork_15 rfl ?_
    refine J_iload (i := 4) (pc := 17) dX1_fork_17 rfl ?_
    refine J_iconst (v := nI (2)) (pc := 19) dX1_fork_19 rfl ?_
    refine J_iaddN (pc := 20) dX1_fork_20 ?_
    refine J_cVv (st := []) (As := [.int (nI (b)), .int (nI (b + 2))]) (pc := 21) dX1_fork_21 okX1_copyNode q1_220 q1_222 qs1_5 (rfl : vwCl[1]? = some _) k0 rfl (Nat.le_of_ble_eq_true rfl) (Nat.le_of_ble_eq_true rfl) (c_copyNode ⟨k0, k1, k2, k3, k4, k5, k6⟩ (by omega) (by omega)) (fun h_1 q_2 => ?_)
    obtain ⟨x_10, y_3, y_4, y_5, y_6, y_7, y_8, y_9⟩ := q_2
    have H_11 : Fr (t) (t + 5) h h_1 := Fr_tr Fr_rfl (Fr_up x_10 (by omega) (by omega))
    refine J_iinc (i := 4) (v := nI (b - 1)) (lv' := [(4, .int (nI (b - 1))), (0, .ref (t)), (1, .ref (2)), (2, .int (nI (p))), (3, .int (nI (c)))]) (pc := 24) dX1_fork_24 rfl (m1_sub hb1) (by decide) rfl ?_
    refine J_goto (tgt := 8) (pc := 27) dX1_fork_27 (by decide) ?_
    refine J_sub (lv' := [(4, .int (nI (b - 1))), (0, .ref (t)), (1, .ref (2)), (2, .int (nI (p))), (3, .int (nI (c)))]) [0, 1, 2, 3, 4] rfl ?_
    have hT1 : TO h_1 t (nI n) pa le (shf n (b - 1) cf) (shf n (b - 1) sf) (shf n (b - 1) gf) (shf n (b - 1) df) (shf n (b - 1) mf) rf := by
      rw [← shf_s (f := cf) hb1 hb2, ← shf_s (f := sf) hb1 hb2, ← shf_s (f := gf) hb1 hb2, ← shf_s (f := df) hb1 hb2, ← shf_s (f := mf) hb1 hb2]
      exact ⟨y_3, y_4, y_5, y_6, y_7, y_8, y_9⟩
    refine ih (b - 1) h_1 hT1 (by omega) (by omega) ?_
    intro h3 fr3 hT3
    exact hk h3 (Fr_tr H_11 fr3) hT3
theorem c_fork {g : GT} {dd : Nat} {h : MH} {β : BT} (hB : BH h β) {t : Nat} {pa le : Int32} {cf sf gf df mf rf : Nat → Int32} {n p c X D : Nat} (hT : TO h t (nI n) pa le cf sf gf df mf rf) (ht : 9 < t) (hn : n + 2 ≤ 39) (hp : p < n) (hc : c < 153) (hX : X < 2 ^ 20) (eX : mf p = nI X) (eD : df p = nI D) :
    J g (dd + 4) 0 0 mX1_fork 0 (lv_args 0 [.ref t, .ref 2, .int (nI p), .int (nI c)]) [] h (RV (fun h' => Fr t (t + 5) h h' ∧ TO h' t (nI (n + 2)) pa le (upd (upd (upd (shf n p cf) p (nI c)) (p + 1) (-1)) (p + 2) (-1)) (upd (upd (shf n p sf) (p + 1) (nI (mostS β (X &&& mkC β c)))) (p + 2) (nI (mostS β (sdf X (X &&& mkC β c)))))
      (upd (upd (shf n p gf) (p + 1) (nI (cnt (X &&& mkC β c)))) (p + 2) (nI (cnt (sdf X (X &&& mkC β c))))) (upd (upd (shf n p df) (p + 1) (nI (D + 1))) (p + 2) (nI (D + 1))) (upd (upd (shf n p mf) (p + 1) (nI (X &&& mkC β c))) (p + 2) (nI (sdf X (X &&& mkC β c)))) rf)) := by
  have q1 : X &&& mkC β c ≤ X := Nat.and_le_left
  have q2 := sdf_le X (X &&& mkC β c)
  obtain ⟨k0, k1, k2, k3, k4, k5, k6⟩ := id hT
  refine J_aload_n (i := 0) (pc := 0) dX1_fork_0 rfl rfl ?_
  refine J_getf (k := 6) (pc := 1) dX1_fork_1 flX1_30 k0 rfl ?_
  refine J_iconst (v := nI (1)) (pc := 4) dX1_fork_4 rfl ?_
  refine J_isubN (pc := 5) dX1_fork_5 (by omega) ?_
  refine J_istore (i := 4) (lv' := [(4, .int (nI ((n) - (1)))), (0, .ref (t)), (1, .ref (2)), (2, .int (nI (p))), (3, .int (nI (c)))]) (pc := 6) dX1_fork_6 (by decide) rfl ?_
  refine J_sub (lv' := [(4, .int (nI ((n) - (1)))), (0, .ref (t)), (1, .ref (2)), (2, .int (nI (p))), (3, .int (nI (c)))]) [0, 1, 2, 3, 4] rfl ?_
  have hT0 : TO h t (nI n) pa le (shf n (n - 1) cf) (shf n (n - 1) sf) (shf n (n - 1) gf) (shf n (n - 1) df) (shf n (n - 1) mf) rf := by
    have z1 : 1 ≤ n := by omega
    rw [shf_0 (f := cf) z1, shf_0 (f := sf) z1, shf_0 (f := gf) z1, shf_0 (f := df) z1, shf_0 (f := mf) z1]
    exact hT
  refine fk_loop hn (n - 1 - p) (n - 1) h hT0 (by omega) (by omega) ?_
  intro h1 fr1 hT1
  have hB1 := BH_fr fr1 ht hB
  have b9 := BH_2 hB1
  obtain ⟨k0, k1, k2, k3, k4, k5, k6⟩ := id hT1
  refine J_aload_n (i := 0) (pc := 30) dX1_fork_30 rfl rfl ?_
  refine J_dup (pc := 31) dX1_fork_31 rfl ?_
  refine J_getf (k := 6) (pc := 32) dX1_fork_32 flX1_30 k0 rfl ?_
  refine J_iconst (v := nI (2)) (pc := 35) dX1_fork_35 rfl ?_
  refine J_iaddN (pc := 36) dX1_fork_36 ?_
  refine J_putf (k := 6) (pc := 37) dX1_fork_37 fpX1_fork_30 (fun g => ⟨rfl, rfl⟩) k0 (Nat.le_of_ble_eq_true rfl) ?_
  obtain ⟨h_1, eh_1⟩ : ∃ z : MH, z = (h1.1, hset h1.2 (t) (oB 1 [.ref (t + 1), .ref (t + 2), .ref (t + 3), .ref (t + 4), .ref (t + 5), .ref (t + 6), .int (nI (n + 2)), .int (pa), .int (le)])) := ⟨_, rfl⟩
  refine J_heq (h2 := h_1) eh_1 ?_
  have H_2 : h_1.2 (t) = some (oB 1 [.ref (t + 1), .ref (t + 2), .ref (t + 3), .ref (t + 4), .ref (t + 5), .ref (t + 6), .int (nI (n + 2)), .int (pa), .int (le)]) := hs_s eh_1
  have H_3 : h_1.2 (t + 1) = some (aI (39) (shf n (p) cf)) := (hs_n eh_1 (by omega)).trans k1
  have H_4 : h_1.2 (t + 2) = some (aI (39) (shf n (p) sf)) := (hs_n eh_1 (by omega)).trans k2
  have H_5 : h_1.2 (t + 3) = some (aI (39) (shf n (p) gf)) := (hs_n eh_1 (by omega)).trans k3
  have H_6 : h_1.2 (t + 4) = some (aI (39) (shf n (p) df)) := (hs_n eh_1 (by omega)).trans k4
  have H_7 : h_1.2 (t + 5) = some (aI (39) (shf n (p) mf)) := (hs_n eh_1 (by omega)).trans k5
  have H_8 : h_1.2 (t + 6) = some (aI (39) (rf)) := (hs_n eh_1 (by omega)).trans k6
  have H_9 : h_1.2 (2) = some (oB 0 [.ref (3), .ref (7), .ref (8), .ref (9), .int (nI (β.1)), .int (nI (β.2.1))]) := (hs_n eh_1 (by omega)).trans b9
  have H_10 : BH h_1 β := by rw [eh_1]; exact BH_set (by omega) hB1
  have H_11 : Fr (t) (t + 5) h h_1 := by rw [eh_1]; exact Fr_st fr1 (by omega) (by omega)
  refine J_aload_n (i := 1) (pc := 40) dX1_fork_40 rfl rfl ?_
  refine J_aload_n (i := 0) (pc := 41) dX1_fork_41 rfl rfl ?_
  refine J_getf (k := 4) (pc := 42) dX1_fork_42 flX1_24 H_2 rfl ?_
  refine J_iload_n (i := 2) (pc := 45) dX1_fork_45 rfl rfl ?_
  refine J_iald (j := p) (pc := 46) dX1_fork_46 H_7 rfl (by omega) (by omega) ?_
  rw [show shf n (p) mf p = nI (X) from (shf_lo (by omega)).trans eX]
  refine J_iload_n (i := 3) (pc := 47) dX1_fork_47 rfl rfl ?_
  refine J_cVi (st := []) (As := [.int (nI (X)), .int (nI (c))]) (pc := 48) dX1_fork_48 okX0_lowOf q1_224 q1_197 q1_198 (rfl : vwCl[0]? = some _) H_9 rfl (Nat.le_of_ble_eq_true rfl) (Nat.le_of_ble_eq_true rfl) (c_lowC H_10 (by omega)) ?_
  refine J_istore (i := 4) (lv' := [(4, .int (nI (X &&& mkC β c))), (0, .ref (t)), (1, .ref (2)), (2, .int (nI (p))), (3, .int (nI (c)))]) (pc := 51) dX1_fork_51 (by decide) rfl ?_
  refine J_aload_n (i := 0) (pc := 53) dX1_fork_53 rfl rfl ?_
  refine J_getf (k := 0) (pc := 54) dX1_fork_54 flX1_9 H_2 rfl ?_
  refine J_iload_n (i := 2) (pc := 57) dX1_fork_57 rfl rfl ?_
  refine J_iload_n (i := 3) (pc := 58) dX1_fork_58 rfl rfl ?_
  refine J_iast (j := p) (pc := 59) dX1_fork_59 H_3 rfl (by omega) (by omega) ?_
  obtain ⟨h_12, eh_12⟩ : ∃ z : MH, z = (h_1.1, hset h_1.2 (t + 1) (aI (39) (upd (shf n (p) cf) (p) (nI (c))))) := ⟨_, rfl⟩
  refine J_heq (h2 := h_12) eh_12 ?_
  have H_13 : h_12.2 (t) = some (oB 1 [.ref (t + 1), .ref (t + 2), .ref (t + 3), .ref (t + 4), .ref (t + 5), .ref (t + 6), .int (nI (n + 2)), .int (pa), .int (le)]) := (hs_n eh_12 (by omega)).trans H_2
  have H_14 : h_12.2 (t + 1) = some (aI (39) (upd (shf n (p) cf) (p) (nI (c)))) := hs_s eh_12
  have H_15 : h_12.2 (t + 2) = some (aI (39) (shf n (p) sf)) := (hs_n eh_12 (by omega)).trans H_4
  have H_16 : h_12.2 (t + 3) = some (aI (39) (shf n (p) gf)) := (hs_n eh_12 (by omega)).trans H_5
  have H_17 : h_12.2 (t + 4) = some (aI (39) (shf n (p) df)) := (hs_n eh_12 (by omega)).trans H_6
  have H_18 : h_12.2 (t + 5) = some (aI (39) (shf n (p) mf)) := (hs_n eh_12 (by omega)).trans H_7
  have H_19 : h_12.2 (t + 6) = some (aI (39) (rf)) := (hs_n eh_12 (by omega)).trans H_8
  have H_20 : h_12.2 (2) = some (oB 0 [.ref (3), .ref (7), .ref (8), .ref (9), .int (nI (β.1)), .int (nI (β.2.1))]) := (hs_n eh_12 (by omega)).trans H_9
  have H_21 : BH h_12 β := by rw [eh_12]; exact BH_set (by omega) H_10
  have H_22 : Fr (t) (t + 5) h h_12 := by rw [eh_12]; exact Fr_st H_11 (by omega) (by omega)
  refine J_aload_n (i := 0) (pc := 60) dX1_fork_60 rfl rfl ?_
  refine J_aload_n (i := 1) (pc := 61) dX1_fork_61 rfl rfl ?_
  refine J_iload_n (i := 2) (pc := 62) dX1_fork_62 rfl rfl ?_
  refine J_iconst (v := nI (1)) (pc := 63) dX1_fork_63 rfl ?_
  refine J_iaddN (pc := 64) dX1_fork_64 ?_
  refine J_iload (i := 4) (pc := 65) dX1_fork_65 rfl ?_
  refine J_aload_n (i := 0) (pc := 67) dX1_fork_67 rfl rfl ?_
  refine J_getf (k := 3) (pc := 68) dX1_fork_68 flX1_21 H_13 rfl ?_
  refine J_iload_n (i := 2) (pc := 71) dX1_fork_71 rfl rfl ?_
  refine J_iald (j := p) (pc := 72) dX1_fork_72 H_17 rfl (by omega) (by omega) ?_
  rw [show shf n (p) df p = nI (D) from (shf_lo (by omega)).trans eD]
  refine J_iconst (v := nI (1)) (pc := 73) dX1_fork_73 rfl ?_
  refine J_iaddN (pc := 74) dX1_fork_74 ?_
  refine J_cVv (st := []) (As := [.ref (2), .int (nI (p + 1)), .int (nI (X &&& mkC β c)), .int (nI (D + 1))]) (pc := 75) dX1_fork_75 okX1_putLeaf q1_172 q1_174 qs1_2 (rfl : vwCl[1]? = some _) H_13 rfl (Nat.le_of_ble_eq_true rfl) (Nat.le_of_ble_eq_true rfl) (c_putLeaf H_21 ⟨H_13, H_14, H_15, H_16, H_17, H_18, H_19⟩ (by omega) (by omega) (by omega)) (fun h_23 q_24 => ?_)
  obtain ⟨x_32, y_25, y_26, y_27, y_28, y_29, y_30, y_31⟩ := q_24
  have H_33 : h_23.2 (2) = some (oB 0 [.ref (3), .ref (7), .ref (8), .ref (9), .int (nI (β.1)), .int (nI (β.2.1))]) := (x_32.2 _ (by omega)).trans H_20
  have H_34 : BH h_23 β := BH_fr x_32 (by omega) H_21
  have H_35 : Fr (t) (t + 5) h h_23 := Fr_tr H_22 (Fr_up x_32 (by omega) (by omega))
  refine J_aload_n (i := 0) (pc := 78) dX1_fork_78 rfl rfl ?_
  refine J_aload_n (i := 1) (pc := 79) dX1_fork_79 rfl rfl ?_
  refine J_iload_n (i := 2) (pc := 80) dX1_fork_80 rfl rfl ?_
  refine J_iconst (v := nI (2)) (pc := 81) dX1_fork_81 rfl ?_
  refine J_iaddN (pc := 82) dX1_fork_82 ?_
  refine J_aload_n (i := 0) (pc := 83) dX1_fork_83 rfl rfl ?_
  refine J_getf (k := 4) (pc := 84) dX1_fork_84 flX1_24 y_25 rfl ?_
  refine J_iload_n (i := 2) (pc := 87) dX1_fork_87 rfl rfl ?_
  refine J_iald (j := p) (pc := 88) dX1_fork_88 y_30 rfl (by omega) (by omega) ?_
  rw [show upd (shf n (p) mf) (p + 1) (nI (X &&& mkC β c)) p = nI (X) from (pk_un (by omega)).trans ((shf_lo (by omega)).trans eX)]
  refine J_iload (i := 4) (pc := 89) dX1_fork_89 rfl ?_
  refine J_iconst (v := (-1)) (pc := 91) dX1_fork_91 rfl ?_
  refine J_ixor (pc := 92) dX1_fork_92 ?_
  refine J_iandX (pc := 93) dX1_fork_93 ?_
  refine J_aload_n (i := 0) (pc := 94) dX1_fork_94 rfl rfl ?_
  refine J_getf (k := 3) (pc := 95) dX1_fork_95 flX1_21 y_25 rfl ?_
  refine J_iload_n (i := 2) (pc := 98) dX1_fork_98 rfl rfl ?_
  refine J_iald (j := p) (pc := 99) dX1_fork_99 y_29 rfl (by omega) (by omega) ?_
  rw [show upd (shf n (p) df) (p + 1) (nI (D + 1)) p = nI (D) from (pk_un (by omega)).trans ((shf_lo (by omega)).trans eD)]
  refine J_iconst (v := nI (1)) (pc := 100) dX1_fork_100 rfl ?_
  refine J_iaddN (pc := 101) dX1_fork_101 ?_
  refine J_cVv (st := []) (As := [.ref (2), .int (nI (p + 2)), .int (nI (sdf (X) (X &&& mkC β c))), .int (nI (D + 1))]) (pc := 102) dX1_fork_102 okX1_putLeaf q1_172 q1_174 qs1_2 (rfl : vwCl[1]? = some _) y_25 rfl (Nat.le_of_ble_eq_true rfl) (Nat.le_of_ble_eq_true rfl) (c_putLeaf H_34 ⟨y_25, y_26, y_27, y_28, y_29, y_30, y_31⟩ (by omega) (by omega) (by omega)) (fun h_36 q_37 => ?_)
  obtain ⟨x_45, y_38, y_39, y_40, y_41, y_42, y_43, y_44⟩ := q_37
  have H_46 : h_36.2 (2) = some (oB 0 [.ref (3), .ref (7), .ref (8), .ref (9), .int (nI (β.1)), .int (nI (β.2.1))]) := (x_45.2 _ (by omega)).trans H_33
  have H_47 : BH h_36 β := BH_fr x_45 (by omega) H_34
  have H_48 : Fr (t) (t + 5) h h_36 := Fr_tr H_35 (Fr_up x_45 (by omega) (by omega))
  refine J_vret (pc := 105) dX1_fork_105 rfl ?_
  exact ⟨rfl, H_48, ⟨y_38, y_39, y_40, y_41, y_42, y_43, y_44⟩⟩
