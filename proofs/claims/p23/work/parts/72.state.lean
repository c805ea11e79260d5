-- what holds between the law's steps; the class's calls over it
def LI (h : MH) (σ : ST) (T : Nat) : Prop := GH h σ ∧ 3 ≤ σ.1.1 ∧ σ.2.1.1 = T ∧ ∀ i, i < T → smT 5 (σ.2.2.1 i)
theorem LI_1 {h : MH} {σ : ST} {T : Nat} (I : LI h σ T) : ∃ fs, h.2 1 = some (.inr (2, fs)) := GH_1 I.1
theorem LI_b {h : MH} {σ : ST} {T : Nat} (I : LI h σ T) : WF σ.1 ∧ okS σ ∧ σ.1.1 ≤ 20 ∧ T ≤ 5 ∧ 3 ≤ σ.1.1 := by
  obtain ⟨⟨π, hG⟩, h3, hT, hs⟩ := I
  have h5 := hG.2.1.1
  have h6 := (GP_W hG).1
  exact ⟨GP_W hG, hG.2.1, h6, by omega, h3⟩
theorem LI_same {h h' : MH} {σ : ST} {T : Nat} {π : Nat → Nat} (I : LI h σ T) (hG : GP h' σ π) : LI h' σ T := ⟨⟨π, hG⟩, I.2⟩
theorem LI_tr {h : MH} {σ : ST} {T j : Nat} (I : LI h σ T) (hj : j < T) : okT 5 (σ.2.2.1 j) ∧ nN 5 (σ.2.2.1 j) ≤ 39 ∧ smT 5 (σ.2.2.1 j) ∧ j < σ.2.1.1 := by
  obtain ⟨⟨π, hG⟩, h3, hT, hs⟩ := I
  have h1 := hG.2.1.2.2.2 j (by omega)
  exact ⟨h1.1, h1.2, hs j hj, by omega⟩
abbrev PI (σ : ST) (T : Nat) : MH → Prop := fun h' => LI h' σ T
section
variable {g : GT} {d T : Nat} {h : MH} {σ : ST}
theorem same_of {v : Int32} {π : Nat → Nat} {M : MT} {pc : Nat} {lv : List (Nat × Value)} {d0 : Nat} (I : LI h σ T) (r : J g d0 0 0 M pc lv [] h (RH v (fun h' => Fr 1 52 h h' ∧ GP h' σ π))) : J g d0 0 0 M pc lv [] h (RH v (PI σ T)) := by
  refine J_mono ?_ r
  rintro r h' ⟨r1, r2, r3⟩
  exact ⟨r1, LI_same I r3⟩
theorem i_setDepth (I : LI h σ T) {m : Nat} (hm1 : 1 ≤ m) (hm : m ≤ 5) : J g (d + 1) 0 0 mX2_setDepth 0 (lv_args 0 [.ref 1, .int (nI m)]) [] h (RH (nI σ.2.1.2.1) (fun h' => ∃ σ', LI h' σ' T)) := by
  obtain ⟨⟨π, hG⟩, h3, hT, hs⟩ := I
  refine J_mono ?_ (c_setDepth hG hm1 hm)
  rintro r h' ⟨r1, r2, r3⟩
  exact ⟨r1, _, ⟨π, r3⟩, h3, hT, hs⟩
theorem i_setLeast (I : LI h σ T) {m : Nat} (hm1 : 1 ≤ m) (hm : m ≤ 6) : J g (d + 1) 0 0 mX2_setLeast 0 (lv_args 0 [.ref 1, .int (nI m)]) [] h (RH (nI σ.2.1.2.2) (fun h' => ∃ σ', LI h' σ' T)) := by
  obtain ⟨⟨π, hG⟩, h3, hT, hs⟩ := I
  refine J_mono ?_ (c_setLeast hG hm1 hm)
  rintro r h' ⟨r1, r2, r3⟩
  exact ⟨r1, _, ⟨π, r3⟩, h3, hT, hs⟩
theorem i_digest (I : LI h σ T) : J g (d + 5) 0 0 mX2_digest 0 (lv_args 0 [.ref 1]) [] h (RG (.long (dgS σ)) (PI σ T)) := by
  obtain ⟨⟨π, hG⟩, h3, hT, hs⟩ := id I
  refine J_mono ?_ (c_digest hG)
  rintro r h' ⟨r1, r2, r3⟩
  exact ⟨r1, LI_same I r3⟩
theorem i_advise (I : LI h σ T) : J g (d + 6) 0 0 mX2_advise 0 (lv_args 0 [.ref 1]) [] h (RH (enc (adS σ)) (PI σ T)) := by
  obtain ⟨⟨π, hG⟩, h3, hT, hs⟩ := id I
  exact same_of I (c_advise hG)
theorem i_would (I : LI h σ T) {mo ls w : Nat} (hm1 : 1 ≤ mo) (hm : mo ≤ 5) (hl1 : 1 ≤ ls) (hl : ls ≤ 6) (hw : w ≤ 2) : ∃ v : Int32, J g (d + 6) 0 0 mX2_would 0 (lv_args 0 [.ref 1, .int (nI mo), .int (nI ls), .int (nI w)]) [] h (RH v (PI σ T)) := by
  obtain ⟨⟨π, hG⟩, h3, hT, hs⟩ := id I
  obtain ⟨v, hv⟩ := k_would (g := g) (d := d) hG hm1 hm hl1 hl hw
  exact ⟨v, same_of I hv⟩
theorem i_best0N (I : LI h σ T) (e : bestS σ.1 (gro σ.1) σ.2.1.2.2 = none) : J g (d + 5) 0 0 mX2_best 0 (lv_args 0 [.ref 1, .int (nI 0)]) [] h (RI (-1) h) := by
  obtain ⟨⟨π, hG⟩, h3, hT, hs⟩ := I
  exact k_best0N hG e
theorem i_best1N (I : LI h σ T) (e : bestS σ.1 (gro σ.1) σ.2.1.2.2 = none) : J g (d + 5) 0 0 mX2_best 0 (lv_args 0 [.ref 1, .int (nI 1)]) [] h (RI (-1) h) := by
  obtain ⟨⟨π, hG⟩, h3, hT, hs⟩ := I
  exact k_best1N hG e
theorem i_best0S (I : LI h σ T) {c : Nat} (e : bestS σ.1 (gro σ.1) σ.2.1.2.2 = some c) : J g (d + 5) 0 0 mX2_best 0 (lv_args 0 [.ref 1, .int (nI 0)]) [] h (RI (nI (c / 51)) h) := by
  obtain ⟨⟨π, hG⟩, h3, hT, hs⟩ := I
  exact k_best0S hG e
theorem i_best1S (I : LI h σ T) {c : Nat} (e : bestS σ.1 (gro σ.1) σ.2.1.2.2 = some c) : J g (d + 5) 0 0 mX2_best 0 (lv_args 0 [.ref 1, .int (nI 1)]) [] h (RI (nI (c % 51)) h) := by
  obtain ⟨⟨π, hG⟩, h3, hT, hs⟩ := I
  exact k_best1S hG e
theorem i_gain0 (I : LI h σ T) {m x : Nat} (hm : m < 3) (hx : x ≤ 50) : J g (d + 4) 0 0 mX2_gain 0 (lv_args 0 [.ref 1, .int (nI m), .int (nI x), .int (nI 0)]) [] h (RI (nI (gnS σ.1 m x 0)) h) := by
  obtain ⟨⟨π, hG⟩, h3, hT, hs⟩ := I
  exact c_gain0 hG hm hx
theorem i_gain1 (I : LI h σ T) {m x : Nat} (hm : m < 3) (hx : x ≤ 50) : J g (d + 4) 0 0 mX2_gain 0 (lv_args 0 [.ref 1, .int (nI m), .int (nI x), .int (nI 1)]) [] h (RI (nI (gnS σ.1 m x 1)) h) := by
  obtain ⟨⟨π, hG⟩, h3, hT, hs⟩ := I
  exact c_gain1 hG hm hx
theorem i_count0 (I : LI h σ T) : J g (d + 4) 0 0 mX2_count 0 (lv_args 0 [.ref 1, .int (nI 0)]) [] h (RI (nI σ.1.1) h) := by
  obtain ⟨⟨π, hG⟩, h3, hT, hs⟩ := I
  exact k_count0 hG
theorem i_count1 (I : LI h σ T) : J g (d + 4) 0 0 mX2_count 0 (lv_args 0 [.ref 1, .int (nI 1)]) [] h (RI (nI (cnt σ.1.2.1)) h) := by
  obtain ⟨⟨π, hG⟩, h3, hT, hs⟩ := I
  exact k_count1 hG
theorem i_count2 (I : LI h σ T) : J g (d + 4) 0 0 mX2_count 0 (lv_args 0 [.ref 1, .int (nI 2)]) [] h (RI (nI T) h) := by
  obtain ⟨⟨π, hG⟩, h3, hT, hs⟩ := I
  have r := k_count2 (g := g) (d := d) hG
  rw [hT] at r
  exact r
theorem i_count5 (I : LI h σ T) : J g (d + 4) 0 0 mX2_count 0 (lv_args 0 [.ref 1, .int (nI 5)]) [] h (RI (nI σ.2.1.2.1) h) := by
  obtain ⟨⟨π, hG⟩, h3, hT, hs⟩ := I
  exact k_count5 hG
theorem i_count6 (I : LI h σ T) : J g (d + 4) 0 0 mX2_count 0 (lv_args 0 [.ref 1, .int (nI 6)]) [] h (RI (nI σ.2.1.2.2) h) := by
  obtain ⟨⟨π, hG⟩, h3, hT, hs⟩ := I
  exact k_count6 hG
theorem i_about0 (I : LI h σ T) {j : Nat} (hj : j < T) : J g (d + 3) 0 0 mX2_about 0 (lv_args 0 [.ref 1, .int (nI j), .int (nI 0)]) [] h (RH (nI (nN 5 (σ.2.2.1 j))) (PI σ T)) := by
  obtain ⟨⟨π, hG⟩, h3, hT, hs⟩ := id I
  exact same_of I (k_about0 hG (by omega))
theorem i_about1 (I : LI h σ T) {j : Nat} (hj : j < T) : J g (d + 3) 0 0 mX2_about 0 (lv_args 0 [.ref 1, .int (nI j), .int (nI 1)]) [] h (RH (nI (lvT 5 (σ.2.2.1 j))) (PI σ T)) := by
  obtain ⟨⟨π, hG⟩, h3, hT, hs⟩ := id I
  exact same_of I (k_about1 hG (by omega))
theorem i_about2 (I : LI h σ T) {j : Nat} (hj : j < T) : J g (d + 3) 0 0 mX2_about 0 (lv_args 0 [.ref 1, .int (nI j), .int (nI 2)]) [] h (RH (nI (dpT 5 (σ.2.2.1 j))) (PI σ T)) := by
  obtain ⟨⟨π, hG⟩, h3, hT, hs⟩ := id I
  exact same_of I (k_about2 hG (by omega))
theorem i_about3 (I : LI h σ T) {j : Nat} (hj : j < T) : J g (d + 3) 0 0 mX2_about 0 (lv_args 0 [.ref 1, .int (nI j), .int (nI 3)]) [] h (RH (nI (rgT σ.1 5 (σ.2.2.1 j) (gro σ.1))) (PI σ T)) := by
  obtain ⟨⟨π, hG⟩, h3, hT, hs⟩ := id I
  exact same_of I (k_about3 hG (by omega))
theorem i_about4 (I : LI h σ T) {j : Nat} (hj : j < T) : J g (d + 3) 0 0 mX2_about 0 (lv_args 0 [.ref 1, .int (nI j), .int (nI 4)]) [] h (RH (nI (rgT σ.1 5 (σ.2.2.1 j) σ.1.2.1)) (PI σ T)) := by
  obtain ⟨⟨π, hG⟩, h3, hT, hs⟩ := id I
  exact same_of I (k_about4 hG (by omega))
theorem i_told3 (I : LI h σ T) {k : Nat} (hk : k < σ.1.1) : J g (d + 2) 0 0 mX2_told 0 (lv_args 0 [.ref 1, .int (nI k), .int (nI 3)]) [] h (RI (nI (σ.1.2.2.2 k)) h) := by
  obtain ⟨⟨π, hG⟩, h3, hT, hs⟩ := I
  exact k_told3 hG hk
theorem i_told4T (I : LI h σ T) {k : Nat} (hk : k < σ.1.1) (e : σ.1.2.1.testBit k = true) : J g (d + 2) 0 0 mX2_told 0 (lv_args 0 [.ref 1, .int (nI k), .int (nI 4)]) [] h (RI (nI 1) h) := by
  obtain ⟨⟨π, hG⟩, h3, hT, hs⟩ := I
  have r := k_told4 (g := g) (d := d) hG hk
  rw [if_pos e] at r
  exact r
theorem i_told4F (I : LI h σ T) {k : Nat} (hk : k < σ.1.1) (e : σ.1.2.1.testBit k = false) : J g (d + 2) 0 0 mX2_told 0 (lv_args 0 [.ref 1, .int (nI k), .int (nI 4)]) [] h (RI (nI 0) h) := by
  obtain ⟨⟨π, hG⟩, h3, hT, hs⟩ := I
  have r := k_told4 (g := g) (d := d) hG hk
  rw [if_neg (by rw [e]; decide)] at r
  exact r
theorem i_node2 (I : LI h σ T) {j p : Nat} (hj : j < T) (hp : p < nN 5 (σ.2.2.1 j)) : J g (d + 2) 0 0 mX2_node 0 (lv_args 0 [.ref 1, .int (nI j), .int (nI p), .int (nI 2)]) [] h (RI (nI (rowT 5 0 (σ.2.2.1 j) p).2.1) h) := by
  obtain ⟨⟨π, hG⟩, h3, hT, hs⟩ := I
  exact k_node2 hG (by omega) hp
theorem i_node3 (I : LI h σ T) {j p : Nat} (hj : j < T) (hp : p < nN 5 (σ.2.2.1 j)) : J g (d + 2) 0 0 mX2_node 0 (lv_args 0 [.ref 1, .int (nI j), .int (nI p), .int (nI 3)]) [] h (RI (nI (rowT 5 0 (σ.2.2.1 j) p).2.2.1) h) := by
  obtain ⟨⟨π, hG⟩, h3, hT, hs⟩ := I
  exact k_node3 hG (by omega) hp
theorem i_node4 (I : LI h σ T) {j p : Nat} (hj : j < T) (hp : p < nN 5 (σ.2.2.1 j)) : J g (d + 2) 0 0 mX2_node 0 (lv_args 0 [.ref 1, .int (nI j), .int (nI p), .int (nI 4)]) [] h (RI (nI (rowT 5 0 (σ.2.2.1 j) p).2.2.2) h) := by
  obtain ⟨⟨π, hG⟩, h3, hT, hs⟩ := I
  exact k_node4 hG (by omega) hp
theorem i_node0L (I : LI h σ T) {j p : Nat} (hj : j < T) (hp : p < nN 5 (σ.2.2.1 j)) (e : (rowT 5 0 (σ.2.2.1 j) p).1 = none) : J g (d + 2) 0 0 mX2_node 0 (lv_args 0 [.ref 1, .int (nI j), .int (nI p), .int (nI 0)]) [] h (RI (-1) h) := by
  obtain ⟨⟨π, hG⟩, h3, hT, hs⟩ := I
  exact k_node0L hG (by omega) hp e
theorem i_node5L (I : LI h σ T) {j p : Nat} (hj : j < T) (hp : p < nN 5 (σ.2.2.1 j)) (e : (rowT 5 0 (σ.2.2.1 j) p).1 = none) : J g (d + 2) 0 0 mX2_node 0 (lv_args 0 [.ref 1, .int (nI j), .int (nI p), .int (nI 5)]) [] h (RI (-1) h) := by
  obtain ⟨⟨π, hG⟩, h3, hT, hs⟩ := I
  exact k_node5L hG (by omega) hp e
theorem i_node6L (I : LI h σ T) {j p : Nat} (hj : j < T) (hp : p < nN 5 (σ.2.2.1 j)) (e : hiT 5 (σ.2.2.1 j) p = none) : J g (d + 2) 0 0 mX2_node 0 (lv_args 0 [.ref 1, .int (nI j), .int (nI p), .int (nI 6)]) [] h (RI (-1) h) := by
  obtain ⟨⟨π, hG⟩, h3, hT, hs⟩ := I
  exact k_node6L hG (by omega) hp e
theorem i_node0F (I : LI h σ T) {j p c : Nat} (hj : j < T) (hp : p < nN 5 (σ.2.2.1 j)) (e : (rowT 5 0 (σ.2.2.1 j) p).1 = some c) : J g (d + 2) 0 0 mX2_node 0 (lv_args 0 [.ref 1, .int (nI j), .int (nI p), .int (nI 0)]) [] h (RI (nI (c / 51)) h) := by
  obtain ⟨⟨π, hG⟩, h3, hT, hs⟩ := I
  exact k_node0F hG (by omega) hp e
theorem i_node5F (I : LI h σ T) {j p c : Nat} (hj : j < T) (hp : p < nN 5 (σ.2.2.1 j)) (e : (rowT 5 0 (σ.2.2.1 j) p).1 = some c) : J g (d + 2) 0 0 mX2_node 0 (lv_args 0 [.ref 1, .int (nI j), .int (nI p), .int (nI 5)]) [] h (RI (nI (p + 1)) h) := by
  obtain ⟨⟨π, hG⟩, h3, hT, hs⟩ := I
  exact k_node5F hG (by omega) hp e
theorem i_node6F (I : LI h σ T) {j p z : Nat} (hj : j < T) (hp : p < nN 5 (σ.2.2.1 j)) (e : hiT 5 (σ.2.2.1 j) p = some z) : J g (d + 2) 0 0 mX2_node 0 (lv_args 0 [.ref 1, .int (nI j), .int (nI p), .int (nI 6)]) [] h (RI (nI z) h) := by
  obtain ⟨⟨π, hG⟩, h3, hT, hs⟩ := I
  exact k_node6F hG (by omega) hp e
theorem i_mean (I : LI h σ T) : J g (d + 1) 0 0 mX2_mean 0 (lv_args 0 [.ref 1]) [] h (RG (.double (mnS σ)) (PI σ T)) := by
  obtain ⟨⟨π, hG⟩, h3, hT, hs⟩ := id I
  refine J_mono ?_ (c_mean hG)
  rintro r h' ⟨r1, rfl⟩
  exact ⟨r1, I⟩
theorem i_checkF (I : LI h σ T) {k : Nat} (hk : k < σ.1.1) : J g (d + 2) 0 0 mX2_check 0 (lv_args 0 [.ref 1, .int (nI k), .int (nI 0)]) [] h (RH (bI (σ.1.2.1.testBit k)) (fun h' => ∃ σ', LI h' σ' T)) := by
  obtain ⟨⟨π, hG⟩, h3, hT, hs⟩ := I
  refine J_mono ?_ (k_checkF hG hk)
  rintro r h' ⟨r1, r2, r3⟩
  exact ⟨r1, _, ⟨π, r3⟩, h3, hT, hs⟩
theorem i_checkU (I : LI h σ T) {k : Nat} (hk : k < σ.1.1) : J g (d + 2) 0 0 mX2_check 0 (lv_args 0 [.ref 1, .int (nI k), .int (nI 1)]) [] h (RH (bI (σ.1.2.1.testBit k)) (fun h' => ∃ σ', LI h' σ' T)) := by
  obtain ⟨⟨π, hG⟩, h3, hT, hs⟩ := I
  refine J_mono ?_ (k_checkU hG hk)
  rintro r h' ⟨r1, r2, r3⟩
  exact ⟨r1, _, ⟨π, r3⟩, h3, hT, hs⟩
theorem i_prune (I : LI h σ T) {j : Nat} (hj : j < T) : J g (d + 3) 0 0 mX2_prune 0 (lv_args 0 [.ref 1, .int (nI j)]) [] h (RH (nI (tuP σ.1 5 (σ.2.2.1 j) σ.1.2.1)) (fun h' => ∃ σ', LI h' σ' T ∧ σ'.1 = σ.1 ∧ σ'.2.2.1 j = prT σ.1 5 (σ.2.2.1 j) σ.1.2.1)) := by
  obtain ⟨⟨π, hG⟩, h3, hT, hs⟩ := I
  refine J_mono ?_ (c_prune hG (by omega))
  rintro r h' ⟨r1, r2, r3⟩
  refine ⟨r1, _, ⟨⟨π, r3⟩, h3, hT, fun i hi => ?_⟩, rfl, va_up_self _ _ _⟩
  show smT 5 (va_up σ.2.2.1 j (prT σ.1 5 (σ.2.2.1 j) σ.1.2.1) i)
  by_cases e : i = j
  · subst e
    rw [va_up_self]
    exact smT_pr σ.1 5 _ _ (hs i hi)
  · rw [va_up_ne _ _ e]
    exact hs i hi
theorem i_fell (I : LI h σ T) {j : Nat} (hj : j < T) : J g (d + 1) 0 0 mX2_fell 0 (lv_args 0 [.ref 1, .int (nI j)]) [] h (RH (nI (T - 1)) (fun h' => ∃ σ', LI h' σ' (T - 1))) := by
  obtain ⟨⟨π, hG⟩, h3, hT, hs⟩ := I
  have r := c_fell (g := g) (d := d) hG (j := j) (by omega)
  rw [hT] at r
  refine J_mono ?_ r
  rintro r h' ⟨r1, r2, r3⟩
  refine ⟨r1, _, ⟨⟨_, r3⟩, h3, rfl, fun i hi => ?_⟩⟩
  show smT 5 (shl σ.2.2.1 j i)
  unfold shl
  split
  · exact hs i (by omega)
  · exact hs (i + 1) (by omega)
theorem i_plant (I : LI h σ T) (hk5 : T < 5) (hg0 : gro σ.1 ≠ 0) : J g (d + 6) 0 0 mX2_plant 0 (lv_args 0 [.ref 1, .int (nI 1), .int (-1)]) [] h (RH (nI T) (fun h' => ∃ σ', LI h' σ' (T + 1) ∧ σ'.1 = σ.1 ∧ ∃ le m, σ'.2.1.2.1 = m ∧ σ'.2.2.1 T = grT σ.1 le 5 m (gro σ.1))) := by
  obtain ⟨⟨π, hG⟩, h3, hT, hs⟩ := I
  have r := k_plant (g := g) (d := d) hG (by omega) hg0
  rw [hT] at r
  refine J_mono ?_ r
  rintro r h' ⟨r1, r2, r3⟩
  refine ⟨r1, _, ⟨⟨π, r3⟩, h3, rfl, fun i hi => ?_⟩, rfl, σ.2.1.2.2, σ.2.1.2.1, rfl, va_up_self _ _ _⟩
  show smT 5 (va_up σ.2.2.1 T (grT σ.1 σ.2.1.2.2 5 σ.2.1.2.1 (gro σ.1)) i)
  by_cases e : i = T
  · subst e
    rw [va_up_self]
    exact smT_gr _ _ _ _ _
  · rw [va_up_ne _ _ e]
    exact hs i (by omega)
end
theorem tu_two (β : BT) : ∀ (d : Nat) (t : TR d) (X : Nat), 2 * tuP β d t X + 1 ≤ nN d t
  | 0, t, X => Nat.le_refl _
  | d + 1, t, X => by
    rcases TR_c t with ⟨s, m, rfl⟩ | ⟨s, m, c, l, r, rfl⟩
    · exact Nat.le_refl _
    · have h1 := tu_two β d l (X &&& mkC β c)
      have h2 := tu_two β d r (sdf X (X &&& mkC β c))
      rw [tuP, nN_f]
      split <;> omega
theorem nI_gt0 {n : Nat} (h0 : 0 < n) (h : n < 2 ^ 31) : 0 < nI n := (nI_ltI (a := 0) (by decide) h).mpr h0
/-- the mean as the law reckons it -/
theorem mn_z {σ : ST} (h : σ.2.1.1 = 0) : Op.cmpValue (FP.dcmp (mnS σ) FP.dconst0) .l = 0 := by
  unfold mnS
  rw [if_pos h]
  exact dc_0
theorem mn_p {σ : ST} {S : Nat} (h : σ.2.1.1 ≠ 0) (h5 : σ.2.1.1 < 6) (hS : S = sumP (fun i => nN 5 (σ.2.2.1 i)) σ.2.1.1 0) (hb : S < 196) : Op.cmpValue (FP.dcmp (mnS σ) (FP.ddiv (FP.i2d (nI S)) (FP.i2d (nI σ.2.1.1)))) .l = 0 := by
  unfold mnS
  rw [if_neg h, ← hS]
  exact dc_ok S hb _ h5 (Nat.pos_of_ne_zero h)
