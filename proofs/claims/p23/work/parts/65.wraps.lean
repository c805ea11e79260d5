-- the law's wrappers: calls of methods with a table; what they answer
section
variable {g : GT} {d ca sa : Nat} {M : MT} {pc : Nat} {lv : List (Nat × Value)} {st : List Value} {h : MH} {Q : RT → MH → Prop}
end
theorem TT_oth {h h' : MH} {t : Nat} {tr : TR 5} {pa le : Int32} (k : ∀ i, t ≤ i → i ≤ t + 6 → h'.2 i = h.2 i) (hT : TT h t tr pa le) : TT h' t tr pa le := by
  obtain ⟨cf, sf, gf, df, mf, rf, ⟨k0, k1, k2, k3, k4, k5, k6⟩, hK⟩ := hT
  exact ⟨cf, sf, gf, df, mf, rf, ⟨(k _ (by omega) (by omega)).trans k0, (k _ (by omega) (by omega)).trans k1, (k _ (by omega) (by omega)).trans k2, (k _ (by omega) (by omega)).trans k3, (k _ (by omega) (by omega)).trans k4, (k _ (by omega) (by omega)).trans k5, (k _ (by omega) (by omega)).trans k6⟩, hK⟩
theorem GH_oth {h h' : MH} {σ : ST} (k : ∀ i, 1 ≤ i → i ≤ 52 → h'.2 i = h.2 i) (hG : GH h σ) : GH h' σ := by
  obtain ⟨π, g1, g2, g3, g4, ⟨f, g5, g5b⟩, g6, g7, g8⟩ := hG
  refine ⟨π, BH_oth (fun i i1 i2 => k i (by omega) (by omega)) g1, g2, g3, (k _ (by omega) (by omega)).trans g4, ⟨f, (k _ (by omega) (by omega)).trans g5, g5b⟩, TA_oth (fun i i1 i2 => k i (by omega) (by omega)) g6, fun i hi => ?_, fun i hi => ?_⟩
  · have := SL_ge g3 hi
    exact TA_oth (fun j j1 j2 => k j (by omega) (by omega)) (g7 i hi)
  · have h5 := g2.1
    have := SL_ge g3 (show i < 5 by omega)
    exact TT_oth (fun j j1 j2 => k j (by omega) (by omega)) (g8 i hi)
theorem GH_1 {h : MH} {σ : ST} (hG : GH h σ) : ∃ fs, h.2 1 = some (.inr (2, fs)) := by
  obtain ⟨π, g1, g2, g3, g4, _⟩ := hG
  exact ⟨_, g4⟩
