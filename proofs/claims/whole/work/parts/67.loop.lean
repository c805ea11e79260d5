-- the law's loop
abbrev mL_law : MT := (yL_law, cL_law, 9, some .boolean, [])
abbrev QL : RT → MH → Prop := fun r _ => r = .inl (some (.int 1))
def LSt (h : MH) (σ : ST) : Prop := GH h σ ∧ (∃ th, MQs h σ th) ∧ ∃ f, h.2 59 = some (aJ 1 f)
theorem MQ_oth {h h' : MH} {σ : ST} {th : Int32} (k : ∀ i, 53 ≤ i → i ≠ 59 → h'.2 i = h.2 i) (k1 : h.1 ≤ h'.1) (hq : MQs h σ th) : MQs h' σ th := by
  obtain ⟨ρ, a1, a2, a3, a4, ⟨mf, a5, a5b⟩, ⟨sf, a6, a6b⟩, ⟨rf, a7, a7b⟩, ⟨pf, a8, a8b⟩, ⟨lf, a9, a9b⟩, a10, a11⟩ := hq
  refine ⟨ρ, a1, a2, by omega, (k _ (by omega) (by omega)).trans a4, ⟨mf, (k _ (by omega) (by omega)).trans a5, a5b⟩, ⟨sf, (k _ (by omega) (by omega)).trans a6, a6b⟩, ⟨rf, (k _ (by omega) (by omega)).trans a7, a7b⟩, ⟨pf, (k _ (by omega) (by omega)).trans a8, a8b⟩, ⟨lf, (k _ (by omega) (by omega)).trans a9, a9b⟩, fun i hi => ?_, a11⟩
  obtain ⟨b1, b2, f, b3, b4⟩ := a10 i hi
  exact ⟨b1, by omega, f, (k _ (by omega) (by omega)).trans b3, b4⟩
theorem MQ_53 {h : MH} {σ : ST} {th : Int32} (hq : MQs h σ th) : ∃ fs, h.2 53 = some (.inr (3, fs)) := by
  obtain ⟨ρ, a1, a2, a3, a4, _⟩ := hq
  exact ⟨_, a4⟩
theorem MQ_W {h : MH} {σ : ST} {th : Int32} (hq : MQs h σ th) : WF σ.1 ∧ okS σ := by
  obtain ⟨ρ, a1, a2, _⟩ := hq
  exact ⟨a1, a2⟩
theorem GH_FM {h h' : MH} {σ : ST} (k : FM h h') (hG : GH h σ) : GH h' σ := GH_oth (fun i i1 i2 => k.2 i (by omega)) hG
theorem m_thrownQ {g : GT} {d : Nat} {h : MH} {σ : ST} {th : Int32} (hq : MQs h σ th) : J g d 0 0 mX3_thrown 0 (lv_args 0 [.ref 53]) [] h (RI th h) := by
  obtain ⟨ρ, hP⟩ := hq
  exact m_thrown hP
theorem lg_self (a : Int64) : lg_cmp a a = 0 := by
  unfold lg_cmp
  simp
theorem lt_L {L i : Nat} (hL : L ≤ 2560) (hi : i ≤ 2560) : nI L - nI 5 < nI i ↔ L < i + 5 := by
  rw [Int32.lt_iff_toInt_lt, pk_sub_toInt (by omega) (by omega), nI_toInt (by omega)]
  omega

set_option maxHeartbeats 2000000 in
set_option maxRecDepth 20000 in
theorem op_bean {g : GT} {d ca2 sa2 i : Nat} {σ : ST} {h : MH} (hL : g_L g ≤ 2560) (hi : i + 5 ≤ g_L g) (hS : LSt h σ) (hn : ∀ σ' h', LSt h' σ' → J g (d + 62) ca2 sa2 mL_law 1403 [(4, .int (nI (i))), (0, .ref (0)), (1, .ref (1)), (2, .ref (53)), (3, .ref (59))] [] h' QL) : J g (d + 62) (ca2 + 1111) (sa2 + 7006) mL_law 132 [(4, .int (nI (i))), (0, .ref (0)), (1, .ref (1)), (2, .ref (53)), (3, .ref (59))] [] h QL := by
  obtain ⟨hG, ⟨th, hq⟩, f, c59⟩ := hS
  obtain ⟨hW, ok⟩ := MQ_W hq
  obtain ⟨k, x, y, σ', hk, hσ, hxy, hc, hm⟩ := pair_bean (g := g) hW ok (g_x g (i + 1)) (g_x g (i + 2)) (g_x g (i + 3)) (g_x g (i + 4))
  refine J_aload_n (i := 1) (pc := 132) dL_law_132 rfl rfl ?_
  refine J_aload_n (i := 0) (pc := 133) dL_law_133 rfl rfl ?_
  refine J_iload (i := 4) (pc := 134) dL_law_134 rfl ?_
  refine J_iconst (v := nI (1)) (pc := 136) dL_law_136 rfl ?_
  refine J_iaddN (pc := 137) dL_law_137 ?_
  refine J_sld (j := i + 1) (pc := 138) dL_law_138 rfl (fun _ => by omega) ?_
  refine J_aload_n (i := 0) (pc := 139) dL_law_139 rfl rfl ?_
  refine J_iload (i := 4) (pc := 140) dL_law_140 rfl ?_
  refine J_iconst (v := nI (2)) (pc := 142) dL_law_142 rfl ?_
  refine J_iaddN (pc := 143) dL_law_143 ?_
  refine J_sld (j := i + 2) (pc := 144) dL_law_144 rfl (fun _ => by omega) ?_
  refine J_aload_n (i := 0) (pc := 145) dL_law_145 rfl rfl ?_
  refine J_iload (i := 4) (pc := 146) dL_law_146 rfl ?_
  refine J_iconst (v := nI (3)) (pc := 148) dL_law_148 rfl ?_
  refine J_iaddN (pc := 149) dL_law_149 ?_
  refine J_sld (j := i + 3) (pc := 150) dL_law_150 rfl (fun _ => by omega) ?_
  refine J_aload_n (i := 0) (pc := 151) dL_law_151 rfl rfl ?_
  refine J_iload (i := 4) (pc := 152) dL_law_152 rfl ?_
  refine J_iconst (v := nI (4)) (pc := 154) dL_law_154 rfl ?_
  refine J_iaddN (pc := 155) dL_law_155 ?_
  refine J_sld (j := i + 4) (pc := 156) dL_law_156 rfl (fun _ => by omega) ?_
  refine J_aload_n (i := 3) (pc := 157) dL_law_157 rfl rfl ?_
  have hqσ := hq
  refine J_callSW (st := []) (As := [.ref (1), .int (g_x g (i + 1)), .int (g_x g (i + 2)), .int (g_x g (i + 3)), .int (g_x g (i + 4)), .ref (59)]) (v := some (.int (nI (k)))) (ca1 := 1) (sa1 := 6) (ca2 := ca2 + 1110) (sa2 := sa2 + 7000) (pc := 158) dL_law_158 okwL_bean q2_144 q2_145 rfl (Nat.le_of_ble_eq_true rfl) (Nat.le_of_ble_eq_true rfl) (w_bean (d := d + 60) (hc d h hG) hG c59 (fun q => by rw [hσ q]; exact hG)) (by omega) (by omega) (fun h_1 q_2 => ?_)
  obtain ⟨z9, u9, gh9, f9, c9, fx⟩ := q_2
  have hq9 := MQ_oth u9 z9 hqσ
  obtain ⟨fs9, r53⟩ := MQ_53 hq9
  refine J_istore (i := 5) (lv' := [(5, .int (nI (k))), (4, .int (nI (i))), (0, .ref (0)), (1, .ref (1)), (2, .ref (53)), (3, .ref (59))]) (pc := 161) dL_law_161 (by decide) rfl ?_
  refine J_aload_n (i := 2) (pc := 163) dL_law_163 rfl rfl ?_
  refine J_aload_n (i := 0) (pc := 164) dL_law_164 rfl rfl ?_
  refine J_iload (i := 4) (pc := 165) dL_law_165 rfl ?_
  refine J_iconst (v := nI (1)) (pc := 167) dL_law_167 rfl ?_
  refine J_iaddN (pc := 168) dL_law_168 ?_
  refine J_sld (j := i + 1) (pc := 169) dL_law_169 rfl (fun _ => by omega) ?_
  refine J_aload_n (i := 0) (pc := 170) dL_law_170 rfl rfl ?_
  refine J_iload (i := 4) (pc := 171) dL_law_171 rfl ?_
  refine J_iconst (v := nI (2)) (pc := 173) dL_law_173 rfl ?_
  refine J_iaddN (pc := 174) dL_law_174 ?_
  refine J_sld (j := i + 2) (pc := 175) dL_law_175 rfl (fun _ => by omega) ?_
  refine J_aload_n (i := 0) (pc := 176) dL_law_176 rfl rfl ?_
  refine J_iload (i := 4) (pc := 177) dL_law_177 rfl ?_
  refine J_iconst (v := nI (3)) (pc := 179) dL_law_179 rfl ?_
  refine J_iaddN (pc := 180) dL_law_180 ?_
  refine J_sld (j := i + 3) (pc := 181) dL_law_181 rfl (fun _ => by omega) ?_
  refine J_aload_n (i := 0) (pc := 182) dL_law_182 rfl rfl ?_
  refine J_iload (i := 4) (pc := 183) dL_law_183 rfl ?_
  refine J_iconst (v := nI (4)) (pc := 185) dL_law_185 rfl ?_
  refine J_iaddN (pc := 186) dL_law_186 ?_
  refine J_sld (j := i + 4) (pc := 187) dL_law_187 rfl (fun _ => by omega) ?_
  refine J_cVB (st := []) (As := [.int (g_x g (i + 1)), .int (g_x g (i + 2)), .int (g_x g (i + 3)), .int (g_x g (i + 4))]) (v := some (.int (y))) (ca1 := 1110) (sa1 := 7000) (ca2 := ca2) (sa2 := sa2) (pc := 188) dL_law_188 okX3_bean q3_159 q3_160 q3_161 (rfl : vwCl[3]? = some _) r53 rfl (Nat.le_of_ble_eq_true rfl) (Nat.le_of_ble_eq_true rfl) (hm (d + 1) _ th hq9) (by omega) (by omega) (fun h_3 q_4 => ?_)
  obtain ⟨fm8, hq8⟩ := q_4
  have c8 := (fm8.2 59 (Or.inr rfl)).trans c9
  obtain ⟨fs8, r58⟩ := MQ_53 hq8
  refine J_istore (i := 6) (lv' := [(6, .int (y)), (5, .int (nI (k))), (4, .int (nI (i))), (0, .ref (0)), (1, .ref (1)), (2, .ref (53)), (3, .ref (59))]) (pc := 191) dL_law_191 (by decide) rfl ?_
  refine J_aload_n (i := 2) (pc := 193) dL_law_193 rfl rfl ?_
  refine J_cVi (st := []) (As := []) (pc := 194) dL_law_194 okX3_thrown q3_155 q3_156 q3_157 (rfl : vwCl[3]? = some _) r58 rfl (Nat.le_of_ble_eq_true rfl) (Nat.le_of_ble_eq_true rfl) (m_thrownQ hq8) ?_
  refine J_iload (i := 5) (pc := 197) dL_law_197 rfl ?_
  refine J_icmp_eqN (tgt := 204) (pc := 199) dL_law_199 (by decide) (by omega) (by omega) (fun c199 => ?_) (fun c199 => by exfalso; first | omega | simp_all)
  refine J_iload (i := 5) (pc := 204) dL_law_204 rfl ?_
  refine J_if_neN (tgt := 221) (pc := 206) dL_law_206 (by decide) (by omega) (fun c206 => ?_) (fun c206 => ?_)
  · skip
    refine J_goto (tgt := 1403) (pc := 221) dL_law_221 (by decide) ?_
    refine J_sub (lv' := [(4, .int (nI (i))), (0, .ref (0)), (1, .ref (1)), (2, .ref (53)), (3, .ref (59))]) [2, 3, 4, 5, 6] rfl ?_
    exact hn σ' h_3 ⟨GH_FM fm8 gh9, ⟨_, hq8⟩, f9, c8⟩
  · skip
    refine J_aload_n (i := 3) (pc := 209) dL_law_209 rfl rfl ?_
    refine J_iconst (v := nI (0)) (pc := 210) dL_law_210 rfl ?_
    refine J_lald (j := 0) (pc := 211) dL_law_211 c8 rfl (by omega) (by omega) ?_
    rw [show f9 0 = x.toInt64 from fx c206]
    refine J_iload (i := 6) (pc := 212) dL_law_212 rfl ?_
    refine J_i2l (pc := 214) dL_law_214 ?_
    refine J_lcmp (pc := 215) dL_law_215 ?_
    refine J_if_eq (tgt := 221) (pc := 216) dL_law_216 (by decide) (fun c216 => ?_) (fun c216 => absurd c216 (fun q => q (by rw [hxy c206]; exact lg_self _)))
    refine J_goto (tgt := 1403) (pc := 221) dL_law_221 (by decide) ?_
    refine J_sub (lv' := [(4, .int (nI (i))), (0, .ref (0)), (1, .ref (1)), (2, .ref (53)), (3, .ref (59))]) [2, 3, 4, 5, 6] rfl ?_
    exact hn σ' h_3 ⟨GH_FM fm8 gh9, ⟨_, hq8⟩, f9, c8⟩

set_option maxHeartbeats 2000000 in
set_option maxRecDepth 20000 in
theorem op_setSort {g : GT} {d ca2 sa2 i : Nat} {σ : ST} {h : MH} (hL : g_L g ≤ 2560) (hi : i + 5 ≤ g_L g) (hS : LSt h σ) (hn : ∀ σ' h', LSt h' σ' → J g (d + 62) ca2 sa2 mL_law 1403 [(4, .int (nI (i))), (0, .ref (0)), (1, .ref (1)), (2, .ref (53)), (3, .ref (59))] [] h' QL) : J g (d + 62) (ca2 + 1111) (sa2 + 7006) mL_law 224 [(4, .int (nI (i))), (0, .ref (0)), (1, .ref (1)), (2, .ref (53)), (3, .ref (59))] [] h QL := by
  obtain ⟨hG, ⟨th, hq⟩, f, c59⟩ := hS
  obtain ⟨hW, ok⟩ := MQ_W hq
  obtain ⟨k, x, y, σ', hk, hσ, hxy, hc, hm⟩ := pair_setSort (g := g) hW ok (g_x g (i + 1)) (g_x g (i + 2))
  refine J_aload_n (i := 1) (pc := 224) dL_law_224 rfl rfl ?_
  refine J_aload_n (i := 0) (pc := 225) dL_law_225 rfl rfl ?_
  refine J_iload (i := 4) (pc := 226) dL_law_226 rfl ?_
  refine J_iconst (v := nI (1)) (pc := 228) dL_law_228 rfl ?_
  refine J_iaddN (pc := 229) dL_law_229 ?_
  refine J_sld (j := i + 1) (pc := 230) dL_law_230 rfl (fun _ => by omega) ?_
  refine J_aload_n (i := 0) (pc := 231) dL_law_231 rfl rfl ?_
  refine J_iload (i := 4) (pc := 232) dL_law_232 rfl ?_
  refine J_iconst (v := nI (2)) (pc := 234) dL_law_234 rfl ?_
  refine J_iaddN (pc := 235) dL_law_235 ?_
  refine J_sld (j := i + 2) (pc := 236) dL_law_236 rfl (fun _ => by omega) ?_
  refine J_aload_n (i := 3) (pc := 237) dL_law_237 rfl rfl ?_
  have hqσ := hq
  refine J_callSW (st := []) (As := [.ref (1), .int (g_x g (i + 1)), .int (g_x g (i + 2)), .ref (59)]) (v := some (.int (nI (k)))) (ca1 := 1) (sa1 := 6) (ca2 := ca2 + 1110) (sa2 := sa2 + 7000) (pc := 238) dL_law_238 okwL_setSort q2_203 q2_204 rfl (Nat.le_of_ble_eq_true rfl) (Nat.le_of_ble_eq_true rfl) (w_setSort (d := d + 60) (hc d h hG) hG c59 (fun q => by rw [hσ q]; exact hG)) (by omega) (by omega) (fun h_1 q_2 => ?_)
  obtain ⟨z9, u9, gh9, f9, c9, fx⟩ := q_2
  have hq9 := MQ_oth u9 z9 hqσ
  obtain ⟨fs9, r53⟩ := MQ_53 hq9
  refine J_istore (i := 5) (lv' := [(5, .int (nI (k))), (4, .int (nI (i))), (0, .ref (0)), (1, .ref (1)), (2, .ref (53)), (3, .ref (59))]) (pc := 241) dL_law_241 (by decide) rfl ?_
  refine J_aload_n (i := 2) (pc := 243) dL_law_243 rfl rfl ?_
  refine J_aload_n (i := 0) (pc := 244) dL_law_244 rfl rfl ?_
  refine J_iload (i := 4) (pc := 245) dL_law_245 rfl ?_
  refine J_iconst (v := nI (1)) (pc := 247) dL_law_247 rfl ?_
  refine J_iaddN (pc := 248) dL_law_248 ?_
  refine J_sld (j := i + 1) (pc := 249) dL_law_249 rfl (fun _ => by omega) ?_
  refine J_aload_n (i := 0) (pc := 250) dL_law_250 rfl rfl ?_
  refine J_iload (i := 4) (pc := 251) dL_law_251 rfl ?_
  refine J_iconst (v := nI (2)) (pc := 253) dL_law_253 rfl ?_
  refine J_iaddN (pc := 254) dL_law_254 ?_
  refine J_sld (j := i + 2) (pc := 255) dL_law_255 rfl (fun _ => by omega) ?_
  refine J_cVB (st := []) (As := [.int (g_x g (i + 1)), .int (g_x g (i + 2))]) (v := some (.int (y))) (ca1 := 1110) (sa1 := 7000) (ca2 := ca2) (sa2 := sa2) (pc := 256) dL_law_256 okX3_setSort q3_176 q3_177 q3_178 (rfl : vwCl[3]? = some _) r53 rfl (Nat.le_of_ble_eq_true rfl) (Nat.le_of_ble_eq_true rfl) (hm (d + 1) _ th hq9) (by omega) (by omega) (fun h_3 q_4 => ?_)
  obtain ⟨fm8, hq8⟩ := q_4
  have c8 := (fm8.2 59 (Or.inr rfl)).trans c9
  obtain ⟨fs8, r58⟩ := MQ_53 hq8
  refine J_istore (i := 6) (lv' := [(6, .int (y)), (5, .int (nI (k))), (4, .int (nI (i))), (0, .ref (0)), (1, .ref (1)), (2, .ref (53)), (3, .ref (59))]) (pc := 259) dL_law_259 (by decide) rfl ?_
  refine J_aload_n (i := 2) (pc := 261) dL_law_261 rfl rfl ?_
  refine J_cVi (st := []) (As := []) (pc := 262) dL_law_262 okX3_thrown q3_155 q3_156 q3_157 (rfl : vwCl[3]? = some _) r58 rfl (Nat.le_of_ble_eq_true rfl) (Nat.le_of_ble_eq_true rfl) (m_thrownQ hq8) ?_
  refine J_iload (i := 5) (pc := 265) dL_law_265 rfl ?_
  refine J_icmp_eqN (tgt := 272) (pc := 267) dL_law_267 (by decide) (by omega) (by omega) (fun c267 => ?_) (fun c267 => by exfalso; first | omega | simp_all)
  refine J_iload (i := 5) (pc := 272) dL_law_272 rfl ?_
  refine J_if_neN (tgt := 289) (pc := 274) dL_law_274 (by decide) (by omega) (fun c274 => ?_) (fun c274 => ?_)
  · skip
    refine J_goto (tgt := 1403) (pc := 289) dL_law_289 (by decide) ?_
    refine J_sub (lv' := [(4, .int (nI (i))), (0, .ref (0)), (1, .ref (1)), (2, .ref (53)), (3, .ref (59))]) [2, 3, 4, 5, 6] rfl ?_
    exact hn σ' h_3 ⟨GH_FM fm8 gh9, ⟨_, hq8⟩, f9, c8⟩
  · skip
    refine J_aload_n (i := 3) (pc := 277) dL_law_277 rfl rfl ?_
    refine J_iconst (v := nI (0)) (pc := 278) dL_law_278 rfl ?_
    refine J_lald (j := 0) (pc := 279) dL_law_279 c8 rfl (by omega) (by omega) ?_
    rw [show f9 0 = x.toInt64 from fx c274]
    refine J_iload (i := 6) (pc := 280) dL_law_280 rfl ?_
    refine J_i2l (pc := 282) dL_law_282 ?_
    refine J_lcmp (pc := 283) dL_law_283 ?_
    refine J_if_eq (tgt := 289) (pc := 284) dL_law_284 (by decide) (fun c284 => ?_) (fun c284 => absurd c284 (fun q => q (by rw [hxy c274]; exact lg_self _)))
    refine J_goto (tgt := 1403) (pc := 289) dL_law_289 (by decide) ?_
    refine J_sub (lv' := [(4, .int (nI (i))), (0, .ref (0)), (1, .ref (1)), (2, .ref (53)), (3, .ref (59))]) [2, 3, 4, 5, 6] rfl ?_
    exact hn σ' h_3 ⟨GH_FM fm8 gh9, ⟨_, hq8⟩, f9, c8⟩

set_option maxHeartbeats 2000000 in
set_option maxRecDepth 20000 in
theorem op_check {g : GT} {d ca2 sa2 i : Nat} {σ : ST} {h : MH} (hL : g_L g ≤ 2560) (hi : i + 5 ≤ g_L g) (hS : LSt h σ) (hn : ∀ σ' h', LSt h' σ' → J g (d + 62) ca2 sa2 mL_law 1403 [(4, .int (nI (i))), (0, .ref (0)), (1, .ref (1)), (2, .ref (53)), (3, .ref (59))] [] h' QL) : J g (d + 62) (ca2 + 1111) (sa2 + 7006) mL_law 292 [(4, .int (nI (i))), (0, .ref (0)), (1, .ref (1)), (2, .ref (53)), (3, .ref (59))] [] h QL := by
  obtain ⟨hG, ⟨th, hq⟩, f, c59⟩ := hS
  obtain ⟨hW, ok⟩ := MQ_W hq
  by_cases hv : g_x g (i + 2) = 0
  · obtain ⟨k, b, σ', hk, hσ, hc, hm⟩ := pair_check (g := g) hW (g_x g (i + 1)) false
    refine J_aload_n (i := 1) (pc := 292) dL_law_292 rfl rfl ?_
    refine J_aload_n (i := 0) (pc := 293) dL_law_293 rfl rfl ?_
    refine J_iload (i := 4) (pc := 294) dL_law_294 rfl ?_
    refine J_iconst (v := nI (1)) (pc := 296) dL_law_296 rfl ?_
    refine J_iaddN (pc := 297) dL_law_297 ?_
    refine J_sld (j := i + 1) (pc := 298) dL_law_298 rfl (fun _ => by omega) ?_
    refine J_aload_n (i := 0) (pc := 299) dL_law_299 rfl rfl ?_
    refine J_iload (i := 4) (pc := 300) dL_law_300 rfl ?_
    refine J_iconst (v := nI (2)) (pc := 302) dL_law_302 rfl ?_
    refine J_iaddN (pc := 303) dL_law_303 ?_
    refine J_sld (j := i + 2) (pc := 304) dL_law_304 rfl (fun _ => by omega) ?_
    refine J_if_eq (tgt := 312) (pc := 305) dL_law_305 (by decide) (fun c305 => ?_) (fun c305 => absurd c305 (fun q => q hv))
    refine J_iconst (v := nI (0)) (pc := 312) dL_law_312 rfl ?_
    refine J_aload_n (i := 3) (pc := 313) dL_law_313 rfl rfl ?_
    have hqσ := hq
    refine J_callSW (st := []) (As := [.ref (1), .int (g_x g (i + 1)), .int (nI (0)), .ref (59)]) (v := some (.int (nI (k)))) (ca1 := 1) (sa1 := 6) (ca2 := ca2 + 1110) (sa2 := sa2 + 7000) (pc := 314) dL_law_314 okwL_check q2_215 q2_216 rfl (Nat.le_of_ble_eq_true rfl) (Nat.le_of_ble_eq_true rfl) (w_check (d := d + 60) (hc d h hG) hG c59 (by omega) (fun q => by rw [hσ q]; exact hG)) (by omega) (by omega) (fun h_1 q_2 => ?_)
    obtain ⟨z9, u9, gh9, f9, c9, fx⟩ := q_2
    have hq9 := MQ_oth u9 z9 hqσ
    obtain ⟨fs9, r53⟩ := MQ_53 hq9
    refine J_istore (i := 5) (lv' := [(5, .int (nI (k))), (4, .int (nI (i))), (0, .ref (0)), (1, .ref (1)), (2, .ref (53)), (3, .ref (59))]) (pc := 317) dL_law_317 (by decide) rfl ?_
    refine J_aload_n (i := 2) (pc := 319) dL_law_319 rfl rfl ?_
    refine J_aload_n (i := 0) (pc := 320) dL_law_320 rfl rfl ?_
    refine J_iload (i := 4) (pc := 321) dL_law_321 rfl ?_
    refine J_iconst (v := nI (1)) (pc := 323) dL_law_323 rfl ?_
    refine J_iaddN (pc := 324) dL_law_324 ?_
    refine J_sld (j := i + 1) (pc := 325) dL_law_325 rfl (fun _ => by omega) ?_
    refine J_aload_n (i := 0) (pc := 326) dL_law_326 rfl rfl ?_
    refine J_iload (i := 4) (pc := 327) dL_law_327 rfl ?_
    refine J_iconst (v := nI (2)) (pc := 329) dL_law_329 rfl ?_
    refine J_iaddN (pc := 330) dL_law_330 ?_
    refine J_sld (j := i + 2) (pc := 331) dL_law_331 rfl (fun _ => by omega) ?_
    refine J_if_eq (tgt := 339) (pc := 332) dL_law_332 (by decide) (fun c332 => ?_) (fun c332 => absurd c332 (fun q => q hv))
    refine J_iconst (v := nI (0)) (pc := 339) dL_law_339 rfl ?_
    refine J_cVB (st := []) (As := [.int (g_x g (i + 1)), .int (nI (0))]) (v := some (.int (bI (b)))) (ca1 := 1110) (sa1 := 7000) (ca2 := ca2) (sa2 := sa2) (pc := 340) dL_law_340 okX3_check q3_180 q3_181 q3_182 (rfl : vwCl[3]? = some _) r53 rfl (Nat.le_of_ble_eq_true rfl) (Nat.le_of_ble_eq_true rfl) (hm (d + 1) _ th hq9) (by omega) (by omega) (fun h_3 q_4 => ?_)
    obtain ⟨fm8, hq8⟩ := q_4
    have c8 := (fm8.2 59 (Or.inr rfl)).trans c9
    obtain ⟨fs8, r58⟩ := MQ_53 hq8
    refine J_istore (i := 6) (lv' := [(6, .int (bI (b))), (5, .int (nI (k))), (4, .int (nI (i))), (0, .ref (0)), (1, .ref (1)), (2, .ref (53)), (3, .ref (59))]) (pc := 343) dL_law_343 (by decide) rfl ?_
    refine J_aload_n (i := 2) (pc := 345) dL_law_345 rfl rfl ?_
    refine J_cVi (st := []) (As := []) (pc := 346) dL_law_346 okX3_thrown q3_155 q3_156 q3_157 (rfl : vwCl[3]? = some _) r58 rfl (Nat.le_of_ble_eq_true rfl) (Nat.le_of_ble_eq_true rfl) (m_thrownQ hq8) ?_
    refine J_iload (i := 5) (pc := 349) dL_law_349 rfl ?_
    refine J_icmp_eqN (tgt := 356) (pc := 351) dL_law_351 (by decide) (by omega) (by omega) (fun c351 => ?_) (fun c351 => by exfalso; first | omega | simp_all)
    refine J_iload (i := 5) (pc := 356) dL_law_356 rfl ?_
    refine J_if_neN (tgt := 380) (pc := 358) dL_law_358 (by decide) (by omega) (fun c358 => ?_) (fun c358 => ?_)
    · skip
      refine J_goto (tgt := 1403) (pc := 380) dL_law_380 (by decide) ?_
      refine J_sub (lv' := [(4, .int (nI (i))), (0, .ref (0)), (1, .ref (1)), (2, .ref (53)), (3, .ref (59))]) [2, 3, 4, 5, 6] rfl ?_
      exact hn σ' h_3 ⟨GH_FM fm8 gh9, ⟨_, hq8⟩, f9, c8⟩
    · skip
      refine J_aload_n (i := 3) (pc := 361) dL_law_361 rfl rfl ?_
      refine J_iconst (v := nI (0)) (pc := 362) dL_law_362 rfl ?_
      refine J_lald (j := 0) (pc := 363) dL_law_363 c8 rfl (by omega) (by omega) ?_
      rw [show f9 0 = (if b = true then (1 : Int64) else 0) from fx c358]
      refine J_iload (i := 6) (pc := 364) dL_law_364 rfl ?_
      refine J_if_eqB (tgt := 373) (pc := 366) dL_law_366 (by decide) (fun c366 => ?_) (fun c366 => ?_)
      · skip
        refine J_lconst (v := lN 0) (pc := 373) dL_law_373 rfl ?_
        refine J_lcmp (pc := 374) dL_law_374 ?_
        refine J_if_eq (tgt := 380) (pc := 375) dL_law_375 (by decide) (fun c375 => ?_) (fun c375 => absurd c375 (fun q => q (by rw [c366]; exact lg_self _)))
        refine J_goto (tgt := 1403) (pc := 380) dL_law_380 (by decide) ?_
        refine J_sub (lv' := [(4, .int (nI (i))), (0, .ref (0)), (1, .ref (1)), (2, .ref (53)), (3, .ref (59))]) [2, 3, 4, 5, 6] rfl ?_
        exact hn σ' h_3 ⟨GH_FM fm8 gh9, ⟨_, hq8⟩, f9, c8⟩
      · skip
        refine J_lconst (v := lN 1) (pc := 369) dL_law_369 rfl ?_
        refine J_goto (tgt := 374) (pc := 370) dL_law_370 (by decide) ?_
        refine J_lcmp (pc := 374) dL_law_374 ?_
        refine J_if_eq (tgt := 380) (pc := 375) dL_law_375 (by decide) (fun c375 => ?_) (fun c375 => absurd c375 (fun q => q (by rw [c366]; exact lg_self _)))
        refine J_goto (tgt := 1403) (pc := 380) dL_law_380 (by decide) ?_
        refine J_sub (lv' := [(4, .int (nI (i))), (0, .ref (0)), (1, .ref (1)), (2, .ref (53)), (3, .ref (59))]) [2, 3, 4, 5, 6] rfl ?_
        exact hn σ' h_3 ⟨GH_FM fm8 gh9, ⟨_, hq8⟩, f9, c8⟩
  · obtain ⟨k, b, σ', hk, hσ, hc, hm⟩ := pair_check (g := g) hW (g_x g (i + 1)) true
    refine J_aload_n (i := 1) (pc := 292) dL_law_292 rfl rfl ?_
    refine J_aload_n (i := 0) (pc := 293) dL_law_293 rfl rfl ?_
    refine J_iload (i := 4) (pc := 294) dL_law_294 rfl ?_
    refine J_iconst (v := nI (1)) (pc := 296) dL_law_296 rfl ?_
    refine J_iaddN (pc := 297) dL_law_297 ?_
    refine J_sld (j := i + 1) (pc := 298) dL_law_298 rfl (fun _ => by omega) ?_
    refine J_aload_n (i := 0) (pc := 299) dL_law_299 rfl rfl ?_
    refine J_iload (i := 4) (pc := 300) dL_law_300 rfl ?_
    refine J_iconst (v := nI (2)) (pc := 302) dL_law_302 rfl ?_
    refine J_iaddN (pc := 303) dL_law_303 ?_
    refine J_sld (j := i + 2) (pc := 304) dL_law_304 rfl (fun _ => by omega) ?_
    refine J_if_eq (tgt := 312) (pc := 305) dL_law_305 (by decide) (fun c305 => absurd c305 (hv)) (fun c305 => ?_)
    refine J_iconst (v := nI (1)) (pc := 308) dL_law_308 rfl ?_
    refine J_goto (tgt := 313) (pc := 309) dL_law_309 (by decide) ?_
    refine J_aload_n (i := 3) (pc := 313) dL_law_313 rfl rfl ?_
    have hqσ := hq
    refine J_callSW (st := []) (As := [.ref (1), .int (g_x g (i + 1)), .int (nI (1)), .ref (59)]) (v := some (.int (nI (k)))) (ca1 := 1) (sa1 := 6) (ca2 := ca2 + 1110) (sa2 := sa2 + 7000) (pc := 314) dL_law_314 okwL_check q2_215 q2_216 rfl (Nat.le_of_ble_eq_true rfl) (Nat.le_of_ble_eq_true rfl) (w_check (d := d + 60) (hc d h hG) hG c59 (by omega) (fun q => by rw [hσ q]; exact hG)) (by omega) (by omega) (fun h_1 q_2 => ?_)
    obtain ⟨z9, u9, gh9, f9, c9, fx⟩ := q_2
    have hq9 := MQ_oth u9 z9 hqσ
    obtain ⟨fs9, r53⟩ := MQ_53 hq9
    refine J_istore (i := 5) (lv' := [(5, .int (nI (k))), (4, .int (nI (i))), (0, .ref (0)), (1, .ref (1)), (2, .ref (53)), (3, .ref (59))]) (pc := 317) dL_law_317 (by decide) rfl ?_
    refine J_aload_n (i := 2) (pc := 319) dL_law_319 rfl rfl ?_
    refine J_aload_n (i := 0) (pc := 320) dL_law_320 rfl rfl ?_
    refine J_iload (i := 4) (pc := 321) dL_law_321 rfl ?_
    refine J_iconst (v := nI (1)) (pc := 323) dL_law_323 rfl ?_
    refine J_iaddN (pc := 324) dL_law_324 ?_
    refine J_sld (j := i + 1) (pc := 325) dL_law_325 rfl (fun _ => by omega) ?_
    refine J_aload_n (i := 0) (pc := 326) dL_law_326 rfl rfl ?_
    refine J_iload (i := 4) (pc := 327) dL_law_327 rfl ?_
    refine J_iconst (v := nI (2)) (pc := 329) dL_law_329 rfl ?_
    refine J_iaddN (pc := 330) dL_law_330 ?_
    refine J_sld (j := i + 2) (pc := 331) dL_law_331 rfl (fun _ => by omega) ?_
    refine J_if_eq (tgt := 339) (pc := 332) dL_law_332 (by decide) (fun c332 => absurd c332 (hv)) (fun c332 => ?_)
    refine J_iconst (v := nI (1)) (pc := 335) dL_law_335 rfl ?_
    refine J_goto (tgt := 340) (pc := 336) dL_law_336 (by decide) ?_
    refine J_cVB (st := []) (As := [.int (g_x g (i + 1)), .int (nI (1))]) (v := some (.int (bI (b)))) (ca1 := 1110) (sa1 := 7000) (ca2 := ca2) (sa2 := sa2) (pc := 340) dL_law_340 okX3_check q3_180 q3_181 q3_182 (rfl : vwCl[3]? = some _) r53 rfl (Nat.le_of_ble_eq_true rfl) (Nat.le_of_ble_eq_true rfl) (hm (d + 1) _ th hq9) (by omega) (by omega) (fun h_3 q_4 => ?_)
    obtain ⟨fm8, hq8⟩ := q_4
    have c8 := (fm8.2 59 (Or.inr rfl)).trans c9
    obtain ⟨fs8, r58⟩ := MQ_53 hq8
    refine J_istore (i := 6) (lv' := [(6, .int (bI (b))), (5, .int (nI (k))), (4, .int (nI (i))), (0, .ref (0)), (1, .ref (1)), (2, .ref (53)), (3, .ref (59))]) (pc := 343) dL_law_343 (by decide) rfl ?_
    refine J_aload_n (i := 2) (pc := 345) dL_law_345 rfl rfl ?_
    refine J_cVi (st := []) (As := []) (pc := 346) dL_law_346 okX3_thrown q3_155 q3_156 q3_157 (rfl : vwCl[3]? = some _) r58 rfl (Nat.le_of_ble_eq_true rfl) (Nat.le_of_ble_eq_true rfl) (m_thrownQ hq8) ?_
    refine J_iload (i := 5) (pc := 349) dL_law_349 rfl ?_
    refine J_icmp_eqN (tgt := 356) (pc := 351) dL_law_351 (by decide) (by omega) (by omega) (fun c351 => ?_) (fun c351 => by exfalso; first | omega | simp_all)
    refine J_iload (i := 5) (pc := 356) dL_law_356 rfl ?_
    refine J_if_neN (tgt := 380) (pc := 358) dL_law_358 (by decide) (by omega) (fun c358 => ?_) (fun c358 => ?_)
    · skip
      refine J_goto (tgt := 1403) (pc := 380) dL_law_380 (by decide) ?_
      refine J_sub (lv' := [(4, .int (nI (i))), (0, .ref (0)), (1, .ref (1)), (2, .ref (53)), (3, .ref (59))]) [2, 3, 4, 5, 6] rfl ?_
      exact hn σ' h_3 ⟨GH_FM fm8 gh9, ⟨_, hq8⟩, f9, c8⟩
    · skip
      refine J_aload_n (i := 3) (pc := 361) dL_law_361 rfl rfl ?_
      refine J_iconst (v := nI (0)) (pc := 362) dL_law_362 rfl ?_
      refine J_lald (j := 0) (pc := 363) dL_law_363 c8 rfl (by omega) (by omega) ?_
      rw [show f9 0 = (if b = true then (1 : Int64) else 0) from fx c358]
      refine J_iload (i := 6) (pc := 364) dL_law_364 rfl ?_
      refine J_if_eqB (tgt := 373) (pc := 366) dL_law_366 (by decide) (fun c366 => ?_) (fun c366 => ?_)
      · skip
        refine J_lconst (v := lN 0) (pc := 373) dL_law_373 rfl ?_
        refine J_lcmp (pc := 374) dL_law_374 ?_
        refine J_if_eq (tgt := 380) (pc := 375) dL_law_375 (by decide) (fun c375 => ?_) (fun c375 => absurd c375 (fun q => q (by rw [c366]; exact lg_self _)))
        refine J_goto (tgt := 1403) (pc := 380) dL_law_380 (by decide) ?_
        refine J_sub (lv' := [(4, .int (nI (i))), (0, .ref (0)), (1, .ref (1)), (2, .ref (53)), (3, .ref (59))]) [2, 3, 4, 5, 6] rfl ?_
        exact hn σ' h_3 ⟨GH_FM fm8 gh9, ⟨_, hq8⟩, f9, c8⟩
      · skip
        refine J_lconst (v := lN 1) (pc := 369) dL_law_369 rfl ?_
        refine J_goto (tgt := 374) (pc := 370) dL_law_370 (by decide) ?_
        refine J_lcmp (pc := 374) dL_law_374 ?_
        refine J_if_eq (tgt := 380) (pc := 375) dL_law_375 (by decide) (fun c375 => ?_) (fun c375 => absurd c375 (fun q => q (by rw [c366]; exact lg_self _)))
        refine J_goto (tgt := 1403) (pc := 380) dL_law_380 (by decide) ?_
        refine J_sub (lv' := [(4, .int (nI (i))), (0, .ref (0)), (1, .ref (1)), (2, .ref (53)), (3, .ref (59))]) [2, 3, 4, 5, 6] rfl ?_
        exact hn σ' h_3 ⟨GH_FM fm8 gh9, ⟨_, hq8⟩, f9, c8⟩

set_option maxHeartbeats 2000000 in
set_option maxRecDepth 20000 in
theorem op_setDepth {g : GT} {d ca2 sa2 i : Nat} {σ : ST} {h : MH} (hL : g_L g ≤ 2560) (hi : i + 5 ≤ g_L g) (hS : LSt h σ) (hn : ∀ σ' h', LSt h' σ' → J g (d + 62) ca2 sa2 mL_law 1403 [(4, .int (nI (i))), (0, .ref (0)), (1, .ref (1)), (2, .ref (53)), (3, .ref (59))] [] h' QL) : J g (d + 62) (ca2 + 1111) (sa2 + 7006) mL_law 383 [(4, .int (nI (i))), (0, .ref (0)), (1, .ref (1)), (2, .ref (53)), (3, .ref (59))] [] h QL := by
  obtain ⟨hG, ⟨th, hq⟩, f, c59⟩ := hS
  obtain ⟨hW, ok⟩ := MQ_W hq
  obtain ⟨k, x, y, σ', hk, hσ, hxy, hc, hm⟩ := pair_setDepth (g := g) hW ok (g_x g (i + 1))
  refine J_aload_n (i := 1) (pc := 383) dL_law_383 rfl rfl ?_
  refine J_aload_n (i := 0) (pc := 384) dL_law_384 rfl rfl ?_
  refine J_iload (i := 4) (pc := 385) dL_law_385 rfl ?_
  refine J_iconst (v := nI (1)) (pc := 387) dL_law_387 rfl ?_
  refine J_iaddN (pc := 388) dL_law_388 ?_
  refine J_sld (j := i + 1) (pc := 389) dL_law_389 rfl (fun _ => by omega) ?_
  refine J_aload_n (i := 3) (pc := 390) dL_law_390 rfl rfl ?_
  have hqσ := hq
  refine J_callSW (st := []) (As := [.ref (1), .int (g_x g (i + 1)), .ref (59)]) (v := some (.int (nI (k)))) (ca1 := 1) (sa1 := 6) (ca2 := ca2 + 1110) (sa2 := sa2 + 7000) (pc := 391) dL_law_391 okwL_setDepth q2_226 q2_227 rfl (Nat.le_of_ble_eq_true rfl) (Nat.le_of_ble_eq_true rfl) (w_setDepth (d := d + 60) (hc d h hG) hG c59 (by omega) (fun q => by rw [hσ q]; exact hG)) (by omega) (by omega) (fun h_1 q_2 => ?_)
  obtain ⟨z9, u9, gh9, f9, c9, fx⟩ := q_2
  have hq9 := MQ_oth u9 z9 hqσ
  obtain ⟨fs9, r53⟩ := MQ_53 hq9
  refine J_istore (i := 5) (lv' := [(5, .int (nI (k))), (4, .int (nI (i))), (0, .ref (0)), (1, .ref (1)), (2, .ref (53)), (3, .ref (59))]) (pc := 394) dL_law_394 (by decide) rfl ?_
  refine J_aload_n (i := 2) (pc := 396) dL_law_396 rfl rfl ?_
  refine J_aload_n (i := 0) (pc := 397) dL_law_397 rfl rfl ?_
  refine J_iload (i := 4) (pc := 398) dL_law_398 rfl ?_
  refine J_iconst (v := nI (1)) (pc := 400) dL_law_400 rfl ?_
  refine J_iaddN (pc := 401) dL_law_401 ?_
  refine J_sld (j := i + 1) (pc := 402) dL_law_402 rfl (fun _ => by omega) ?_
  refine J_cVB (st := []) (As := [.int (g_x g (i + 1))]) (v := some (.int (y))) (ca1 := 1110) (sa1 := 7000) (ca2 := ca2) (sa2 := sa2) (pc := 403) dL_law_403 okX3_setDepth q3_187 q3_188 q3_189 (rfl : vwCl[3]? = some _) r53 rfl (Nat.le_of_ble_eq_true rfl) (Nat.le_of_ble_eq_true rfl) (hm (d + 1) _ th hq9) (by omega) (by omega) (fun h_3 q_4 => ?_)
  obtain ⟨fm8, hq8⟩ := q_4
  have c8 := (fm8.2 59 (Or.inr rfl)).trans c9
  obtain ⟨fs8, r58⟩ := MQ_53 hq8
  refine J_istore (i := 6) (lv' := [(6, .int (y)), (5, .int (nI (k))), (4, .int (nI (i))), (0, .ref (0)), (1, .ref (1)), (2, .ref (53)), (3, .ref (59))]) (pc := 406) dL_law_406 (by decide) rfl ?_
  refine J_aload_n (i := 2) (pc := 408) dL_law_408 rfl rfl ?_
  refine J_cVi (st := []) (As := []) (pc := 409) dL_law_409 okX3_thrown q3_155 q3_156 q3_157 (rfl : vwCl[3]? = some _) r58 rfl (Nat.le_of_ble_eq_true rfl) (Nat.le_of_ble_eq_true rfl) (m_thrownQ hq8) ?_
  refine J_iload (i := 5) (pc := 412) dL_law_412 rfl ?_
  refine J_icmp_eqN (tgt := 419) (pc := 414) dL_law_414 (by decide) (by omega) (by omega) (fun c414 => ?_) (fun c414 => by exfalso; first | omega | simp_all)
  refine J_iload (i := 5) (pc := 419) dL_law_419 rfl ?_
  refine J_if_neN (tgt := 436) (pc := 421) dL_law_421 (by decide) (by omega) (fun c421 => ?_) (fun c421 => ?_)
  · skip
    refine J_goto (tgt := 1403) (pc := 436) dL_law_436 (by decide) ?_
    refine J_sub (lv' := [(4, .int (nI (i))), (0, .ref (0)), (1, .ref (1)), (2, .ref (53)), (3, .ref (59))]) [2, 3, 4, 5, 6] rfl ?_
    exact hn σ' h_3 ⟨GH_FM fm8 gh9, ⟨_, hq8⟩, f9, c8⟩
  · skip
    refine J_aload_n (i := 3) (pc := 424) dL_law_424 rfl rfl ?_
    refine J_iconst (v := nI (0)) (pc := 425) dL_law_425 rfl ?_
    refine J_lald (j := 0) (pc := 426) dL_law_426 c8 rfl (by omega) (by omega) ?_
    rw [show f9 0 = x.toInt64 from fx c421]
    refine J_iload (i := 6) (pc := 427) dL_law_427 rfl ?_
    refine J_i2l (pc := 429) dL_law_429 ?_
    refine J_lcmp (pc := 430) dL_law_430 ?_
    refine J_if_eq (tgt := 436) (pc := 431) dL_law_431 (by decide) (fun c431 => ?_) (fun c431 => absurd c431 (fun q => q (by rw [hxy c421]; exact lg_self _)))
    refine J_goto (tgt := 1403) (pc := 436) dL_law_436 (by decide) ?_
    refine J_sub (lv' := [(4, .int (nI (i))), (0, .ref (0)), (1, .ref (1)), (2, .ref (53)), (3, .ref (59))]) [2, 3, 4, 5, 6] rfl ?_
    exact hn σ' h_3 ⟨GH_FM fm8 gh9, ⟨_, hq8⟩, f9, c8⟩

set_option maxHeartbeats 2000000 in
set_option maxRecDepth 20000 in
theorem op_setLeast {g : GT} {d ca2 sa2 i : Nat} {σ : ST} {h : MH} (hL : g_L g ≤ 2560) (hi : i + 5 ≤ g_L g) (hS : LSt h σ) (hn : ∀ σ' h', LSt h' σ' → J g (d + 62) ca2 sa2 mL_law 1403 [(4, .int (nI (i))), (0, .ref (0)), (1, .ref (1)), (2, .ref (53)), (3, .ref (59))] [] h' QL) : J g (d + 62) (ca2 + 1111) (sa2 + 7006) mL_law 439 [(4, .int (nI (i))), (0, .ref (0)), (1, .ref (1)), (2, .ref (53)), (3, .ref (59))] [] h QL := by
  obtain ⟨hG, ⟨th, hq⟩, f, c59⟩ := hS
  obtain ⟨hW, ok⟩ := MQ_W hq
  obtain ⟨k, x, y, σ', hk, hσ, hxy, hc, hm⟩ := pair_setLeast (g := g) hW ok (g_x g (i + 1))
  refine J_aload_n (i := 1) (pc := 439) dL_law_439 rfl rfl ?_
  refine J_aload_n (i := 0) (pc := 440) dL_law_440 rfl rfl ?_
  refine J_iload (i := 4) (pc := 441) dL_law_441 rfl ?_
  refine J_iconst (v := nI (1)) (pc := 443) dL_law_443 rfl ?_
  refine J_iaddN (pc := 444) dL_law_444 ?_
  refine J_sld (j := i + 1) (pc := 445) dL_law_445 rfl (fun _ => by omega) ?_
  refine J_aload_n (i := 3) (pc := 446) dL_law_446 rfl rfl ?_
  have hqσ := hq
  refine J_callSW (st := []) (As := [.ref (1), .int (g_x g (i + 1)), .ref (59)]) (v := some (.int (nI (k)))) (ca1 := 1) (sa1 := 6) (ca2 := ca2 + 1110) (sa2 := sa2 + 7000) (pc := 447) dL_law_447 okwL_setLeast q2_237 q2_238 rfl (Nat.le_of_ble_eq_true rfl) (Nat.le_of_ble_eq_true rfl) (w_setLeast (d := d + 60) (hc d h hG) hG c59 (by omega) (fun q => by rw [hσ q]; exact hG)) (by omega) (by omega) (fun h_1 q_2 => ?_)
  obtain ⟨z9, u9, gh9, f9, c9, fx⟩ := q_2
  have hq9 := MQ_oth u9 z9 hqσ
  obtain ⟨fs9, r53⟩ := MQ_53 hq9
  refine J_istore (i := 5) (lv' := [(5, .int (nI (k))), (4, .int (nI (i))), (0, .ref (0)), (1, .ref (1)), (2, .ref (53)), (3, .ref (59))]) (pc := 450) dL_law_450 (by decide) rfl ?_
  refine J_aload_n (i := 2) (pc := 452) dL_law_452 rfl rfl ?_
  refine J_aload_n (i := 0) (pc := 453) dL_law_453 rfl rfl ?_
  refine J_iload (i := 4) (pc := 454) dL_law_454 rfl ?_
  refine J_iconst (v := nI (1)) (pc := 456) dL_law_456 rfl ?_
  refine J_iaddN (pc := 457) dL_law_457 ?_
  refine J_sld (j := i + 1) (pc := 458) dL_law_458 rfl (fun _ => by omega) ?_
  refine J_cVB (st := []) (As := [.int (g_x g (i + 1))]) (v := some (.int (y))) (ca1 := 1110) (sa1 := 7000) (ca2 := ca2) (sa2 := sa2) (pc := 459) dL_law_459 okX3_setLeast q3_191 q3_192 q3_193 (rfl : vwCl[3]? = some _) r53 rfl (Nat.le_of_ble_eq_true rfl) (Nat.le_of_ble_eq_true rfl) (hm (d + 1) _ th hq9) (by omega) (by omega) (fun h_3 q_4 => ?_)
  obtain ⟨fm8, hq8⟩ := q_4
  have c8 := (fm8.2 59 (Or.inr rfl)).trans c9
  obtain ⟨fs8, r58⟩ := MQ_53 hq8
  refine J_istore (i := 6) (lv' := [(6, .int (y)), (5, .int (nI (k))), (4, .int (nI (i))), (0, .ref (0)), (1, .ref (1)), (2, .ref (53)), (3, .ref (59))]) (pc := 462) dL_law_462 (by decide) rfl ?_
  refine J_aload_n (i := 2) (pc := 464) dL_law_464 rfl rfl ?_
  refine J_cVi (st := []) (As := []) (pc := 465) dL_law_465 okX3_thrown q3_155 q3_156 q3_157 (rfl : vwCl[3]? = some _) r58 rfl (Nat.le_of_ble_eq_true rfl) (Nat.le_of_ble_eq_true rfl) (m_thrownQ hq8) ?_
  refine J_iload (i := 5) (pc := 468) dL_law_468 rfl ?_
  refine J_icmp_eqN (tgt := 475) (pc := 470) dL_law_470 (by decide) (by omega) (by omega) (fun c470 => ?_) (fun c470 => by exfalso; first | omega | simp_all)
  refine J_iload (i := 5) (pc := 475) dL_law_475 rfl ?_
  refine J_if_neN (tgt := 492) (pc := 477) dL_law_477 (by decide) (by omega) (fun c477 => ?_) (fun c477 => ?_)
  · skip
    refine J_goto (tgt := 1403) (pc := 492) dL_law_492 (by decide) ?_
    refine J_sub (lv' := [(4, .int (nI (i))), (0, .ref (0)), (1, .ref (1)), (2, .ref (53)), (3, .ref (59))]) [2, 3, 4, 5, 6] rfl ?_
    exact hn σ' h_3 ⟨GH_FM fm8 gh9, ⟨_, hq8⟩, f9, c8⟩
  · skip
    refine J_aload_n (i := 3) (pc := 480) dL_law_480 rfl rfl ?_
    refine J_iconst (v := nI (0)) (pc := 481) dL_law_481 rfl ?_
    refine J_lald (j := 0) (pc := 482) dL_law_482 c8 rfl (by omega) (by omega) ?_
    rw [show f9 0 = x.toInt64 from fx c477]
    refine J_iload (i := 6) (pc := 483) dL_law_483 rfl ?_
    refine J_i2l (pc := 485) dL_law_485 ?_
    refine J_lcmp (pc := 486) dL_law_486 ?_
    refine J_if_eq (tgt := 492) (pc := 487) dL_law_487 (by decide) (fun c487 => ?_) (fun c487 => absurd c487 (fun q => q (by rw [hxy c477]; exact lg_self _)))
    refine J_goto (tgt := 1403) (pc := 492) dL_law_492 (by decide) ?_
    refine J_sub (lv' := [(4, .int (nI (i))), (0, .ref (0)), (1, .ref (1)), (2, .ref (53)), (3, .ref (59))]) [2, 3, 4, 5, 6] rfl ?_
    exact hn σ' h_3 ⟨GH_FM fm8 gh9, ⟨_, hq8⟩, f9, c8⟩

set_option maxHeartbeats 2000000 in
set_option maxRecDepth 20000 in
theorem op_plant {g : GT} {d ca2 sa2 i : Nat} {σ : ST} {h : MH} (hL : g_L g ≤ 2560) (hi : i + 5 ≤ g_L g) (hS : LSt h σ) (hn : ∀ σ' h', LSt h' σ' → J g (d + 62) ca2 sa2 mL_law 1403 [(4, .int (nI (i))), (0, .ref (0)), (1, .ref (1)), (2, .ref (53)), (3, .ref (59))] [] h' QL) : J g (d + 62) (ca2 + 1111) (sa2 + 7006) mL_law 495 [(4, .int (nI (i))), (0, .ref (0)), (1, .ref (1)), (2, .ref (53)), (3, .ref (59))] [] h QL := by
  obtain ⟨hG, ⟨th, hq⟩, f, c59⟩ := hS
  obtain ⟨hW, ok⟩ := MQ_W hq
  obtain ⟨k, x, y, σ', hk, hσ, hxy, hc, hm⟩ := pair_plant (g := g) hW ok (g_x g (i + 1)) (g_x g (i + 2))
  refine J_aload_n (i := 1) (pc := 495) dL_law_495 rfl rfl ?_
  refine J_aload_n (i := 0) (pc := 496) dL_law_496 rfl rfl ?_
  refine J_iload (i := 4) (pc := 497) dL_law_497 rfl ?_
  refine J_iconst (v := nI (1)) (pc := 499) dL_law_499 rfl ?_
  refine J_iaddN (pc := 500) dL_law_500 ?_
  refine J_sld (j := i + 1) (pc := 501) dL_law_501 rfl (fun _ => by omega) ?_
  refine J_aload_n (i := 0) (pc := 502) dL_law_502 rfl rfl ?_
  refine J_iload (i := 4) (pc := 503) dL_law_503 rfl ?_
  refine J_iconst (v := nI (2)) (pc := 505) dL_law_505 rfl ?_
  refine J_iaddN (pc := 506) dL_law_506 ?_
  refine J_sld (j := i + 2) (pc := 507) dL_law_507 rfl (fun _ => by omega) ?_
  refine J_aload_n (i := 3) (pc := 508) dL_law_508 rfl rfl ?_
  have hqσ := hq
  refine J_callSW (st := []) (As := [.ref (1), .int (g_x g (i + 1)), .int (g_x g (i + 2)), .ref (59)]) (v := some (.int (nI (k)))) (ca1 := 1) (sa1 := 6) (ca2 := ca2 + 1110) (sa2 := sa2 + 7000) (pc := 509) dL_law_509 okwL_plant q3_8 q3_9 rfl (Nat.le_of_ble_eq_true rfl) (Nat.le_of_ble_eq_true rfl) (w_plant (d := d + 60) (hc d h hG) hG c59 (fun q => by rw [hσ q]; exact hG)) (by omega) (by omega) (fun h_1 q_2 => ?_)
  obtain ⟨z9, u9, gh9, f9, c9, fx⟩ := q_2
  have hq9 := MQ_oth u9 z9 hqσ
  obtain ⟨fs9, r53⟩ := MQ_53 hq9
  refine J_istore (i := 5) (lv' := [(5, .int (nI (k))), (4, .int (nI (i))), (0, .ref (0)), (1, .ref (1)), (2, .ref (53)), (3, .ref (59))]) (pc := 512) dL_law_512 (by decide) rfl ?_
  refine J_aload_n (i := 2) (pc := 514) dL_law_514 rfl rfl ?_
  refine J_aload_n (i := 0) (pc := 515) dL_law_515 rfl rfl ?_
  refine J_iload (i := 4) (pc := 516) dL_law_516 rfl ?_
  refine J_iconst (v := nI (1)) (pc := 518) dL_law_518 rfl ?_
  refine J_iaddN (pc := 519) dL_law_519 ?_
  refine J_sld (j := i + 1) (pc := 520) dL_law_520 rfl (fun _ => by omega) ?_
  refine J_aload_n (i := 0) (pc := 521) dL_law_521 rfl rfl ?_
  refine J_iload (i := 4) (pc := 522) dL_law_522 rfl ?_
  refine J_iconst (v := nI (2)) (pc := 524) dL_law_524 rfl ?_
  refine J_iaddN (pc := 525) dL_law_525 ?_
  refine J_sld (j := i + 2) (pc := 526) dL_law_526 rfl (fun _ => by omega) ?_
  refine J_cVB (st := []) (As := [.int (g_x g (i + 1)), .int (g_x g (i + 2))]) (v := some (.int (y))) (ca1 := 1110) (sa1 := 7000) (ca2 := ca2) (sa2 := sa2) (pc := 527) dL_law_527 okX3_plant q3_195 q3_196 q3_197 (rfl : vwCl[3]? = some _) r53 rfl (Nat.le_of_ble_eq_true rfl) (Nat.le_of_ble_eq_true rfl) (hm (d + 1) _ th hq9) (by omega) (by omega) (fun h_3 q_4 => ?_)
  obtain ⟨fm8, hq8⟩ := q_4
  have c8 := (fm8.2 59 (Or.inr rfl)).trans c9
  obtain ⟨fs8, r58⟩ := MQ_53 hq8
  refine J_istore (i := 6) (lv' := [(6, .int (y)), (5, .int (nI (k))), (4, .int (nI (i))), (0, .ref (0)), (1, .ref (1)), (2, .ref (53)), (3, .ref (59))]) (pc := 530) dL_law_530 (by decide) rfl ?_
  refine J_aload_n (i := 2) (pc := 532) dL_law_532 rfl rfl ?_
  refine J_cVi (st := []) (As := []) (pc := 533) dL_law_533 okX3_thrown q3_155 q3_156 q3_157 (rfl : vwCl[3]? = some _) r58 rfl (Nat.le_of_ble_eq_true rfl) (Nat.le_of_ble_eq_true rfl) (m_thrownQ hq8) ?_
  refine J_iload (i := 5) (pc := 536) dL_law_536 rfl ?_
  refine J_icmp_eqN (tgt := 543) (pc := 538) dL_law_538 (by decide) (by omega) (by omega) (fun c538 => ?_) (fun c538 => by exfalso; first | omega | simp_all)
  refine J_iload (i := 5) (pc := 543) dL_law_543 rfl ?_
  refine J_if_neN (tgt := 560) (pc := 545) dL_law_545 (by decide) (by omega) (fun c545 => ?_) (fun c545 => ?_)
  · skip
    refine J_goto (tgt := 1403) (pc := 560) dL_law_560 (by decide) ?_
    refine J_sub (lv' := [(4, .int (nI (i))), (0, .ref (0)), (1, .ref (1)), (2, .ref (53)), (3, .ref (59))]) [2, 3, 4, 5, 6] rfl ?_
    exact hn σ' h_3 ⟨GH_FM fm8 gh9, ⟨_, hq8⟩, f9, c8⟩
  · skip
    refine J_aload_n (i := 3) (pc := 548) dL_law_548 rfl rfl ?_
    refine J_iconst (v := nI (0)) (pc := 549) dL_law_549 rfl ?_
    refine J_lald (j := 0) (pc := 550) dL_law_550 c8 rfl (by omega) (by omega) ?_
    rw [show f9 0 = x.toInt64 from fx c545]
    refine J_iload (i := 6) (pc := 551) dL_law_551 rfl ?_
    refine J_i2l (pc := 553) dL_law_553 ?_
    refine J_lcmp (pc := 554) dL_law_554 ?_
    refine J_if_eq (tgt := 560) (pc := 555) dL_law_555 (by decide) (fun c555 => ?_) (fun c555 => absurd c555 (fun q => q (by rw [hxy c545]; exact lg_self _)))
    refine J_goto (tgt := 1403) (pc := 560) dL_law_560 (by decide) ?_
    refine J_sub (lv' := [(4, .int (nI (i))), (0, .ref (0)), (1, .ref (1)), (2, .ref (53)), (3, .ref (59))]) [2, 3, 4, 5, 6] rfl ?_
    exact hn σ' h_3 ⟨GH_FM fm8 gh9, ⟨_, hq8⟩, f9, c8⟩

set_option maxHeartbeats 2000000 in
set_option maxRecDepth 20000 in
theorem op_fell {g : GT} {d ca2 sa2 i : Nat} {σ : ST} {h : MH} (hL : g_L g ≤ 2560) (hi : i + 5 ≤ g_L g) (hS : LSt h σ) (hn : ∀ σ' h', LSt h' σ' → J g (d + 62) ca2 sa2 mL_law 1403 [(4, .int (nI (i))), (0, .ref (0)), (1, .ref (1)), (2, .ref (53)), (3, .ref (59))] [] h' QL) : J g (d + 62) (ca2 + 1111) (sa2 + 7006) mL_law 563 [(4, .int (nI (i))), (0, .ref (0)), (1, .ref (1)), (2, .ref (53)), (3, .ref (59))] [] h QL := by
  obtain ⟨hG, ⟨th, hq⟩, f, c59⟩ := hS
  obtain ⟨hW, ok⟩ := MQ_W hq
  obtain ⟨k, x, y, σ', hk, hσ, hxy, hc, hm⟩ := pair_fell (g := g) hW ok (g_x g (i + 1))
  refine J_aload_n (i := 1) (pc := 563) dL_law_563 rfl rfl ?_
  refine J_aload_n (i := 0) (pc := 564) dL_law_564 rfl rfl ?_
  refine J_iload (i := 4) (pc := 565) dL_law_565 rfl ?_
  refine J_iconst (v := nI (1)) (pc := 567) dL_law_567 rfl ?_
  refine J_iaddN (pc := 568) dL_law_568 ?_
  refine J_sld (j := i + 1) (pc := 569) dL_law_569 rfl (fun _ => by omega) ?_
  refine J_aload_n (i := 3) (pc := 570) dL_law_570 rfl rfl ?_
  have hqσ := hq
  refine J_callSW (st := []) (As := [.ref (1), .int (g_x g (i + 1)), .ref (59)]) (v := some (.int (nI (k)))) (ca1 := 1) (sa1 := 6) (ca2 := ca2 + 1110) (sa2 := sa2 + 7000) (pc := 571) dL_law_571 okwL_fell q3_28 q3_29 rfl (Nat.le_of_ble_eq_true rfl) (Nat.le_of_ble_eq_true rfl) (w_fell (d := d + 60) (hc d h hG) hG c59 (by omega) (fun q => by rw [hσ q]; exact hG)) (by omega) (by omega) (fun h_1 q_2 => ?_)
  obtain ⟨z9, u9, gh9, f9, c9, fx⟩ := q_2
  have hq9 := MQ_oth u9 z9 hqσ
  obtain ⟨fs9, r53⟩ := MQ_53 hq9
  refine J_istore (i := 5) (lv' := [(5, .int (nI (k))), (4, .int (nI (i))), (0, .ref (0)), (1, .ref (1)), (2, .ref (53)), (3, .ref (59))]) (pc := 574) dL_law_574 (by decide) rfl ?_
  refine J_aload_n (i := 2) (pc := 576) dL_law_576 rfl rfl ?_
  refine J_aload_n (i := 0) (pc := 577) dL_law_577 rfl rfl ?_
  refine J_iload (i := 4) (pc := 578) dL_law_578 rfl ?_
  refine J_iconst (v := nI (1)) (pc := 580) dL_law_580 rfl ?_
  refine J_iaddN (pc := 581) dL_law_581 ?_
  refine J_sld (j := i + 1) (pc := 582) dL_law_582 rfl (fun _ => by omega) ?_
  refine J_cVB (st := []) (As := [.int (g_x g (i + 1))]) (v := some (.int (y))) (ca1 := 1110) (sa1 := 7000) (ca2 := ca2) (sa2 := sa2) (pc := 583) dL_law_583 okX3_fell q4_4 q4_5 q4_6 (rfl : vwCl[3]? = some _) r53 rfl (Nat.le_of_ble_eq_true rfl) (Nat.le_of_ble_eq_true rfl) (hm (d + 1) _ th hq9) (by omega) (by omega) (fun h_3 q_4 => ?_)
  obtain ⟨fm8, hq8⟩ := q_4
  have c8 := (fm8.2 59 (Or.inr rfl)).trans c9
  obtain ⟨fs8, r58⟩ := MQ_53 hq8
  refine J_istore (i := 6) (lv' := [(6, .int (y)), (5, .int (nI (k))), (4, .int (nI (i))), (0, .ref (0)), (1, .ref (1)), (2, .ref (53)), (3, .ref (59))]) (pc := 586) dL_law_586 (by decide) rfl ?_
  refine J_aload_n (i := 2) (pc := 588) dL_law_588 rfl rfl ?_
  refine J_cVi (st := []) (As := []) (pc := 589) dL_law_589 okX3_thrown q3_155 q3_156 q3_157 (rfl : vwCl[3]? = some _) r58 rfl (Nat.le_of_ble_eq_true rfl) (Nat.le_of_ble_eq_true rfl) (m_thrownQ hq8) ?_
  refine J_iload (i := 5) (pc := 592) dL_law_592 rfl ?_
  refine J_icmp_eqN (tgt := 599) (pc := 594) dL_law_594 (by decide) (by omega) (by omega) (fun c594 => ?_) (fun c594 => by exfalso; first | omega | simp_all)
  refine J_iload (i := 5) (pc := 599) dL_law_599 rfl ?_
  refine J_if_neN (tgt := 616) (pc := 601) dL_law_601 (by decide) (by omega) (fun c601 => ?_) (fun c601 => ?_)
  · skip
    refine J_goto (tgt := 1403) (pc := 616) dL_law_616 (by decide) ?_
    refine J_sub (lv' := [(4, .int (nI (i))), (0, .ref (0)), (1, .ref (1)), (2, .ref (53)), (3, .ref (59))]) [2, 3, 4, 5, 6] rfl ?_
    exact hn σ' h_3 ⟨GH_FM fm8 gh9, ⟨_, hq8⟩, f9, c8⟩
  · skip
    refine J_aload_n (i := 3) (pc := 604) dL_law_604 rfl rfl ?_
    refine J_iconst (v := nI (0)) (pc := 605) dL_law_605 rfl ?_
    refine J_lald (j := 0) (pc := 606) dL_law_606 c8 rfl (by omega) (by omega) ?_
    rw [show f9 0 = x.toInt64 from fx c601]
    refine J_iload (i := 6) (pc := 607) dL_law_607 rfl ?_
    refine J_i2l (pc := 609) dL_law_609 ?_
    refine J_lcmp (pc := 610) dL_law_610 ?_
    refine J_if_eq (tgt := 616) (pc := 611) dL_law_611 (by decide) (fun c611 => ?_) (fun c611 => absurd c611 (fun q => q (by rw [hxy c601]; exact lg_self _)))
    refine J_goto (tgt := 1403) (pc := 616) dL_law_616 (by decide) ?_
    refine J_sub (lv' := [(4, .int (nI (i))), (0, .ref (0)), (1, .ref (1)), (2, .ref (53)), (3, .ref (59))]) [2, 3, 4, 5, 6] rfl ?_
    exact hn σ' h_3 ⟨GH_FM fm8 gh9, ⟨_, hq8⟩, f9, c8⟩

set_option maxHeartbeats 2000000 in
set_option maxRecDepth 20000 in
theorem op_prune {g : GT} {d ca2 sa2 i : Nat} {σ : ST} {h : MH} (hL : g_L g ≤ 2560) (hi : i + 5 ≤ g_L g) (hS : LSt h σ) (hn : ∀ σ' h', LSt h' σ' → J g (d + 62) ca2 sa2 mL_law 1403 [(4, .int (nI (i))), (0, .ref (0)), (1, .ref (1)), (2, .ref (53)), (3, .ref (59))] [] h' QL) : J g (d + 62) (ca2 + 1111) (sa2 + 7006) mL_law 619 [(4, .int (nI (i))), (0, .ref (0)), (1, .ref (1)), (2, .ref (53)), (3, .ref (59))] [] h QL := by
  obtain ⟨hG, ⟨th, hq⟩, f, c59⟩ := hS
  obtain ⟨hW, ok⟩ := MQ_W hq
  obtain ⟨k, x, y, σ', hk, hσ, hxy, hc, hm⟩ := pair_prune (g := g) hW ok (g_x g (i + 1))
  refine J_aload_n (i := 1) (pc := 619) dL_law_619 rfl rfl ?_
  refine J_aload_n (i := 0) (pc := 620) dL_law_620 rfl rfl ?_
  refine J_iload (i := 4) (pc := 621) dL_law_621 rfl ?_
  refine J_iconst (v := nI (1)) (pc := 623) dL_law_623 rfl ?_
  refine J_iaddN (pc := 624) dL_law_624 ?_
  refine J_sld (j := i + 1) (pc := 625) dL_law_625 rfl (fun _ => by omega) ?_
  refine J_aload_n (i := 3) (pc := 626) dL_law_626 rfl rfl ?_
  have hqσ := hq
  refine J_callSW (st := []) (As := [.ref (1), .int (g_x g (i + 1)), .ref (59)]) (v := some (.int (nI (k)))) (ca1 := 1) (sa1 := 6) (ca2 := ca2 + 1110) (sa2 := sa2 + 7000) (pc := 627) dL_law_627 okwL_prune q3_35 q3_36 rfl (Nat.le_of_ble_eq_true rfl) (Nat.le_of_ble_eq_true rfl) (w_prune (d := d + 60) (hc d h hG) hG c59 (by omega) (fun q => by rw [hσ q]; exact hG)) (by omega) (by omega) (fun h_1 q_2 => ?_)
  obtain ⟨z9, u9, gh9, f9, c9, fx⟩ := q_2
  have hq9 := MQ_oth u9 z9 hqσ
  obtain ⟨fs9, r53⟩ := MQ_53 hq9
  refine J_istore (i := 5) (lv' := [(5, .int (nI (k))), (4, .int (nI (i))), (0, .ref (0)), (1, .ref (1)), (2, .ref (53)), (3, .ref (59))]) (pc := 630) dL_law_630 (by decide) rfl ?_
  refine J_aload_n (i := 2) (pc := 632) dL_law_632 rfl rfl ?_
  refine J_aload_n (i := 0) (pc := 633) dL_law_633 rfl rfl ?_
  refine J_iload (i := 4) (pc := 634) dL_law_634 rfl ?_
  refine J_iconst (v := nI (1)) (pc := 636) dL_law_636 rfl ?_
  refine J_iaddN (pc := 637) dL_law_637 ?_
  refine J_sld (j := i + 1) (pc := 638) dL_law_638 rfl (fun _ => by omega) ?_
  refine J_cVB (st := []) (As := [.int (g_x g (i + 1))]) (v := some (.int (y))) (ca1 := 1110) (sa1 := 7000) (ca2 := ca2) (sa2 := sa2) (pc := 639) dL_law_639 okX3_prune q4_12 q4_13 q4_14 (rfl : vwCl[3]? = some _) r53 rfl (Nat.le_of_ble_eq_true rfl) (Nat.le_of_ble_eq_true rfl) (hm (d + 1) _ th hq9) (by omega) (by omega) (fun h_3 q_4 => ?_)
  obtain ⟨fm8, hq8⟩ := q_4
  have c8 := (fm8.2 59 (Or.inr rfl)).trans c9
  obtain ⟨fs8, r58⟩ := MQ_53 hq8
  refine J_istore (i := 6) (lv' := [(6, .int (y)), (5, .int (nI (k))), (4, .int (nI (i))), (0, .ref (0)), (1, .ref (1)), (2, .ref (53)), (3, .ref (59))]) (pc := 642) dL_law_642 (by decide) rfl ?_
  refine J_aload_n (i := 2) (pc := 644) dL_law_644 rfl rfl ?_
  refine J_cVi (st := []) (As := []) (pc := 645) dL_law_645 okX3_thrown q3_155 q3_156 q3_157 (rfl : vwCl[3]? = some _) r58 rfl (Nat.le_of_ble_eq_true rfl) (Nat.le_of_ble_eq_true rfl) (m_thrownQ hq8) ?_
  refine J_iload (i := 5) (pc := 648) dL_law_648 rfl ?_
  refine J_icmp_eqN (tgt := 655) (pc := 650) dL_law_650 (by decide) (by omega) (by omega) (fun c650 => ?_) (fun c650 => by exfalso; first | omega | simp_all)
  refine J_iload (i := 5) (pc := 655) dL_law_655 rfl ?_
  refine J_if_neN (tgt := 672) (pc := 657) dL_law_657 (by decide) (by omega) (fun c657 => ?_) (fun c657 => ?_)
  · skip
    refine J_goto (tgt := 1403) (pc := 672) dL_law_672 (by decide) ?_
    refine J_sub (lv' := [(4, .int (nI (i))), (0, .ref (0)), (1, .ref (1)), (2, .ref (53)), (3, .ref (59))]) [2, 3, 4, 5, 6] rfl ?_
    exact hn σ' h_3 ⟨GH_FM fm8 gh9, ⟨_, hq8⟩, f9, c8⟩
  · skip
    refine J_aload_n (i := 3) (pc := 660) dL_law_660 rfl rfl ?_
    refine J_iconst (v := nI (0)) (pc := 661) dL_law_661 rfl ?_
    refine J_lald (j := 0) (pc := 662) dL_law_662 c8 rfl (by omega) (by omega) ?_
    rw [show f9 0 = x.toInt64 from fx c657]
    refine J_iload (i := 6) (pc := 663) dL_law_663 rfl ?_
    refine J_i2l (pc := 665) dL_law_665 ?_
    refine J_lcmp (pc := 666) dL_law_666 ?_
    refine J_if_eq (tgt := 672) (pc := 667) dL_law_667 (by decide) (fun c667 => ?_) (fun c667 => absurd c667 (fun q => q (by rw [hxy c657]; exact lg_self _)))
    refine J_goto (tgt := 1403) (pc := 672) dL_law_672 (by decide) ?_
    refine J_sub (lv' := [(4, .int (nI (i))), (0, .ref (0)), (1, .ref (1)), (2, .ref (53)), (3, .ref (59))]) [2, 3, 4, 5, 6] rfl ?_
    exact hn σ' h_3 ⟨GH_FM fm8 gh9, ⟨_, hq8⟩, f9, c8⟩

set_option maxHeartbeats 2000000 in
set_option maxRecDepth 20000 in
theorem op_node {g : GT} {d ca2 sa2 i : Nat} {σ : ST} {h : MH} (hL : g_L g ≤ 2560) (hi : i + 5 ≤ g_L g) (hS : LSt h σ) (hn : ∀ σ' h', LSt h' σ' → J g (d + 62) ca2 sa2 mL_law 1403 [(4, .int (nI (i))), (0, .ref (0)), (1, .ref (1)), (2, .ref (53)), (3, .ref (59))] [] h' QL) : J g (d + 62) (ca2 + 1111) (sa2 + 7006) mL_law 675 [(4, .int (nI (i))), (0, .ref (0)), (1, .ref (1)), (2, .ref (53)), (3, .ref (59))] [] h QL := by
  obtain ⟨hG, ⟨th, hq⟩, f, c59⟩ := hS
  obtain ⟨hW, ok⟩ := MQ_W hq
  obtain ⟨k, x, y, σ', hk, hσ, hxy, hc, hm⟩ := pair_node (g := g) hW ok (g_x g (i + 1)) (g_x g (i + 2)) (g_x g (i + 3))
  refine J_aload_n (i := 1) (pc := 675) dL_law_675 rfl rfl ?_
  refine J_aload_n (i := 0) (pc := 676) dL_law_676 rfl rfl ?_
  refine J_iload (i := 4) (pc := 677) dL_law_677 rfl ?_
  refine J_iconst (v := nI (1)) (pc := 679) dL_law_679 rfl ?_
  refine J_iaddN (pc := 680) dL_law_680 ?_
  refine J_sld (j := i + 1) (pc := 681) dL_law_681 rfl (fun _ => by omega) ?_
  refine J_aload_n (i := 0) (pc := 682) dL_law_682 rfl rfl ?_
  refine J_iload (i := 4) (pc := 683) dL_law_683 rfl ?_
  refine J_iconst (v := nI (2)) (pc := 685) dL_law_685 rfl ?_
  refine J_iaddN (pc := 686) dL_law_686 ?_
  refine J_sld (j := i + 2) (pc := 687) dL_law_687 rfl (fun _ => by omega) ?_
  refine J_aload_n (i := 0) (pc := 688) dL_law_688 rfl rfl ?_
  refine J_iload (i := 4) (pc := 689) dL_law_689 rfl ?_
  refine J_iconst (v := nI (3)) (pc := 691) dL_law_691 rfl ?_
  refine J_iaddN (pc := 692) dL_law_692 ?_
  refine J_sld (j := i + 3) (pc := 693) dL_law_693 rfl (fun _ => by omega) ?_
  refine J_aload_n (i := 3) (pc := 694) dL_law_694 rfl rfl ?_
  have hqσ := hq
  refine J_callSW (st := []) (As := [.ref (1), .int (g_x g (i + 1)), .int (g_x g (i + 2)), .int (g_x g (i + 3)), .ref (59)]) (v := some (.int (nI (k)))) (ca1 := 1) (sa1 := 6) (ca2 := ca2 + 1110) (sa2 := sa2 + 7000) (pc := 695) dL_law_695 okwL_node q3_50 q3_51 rfl (Nat.le_of_ble_eq_true rfl) (Nat.le_of_ble_eq_true rfl) (w_node (d := d + 60) (hc d h hG) hG c59 (by omega) (fun q => by rw [hσ q]; exact hG)) (by omega) (by omega) (fun h_1 q_2 => ?_)
  obtain ⟨z9, u9, gh9, f9, c9, fx⟩ := q_2
  have hq9 := MQ_oth u9 z9 hqσ
  obtain ⟨fs9, r53⟩ := MQ_53 hq9
  refine J_istore (i := 5) (lv' := [(5, .int (nI (k))), (4, .int (nI (i))), (0, .ref (0)), (1, .ref (1)), (2, .ref (53)), (3, .ref (59))]) (pc := 698) dL_law_698 (by decide) rfl ?_
  refine J_aload_n (i := 2) (pc := 700) dL_law_700 rfl rfl ?_
  refine J_aload_n (i := 0) (pc := 701) dL_law_701 rfl rfl ?_
  refine J_iload (i := 4) (pc := 702) dL_law_702 rfl ?_
  refine J_iconst (v := nI (1)) (pc := 704) dL_law_704 rfl ?_
  refine J_iaddN (pc := 705) dL_law_705 ?_
  refine J_sld (j := i + 1) (pc := 706) dL_law_706 rfl (fun _ => by omega) ?_
  refine J_aload_n (i := 0) (pc := 707) dL_law_707 rfl rfl ?_
  refine J_iload (i := 4) (pc := 708) dL_law_708 rfl ?_
  refine J_iconst (v := nI (2)) (pc := 710) dL_law_710 rfl ?_
  refine J_iaddN (pc := 711) dL_law_711 ?_
  refine J_sld (j := i + 2) (pc := 712) dL_law_712 rfl (fun _ => by omega) ?_
  refine J_aload_n (i := 0) (pc := 713) dL_law_713 rfl rfl ?_
  refine J_iload (i := 4) (pc := 714) dL_law_714 rfl ?_
  refine J_iconst (v := nI (3)) (pc := 716) dL_law_716 rfl ?_
  refine J_iaddN (pc := 717) dL_law_717 ?_
  refine J_sld (j := i + 3) (pc := 718) dL_law_718 rfl (fun _ => by omega) ?_
  refine J_cVB (st := []) (As := [.int (g_x g (i + 1)), .int (g_x g (i + 2)), .int (g_x g (i + 3))]) (v := some (.int (y))) (ca1 := 1110) (sa1 := 7000) (ca2 := ca2) (sa2 := sa2) (pc := 719) dL_law_719 okX3_node q4_34 q4_35 q4_36 (rfl : vwCl[3]? = some _) r53 rfl (Nat.le_of_ble_eq_true rfl) (Nat.le_of_ble_eq_true rfl) (hm (d + 1) _ th hq9) (by omega) (by omega) (fun h_3 q_4 => ?_)
  obtain ⟨fm8, hq8⟩ := q_4
  have c8 := (fm8.2 59 (Or.inr rfl)).trans c9
  obtain ⟨fs8, r58⟩ := MQ_53 hq8
  refine J_istore (i := 6) (lv' := [(6, .int (y)), (5, .int (nI (k))), (4, .int (nI (i))), (0, .ref (0)), (1, .ref (1)), (2, .ref (53)), (3, .ref (59))]) (pc := 722) dL_law_722 (by decide) rfl ?_
  refine J_aload_n (i := 2) (pc := 724) dL_law_724 rfl rfl ?_
  refine J_cVi (st := []) (As := []) (pc := 725) dL_law_725 okX3_thrown q3_155 q3_156 q3_157 (rfl : vwCl[3]? = some _) r58 rfl (Nat.le_of_ble_eq_true rfl) (Nat.le_of_ble_eq_true rfl) (m_thrownQ hq8) ?_
  refine J_iload (i := 5) (pc := 728) dL_law_728 rfl ?_
  refine J_icmp_eqN (tgt := 735) (pc := 730) dL_law_730 (by decide) (by omega) (by omega) (fun c730 => ?_) (fun c730 => by exfalso; first | omega | simp_all)
  refine J_iload (i := 5) (pc := 735) dL_law_735 rfl ?_
  refine J_if_neN (tgt := 752) (pc := 737) dL_law_737 (by decide) (by omega) (fun c737 => ?_) (fun c737 => ?_)
  · skip
    refine J_goto (tgt := 1403) (pc := 752) dL_law_752 (by decide) ?_
    refine J_sub (lv' := [(4, .int (nI (i))), (0, .ref (0)), (1, .ref (1)), (2, .ref (53)), (3, .ref (59))]) [2, 3, 4, 5, 6] rfl ?_
    exact hn σ' h_3 ⟨GH_FM fm8 gh9, ⟨_, hq8⟩, f9, c8⟩
  · skip
    refine J_aload_n (i := 3) (pc := 740) dL_law_740 rfl rfl ?_
    refine J_iconst (v := nI (0)) (pc := 741) dL_law_741 rfl ?_
    refine J_lald (j := 0) (pc := 742) dL_law_742 c8 rfl (by omega) (by omega) ?_
    rw [show f9 0 = x.toInt64 from fx c737]
    refine J_iload (i := 6) (pc := 743) dL_law_743 rfl ?_
    refine J_i2l (pc := 745) dL_law_745 ?_
    refine J_lcmp (pc := 746) dL_law_746 ?_
    refine J_if_eq (tgt := 752) (pc := 747) dL_law_747 (by decide) (fun c747 => ?_) (fun c747 => absurd c747 (fun q => q (by rw [hxy c737]; exact lg_self _)))
    refine J_goto (tgt := 1403) (pc := 752) dL_law_752 (by decide) ?_
    refine J_sub (lv' := [(4, .int (nI (i))), (0, .ref (0)), (1, .ref (1)), (2, .ref (53)), (3, .ref (59))]) [2, 3, 4, 5, 6] rfl ?_
    exact hn σ' h_3 ⟨GH_FM fm8 gh9, ⟨_, hq8⟩, f9, c8⟩

set_option maxHeartbeats 2000000 in
set_option maxRecDepth 20000 in
theorem op_about {g : GT} {d ca2 sa2 i : Nat} {σ : ST} {h : MH} (hL : g_L g ≤ 2560) (hi : i + 5 ≤ g_L g) (hS : LSt h σ) (hn : ∀ σ' h', LSt h' σ' → J g (d + 62) ca2 sa2 mL_law 1403 [(4, .int (nI (i))), (0, .ref (0)), (1, .ref (1)), (2, .ref (53)), (3, .ref (59))] [] h' QL) : J g (d + 62) (ca2 + 1111) (sa2 + 7006) mL_law 755 [(4, .int (nI (i))), (0, .ref (0)), (1, .ref (1)), (2, .ref (53)), (3, .ref (59))] [] h QL := by
  obtain ⟨hG, ⟨th, hq⟩, f, c59⟩ := hS
  obtain ⟨hW, ok⟩ := MQ_W hq
  obtain ⟨k, x, y, σ', hk, hσ, hxy, hc, hm⟩ := pair_about (g := g) hW ok (g_x g (i + 1)) (g_x g (i + 2))
  refine J_aload_n (i := 1) (pc := 755) dL_law_755 rfl rfl ?_
  refine J_aload_n (i := 0) (pc := 756) dL_law_756 rfl rfl ?_
  refine J_iload (i := 4) (pc := 757) dL_law_757 rfl ?_
  refine J_iconst (v := nI (1)) (pc := 759) dL_law_759 rfl ?_
  refine J_iaddN (pc := 760) dL_law_760 ?_
  refine J_sld (j := i + 1) (pc := 761) dL_law_761 rfl (fun _ => by omega) ?_
  refine J_aload_n (i := 0) (pc := 762) dL_law_762 rfl rfl ?_
  refine J_iload (i := 4) (pc := 763) dL_law_763 rfl ?_
  refine J_iconst (v := nI (2)) (pc := 765) dL_law_765 rfl ?_
  refine J_iaddN (pc := 766) dL_law_766 ?_
  refine J_sld (j := i + 2) (pc := 767) dL_law_767 rfl (fun _ => by omega) ?_
  refine J_aload_n (i := 3) (pc := 768) dL_law_768 rfl rfl ?_
  have hqσ := hq
  refine J_callSW (st := []) (As := [.ref (1), .int (g_x g (i + 1)), .int (g_x g (i + 2)), .ref (59)]) (v := some (.int (nI (k)))) (ca1 := 1) (sa1 := 6) (ca2 := ca2 + 1110) (sa2 := sa2 + 7000) (pc := 769) dL_law_769 okwL_about q3_54 q3_55 rfl (Nat.le_of_ble_eq_true rfl) (Nat.le_of_ble_eq_true rfl) (w_about (d := d + 60) (hc d h hG) hG c59 (by omega) (fun q => by rw [hσ q]; exact hG)) (by omega) (by omega) (fun h_1 q_2 => ?_)
  obtain ⟨z9, u9, gh9, f9, c9, fx⟩ := q_2
  have hq9 := MQ_oth u9 z9 hqσ
  obtain ⟨fs9, r53⟩ := MQ_53 hq9
  refine J_istore (i := 5) (lv' := [(5, .int (nI (k))), (4, .int (nI (i))), (0, .ref (0)), (1, .ref (1)), (2, .ref (53)), (3, .ref (59))]) (pc := 772) dL_law_772 (by decide) rfl ?_
  refine J_aload_n (i := 2) (pc := 774) dL_law_774 rfl rfl ?_
  refine J_aload_n (i := 0) (pc := 775) dL_law_775 rfl rfl ?_
  refine J_iload (i := 4) (pc := 776) dL_law_776 rfl ?_
  refine J_iconst (v := nI (1)) (pc := 778) dL_law_778 rfl ?_
  refine J_iaddN (pc := 779) dL_law_779 ?_
  refine J_sld (j := i + 1) (pc := 780) dL_law_780 rfl (fun _ => by omega) ?_
  refine J_aload_n (i := 0) (pc := 781) dL_law_781 rfl rfl ?_
  refine J_iload (i := 4) (pc := 782) dL_law_782 rfl ?_
  refine J_iconst (v := nI (2)) (pc := 784) dL_law_784 rfl ?_
  refine J_iaddN (pc := 785) dL_law_785 ?_
  refine J_sld (j := i + 2) (pc := 786) dL_law_786 rfl (fun _ => by omega) ?_
  refine J_cVB (st := []) (As := [.int (g_x g (i + 1)), .int (g_x g (i + 2))]) (v := some (.int (y))) (ca1 := 1110) (sa1 := 7000) (ca2 := ca2) (sa2 := sa2) (pc := 787) dL_law_787 okX3_about q4_50 q4_51 q4_52 (rfl : vwCl[3]? = some _) r53 rfl (Nat.le_of_ble_eq_true rfl) (Nat.le_of_ble_eq_true rfl) (hm (d + 1) _ th hq9) (by omega) (by omega) (fun h_3 q_4 => ?_)
  obtain ⟨fm8, hq8⟩ := q_4
  have c8 := (fm8.2 59 (Or.inr rfl)).trans c9
  obtain ⟨fs8, r58⟩ := MQ_53 hq8
  refine J_istore (i := 6) (lv' := [(6, .int (y)), (5, .int (nI (k))), (4, .int (nI (i))), (0, .ref (0)), (1, .ref (1)), (2, .ref (53)), (3, .ref (59))]) (pc := 790) dL_law_790 (by decide) rfl ?_
  refine J_aload_n (i := 2) (pc := 792) dL_law_792 rfl rfl ?_
  refine J_cVi (st := []) (As := []) (pc := 793) dL_law_793 okX3_thrown q3_155 q3_156 q3_157 (rfl : vwCl[3]? = some _) r58 rfl (Nat.le_of_ble_eq_true rfl) (Nat.le_of_ble_eq_true rfl) (m_thrownQ hq8) ?_
  refine J_iload (i := 5) (pc := 796) dL_law_796 rfl ?_
  refine J_icmp_eqN (tgt := 803) (pc := 798) dL_law_798 (by decide) (by omega) (by omega) (fun c798 => ?_) (fun c798 => by exfalso; first | omega | simp_all)
  refine J_iload (i := 5) (pc := 803) dL_law_803 rfl ?_
  refine J_if_neN (tgt := 820) (pc := 805) dL_law_805 (by decide) (by omega) (fun c805 => ?_) (fun c805 => ?_)
  · skip
    refine J_goto (tgt := 1403) (pc := 820) dL_law_820 (by decide) ?_
    refine J_sub (lv' := [(4, .int (nI (i))), (0, .ref (0)), (1, .ref (1)), (2, .ref (53)), (3, .ref (59))]) [2, 3, 4, 5, 6] rfl ?_
    exact hn σ' h_3 ⟨GH_FM fm8 gh9, ⟨_, hq8⟩, f9, c8⟩
  · skip
    refine J_aload_n (i := 3) (pc := 808) dL_law_808 rfl rfl ?_
    refine J_iconst (v := nI (0)) (pc := 809) dL_law_809 rfl ?_
    refine J_lald (j := 0) (pc := 810) dL_law_810 c8 rfl (by omega) (by omega) ?_
    rw [show f9 0 = x.toInt64 from fx c805]
    refine J_iload (i := 6) (pc := 811) dL_law_811 rfl ?_
    refine J_i2l (pc := 813) dL_law_813 ?_
    refine J_lcmp (pc := 814) dL_law_814 ?_
    refine J_if_eq (tgt := 820) (pc := 815) dL_law_815 (by decide) (fun c815 => ?_) (fun c815 => absurd c815 (fun q => q (by rw [hxy c805]; exact lg_self _)))
    refine J_goto (tgt := 1403) (pc := 820) dL_law_820 (by decide) ?_
    refine J_sub (lv' := [(4, .int (nI (i))), (0, .ref (0)), (1, .ref (1)), (2, .ref (53)), (3, .ref (59))]) [2, 3, 4, 5, 6] rfl ?_
    exact hn σ' h_3 ⟨GH_FM fm8 gh9, ⟨_, hq8⟩, f9, c8⟩

set_option maxHeartbeats 2000000 in
set_option maxRecDepth 20000 in
theorem op_told {g : GT} {d ca2 sa2 i : Nat} {σ : ST} {h : MH} (hL : g_L g ≤ 2560) (hi : i + 5 ≤ g_L g) (hS : LSt h σ) (hn : ∀ σ' h', LSt h' σ' → J g (d + 62) ca2 sa2 mL_law 1403 [(4, .int (nI (i))), (0, .ref (0)), (1, .ref (1)), (2, .ref (53)), (3, .ref (59))] [] h' QL) : J g (d + 62) (ca2 + 1111) (sa2 + 7006) mL_law 823 [(4, .int (nI (i))), (0, .ref (0)), (1, .ref (1)), (2, .ref (53)), (3, .ref (59))] [] h QL := by
  obtain ⟨hG, ⟨th, hq⟩, f, c59⟩ := hS
  obtain ⟨hW, ok⟩ := MQ_W hq
  obtain ⟨k, x, y, σ', hk, hσ, hxy, hc, hm⟩ := pair_told (g := g) hW ok (g_x g (i + 1)) (g_x g (i + 2))
  refine J_aload_n (i := 1) (pc := 823) dL_law_823 rfl rfl ?_
  refine J_aload_n (i := 0) (pc := 824) dL_law_824 rfl rfl ?_
  refine J_iload (i := 4) (pc := 825) dL_law_825 rfl ?_
  refine J_iconst (v := nI (1)) (pc := 827) dL_law_827 rfl ?_
  refine J_iaddN (pc := 828) dL_law_828 ?_
  refine J_sld (j := i + 1) (pc := 829) dL_law_829 rfl (fun _ => by omega) ?_
  refine J_aload_n (i := 0) (pc := 830) dL_law_830 rfl rfl ?_
  refine J_iload (i := 4) (pc := 831) dL_law_831 rfl ?_
  refine J_iconst (v := nI (2)) (pc := 833) dL_law_833 rfl ?_
  refine J_iaddN (pc := 834) dL_law_834 ?_
  refine J_sld (j := i + 2) (pc := 835) dL_law_835 rfl (fun _ => by omega) ?_
  refine J_aload_n (i := 3) (pc := 836) dL_law_836 rfl rfl ?_
  have hqσ := hq
  refine J_callSW (st := []) (As := [.ref (1), .int (g_x g (i + 1)), .int (g_x g (i + 2)), .ref (59)]) (v := some (.int (nI (k)))) (ca1 := 1) (sa1 := 6) (ca2 := ca2 + 1110) (sa2 := sa2 + 7000) (pc := 837) dL_law_837 okwL_told q3_58 q3_59 rfl (Nat.le_of_ble_eq_true rfl) (Nat.le_of_ble_eq_true rfl) (w_told (d := d + 60) (hc d h hG) hG c59 (by omega) (fun q => by rw [hσ q]; exact hG)) (by omega) (by omega) (fun h_1 q_2 => ?_)
  obtain ⟨z9, u9, gh9, f9, c9, fx⟩ := q_2
  have hq9 := MQ_oth u9 z9 hqσ
  obtain ⟨fs9, r53⟩ := MQ_53 hq9
  refine J_istore (i := 5) (lv' := [(5, .int (nI (k))), (4, .int (nI (i))), (0, .ref (0)), (1, .ref (1)), (2, .ref (53)), (3, .ref (59))]) (pc := 840) dL_law_840 (by decide) rfl ?_
  refine J_aload_n (i := 2) (pc := 842) dL_law_842 rfl rfl ?_
  refine J_aload_n (i := 0) (pc := 843) dL_law_843 rfl rfl ?_
  refine J_iload (i := 4) (pc := 844) dL_law_844 rfl ?_
  refine J_iconst (v := nI (1)) (pc := 846) dL_law_846 rfl ?_
  refine J_iaddN (pc := 847) dL_law_847 ?_
  refine J_sld (j := i + 1) (pc := 848) dL_law_848 rfl (fun _ => by omega) ?_
  refine J_aload_n (i := 0) (pc := 849) dL_law_849 rfl rfl ?_
  refine J_iload (i := 4) (pc := 850) dL_law_850 rfl ?_
  refine J_iconst (v := nI (2)) (pc := 852) dL_law_852 rfl ?_
  refine J_iaddN (pc := 853) dL_law_853 ?_
  refine J_sld (j := i + 2) (pc := 854) dL_law_854 rfl (fun _ => by omega) ?_
  refine J_cVB (st := []) (As := [.int (g_x g (i + 1)), .int (g_x g (i + 2))]) (v := some (.int (y))) (ca1 := 1110) (sa1 := 7000) (ca2 := ca2) (sa2 := sa2) (pc := 855) dL_law_855 okX3_told q4_65 q4_66 q4_67 (rfl : vwCl[3]? = some _) r53 rfl (Nat.le_of_ble_eq_true rfl) (Nat.le_of_ble_eq_true rfl) (hm (d + 1) _ th hq9) (by omega) (by omega) (fun h_3 q_4 => ?_)
  obtain ⟨fm8, hq8⟩ := q_4
  have c8 := (fm8.2 59 (Or.inr rfl)).trans c9
  obtain ⟨fs8, r58⟩ := MQ_53 hq8
  refine J_istore (i := 6) (lv' := [(6, .int (y)), (5, .int (nI (k))), (4, .int (nI (i))), (0, .ref (0)), (1, .ref (1)), (2, .ref (53)), (3, .ref (59))]) (pc := 858) dL_law_858 (by decide) rfl ?_
  refine J_aload_n (i := 2) (pc := 860) dL_law_860 rfl rfl ?_
  refine J_cVi (st := []) (As := []) (pc := 861) dL_law_861 okX3_thrown q3_155 q3_156 q3_157 (rfl : vwCl[3]? = some _) r58 rfl (Nat.le_of_ble_eq_true rfl) (Nat.le_of_ble_eq_true rfl) (m_thrownQ hq8) ?_
  refine J_iload (i := 5) (pc := 864) dL_law_864 rfl ?_
  refine J_icmp_eqN (tgt := 871) (pc := 866) dL_law_866 (by decide) (by omega) (by omega) (fun c866 => ?_) (fun c866 => by exfalso; first | omega | simp_all)
  refine J_iload (i := 5) (pc := 871) dL_law_871 rfl ?_
  refine J_if_neN (tgt := 888) (pc := 873) dL_law_873 (by decide) (by omega) (fun c873 => ?_) (fun c873 => ?_)
  · skip
    refine J_goto (tgt := 1403) (pc := 888) dL_law_888 (by decide) ?_
    refine J_sub (lv' := [(4, .int (nI (i))), (0, .ref (0)), (1, .ref (1)), (2, .ref (53)), (3, .ref (59))]) [2, 3, 4, 5, 6] rfl ?_
    exact hn σ' h_3 ⟨GH_FM fm8 gh9, ⟨_, hq8⟩, f9, c8⟩
  · skip
    refine J_aload_n (i := 3) (pc := 876) dL_law_876 rfl rfl ?_
    refine J_iconst (v := nI (0)) (pc := 877) dL_law_877 rfl ?_
    refine J_lald (j := 0) (pc := 878) dL_law_878 c8 rfl (by omega) (by omega) ?_
    rw [show f9 0 = x.toInt64 from fx c873]
    refine J_iload (i := 6) (pc := 879) dL_law_879 rfl ?_
    refine J_i2l (pc := 881) dL_law_881 ?_
    refine J_lcmp (pc := 882) dL_law_882 ?_
    refine J_if_eq (tgt := 888) (pc := 883) dL_law_883 (by decide) (fun c883 => ?_) (fun c883 => absurd c883 (fun q => q (by rw [hxy c873]; exact lg_self _)))
    refine J_goto (tgt := 1403) (pc := 888) dL_law_888 (by decide) ?_
    refine J_sub (lv' := [(4, .int (nI (i))), (0, .ref (0)), (1, .ref (1)), (2, .ref (53)), (3, .ref (59))]) [2, 3, 4, 5, 6] rfl ?_
    exact hn σ' h_3 ⟨GH_FM fm8 gh9, ⟨_, hq8⟩, f9, c8⟩

set_option maxHeartbeats 2000000 in
set_option maxRecDepth 20000 in
theorem op_says {g : GT} {d ca2 sa2 i : Nat} {σ : ST} {h : MH} (hL : g_L g ≤ 2560) (hi : i + 5 ≤ g_L g) (hS : LSt h σ) (hn : ∀ σ' h', LSt h' σ' → J g (d + 62) ca2 sa2 mL_law 1403 [(4, .int (nI (i))), (0, .ref (0)), (1, .ref (1)), (2, .ref (53)), (3, .ref (59))] [] h' QL) : J g (d + 62) (ca2 + 1111) (sa2 + 7006) mL_law 891 [(4, .int (nI (i))), (0, .ref (0)), (1, .ref (1)), (2, .ref (53)), (3, .ref (59))] [] h QL := by
  obtain ⟨hG, ⟨th, hq⟩, f, c59⟩ := hS
  obtain ⟨hW, ok⟩ := MQ_W hq
  obtain ⟨k, x, y, σ', hk, hσ, hxy, hc, hm⟩ := pair_says (g := g) hW ok (g_x g (i + 1)) (g_x g (i + 2)) (g_x g (i + 3)) (g_x g (i + 4))
  refine J_aload_n (i := 1) (pc := 891) dL_law_891 rfl rfl ?_
  refine J_aload_n (i := 0) (pc := 892) dL_law_892 rfl rfl ?_
  refine J_iload (i := 4) (pc := 893) dL_law_893 rfl ?_
  refine J_iconst (v := nI (1)) (pc := 895) dL_law_895 rfl ?_
  refine J_iaddN (pc := 896) dL_law_896 ?_
  refine J_sld (j := i + 1) (pc := 897) dL_law_897 rfl (fun _ => by omega) ?_
  refine J_aload_n (i := 0) (pc := 898) dL_law_898 rfl rfl ?_
  refine J_iload (i := 4) (pc := 899) dL_law_899 rfl ?_
  refine J_iconst (v := nI (2)) (pc := 901) dL_law_901 rfl ?_
  refine J_iaddN (pc := 902) dL_law_902 ?_
  refine J_sld (j := i + 2) (pc := 903) dL_law_903 rfl (fun _ => by omega) ?_
  refine J_aload_n (i := 0) (pc := 904) dL_law_904 rfl rfl ?_
  refine J_iload (i := 4) (pc := 905) dL_law_905 rfl ?_
  refine J_iconst (v := nI (3)) (pc := 907) dL_law_907 rfl ?_
  refine J_iaddN (pc := 908) dL_law_908 ?_
  refine J_sld (j := i + 3) (pc := 909) dL_law_909 rfl (fun _ => by omega) ?_
  refine J_aload_n (i := 0) (pc := 910) dL_law_910 rfl rfl ?_
  refine J_iload (i := 4) (pc := 911) dL_law_911 rfl ?_
  refine J_iconst (v := nI (4)) (pc := 913) dL_law_913 rfl ?_
  refine J_iaddN (pc := 914) dL_law_914 ?_
  refine J_sld (j := i + 4) (pc := 915) dL_law_915 rfl (fun _ => by omega) ?_
  refine J_aload_n (i := 3) (pc := 916) dL_law_916 rfl rfl ?_
  have hqσ := hq
  refine J_callSW (st := []) (As := [.ref (1), .int (g_x g (i + 1)), .int (g_x g (i + 2)), .int (g_x g (i + 3)), .int (g_x g (i + 4)), .ref (59)]) (v := some (.int (nI (k)))) (ca1 := 1) (sa1 := 6) (ca2 := ca2 + 1110) (sa2 := sa2 + 7000) (pc := 917) dL_law_917 okwL_says q3_62 q3_63 rfl (Nat.le_of_ble_eq_true rfl) (Nat.le_of_ble_eq_true rfl) (w_says (d := d + 60) (hc d h hG) hG c59 (fun q => by rw [hσ q]; exact hG)) (by omega) (by omega) (fun h_1 q_2 => ?_)
  obtain ⟨z9, u9, gh9, f9, c9, fx⟩ := q_2
  have hq9 := MQ_oth u9 z9 hqσ
  obtain ⟨fs9, r53⟩ := MQ_53 hq9
  refine J_istore (i := 5) (lv' := [(5, .int (nI (k))), (4, .int (nI (i))), (0, .ref (0)), (1, .ref (1)), (2, .ref (53)), (3, .ref (59))]) (pc := 920) dL_law_920 (by decide) rfl ?_
  refine J_aload_n (i := 2) (pc := 922) dL_law_922 rfl rfl ?_
  refine J_aload_n (i := 0) (pc := 923) dL_law_923 rfl rfl ?_
  refine J_iload (i := 4) (pc := 924) dL_law_924 rfl ?_
  refine J_iconst (v := nI (1)) (pc := 926) dL_law_926 rfl ?_
  refine J_iaddN (pc := 927) dL_law_927 ?_
  refine J_sld (j := i + 1) (pc := 928) dL_law_928 rfl (fun _ => by omega) ?_
  refine J_aload_n (i := 0) (pc := 929) dL_law_929 rfl rfl ?_
  refine J_iload (i := 4) (pc := 930) dL_law_930 rfl ?_
  refine J_iconst (v := nI (2)) (pc := 932) dL_law_932 rfl ?_
  refine J_iaddN (pc := 933) dL_law_933 ?_
  refine J_sld (j := i + 2) (pc := 934) dL_law_934 rfl (fun _ => by omega) ?_
  refine J_aload_n (i := 0) (pc := 935) dL_law_935 rfl rfl ?_
  refine J_iload (i := 4) (pc := 936) dL_law_936 rfl ?_
  refine J_iconst (v := nI (3)) (pc := 938) dL_law_938 rfl ?_
  refine J_iaddN (pc := 939) dL_law_939 ?_
  refine J_sld (j := i + 3) (pc := 940) dL_law_940 rfl (fun _ => by omega) ?_
  refine J_aload_n (i := 0) (pc := 941) dL_law_941 rfl rfl ?_
  refine J_iload (i := 4) (pc := 942) dL_law_942 rfl ?_
  refine J_iconst (v := nI (4)) (pc := 944) dL_law_944 rfl ?_
  refine J_iaddN (pc := 945) dL_law_945 ?_
  refine J_sld (j := i + 4) (pc := 946) dL_law_946 rfl (fun _ => by omega) ?_
  refine J_cVB (st := []) (As := [.int (g_x g (i + 1)), .int (g_x g (i + 2)), .int (g_x g (i + 3)), .int (g_x g (i + 4))]) (v := some (.int (y))) (ca1 := 1110) (sa1 := 7000) (ca2 := ca2) (sa2 := sa2) (pc := 947) dL_law_947 okX3_says q4_73 q4_74 q4_75 (rfl : vwCl[3]? = some _) r53 rfl (Nat.le_of_ble_eq_true rfl) (Nat.le_of_ble_eq_true rfl) (hm (d + 1) _ th hq9) (by omega) (by omega) (fun h_3 q_4 => ?_)
  obtain ⟨fm8, hq8⟩ := q_4
  have c8 := (fm8.2 59 (Or.inr rfl)).trans c9
  obtain ⟨fs8, r58⟩ := MQ_53 hq8
  refine J_istore (i := 6) (lv' := [(6, .int (y)), (5, .int (nI (k))), (4, .int (nI (i))), (0, .ref (0)), (1, .ref (1)), (2, .ref (53)), (3, .ref (59))]) (pc := 950) dL_law_950 (by decide) rfl ?_
  refine J_aload_n (i := 2) (pc := 952) dL_law_952 rfl rfl ?_
  refine J_cVi (st := []) (As := []) (pc := 953) dL_law_953 okX3_thrown q3_155 q3_156 q3_157 (rfl : vwCl[3]? = some _) r58 rfl (Nat.le_of_ble_eq_true rfl) (Nat.le_of_ble_eq_true rfl) (m_thrownQ hq8) ?_
  refine J_iload (i := 5) (pc := 956) dL_law_956 rfl ?_
  refine J_icmp_eqN (tgt := 963) (pc := 958) dL_law_958 (by decide) (by omega) (by omega) (fun c958 => ?_) (fun c958 => by exfalso; first | omega | simp_all)
  refine J_iload (i := 5) (pc := 963) dL_law_963 rfl ?_
  refine J_if_neN (tgt := 980) (pc := 965) dL_law_965 (by decide) (by omega) (fun c965 => ?_) (fun c965 => ?_)
  · skip
    refine J_goto (tgt := 1403) (pc := 980) dL_law_980 (by decide) ?_
    refine J_sub (lv' := [(4, .int (nI (i))), (0, .ref (0)), (1, .ref (1)), (2, .ref (53)), (3, .ref (59))]) [2, 3, 4, 5, 6] rfl ?_
    exact hn σ' h_3 ⟨GH_FM fm8 gh9, ⟨_, hq8⟩, f9, c8⟩
  · skip
    refine J_aload_n (i := 3) (pc := 968) dL_law_968 rfl rfl ?_
    refine J_iconst (v := nI (0)) (pc := 969) dL_law_969 rfl ?_
    refine J_lald (j := 0) (pc := 970) dL_law_970 c8 rfl (by omega) (by omega) ?_
    rw [show f9 0 = x.toInt64 from fx c965]
    refine J_iload (i := 6) (pc := 971) dL_law_971 rfl ?_
    refine J_i2l (pc := 973) dL_law_973 ?_
    refine J_lcmp (pc := 974) dL_law_974 ?_
    refine J_if_eq (tgt := 980) (pc := 975) dL_law_975 (by decide) (fun c975 => ?_) (fun c975 => absurd c975 (fun q => q (by rw [hxy c965]; exact lg_self _)))
    refine J_goto (tgt := 1403) (pc := 980) dL_law_980 (by decide) ?_
    refine J_sub (lv' := [(4, .int (nI (i))), (0, .ref (0)), (1, .ref (1)), (2, .ref (53)), (3, .ref (59))]) [2, 3, 4, 5, 6] rfl ?_
    exact hn σ' h_3 ⟨GH_FM fm8 gh9, ⟨_, hq8⟩, f9, c8⟩

set_option maxHeartbeats 2000000 in
set_option maxRecDepth 20000 in
theorem op_vote {g : GT} {d ca2 sa2 i : Nat} {σ : ST} {h : MH} (hL : g_L g ≤ 2560) (hi : i + 5 ≤ g_L g) (hS : LSt h σ) (hn : ∀ σ' h', LSt h' σ' → J g (d + 62) ca2 sa2 mL_law 1403 [(4, .int (nI (i))), (0, .ref (0)), (1, .ref (1)), (2, .ref (53)), (3, .ref (59))] [] h' QL) : J g (d + 62) (ca2 + 1111) (sa2 + 7006) mL_law 983 [(4, .int (nI (i))), (0, .ref (0)), (1, .ref (1)), (2, .ref (53)), (3, .ref (59))] [] h QL := by
  obtain ⟨hG, ⟨th, hq⟩, f, c59⟩ := hS
  obtain ⟨hW, ok⟩ := MQ_W hq
  obtain ⟨k, x, y, σ', hk, hσ, hxy, hc, hm⟩ := pair_vote (g := g) hW ok (g_x g (i + 1)) (g_x g (i + 2)) (g_x g (i + 3))
  refine J_aload_n (i := 1) (pc := 983) dL_law_983 rfl rfl ?_
  refine J_aload_n (i := 0) (pc := 984) dL_law_984 rfl rfl ?_
  refine J_iload (i := 4) (pc := 985) dL_law_985 rfl ?_
  refine J_iconst (v := nI (1)) (pc := 987) dL_law_987 rfl ?_
  refine J_iaddN (pc := 988) dL_law_988 ?_
  refine J_sld (j := i + 1) (pc := 989) dL_law_989 rfl (fun _ => by omega) ?_
  refine J_aload_n (i := 0) (pc := 990) dL_law_990 rfl rfl ?_
  refine J_iload (i := 4) (pc := 991) dL_law_991 rfl ?_
  refine J_iconst (v := nI (2)) (pc := 993) dL_law_993 rfl ?_
  refine J_iaddN (pc := 994) dL_law_994 ?_
  refine J_sld (j := i + 2) (pc := 995) dL_law_995 rfl (fun _ => by omega) ?_
  refine J_aload_n (i := 0) (pc := 996) dL_law_996 rfl rfl ?_
  refine J_iload (i := 4) (pc := 997) dL_law_997 rfl ?_
  refine J_iconst (v := nI (3)) (pc := 999) dL_law_999 rfl ?_
  refine J_iaddN (pc := 1000) dL_law_1000 ?_
  refine J_sld (j := i + 3) (pc := 1001) dL_law_1001 rfl (fun _ => by omega) ?_
  refine J_aload_n (i := 3) (pc := 1002) dL_law_1002 rfl rfl ?_
  have hqσ := hq
  refine J_callSW (st := []) (As := [.ref (1), .int (g_x g (i + 1)), .int (g_x g (i + 2)), .int (g_x g (i + 3)), .ref (59)]) (v := some (.int (nI (k)))) (ca1 := 1) (sa1 := 6) (ca2 := ca2 + 1110) (sa2 := sa2 + 7000) (pc := 1003) dL_law_1003 okwL_vote q3_69 q3_70 rfl (Nat.le_of_ble_eq_true rfl) (Nat.le_of_ble_eq_true rfl) (w_vote (d := d + 60) (hc d h hG) hG c59 (by omega) (fun q => by rw [hσ q]; exact hG)) (by omega) (by omega) (fun h_1 q_2 => ?_)
  obtain ⟨z9, u9, gh9, f9, c9, fx⟩ := q_2
  have hq9 := MQ_oth u9 z9 hqσ
  obtain ⟨fs9, r53⟩ := MQ_53 hq9
  refine J_istore (i := 5) (lv' := [(5, .int (nI (k))), (4, .int (nI (i))), (0, .ref (0)), (1, .ref (1)), (2, .ref (53)), (3, .ref (59))]) (pc := 1006) dL_law_1006 (by decide) rfl ?_
  refine J_aload_n (i := 2) (pc := 1008) dL_law_1008 rfl rfl ?_
  refine J_aload_n (i := 0) (pc := 1009) dL_law_1009 rfl rfl ?_
  refine J_iload (i := 4) (pc := 1010) dL_law_1010 rfl ?_
  refine J_iconst (v := nI (1)) (pc := 1012) dL_law_1012 rfl ?_
  refine J_iaddN (pc := 1013) dL_law_1013 ?_
  refine J_sld (j := i + 1) (pc := 1014) dL_law_1014 rfl (fun _ => by omega) ?_
  refine J_aload_n (i := 0) (pc := 1015) dL_law_1015 rfl rfl ?_
  refine J_iload (i := 4) (pc := 1016) dL_law_1016 rfl ?_
  refine J_iconst (v := nI (2)) (pc := 1018) dL_law_1018 rfl ?_
  refine J_iaddN (pc := 1019) dL_law_1019 ?_
  refine J_sld (j := i + 2) (pc := 1020) dL_law_1020 rfl (fun _ => by omega) ?_
  refine J_aload_n (i := 0) (pc := 1021) dL_law_1021 rfl rfl ?_
  refine J_iload (i := 4) (pc := 1022) dL_law_1022 rfl ?_
  refine J_iconst (v := nI (3)) (pc := 1024) dL_law_1024 rfl ?_
  refine J_iaddN (pc := 1025) dL_law_1025 ?_
  refine J_sld (j := i + 3) (pc := 1026) dL_law_1026 rfl (fun _ => by omega) ?_
  refine J_cVB (st := []) (As := [.int (g_x g (i + 1)), .int (g_x g (i + 2)), .int (g_x g (i + 3))]) (v := some (.int (y))) (ca1 := 1110) (sa1 := 7000) (ca2 := ca2) (sa2 := sa2) (pc := 1027) dL_law_1027 okX3_vote q4_77 q4_78 q4_79 (rfl : vwCl[3]? = some _) r53 rfl (Nat.le_of_ble_eq_true rfl) (Nat.le_of_ble_eq_true rfl) (hm (d + 1) _ th hq9) (by omega) (by omega) (fun h_3 q_4 => ?_)
  obtain ⟨fm8, hq8⟩ := q_4
  have c8 := (fm8.2 59 (Or.inr rfl)).trans c9
  obtain ⟨fs8, r58⟩ := MQ_53 hq8
  refine J_istore (i := 6) (lv' := [(6, .int (y)), (5, .int (nI (k))), (4, .int (nI (i))), (0, .ref (0)), (1, .ref (1)), (2, .ref (53)), (3, .ref (59))]) (pc := 1030) dL_law_1030 (by decide) rfl ?_
  refine J_aload_n (i := 2) (pc := 1032) dL_law_1032 rfl rfl ?_
  refine J_cVi (st := []) (As := []) (pc := 1033) dL_law_1033 okX3_thrown q3_155 q3_156 q3_157 (rfl : vwCl[3]? = some _) r58 rfl (Nat.le_of_ble_eq_true rfl) (Nat.le_of_ble_eq_true rfl) (m_thrownQ hq8) ?_
  refine J_iload (i := 5) (pc := 1036) dL_law_1036 rfl ?_
  refine J_icmp_eqN (tgt := 1043) (pc := 1038) dL_law_1038 (by decide) (by omega) (by omega) (fun c1038 => ?_) (fun c1038 => by exfalso; first | omega | simp_all)
  refine J_iload (i := 5) (pc := 1043) dL_law_1043 rfl ?_
  refine J_if_neN (tgt := 1060) (pc := 1045) dL_law_1045 (by decide) (by omega) (fun c1045 => ?_) (fun c1045 => ?_)
  · skip
    refine J_goto (tgt := 1403) (pc := 1060) dL_law_1060 (by decide) ?_
    refine J_sub (lv' := [(4, .int (nI (i))), (0, .ref (0)), (1, .ref (1)), (2, .ref (53)), (3, .ref (59))]) [2, 3, 4, 5, 6] rfl ?_
    exact hn σ' h_3 ⟨GH_FM fm8 gh9, ⟨_, hq8⟩, f9, c8⟩
  · skip
    refine J_aload_n (i := 3) (pc := 1048) dL_law_1048 rfl rfl ?_
    refine J_iconst (v := nI (0)) (pc := 1049) dL_law_1049 rfl ?_
    refine J_lald (j := 0) (pc := 1050) dL_law_1050 c8 rfl (by omega) (by omega) ?_
    rw [show f9 0 = x.toInt64 from fx c1045]
    refine J_iload (i := 6) (pc := 1051) dL_law_1051 rfl ?_
    refine J_i2l (pc := 1053) dL_law_1053 ?_
    refine J_lcmp (pc := 1054) dL_law_1054 ?_
    refine J_if_eq (tgt := 1060) (pc := 1055) dL_law_1055 (by decide) (fun c1055 => ?_) (fun c1055 => absurd c1055 (fun q => q (by rw [hxy c1045]; exact lg_self _)))
    refine J_goto (tgt := 1403) (pc := 1060) dL_law_1060 (by decide) ?_
    refine J_sub (lv' := [(4, .int (nI (i))), (0, .ref (0)), (1, .ref (1)), (2, .ref (53)), (3, .ref (59))]) [2, 3, 4, 5, 6] rfl ?_
    exact hn σ' h_3 ⟨GH_FM fm8 gh9, ⟨_, hq8⟩, f9, c8⟩

set_option maxHeartbeats 2000000 in
set_option maxRecDepth 20000 in
theorem op_count {g : GT} {d ca2 sa2 i : Nat} {σ : ST} {h : MH} (hL : g_L g ≤ 2560) (hi : i + 5 ≤ g_L g) (hS : LSt h σ) (hn : ∀ σ' h', LSt h' σ' → J g (d + 62) ca2 sa2 mL_law 1403 [(4, .int (nI (i))), (0, .ref (0)), (1, .ref (1)), (2, .ref (53)), (3, .ref (59))] [] h' QL) : J g (d + 62) (ca2 + 1111) (sa2 + 7006) mL_law 1063 [(4, .int (nI (i))), (0, .ref (0)), (1, .ref (1)), (2, .ref (53)), (3, .ref (59))] [] h QL := by
  obtain ⟨hG, ⟨th, hq⟩, f, c59⟩ := hS
  obtain ⟨hW, ok⟩ := MQ_W hq
  obtain ⟨k, x, y, σ', hk, hσ, hxy, hc, hm⟩ := pair_count (g := g) hW ok (g_x g (i + 1))
  refine J_aload_n (i := 1) (pc := 1063) dL_law_1063 rfl rfl ?_
  refine J_aload_n (i := 0) (pc := 1064) dL_law_1064 rfl rfl ?_
  refine J_iload (i := 4) (pc := 1065) dL_law_1065 rfl ?_
  refine J_iconst (v := nI (1)) (pc := 1067) dL_law_1067 rfl ?_
  refine J_iaddN (pc := 1068) dL_law_1068 ?_
  refine J_sld (j := i + 1) (pc := 1069) dL_law_1069 rfl (fun _ => by omega) ?_
  refine J_aload_n (i := 3) (pc := 1070) dL_law_1070 rfl rfl ?_
  have hqσ := hq
  refine J_callSW (st := []) (As := [.ref (1), .int (g_x g (i + 1)), .ref (59)]) (v := some (.int (nI (k)))) (ca1 := 1) (sa1 := 6) (ca2 := ca2 + 1110) (sa2 := sa2 + 7000) (pc := 1071) dL_law_1071 okwL_count q3_76 q3_77 rfl (Nat.le_of_ble_eq_true rfl) (Nat.le_of_ble_eq_true rfl) (w_count (d := d + 60) (hc d h hG) hG c59 (by omega) (fun q => by rw [hσ q]; exact hG)) (by omega) (by omega) (fun h_1 q_2 => ?_)
  obtain ⟨z9, u9, gh9, f9, c9, fx⟩ := q_2
  have hq9 := MQ_oth u9 z9 hqσ
  obtain ⟨fs9, r53⟩ := MQ_53 hq9
  refine J_istore (i := 5) (lv' := [(5, .int (nI (k))), (4, .int (nI (i))), (0, .ref (0)), (1, .ref (1)), (2, .ref (53)), (3, .ref (59))]) (pc := 1074) dL_law_1074 (by decide) rfl ?_
  refine J_aload_n (i := 2) (pc := 1076) dL_law_1076 rfl rfl ?_
  refine J_aload_n (i := 0) (pc := 1077) dL_law_1077 rfl rfl ?_
  refine J_iload (i := 4) (pc := 1078) dL_law_1078 rfl ?_
  refine J_iconst (v := nI (1)) (pc := 1080) dL_law_1080 rfl ?_
  refine J_iaddN (pc := 1081) dL_law_1081 ?_
  refine J_sld (j := i + 1) (pc := 1082) dL_law_1082 rfl (fun _ => by omega) ?_
  refine J_cVB (st := []) (As := [.int (g_x g (i + 1))]) (v := some (.int (y))) (ca1 := 1110) (sa1 := 7000) (ca2 := ca2) (sa2 := sa2) (pc := 1083) dL_law_1083 okX3_count q4_85 q4_86 q4_87 (rfl : vwCl[3]? = some _) r53 rfl (Nat.le_of_ble_eq_true rfl) (Nat.le_of_ble_eq_true rfl) (hm (d + 1) _ th hq9) (by omega) (by omega) (fun h_3 q_4 => ?_)
  obtain ⟨fm8, hq8⟩ := q_4
  have c8 := (fm8.2 59 (Or.inr rfl)).trans c9
  obtain ⟨fs8, r58⟩ := MQ_53 hq8
  refine J_istore (i := 6) (lv' := [(6, .int (y)), (5, .int (nI (k))), (4, .int (nI (i))), (0, .ref (0)), (1, .ref (1)), (2, .ref (53)), (3, .ref (59))]) (pc := 1086) dL_law_1086 (by decide) rfl ?_
  refine J_aload_n (i := 2) (pc := 1088) dL_law_1088 rfl rfl ?_
  refine J_cVi (st := []) (As := []) (pc := 1089) dL_law_1089 okX3_thrown q3_155 q3_156 q3_157 (rfl : vwCl[3]? = some _) r58 rfl (Nat.le_of_ble_eq_true rfl) (Nat.le_of_ble_eq_true rfl) (m_thrownQ hq8) ?_
  refine J_iload (i := 5) (pc := 1092) dL_law_1092 rfl ?_
  refine J_icmp_eqN (tgt := 1099) (pc := 1094) dL_law_1094 (by decide) (by omega) (by omega) (fun c1094 => ?_) (fun c1094 => by exfalso; first | omega | simp_all)
  refine J_iload (i := 5) (pc := 1099) dL_law_1099 rfl ?_
  refine J_if_neN (tgt := 1116) (pc := 1101) dL_law_1101 (by decide) (by omega) (fun c1101 => ?_) (fun c1101 => ?_)
  · skip
    refine J_goto (tgt := 1403) (pc := 1116) dL_law_1116 (by decide) ?_
    refine J_sub (lv' := [(4, .int (nI (i))), (0, .ref (0)), (1, .ref (1)), (2, .ref (53)), (3, .ref (59))]) [2, 3, 4, 5, 6] rfl ?_
    exact hn σ' h_3 ⟨GH_FM fm8 gh9, ⟨_, hq8⟩, f9, c8⟩
  · skip
    refine J_aload_n (i := 3) (pc := 1104) dL_law_1104 rfl rfl ?_
    refine J_iconst (v := nI (0)) (pc := 1105) dL_law_1105 rfl ?_
    refine J_lald (j := 0) (pc := 1106) dL_law_1106 c8 rfl (by omega) (by omega) ?_
    rw [show f9 0 = x.toInt64 from fx c1101]
    refine J_iload (i := 6) (pc := 1107) dL_law_1107 rfl ?_
    refine J_i2l (pc := 1109) dL_law_1109 ?_
    refine J_lcmp (pc := 1110) dL_law_1110 ?_
    refine J_if_eq (tgt := 1116) (pc := 1111) dL_law_1111 (by decide) (fun c1111 => ?_) (fun c1111 => absurd c1111 (fun q => q (by rw [hxy c1101]; exact lg_self _)))
    refine J_goto (tgt := 1403) (pc := 1116) dL_law_1116 (by decide) ?_
    refine J_sub (lv' := [(4, .int (nI (i))), (0, .ref (0)), (1, .ref (1)), (2, .ref (53)), (3, .ref (59))]) [2, 3, 4, 5, 6] rfl ?_
    exact hn σ' h_3 ⟨GH_FM fm8 gh9, ⟨_, hq8⟩, f9, c8⟩

set_option maxHeartbeats 2000000 in
set_option maxRecDepth 20000 in
theorem op_gain {g : GT} {d ca2 sa2 i : Nat} {σ : ST} {h : MH} (hL : g_L g ≤ 2560) (hi : i + 5 ≤ g_L g) (hS : LSt h σ) (hn : ∀ σ' h', LSt h' σ' → J g (d + 62) ca2 sa2 mL_law 1403 [(4, .int (nI (i))), (0, .ref (0)), (1, .ref (1)), (2, .ref (53)), (3, .ref (59))] [] h' QL) : J g (d + 62) (ca2 + 1111) (sa2 + 7006) mL_law 1119 [(4, .int (nI (i))), (0, .ref (0)), (1, .ref (1)), (2, .ref (53)), (3, .ref (59))] [] h QL := by
  obtain ⟨hG, ⟨th, hq⟩, f, c59⟩ := hS
  obtain ⟨hW, ok⟩ := MQ_W hq
  obtain ⟨k, x, y, σ', hk, hσ, hxy, hc, hm⟩ := pair_gain (g := g) hW ok (g_x g (i + 1)) (g_x g (i + 2)) (g_x g (i + 3))
  refine J_aload_n (i := 1) (pc := 1119) dL_law_1119 rfl rfl ?_
  refine J_aload_n (i := 0) (pc := 1120) dL_law_1120 rfl rfl ?_
  refine J_iload (i := 4) (pc := 1121) dL_law_1121 rfl ?_
  refine J_iconst (v := nI (1)) (pc := 1123) dL_law_1123 rfl ?_
  refine J_iaddN (pc := 1124) dL_law_1124 ?_
  refine J_sld (j := i + 1) (pc := 1125) dL_law_1125 rfl (fun _ => by omega) ?_
  refine J_aload_n (i := 0) (pc := 1126) dL_law_1126 rfl rfl ?_
  refine J_iload (i := 4) (pc := 1127) dL_law_1127 rfl ?_
  refine J_iconst (v := nI (2)) (pc := 1129) dL_law_1129 rfl ?_
  refine J_iaddN (pc := 1130) dL_law_1130 ?_
  refine J_sld (j := i + 2) (pc := 1131) dL_law_1131 rfl (fun _ => by omega) ?_
  refine J_aload_n (i := 0) (pc := 1132) dL_law_1132 rfl rfl ?_
  refine J_iload (i := 4) (pc := 1133) dL_law_1133 rfl ?_
  refine J_iconst (v := nI (3)) (pc := 1135) dL_law_1135 rfl ?_
  refine J_iaddN (pc := 1136) dL_law_1136 ?_
  refine J_sld (j := i + 3) (pc := 1137) dL_law_1137 rfl (fun _ => by omega) ?_
  refine J_aload_n (i := 3) (pc := 1138) dL_law_1138 rfl rfl ?_
  have hqσ := hq
  refine J_callSW (st := []) (As := [.ref (1), .int (g_x g (i + 1)), .int (g_x g (i + 2)), .int (g_x g (i + 3)), .ref (59)]) (v := some (.int (nI (k)))) (ca1 := 1) (sa1 := 6) (ca2 := ca2 + 1110) (sa2 := sa2 + 7000) (pc := 1139) dL_law_1139 okwL_gain q3_80 q3_81 rfl (Nat.le_of_ble_eq_true rfl) (Nat.le_of_ble_eq_true rfl) (w_gain (d := d + 60) (hc d h hG) hG c59 (fun q => by rw [hσ q]; exact hG)) (by omega) (by omega) (fun h_1 q_2 => ?_)
  obtain ⟨z9, u9, gh9, f9, c9, fx⟩ := q_2
  have hq9 := MQ_oth u9 z9 hqσ
  obtain ⟨fs9, r53⟩ := MQ_53 hq9
  refine J_istore (i := 5) (lv' := [(5, .int (nI (k))), (4, .int (nI (i))), (0, .ref (0)), (1, .ref (1)), (2, .ref (53)), (3, .ref (59))]) (pc := 1142) dL_law_1142 (by decide) rfl ?_
  refine J_aload_n (i := 2) (pc := 1144) dL_law_1144 rfl rfl ?_
  refine J_aload_n (i := 0) (pc := 1145) dL_law_1145 rfl rfl ?_
  refine J_iload (i := 4) (pc := 1146) dL_law_1146 rfl ?_
  refine J_iconst (v := nI (1)) (pc := 1148) dL_law_1148 rfl ?_
  refine J_iaddN (pc := 1149) dL_law_1149 ?_
  refine J_sld (j := i + 1) (pc := 1150) dL_law_1150 rfl (fun _ => by omega) ?_
  refine J_aload_n (i := 0) (pc := 1151) dL_law_1151 rfl rfl ?_
  refine J_iload (i := 4) (pc := 1152) dL_law_1152 rfl ?_
  refine J_iconst (v := nI (2)) (pc := 1154) dL_law_1154 rfl ?_
  refine J_iaddN (pc := 1155) dL_law_1155 ?_
  refine J_sld (j := i + 2) (pc := 1156) dL_law_1156 rfl (fun _ => by omega) ?_
  refine J_aload_n (i := 0) (pc := 1157) dL_law_1157 rfl rfl ?_
  refine J_iload (i := 4) (pc := 1158) dL_law_1158 rfl ?_
  refine J_iconst (v := nI (3)) (pc := 1160) dL_law_1160 rfl ?_
  refine J_iaddN (pc := 1161) dL_law_1161 ?_
  refine J_sld (j := i + 3) (pc := 1162) dL_law_1162 rfl (fun _ => by omega) ?_
  refine J_cVB (st := []) (As := [.int (g_x g (i + 1)), .int (g_x g (i + 2)), .int (g_x g (i + 3))]) (v := some (.int (y))) (ca1 := 1110) (sa1 := 7000) (ca2 := ca2) (sa2 := sa2) (pc := 1163) dL_law_1163 okX3_gain q4_97 q4_98 q4_99 (rfl : vwCl[3]? = some _) r53 rfl (Nat.le_of_ble_eq_true rfl) (Nat.le_of_ble_eq_true rfl) (hm (d + 1) _ th hq9) (by omega) (by omega) (fun h_3 q_4 => ?_)
  obtain ⟨fm8, hq8⟩ := q_4
  have c8 := (fm8.2 59 (Or.inr rfl)).trans c9
  obtain ⟨fs8, r58⟩ := MQ_53 hq8
  refine J_istore (i := 6) (lv' := [(6, .int (y)), (5, .int (nI (k))), (4, .int (nI (i))), (0, .ref (0)), (1, .ref (1)), (2, .ref (53)), (3, .ref (59))]) (pc := 1166) dL_law_1166 (by decide) rfl ?_
  refine J_aload_n (i := 2) (pc := 1168) dL_law_1168 rfl rfl ?_
  refine J_cVi (st := []) (As := []) (pc := 1169) dL_law_1169 okX3_thrown q3_155 q3_156 q3_157 (rfl : vwCl[3]? = some _) r58 rfl (Nat.le_of_ble_eq_true rfl) (Nat.le_of_ble_eq_true rfl) (m_thrownQ hq8) ?_
  refine J_iload (i := 5) (pc := 1172) dL_law_1172 rfl ?_
  refine J_icmp_eqN (tgt := 1179) (pc := 1174) dL_law_1174 (by decide) (by omega) (by omega) (fun c1174 => ?_) (fun c1174 => by exfalso; first | omega | simp_all)
  refine J_iload (i := 5) (pc := 1179) dL_law_1179 rfl ?_
  refine J_if_neN (tgt := 1196) (pc := 1181) dL_law_1181 (by decide) (by omega) (fun c1181 => ?_) (fun c1181 => ?_)
  · skip
    refine J_goto (tgt := 1403) (pc := 1196) dL_law_1196 (by decide) ?_
    refine J_sub (lv' := [(4, .int (nI (i))), (0, .ref (0)), (1, .ref (1)), (2, .ref (53)), (3, .ref (59))]) [2, 3, 4, 5, 6] rfl ?_
    exact hn σ' h_3 ⟨GH_FM fm8 gh9, ⟨_, hq8⟩, f9, c8⟩
  · skip
    refine J_aload_n (i := 3) (pc := 1184) dL_law_1184 rfl rfl ?_
    refine J_iconst (v := nI (0)) (pc := 1185) dL_law_1185 rfl ?_
    refine J_lald (j := 0) (pc := 1186) dL_law_1186 c8 rfl (by omega) (by omega) ?_
    rw [show f9 0 = x.toInt64 from fx c1181]
    refine J_iload (i := 6) (pc := 1187) dL_law_1187 rfl ?_
    refine J_i2l (pc := 1189) dL_law_1189 ?_
    refine J_lcmp (pc := 1190) dL_law_1190 ?_
    refine J_if_eq (tgt := 1196) (pc := 1191) dL_law_1191 (by decide) (fun c1191 => ?_) (fun c1191 => absurd c1191 (fun q => q (by rw [hxy c1181]; exact lg_self _)))
    refine J_goto (tgt := 1403) (pc := 1196) dL_law_1196 (by decide) ?_
    refine J_sub (lv' := [(4, .int (nI (i))), (0, .ref (0)), (1, .ref (1)), (2, .ref (53)), (3, .ref (59))]) [2, 3, 4, 5, 6] rfl ?_
    exact hn σ' h_3 ⟨GH_FM fm8 gh9, ⟨_, hq8⟩, f9, c8⟩

set_option maxHeartbeats 2000000 in
set_option maxRecDepth 20000 in
theorem op_best {g : GT} {d ca2 sa2 i : Nat} {σ : ST} {h : MH} (hL : g_L g ≤ 2560) (hi : i + 5 ≤ g_L g) (hS : LSt h σ) (hn : ∀ σ' h', LSt h' σ' → J g (d + 62) ca2 sa2 mL_law 1403 [(4, .int (nI (i))), (0, .ref (0)), (1, .ref (1)), (2, .ref (53)), (3, .ref (59))] [] h' QL) : J g (d + 62) (ca2 + 1111) (sa2 + 7006) mL_law 1199 [(4, .int (nI (i))), (0, .ref (0)), (1, .ref (1)), (2, .ref (53)), (3, .ref (59))] [] h QL := by
  obtain ⟨hG, ⟨th, hq⟩, f, c59⟩ := hS
  obtain ⟨hW, ok⟩ := MQ_W hq
  obtain ⟨k, x, y, σ', hk, hσ, hxy, hc, hm⟩ := pair_best (g := g) hW ok (g_x g (i + 1))
  refine J_aload_n (i := 1) (pc := 1199) dL_law_1199 rfl rfl ?_
  refine J_aload_n (i := 0) (pc := 1200) dL_law_1200 rfl rfl ?_
  refine J_iload (i := 4) (pc := 1201) dL_law_1201 rfl ?_
  refine J_iconst (v := nI (1)) (pc := 1203) dL_law_1203 rfl ?_
  refine J_iaddN (pc := 1204) dL_law_1204 ?_
  refine J_sld (j := i + 1) (pc := 1205) dL_law_1205 rfl (fun _ => by omega) ?_
  refine J_aload_n (i := 3) (pc := 1206) dL_law_1206 rfl rfl ?_
  have hqσ := hq
  refine J_callSW (st := []) (As := [.ref (1), .int (g_x g (i + 1)), .ref (59)]) (v := some (.int (nI (k)))) (ca1 := 1) (sa1 := 6) (ca2 := ca2 + 1110) (sa2 := sa2 + 7000) (pc := 1207) dL_law_1207 okwL_best q3_96 q3_97 rfl (Nat.le_of_ble_eq_true rfl) (Nat.le_of_ble_eq_true rfl) (w_best (d := d + 60) (hc d h hG) hG c59 (by omega) (fun q => by rw [hσ q]; exact hG)) (by omega) (by omega) (fun h_1 q_2 => ?_)
  obtain ⟨z9, u9, gh9, f9, c9, fx⟩ := q_2
  have hq9 := MQ_oth u9 z9 hqσ
  obtain ⟨fs9, r53⟩ := MQ_53 hq9
  refine J_istore (i := 5) (lv' := [(5, .int (nI (k))), (4, .int (nI (i))), (0, .ref (0)), (1, .ref (1)), (2, .ref (53)), (3, .ref (59))]) (pc := 1210) dL_law_1210 (by decide) rfl ?_
  refine J_aload_n (i := 2) (pc := 1212) dL_law_1212 rfl rfl ?_
  refine J_aload_n (i := 0) (pc := 1213) dL_law_1213 rfl rfl ?_
  refine J_iload (i := 4) (pc := 1214) dL_law_1214 rfl ?_
  refine J_iconst (v := nI (1)) (pc := 1216) dL_law_1216 rfl ?_
  refine J_iaddN (pc := 1217) dL_law_1217 ?_
  refine J_sld (j := i + 1) (pc := 1218) dL_law_1218 rfl (fun _ => by omega) ?_
  refine J_cVB (st := []) (As := [.int (g_x g (i + 1))]) (v := some (.int (y))) (ca1 := 1110) (sa1 := 7000) (ca2 := ca2) (sa2 := sa2) (pc := 1219) dL_law_1219 okX3_best q4_104 q4_105 q4_106 (rfl : vwCl[3]? = some _) r53 rfl (Nat.le_of_ble_eq_true rfl) (Nat.le_of_ble_eq_true rfl) (hm (d + 1) _ th hq9) (by omega) (by omega) (fun h_3 q_4 => ?_)
  obtain ⟨fm8, hq8⟩ := q_4
  have c8 := (fm8.2 59 (Or.inr rfl)).trans c9
  obtain ⟨fs8, r58⟩ := MQ_53 hq8
  refine J_istore (i := 6) (lv' := [(6, .int (y)), (5, .int (nI (k))), (4, .int (nI (i))), (0, .ref (0)), (1, .ref (1)), (2, .ref (53)), (3, .ref (59))]) (pc := 1222) dL_law_1222 (by decide) rfl ?_
  refine J_aload_n (i := 2) (pc := 1224) dL_law_1224 rfl rfl ?_
  refine J_cVi (st := []) (As := []) (pc := 1225) dL_law_1225 okX3_thrown q3_155 q3_156 q3_157 (rfl : vwCl[3]? = some _) r58 rfl (Nat.le_of_ble_eq_true rfl) (Nat.le_of_ble_eq_true rfl) (m_thrownQ hq8) ?_
  refine J_iload (i := 5) (pc := 1228) dL_law_1228 rfl ?_
  refine J_icmp_eqN (tgt := 1235) (pc := 1230) dL_law_1230 (by decide) (by omega) (by omega) (fun c1230 => ?_) (fun c1230 => by exfalso; first | omega | simp_all)
  refine J_iload (i := 5) (pc := 1235) dL_law_1235 rfl ?_
  refine J_if_neN (tgt := 1252) (pc := 1237) dL_law_1237 (by decide) (by omega) (fun c1237 => ?_) (fun c1237 => ?_)
  · skip
    refine J_goto (tgt := 1403) (pc := 1252) dL_law_1252 (by decide) ?_
    refine J_sub (lv' := [(4, .int (nI (i))), (0, .ref (0)), (1, .ref (1)), (2, .ref (53)), (3, .ref (59))]) [2, 3, 4, 5, 6] rfl ?_
    exact hn σ' h_3 ⟨GH_FM fm8 gh9, ⟨_, hq8⟩, f9, c8⟩
  · skip
    refine J_aload_n (i := 3) (pc := 1240) dL_law_1240 rfl rfl ?_
    refine J_iconst (v := nI (0)) (pc := 1241) dL_law_1241 rfl ?_
    refine J_lald (j := 0) (pc := 1242) dL_law_1242 c8 rfl (by omega) (by omega) ?_
    rw [show f9 0 = x.toInt64 from fx c1237]
    refine J_iload (i := 6) (pc := 1243) dL_law_1243 rfl ?_
    refine J_i2l (pc := 1245) dL_law_1245 ?_
    refine J_lcmp (pc := 1246) dL_law_1246 ?_
    refine J_if_eq (tgt := 1252) (pc := 1247) dL_law_1247 (by decide) (fun c1247 => ?_) (fun c1247 => absurd c1247 (fun q => q (by rw [hxy c1237]; exact lg_self _)))
    refine J_goto (tgt := 1403) (pc := 1252) dL_law_1252 (by decide) ?_
    refine J_sub (lv' := [(4, .int (nI (i))), (0, .ref (0)), (1, .ref (1)), (2, .ref (53)), (3, .ref (59))]) [2, 3, 4, 5, 6] rfl ?_
    exact hn σ' h_3 ⟨GH_FM fm8 gh9, ⟨_, hq8⟩, f9, c8⟩

set_option maxHeartbeats 2000000 in
set_option maxRecDepth 20000 in
theorem op_would {g : GT} {d ca2 sa2 i : Nat} {σ : ST} {h : MH} (hL : g_L g ≤ 2560) (hi : i + 5 ≤ g_L g) (hS : LSt h σ) (hn : ∀ σ' h', LSt h' σ' → J g (d + 62) ca2 sa2 mL_law 1403 [(4, .int (nI (i))), (0, .ref (0)), (1, .ref (1)), (2, .ref (53)), (3, .ref (59))] [] h' QL) : J g (d + 62) (ca2 + 1111) (sa2 + 7006) mL_law 1255 [(4, .int (nI (i))), (0, .ref (0)), (1, .ref (1)), (2, .ref (53)), (3, .ref (59))] [] h QL := by
  obtain ⟨hG, ⟨th, hq⟩, f, c59⟩ := hS
  obtain ⟨hW, ok⟩ := MQ_W hq
  obtain ⟨k, x, y, σ', hk, hσ, hxy, hc, hm⟩ := pair_would (g := g) hW ok (g_x g (i + 1)) (g_x g (i + 2)) (g_x g (i + 3))
  refine J_aload_n (i := 1) (pc := 1255) dL_law_1255 rfl rfl ?_
  refine J_aload_n (i := 0) (pc := 1256) dL_law_1256 rfl rfl ?_
  refine J_iload (i := 4) (pc := 1257) dL_law_1257 rfl ?_
  refine J_iconst (v := nI (1)) (pc := 1259) dL_law_1259 rfl ?_
  refine J_iaddN (pc := 1260) dL_law_1260 ?_
  refine J_sld (j := i + 1) (pc := 1261) dL_law_1261 rfl (fun _ => by omega) ?_
  refine J_aload_n (i := 0) (pc := 1262) dL_law_1262 rfl rfl ?_
  refine J_iload (i := 4) (pc := 1263) dL_law_1263 rfl ?_
  refine J_iconst (v := nI (2)) (pc := 1265) dL_law_1265 rfl ?_
  refine J_iaddN (pc := 1266) dL_law_1266 ?_
  refine J_sld (j := i + 2) (pc := 1267) dL_law_1267 rfl (fun _ => by omega) ?_
  refine J_aload_n (i := 0) (pc := 1268) dL_law_1268 rfl rfl ?_
  refine J_iload (i := 4) (pc := 1269) dL_law_1269 rfl ?_
  refine J_iconst (v := nI (3)) (pc := 1271) dL_law_1271 rfl ?_
  refine J_iaddN (pc := 1272) dL_law_1272 ?_
  refine J_sld (j := i + 3) (pc := 1273) dL_law_1273 rfl (fun _ => by omega) ?_
  refine J_aload_n (i := 3) (pc := 1274) dL_law_1274 rfl rfl ?_
  have hqσ := hq
  refine J_callSW (st := []) (As := [.ref (1), .int (g_x g (i + 1)), .int (g_x g (i + 2)), .int (g_x g (i + 3)), .ref (59)]) (v := some (.int (nI (k)))) (ca1 := 1) (sa1 := 6) (ca2 := ca2 + 1110) (sa2 := sa2 + 7000) (pc := 1275) dL_law_1275 okwL_would q3_106 q3_107 rfl (Nat.le_of_ble_eq_true rfl) (Nat.le_of_ble_eq_true rfl) (w_would (d := d + 60) (hc d h hG) hG c59 (fun q => by rw [hσ q]; exact hG)) (by omega) (by omega) (fun h_1 q_2 => ?_)
  obtain ⟨z9, u9, gh9, f9, c9, fx⟩ := q_2
  have hq9 := MQ_oth u9 z9 hqσ
  obtain ⟨fs9, r53⟩ := MQ_53 hq9
  refine J_istore (i := 5) (lv' := [(5, .int (nI (k))), (4, .int (nI (i))), (0, .ref (0)), (1, .ref (1)), (2, .ref (53)), (3, .ref (59))]) (pc := 1278) dL_law_1278 (by decide) rfl ?_
  refine J_aload_n (i := 2) (pc := 1280) dL_law_1280 rfl rfl ?_
  refine J_aload_n (i := 0) (pc := 1281) dL_law_1281 rfl rfl ?_
  refine J_iload (i := 4) (pc := 1282) dL_law_1282 rfl ?_
  refine J_iconst (v := nI (1)) (pc := 1284) dL_law_1284 rfl ?_
  refine J_iaddN (pc := 1285) dL_law_1285 ?_
  refine J_sld (j := i + 1) (pc := 1286) dL_law_1286 rfl (fun _ => by omega) ?_
  refine J_aload_n (i := 0) (pc := 1287) dL_law_1287 rfl rfl ?_
  refine J_iload (i := 4) (pc := 1288) dL_law_1288 rfl ?_
  refine J_iconst (v := nI (2)) (pc := 1290) dL_law_1290 rfl ?_
  refine J_iaddN (pc := 1291) dL_law_1291 ?_
  refine J_sld (j := i + 2) (pc := 1292) dL_law_1292 rfl (fun _ => by omega) ?_
  refine J_aload_n (i := 0) (pc := 1293) dL_law_1293 rfl rfl ?_
  refine J_iload (i := 4) (pc := 1294) dL_law_1294 rfl ?_
  refine J_iconst (v := nI (3)) (pc := 1296) dL_law_1296 rfl ?_
  refine J_iaddN (pc := 1297) dL_law_1297 ?_
  refine J_sld (j := i + 3) (pc := 1298) dL_law_1298 rfl (fun _ => by omega) ?_
  refine J_cVB (st := []) (As := [.int (g_x g (i + 1)), .int (g_x g (i + 2)), .int (g_x g (i + 3))]) (v := some (.int (y))) (ca1 := 1110) (sa1 := 7000) (ca2 := ca2) (sa2 := sa2) (pc := 1299) dL_law_1299 okX3_would q4_108 q4_109 q4_110 (rfl : vwCl[3]? = some _) r53 rfl (Nat.le_of_ble_eq_true rfl) (Nat.le_of_ble_eq_true rfl) (hm (d + 1) _ th hq9) (by omega) (by omega) (fun h_3 q_4 => ?_)
  obtain ⟨fm8, hq8⟩ := q_4
  have c8 := (fm8.2 59 (Or.inr rfl)).trans c9
  obtain ⟨fs8, r58⟩ := MQ_53 hq8
  refine J_istore (i := 6) (lv' := [(6, .int (y)), (5, .int (nI (k))), (4, .int (nI (i))), (0, .ref (0)), (1, .ref (1)), (2, .ref (53)), (3, .ref (59))]) (pc := 1302) dL_law_1302 (by decide) rfl ?_
  refine J_aload_n (i := 2) (pc := 1304) dL_law_1304 rfl rfl ?_
  refine J_cVi (st := []) (As := []) (pc := 1305) dL_law_1305 okX3_thrown q3_155 q3_156 q3_157 (rfl : vwCl[3]? = some _) r58 rfl (Nat.le_of_ble_eq_true rfl) (Nat.le_of_ble_eq_true rfl) (m_thrownQ hq8) ?_
  refine J_iload (i := 5) (pc := 1308) dL_law_1308 rfl ?_
  refine J_icmp_eqN (tgt := 1315) (pc := 1310) dL_law_1310 (by decide) (by omega) (by omega) (fun c1310 => ?_) (fun c1310 => by exfalso; first | omega | simp_all)
  refine J_iload (i := 5) (pc := 1315) dL_law_1315 rfl ?_
  refine J_if_neN (tgt := 1332) (pc := 1317) dL_law_1317 (by decide) (by omega) (fun c1317 => ?_) (fun c1317 => ?_)
  · skip
    refine J_goto (tgt := 1403) (pc := 1332) dL_law_1332 (by decide) ?_
    refine J_sub (lv' := [(4, .int (nI (i))), (0, .ref (0)), (1, .ref (1)), (2, .ref (53)), (3, .ref (59))]) [2, 3, 4, 5, 6] rfl ?_
    exact hn σ' h_3 ⟨GH_FM fm8 gh9, ⟨_, hq8⟩, f9, c8⟩
  · skip
    refine J_aload_n (i := 3) (pc := 1320) dL_law_1320 rfl rfl ?_
    refine J_iconst (v := nI (0)) (pc := 1321) dL_law_1321 rfl ?_
    refine J_lald (j := 0) (pc := 1322) dL_law_1322 c8 rfl (by omega) (by omega) ?_
    rw [show f9 0 = x.toInt64 from fx c1317]
    refine J_iload (i := 6) (pc := 1323) dL_law_1323 rfl ?_
    refine J_i2l (pc := 1325) dL_law_1325 ?_
    refine J_lcmp (pc := 1326) dL_law_1326 ?_
    refine J_if_eq (tgt := 1332) (pc := 1327) dL_law_1327 (by decide) (fun c1327 => ?_) (fun c1327 => absurd c1327 (fun q => q (by rw [hxy c1317]; exact lg_self _)))
    refine J_goto (tgt := 1403) (pc := 1332) dL_law_1332 (by decide) ?_
    refine J_sub (lv' := [(4, .int (nI (i))), (0, .ref (0)), (1, .ref (1)), (2, .ref (53)), (3, .ref (59))]) [2, 3, 4, 5, 6] rfl ?_
    exact hn σ' h_3 ⟨GH_FM fm8 gh9, ⟨_, hq8⟩, f9, c8⟩

