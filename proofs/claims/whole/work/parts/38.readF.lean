section M38
variable {g : EG} {d t s : Nat} {h h0 : PH} {Q : EQ} {T : Nat → Nat} {n : Nat} {U : PU}
theorem lp_begin (k : ∀ h1 : PH, (∀ a i, ¬ (a = 216 ∨ (a = 215 ∧ 64 ≤ i)) → h1 a i = h0 a i) → (∀ x, x < 64 → h1 216 x = 0 ∧ h1 215 (64 + x) = 0) → Q .null (tau t s) h1) : ∀ m i : Nat, i + m = 64 → ∀ h1 : PH, (∀ a i, ¬ (a = 216 ∨ (a = 215 ∧ 64 ≤ i)) → h1 a i = h0 a i) → (∀ x, x < i → h1 216 x = 0 ∧ h1 215 (64 + x) = 0) → eX g 0 mX9_begin 55 [(0, .ref (gA g 205)), (1, .int (zI ↑i))] [] (tau t s) h1 Q := by
  intro m
  induction m with
  | zero =>
    intro i hi h1 hF hz
    refine eR_ildn_1 dX9_begin_55 rfl ?_
    refine eR_bi (z := 64) dX9_begin_56 rfl ?_
    refine eR_icmp_ge (tgt := 84) dX9_begin_58 (by decide) (by first | exact rg_b01 _ | (unfold rg; omega)) (by first | exact rg_b01 _ | (unfold rg; omega)) (fun c58 => ?_) (fun c58 => absurd c58 (by omega))
    refine eR_vret dX9_begin_84 rfl ?_
    exact k h1 hF (fun x hx => hz x (by omega))
  | succ m ih =>
    intro i hi h1 hF hz
    refine eR_ildn_1 dX9_begin_55 rfl ?_
    refine eR_bi (z := 64) dX9_begin_56 rfl ?_
    refine eR_icmp_ge (tgt := 84) dX9_begin_58 (by decide) (by first | exact rg_b01 _ | (unfold rg; omega)) (by first | exact rg_b01 _ | (unfold rg; omega)) (fun c58 => absurd c58 (by omega)) (fun c58 => ?_)
    refine eR_aldn_0 dX9_begin_61 rfl ?_
    refine eR_getR (i := 216) dX9_begin_62 gf_X9_41 th_205 rfl ?_
    refine eR_ildn_1 dX9_begin_65 rfl ?_
    refine eR_ic dX9_begin_66 ?_
    refine eR_iast (n := i) dX9_begin_67 th_216 (rfl) (by omega) (by decide) ?_
    refine eR_aldn_0 dX9_begin_68 rfl ?_
    refine eR_getR (i := 215) dX9_begin_69 gf_X9_38 th_205 rfl ?_
    refine eR_bi (z := 64) dX9_begin_72 rfl ?_
    refine eR_ildn_1 dX9_begin_74 rfl ?_
    refine eR_iadd dX9_begin_75 ?_
    refine eR_ic dX9_begin_76 ?_
    refine eR_iast (n := 64 + i) dX9_begin_77 th_215 (by omega) (by omega) (by decide) ?_
    refine eR_iinc_1 dX9_begin_78 (by decide) rfl ?_
    refine eR_goto (tgt := 55) dX9_begin_81 (by decide) ?_
    refine ih (i + 1) (by omega) _ (fun a x q => by rw [hU_ne (by omega), hU_ne (by omega)]; exact hF a x q) (fun x hx => ?_)
    by_cases hxi : x = i
    · subst hxi
      exact ⟨by rw [hU_ne (by omega), hU_s], hU_s _ _ _ _⟩
    · exact ⟨by rw [hU_ne (by omega), hU_ne (by omega)]; exact (hz x (by omega)).1, by rw [hU_ne (by omega), hU_ne (by omega)]; exact (hz x (by omega)).2⟩
theorem sp_begin (k : ∀ h1 : PH, pF h h1 → pV h1 uZ → h1 205 14 = 0 → h1 205 17 = 0 → h1 205 18 = -1 → Q .null (tau t s) h1) : eX g 0 mX9_begin 0 (lv_args 0 [.ref (gA g 205)]) [] (tau t s) h Q := by
  show eX g 0 mX9_begin 0 [(0, .ref (gA g 205))] [] (tau t s) h Q
  refine eR_aldn_0 dX9_begin_0 rfl ?_
  refine eR_ic dX9_begin_1 ?_
  refine eR_putI dX9_begin_2 pf_X9_82 th_205 rfl ?_
  refine eR_aldn_0 dX9_begin_5 rfl ?_
  refine eR_ic dX9_begin_6 ?_
  refine eR_putI dX9_begin_7 pf_X9_85 th_205 rfl ?_
  refine eR_aldn_0 dX9_begin_10 rfl ?_
  refine eR_ic dX9_begin_11 ?_
  refine eR_putI dX9_begin_12 pf_X9_50 th_205 rfl ?_
  refine eR_aldn_0 dX9_begin_15 rfl ?_
  refine eR_getR (i := 217) dX9_begin_16 gf_X9_44 th_205 rfl ?_
  refine eR_ic dX9_begin_19 ?_
  refine eR_ic dX9_begin_20 ?_
  refine eR_iast (n := 4) dX9_begin_21 th_217 (rfl) (by decide) (by decide) ?_
  refine eR_aldn_0 dX9_begin_22 rfl ?_
  refine eR_getR (i := 217) dX9_begin_23 gf_X9_44 th_205 rfl ?_
  refine eR_ic dX9_begin_26 ?_
  refine eR_ic dX9_begin_27 ?_
  refine eR_iast (n := 5) dX9_begin_28 th_217 (rfl) (by decide) (by decide) ?_
  refine eR_aldn_0 dX9_begin_29 rfl ?_
  refine eR_getR (i := 217) dX9_begin_30 gf_X9_44 th_205 rfl ?_
  refine eR_bi (z := 6) dX9_begin_33 rfl ?_
  refine eR_ic dX9_begin_35 ?_
  refine eR_iast (n := 6) dX9_begin_36 th_217 (rfl) (by decide) (by decide) ?_
  refine eR_aldn_0 dX9_begin_37 rfl ?_
  refine eR_ic dX9_begin_38 ?_
  refine eR_putI dX9_begin_39 pf_X9_122 th_205 rfl ?_
  refine eR_aldn_0 dX9_begin_42 rfl ?_
  refine eR_ic dX9_begin_43 ?_
  refine eR_putZ (Or.inl rfl) dX9_begin_44 pf_X9_141 th_205 rfl ?_
  refine eR_aldn_0 dX9_begin_47 rfl ?_
  refine eR_bi (z := 20) dX9_begin_48 rfl ?_
  refine eR_putI dX9_begin_50 pf_X9_145 th_205 rfl ?_
  refine eR_ic dX9_begin_53 ?_
  refine eR_istn_n1 dX9_begin_54 rfl (by decide) rfl ?_
  refine lp_begin (h0 := hU (hU (hU (hU (hU (hU (hU (hU (hU h 205 14 0) 205 17 0) 205 18 (-1)) 217 4 0) 217 5 0) 217 6 0) 205 19 0) 205 21 0) 205 20 20) (fun h1 hF hz => ?_) 64 0 (by omega) _ (fun _ _ _ => rfl) (fun x hx => absurd hx (Nat.not_lt_zero x))
  have E : ∀ a i, ¬ (a = 216 ∨ (a = 215 ∧ 64 ≤ i)) → h1 a i = (hU (hU (hU (hU (hU (hU (hU (hU (hU h 205 14 0) 205 17 0) 205 18 (-1)) 217 4 0) 217 5 0) 217 6 0) 205 19 0) 205 21 0) 205 20 20) a i := hF
  refine k h1 (fun a i q => ?_) ⟨?_, ?_, ?_, fun c hc => absurd hc (Nat.not_lt_zero c), fun c hc => absurd hc (Nat.not_lt_zero c), fun p q hp hq => ⟨?_, ?_⟩, ?_, ?_, ?_⟩ ?_ ?_ ?_
  · rw [E a i (fun q1 => q (by unfold pS; omega))]
    have q2 : ¬ pS a i := q
    unfold pS at q2
    rw [hU_ne (by omega), hU_ne (by omega), hU_ne (by omega), hU_ne (by omega), hU_ne (by omega), hU_ne (by omega), hU_ne (by omega), hU_ne (by omega), hU_ne (by omega)]
  · rw [E _ _ (by decide)]; simp [hU_g, uZ]
  · rw [E _ _ (by decide)]; simp [hU_g, uZ]
  · rw [E _ _ (by decide)]; simp [hU_g, uZ]
  · rw [(hz (8 * p + q) (by omega)).1]; exact (b01_f (by simp [uZ])).symm
  · rw [Nat.add_assoc, (hz (8 * p + q) (by omega)).2]; rfl
  · rw [E _ _ (by decide)]; simp [hU_g, uZ]
  · rw [E _ _ (by decide)]; simp [hU_g, uZ]
  · rw [E _ _ (by decide)]; simp [hU_g, uZ]
  · rw [E _ _ (by decide)]; simp [hU_g]
  · rw [E _ _ (by decide)]; simp [hU_g]
  · rw [E _ _ (by decide)]; simp [hU_g]
theorem mV_F {h h' : PH} {S : TS} (B : sB S) (V : mV h S) (p : pF h h') : mV h' S := by
  obtain ⟨v1, v2, v3, v4, v5, v6, v7, v8⟩ := V
  have hP8 := B.1
  have hC8 := B.2.1
  have hE10 := B.2.2.1
  have E : ∀ a i, ¬ pS a i → h' a i = h a i := p
  refine ⟨(E _ _ (by unfold pS; omega)).trans v1, (E _ _ (by unfold pS; omega)).trans v2, (E _ _ (by unfold pS; omega)).trans v3, fun c hc => ?_, fun e he => ?_, (E _ _ (by unfold pS; omega)).trans v6, (E _ _ (by unfold pS; omega)).trans v7, fun x y hx hy => (E _ _ (by unfold pS; omega)).trans (v8 x y hx hy)⟩
  · rw [E _ _ (by unfold pS; omega), E _ _ (by unfold pS; omega), E _ _ (by unfold pS; omega)]; exact v4 c hc
  · rw [E _ _ (by unfold pS; omega), E _ _ (by unfold pS; omega), E _ _ (by unfold pS; omega), E _ _ (by unfold pS; omega)]; exact v5 e he
theorem lp_twA (k : ∀ h1 : PH, (∀ a i, ¬ ((a = 206 ∧ i < 16) ∨ (208 ≤ a ∧ a ≤ 210 ∧ i < 8)) → h1 a i = h0 a i) → (∀ x, x < 8 → h1 206 x = h0 208 (8 + x) ∧ h1 206 (8 + x) = h0 209 (8 + x) ∧ h1 210 x = h0 210 (8 + x)) → eX g 5 mX9_town 211 [(0, .ref (gA g 205)), (1, .int (zI ↑8))] [] (tau t s) h1 Q) : ∀ m i : Nat, i + m = 8 → ∀ h1 : PH, (∀ a i, ¬ ((a = 206 ∧ i < 16) ∨ (208 ≤ a ∧ a ≤ 210 ∧ i < 8)) → h1 a i = h0 a i) → (∀ x, x < i → h1 206 x = h0 208 (8 + x) ∧ h1 206 (8 + x) = h0 209 (8 + x) ∧ h1 210 x = h0 210 (8 + x)) → eX g 5 mX9_town 127 [(0, .ref (gA g 205)), (1, .int (zI ↑i))] [] (tau t s) h1 Q := by
  intro m
  induction m with
  | zero =>
    intro i hi h1 hF hz
    refine eR_ildn_1 dX9_town_127 rfl ?_
    refine eR_bi (z := 8) dX9_town_128 rfl ?_
    refine eR_icmp_ge (tgt := 211) dX9_town_130 (by decide) (by first | exact rg_b01 _ | (unfold rg; omega)) (by first | exact rg_b01 _ | (unfold rg; omega)) (fun c130 => ?_) (fun c130 => absurd c130 (by omega))
    have e9 : i = 8 := by omega
    subst e9
    exact k h1 hF hz
  | succ m ih =>
    intro i hi h1 hF hz
    refine eR_ildn_1 dX9_town_127 rfl ?_
    refine eR_bi (z := 8) dX9_town_128 rfl ?_
    refine eR_icmp_ge (tgt := 211) dX9_town_130 (by decide) (by first | exact rg_b01 _ | (unfold rg; omega)) (by first | exact rg_b01 _ | (unfold rg; omega)) (fun c130 => absurd c130 (by omega)) (fun c130 => ?_)
    refine eR_aldn_0 dX9_town_133 rfl ?_
    refine eR_getR (i := 208) dX9_town_134 gf_X9_17 th_205 rfl ?_
    refine eR_ildn_1 dX9_town_137 rfl ?_
    refine eR_aldn_0 dX9_town_138 rfl ?_
    refine eR_getR (i := 208) dX9_town_139 gf_X9_17 th_205 rfl ?_
    refine eR_bi (z := 8) dX9_town_142 rfl ?_
    refine eR_ildn_1 dX9_town_144 rfl ?_
    refine eR_iadd dX9_town_145 ?_
    refine eR_iald (n := 8 + i) dX9_town_146 th_208 (by omega) (by omega) (by decide) ?_
    refine eR_iast (n := i) dX9_town_147 th_208 (rfl) (by omega) (by decide) ?_
    refine eR_aldn_0 dX9_town_148 rfl ?_
    refine eR_getR (i := 209) dX9_town_149 gf_X9_20 th_205 rfl ?_
    refine eR_ildn_1 dX9_town_152 rfl ?_
    refine eR_aldn_0 dX9_town_153 rfl ?_
    refine eR_getR (i := 209) dX9_town_154 gf_X9_20 th_205 rfl ?_
    refine eR_bi (z := 8) dX9_town_157 rfl ?_
    refine eR_ildn_1 dX9_town_159 rfl ?_
    refine eR_iadd dX9_town_160 ?_
    refine eR_iald (n := 8 + i) dX9_town_161 th_209 (by omega) (by omega) (by decide) ?_
    refine eX_pcI (congrFun (hU_a _ _ _ (by decide)) _) ?_
    refine eR_iast (n := i) dX9_town_162 th_209 (rfl) (by omega) (by decide) ?_
    refine eR_aldn_0 dX9_town_163 rfl ?_
    refine eR_getR (i := 210) dX9_town_164 gf_X9_23 th_205 rfl ?_
    refine eR_ildn_1 dX9_town_167 rfl ?_
    refine eR_aldn_0 dX9_town_168 rfl ?_
    refine eR_getR (i := 210) dX9_town_169 gf_X9_23 th_205 rfl ?_
    refine eR_bi (z := 8) dX9_town_172 rfl ?_
    refine eR_ildn_1 dX9_town_174 rfl ?_
    refine eR_iadd dX9_town_175 ?_
    refine eR_iald (n := 8 + i) dX9_town_176 th_210 (by omega) (by omega) (by decide) ?_
    refine eX_pcI (congrFun (hU_a _ _ _ (by decide)) _) ?_
    refine eX_pcI (congrFun (hU_a _ _ _ (by decide)) _) ?_
    refine eR_iast (n := i) dX9_town_177 th_210 (rfl) (by omega) (by decide) ?_
    refine eR_aldn_0 dX9_town_178 rfl ?_
    refine eR_getR (i := 206) dX9_town_179 gf_X9_7 th_205 rfl ?_
    refine eR_ildn_1 dX9_town_182 rfl ?_
    refine eR_aldn_0 dX9_town_183 rfl ?_
    refine eR_getR (i := 208) dX9_town_184 gf_X9_17 th_205 rfl ?_
    refine eR_ildn_1 dX9_town_187 rfl ?_
    refine eR_iald (n := i) dX9_town_188 th_208 (rfl) (by omega) (by decide) ?_
    refine eX_pcI (congrFun (hU_a _ _ _ (by decide)) _) ?_
    refine eX_pcI (congrFun (hU_a _ _ _ (by decide)) _) ?_
    refine eX_pcI (hU_s _ _ _ _) ?_
    refine eR_iast (n := i) dX9_town_189 th_206 (rfl) (by omega) (by decide) ?_
    refine eR_aldn_0 dX9_town_190 rfl ?_
    refine eR_getR (i := 206) dX9_town_191 gf_X9_7 th_205 rfl ?_
    refine eR_bi (z := 8) dX9_town_194 rfl ?_
    refine eR_ildn_1 dX9_town_196 rfl ?_
    refine eR_iadd dX9_town_197 ?_
    refine eR_aldn_0 dX9_town_198 rfl ?_
    refine eR_getR (i := 209) dX9_town_199 gf_X9_20 th_205 rfl ?_
    refine eR_ildn_1 dX9_town_202 rfl ?_
    refine eR_iald (n := i) dX9_town_203 th_209 (rfl) (by omega) (by decide) ?_
    refine eX_pcI (congrFun (hU_a _ _ _ (by decide)) _) ?_
    refine eX_pcI (congrFun (hU_a _ _ _ (by decide)) _) ?_
    refine eX_pcI (hU_s _ _ _ _) ?_
    refine eR_iast (n := 8 + i) dX9_town_204 th_206 (by omega) (by omega) (by decide) ?_
    refine eR_iinc_1 dX9_town_205 (by decide) rfl ?_
    refine eR_goto (tgt := 127) dX9_town_208 (by decide) ?_
    refine ih (i + 1) (by omega) _ (fun a x q => by rw [hU_ne (by omega), hU_ne (by omega), hU_ne (by omega), hU_ne (by omega), hU_ne (by omega)]; exact hF a x q) (fun x hx => ?_)
    by_cases hxi : x = i
    · subst hxi
      refine ⟨?_, ?_, ?_⟩
      · rw [hU_ne (by omega), hU_s]
        exact hF _ _ (by omega)
      · rw [hU_s]
        exact hF _ _ (by omega)
      · rw [hU_ne (by omega), hU_ne (by omega), hU_s]
        exact hF _ _ (by omega)
    · have hz9 := hz x (by omega)
      refine ⟨?_, ?_, ?_⟩
      · rw [hU_ne (by omega), hU_ne (by omega), hU_ne (by omega), hU_ne (by omega), hU_ne (by omega)]; exact hz9.1
      · rw [hU_ne (by omega), hU_ne (by omega), hU_ne (by omega), hU_ne (by omega), hU_ne (by omega)]; exact hz9.2.1
      · rw [hU_ne (by omega), hU_ne (by omega), hU_ne (by omega), hU_ne (by omega), hU_ne (by omega)]; exact hz9.2.2
theorem lp_twB (k : ∀ h1 : PH, (∀ a i, ¬ (211 ≤ a ∧ a ≤ 214 ∧ i < 10) → h1 a i = h0 a i) → (∀ x, x < 10 → h1 211 x = h0 211 (10 + x) ∧ h1 212 x = h0 212 (10 + x) ∧ h1 213 x = h0 213 (10 + x) ∧ h1 214 x = h0 214 (10 + x)) → eX g 5 mX9_town 285 [(0, .ref (gA g 205)), (1, .int (zI ↑10))] [] (tau t s) h1 Q) : ∀ m i : Nat, i + m = 10 → ∀ h1 : PH, (∀ a i, ¬ (211 ≤ a ∧ a ≤ 214 ∧ i < 10) → h1 a i = h0 a i) → (∀ x, x < i → h1 211 x = h0 211 (10 + x) ∧ h1 212 x = h0 212 (10 + x) ∧ h1 213 x = h0 213 (10 + x) ∧ h1 214 x = h0 214 (10 + x)) → eX g 5 mX9_town 213 [(0, .ref (gA g 205)), (1, .int (zI ↑i))] [] (tau t s) h1 Q := by
  intro m
  induction m with
  | zero =>
    intro i hi h1 hF hz
    refine eR_ildn_1 dX9_town_213 rfl ?_
    refine eR_bi (z := 10) dX9_town_214 rfl ?_
    refine eR_icmp_ge (tgt := 285) dX9_town_216 (by decide) (by first | exact rg_b01 _ | (unfold rg; omega)) (by first | exact rg_b01 _ | (unfold rg; omega)) (fun c216 => ?_) (fun c216 => absurd c216 (by omega))
    have e9 : i = 10 := by omega
    subst e9
    exact k h1 hF hz
  | succ m ih =>
    intro i hi h1 hF hz
    refine eR_ildn_1 dX9_town_213 rfl ?_
    refine eR_bi (z := 10) dX9_town_214 rfl ?_
    refine eR_icmp_ge (tgt := 285) dX9_town_216 (by decide) (by first | exact rg_b01 _ | (unfold rg; omega)) (by first | exact rg_b01 _ | (unfold rg; omega)) (fun c216 => absurd c216 (by omega)) (fun c216 => ?_)
    refine eR_aldn_0 dX9_town_219 rfl ?_
    refine eR_getR (i := 211) dX9_town_220 gf_X9_26 th_205 rfl ?_
    refine eR_ildn_1 dX9_town_223 rfl ?_
    refine eR_aldn_0 dX9_town_224 rfl ?_
    refine eR_getR (i := 211) dX9_town_225 gf_X9_26 th_205 rfl ?_
    refine eR_bi (z := 10) dX9_town_228 rfl ?_
    refine eR_ildn_1 dX9_town_230 rfl ?_
    refine eR_iadd dX9_town_231 ?_
    refine eR_iald (n := 10 + i) dX9_town_232 th_211 (by omega) (by omega) (by decide) ?_
    refine eR_iast (n := i) dX9_town_233 th_211 (rfl) (by omega) (by decide) ?_
    refine eR_aldn_0 dX9_town_234 rfl ?_
    refine eR_getR (i := 212) dX9_town_235 gf_X9_29 th_205 rfl ?_
    refine eR_ildn_1 dX9_town_238 rfl ?_
    refine eR_aldn_0 dX9_town_239 rfl ?_
    refine eR_getR (i := 212) dX9_town_240 gf_X9_29 th_205 rfl ?_
    refine eR_bi (z := 10) dX9_town_243 rfl ?_
    refine eR_ildn_1 dX9_town_245 rfl ?_
    refine eR_iadd dX9_town_246 ?_
    refine eR_iald (n := 10 + i) dX9_town_247 th_212 (by omega) (by omega) (by decide) ?_
    refine eX_pcI (congrFun (hU_a _ _ _ (by decide)) _) ?_
    refine eR_iast (n := i) dX9_town_248 th_212 (rfl) (by omega) (by decide) ?_
    refine eR_aldn_0 dX9_town_249 rfl ?_
    refine eR_getR (i := 213) dX9_town_250 gf_X9_32 th_205 rfl ?_
    refine eR_ildn_1 dX9_town_253 rfl ?_
    refine eR_aldn_0 dX9_town_254 rfl ?_
    refine eR_getR (i := 213) dX9_town_255 gf_X9_32 th_205 rfl ?_
    refine eR_bi (z := 10) dX9_town_258 rfl ?_
    refine eR_ildn_1 dX9_town_260 rfl ?_
    refine eR_iadd dX9_town_261 ?_
    refine eR_iald (n := 10 + i) dX9_town_262 th_213 (by omega) (by omega) (by decide) ?_
    refine eX_pcI (congrFun (hU_a _ _ _ (by decide)) _) ?_
    refine eX_pcI (congrFun (hU_a _ _ _ (by decide)) _) ?_
    refine eR_iast (n := i) dX9_town_263 th_213 (rfl) (by omega) (by decide) ?_
    refine eR_aldn_0 dX9_town_264 rfl ?_
    refine eR_getR (i := 214) dX9_town_265 gf_X9_35 th_205 rfl ?_
    refine eR_ildn_1 dX9_town_268 rfl ?_
    refine eR_aldn_0 dX9_town_269 rfl ?_
    refine eR_getR (i := 214) dX9_town_270 gf_X9_35 th_205 rfl ?_
    refine eR_bi (z := 10) dX9_town_273 rfl ?_
    refine eR_ildn_1 dX9_town_275 rfl ?_
    refine eR_iadd dX9_town_276 ?_
    refine eR_iald (n := 10 + i) dX9_town_277 th_214 (by omega) (by omega) (by decide) ?_
    refine eX_pcI (congrFun (hU_a _ _ _ (by decide)) _) ?_
    refine eX_pcI (congrFun (hU_a _ _ _ (by decide)) _) ?_
    refine eX_pcI (congrFun (hU_a _ _ _ (by decide)) _) ?_
    refine eR_iast (n := i) dX9_town_278 th_214 (rfl) (by omega) (by decide) ?_
    refine eR_iinc_1 dX9_town_279 (by decide) rfl ?_
    refine eR_goto (tgt := 213) dX9_town_282 (by decide) ?_
    refine ih (i + 1) (by omega) _ (fun a x q => by rw [hU_ne (by omega), hU_ne (by omega), hU_ne (by omega), hU_ne (by omega)]; exact hF a x q) (fun x hx => ?_)
    by_cases hxi : x = i
    · subst hxi
      refine ⟨?_, ?_, ?_, ?_⟩
      · rw [hU_ne (by omega), hU_ne (by omega), hU_ne (by omega), hU_s]
        exact hF _ _ (by omega)
      · rw [hU_ne (by omega), hU_ne (by omega), hU_s]
        exact hF _ _ (by omega)
      · rw [hU_ne (by omega), hU_s]
        exact hF _ _ (by omega)
      · rw [hU_s]
        exact hF _ _ (by omega)
    · have hz9 := hz x (by omega)
      refine ⟨?_, ?_, ?_, ?_⟩
      · rw [hU_ne (by omega), hU_ne (by omega), hU_ne (by omega), hU_ne (by omega)]; exact hz9.1
      · rw [hU_ne (by omega), hU_ne (by omega), hU_ne (by omega), hU_ne (by omega)]; exact hz9.2.1
      · rw [hU_ne (by omega), hU_ne (by omega), hU_ne (by omega), hU_ne (by omega)]; exact hz9.2.2.1
      · rw [hU_ne (by omega), hU_ne (by omega), hU_ne (by omega), hU_ne (by omega)]; exact hz9.2.2.2
theorem lp_twC (k : ∀ h1 : PH, (∀ a i, ¬ (a = 215 ∧ i < 64) → h1 a i = h0 a i) → (∀ x, x < 64 → h1 215 x = h0 215 (64 + x)) → eX g 5 mX9_town 314 [(0, .ref (gA g 205)), (1, .int (zI ↑64))] [] (tau t s) h1 Q) : ∀ m i : Nat, i + m = 64 → ∀ h1 : PH, (∀ a i, ¬ (a = 215 ∧ i < 64) → h1 a i = h0 a i) → (∀ x, x < i → h1 215 x = h0 215 (64 + x)) → eX g 5 mX9_town 287 [(0, .ref (gA g 205)), (1, .int (zI ↑i))] [] (tau t s) h1 Q := by
  intro m
  induction m with
  | zero =>
    intro i hi h1 hF hz
    refine eR_ildn_1 dX9_town_287 rfl ?_
    refine eR_bi (z := 64) dX9_town_288 rfl ?_
    refine eR_icmp_ge (tgt := 314) dX9_town_290 (by decide) (by first | exact rg_b01 _ | (unfold rg; omega)) (by first | exact rg_b01 _ | (unfold rg; omega)) (fun c290 => ?_) (fun c290 => absurd c290 (by omega))
    have e9 : i = 64 := by omega
    subst e9
    exact k h1 hF hz
  | succ m ih =>
    intro i hi h1 hF hz
    refine eR_ildn_1 dX9_town_287 rfl ?_
    refine eR_bi (z := 64) dX9_town_288 rfl ?_
    refine eR_icmp_ge (tgt := 314) dX9_town_290 (by decide) (by first | exact rg_b01 _ | (unfold rg; omega)) (by first | exact rg_b01 _ | (unfold rg; omega)) (fun c290 => absurd c290 (by omega)) (fun c290 => ?_)
    refine eR_aldn_0 dX9_town_293 rfl ?_
    refine eR_getR (i := 215) dX9_town_294 gf_X9_38 th_205 rfl ?_
    refine eR_ildn_1 dX9_town_297 rfl ?_
    refine eR_aldn_0 dX9_town_298 rfl ?_
    refine eR_getR (i := 215) dX9_town_299 gf_X9_38 th_205 rfl ?_
    refine eR_bi (z := 64) dX9_town_302 rfl ?_
    refine eR_ildn_1 dX9_town_304 rfl ?_
    refine eR_iadd dX9_town_305 ?_
    refine eR_iald (n := 64 + i) dX9_town_306 th_215 (by omega) (by omega) (by decide) ?_
    refine eR_iast (n := i) dX9_town_307 th_215 (rfl) (by omega) (by decide) ?_
    refine eR_iinc_1 dX9_town_308 (by decide) rfl ?_
    refine eR_goto (tgt := 287) dX9_town_311 (by decide) ?_
    refine ih (i + 1) (by omega) _ (fun a x q => by rw [hU_ne (by omega)]; exact hF a x q) (fun x hx => ?_)
    by_cases hxi : x = i
    · subst hxi
      rw [hU_s]
      exact hF _ _ (by omega)
    · rw [hU_ne (by omega)]; exact hz x (by omega)
end M38
