abbrev mL_law : MM := (yL_law, code, 4, ret, 1)
def QL : EQ := fun v _ _ => v = .int 1
def LI (t s : Nat) (h : PH) : Prop := isT t ∧ isT s ∧ t ≠ s ∧ ∃ w, lP w ∧ lC t h w ∧ lM h w
section M68
variable {g : EG} {d t s i : Nat} {M : MM} {pc : Nat} {lv : List (Nat × Value)} {st : List Value} {τ : List Kd} {h h1 h2 : PH} {Q : EQ} {w : LW} {S' : TS} {x' m : Nat}
theorem eR_eqs {x : Int32} {off : Int} {tgt : Nat} (hd : decode M.2.1 pc = .ok (.if_icmp .eq off, 3)) (ht : (pc : Int) + off = (tgt : Int)) (k : eX g d M tgt lv st τ h Q) : eX g d M pc lv (.int x :: .int x :: st) τ h Q := by
  intro p l e R s m args below meth c H locs cells slots Fin C hH hS ls hl
  exact lv_icmp_eq C.1.1 C.1.2.1 hd ht (fun _ => k p l e R s m args below meth c H locs cells slots Fin C hH hS ls hl) (fun h9 => absurd rfl h9)
theorem eR_sldz {z : Int} {n : Nat} (hF : gF g = true) (hd : decode M.2.1 pc = .ok (.iaload, 1)) (hz : z = (n : Int)) (hn : n < gL g) (hL : gL g < 2147483648) (k9 : eX g d M (pc + 1) lv (.int (zI (gX g n).toInt) :: st) τ h Q) : eX g d M pc lv (.int (zI z) :: .ref (gS g) :: st) τ h Q :=
  eR_sld hF hd hz hn hL (by rw [zI_of] at k9; exact k9)
theorem smT_sell (S : TS) (c sl p : Int) : smT S (sSell S c sl p) := by unfold sSell; split <;> exact smT_rf S
theorem smT_cut (S : TS) (c : Int) : smT S (sCut S c) := by unfold sCut; split <;> exact smT_rf S
theorem smT_frost (S : TS) (v : Int) : smT S (sFrost S v) := by unfold sFrost; split <;> exact smT_rf S
theorem smT_swJ {S S2 : TS} {i : Nat} : ∀ n j : Nat, swJ S i n j = some S2 → smT S S2
  | 0, j, h => by cases h
  | n + 1, j, h => by
    by_cases q : i / 2 ≠ j / 2 ∧ gdS S (i / 2) (i % 2) (j / 2) (j % 2)
    · rw [swJ_y q] at h
      cases h
      exact smT_rf S
    · rw [swJ_n q] at h
      exact smT_swJ n (j + 1) h
theorem smT_swI {S S2 : TS} : ∀ n i : Nat, swI S n i = some S2 → smT S S2
  | 0, i, h => by cases h
  | n + 1, i, h => by
    unfold swI at h
    split at h
    · rename_i S9 e9
      cases h
      exact smT_swJ _ _ e9
    · exact smT_swI n (i + 1) h
theorem smT_swIt : ∀ (f : Nat) (S : TS) (n : Nat), smT S (swIt f S n).2
  | 0, S, n => smT_rf S
  | f + 1, S, n => by
    unfold swIt
    split
    · rename_i S9 e9
      exact smT_tr (smT_swI _ _ e9) (smT_swIt f S9 (n + 1))
    · exact smT_rf S
theorem smT_dayW (u : TS × Nat × Int) : smT u.1 (dayW u).1 := by
  unfold dayW
  dsimp only
  split
  · exact smT_tr (smT_F u.1 _) (smT_O _ _ _ _)
  · exact smT_F u.1 _
theorem smT_wnW : ∀ (n : Nat) (u : TS × Nat × Int), smT u.1 (wnW u n).1
  | 0, u => smT_rf _
  | n + 1, u => by rw [wnW_s]; exact smT_tr (smT_dayW u) (smT_wnW n (dayW u))
theorem lP_Tc {c : Nat} {x : Int64} (P : lP w) (V : cT h (fdT (wdT w) (wdN w) x c) (wdN w + c)) (c4 : wdN w + c ≤ 400) : lP (uT w (fdT (wdT w) (wdN w) x c) (wdN w + c)) := lP_T P (fdT_lt P.2.1 c4)
theorem LI_mk (ht : isT t) (hs : isT s) (hts : t ≠ s) (P : lP w) (C : lC t h w) (M : lM h w) : LI t s h := ⟨ht, hs, hts, w, P, C, M⟩
theorem isT_b (ht : isT t) : 123 ≤ t ∧ t + 41 ≤ 205 := by rcases ht with rfl | rfl <;> decide
theorem lC_r (P : lP w) (h123 : 123 ≤ t) (C : lC t h w) (o : ofR 3 38 h h1) : lC t h1 w := lC_m P C (fun a i q => congrFun (o a (by omega)) i)
theorem lM_r (P : lP w) (M : lM h w) (o : ofR 3 38 h h1) : lM h1 w := lM_m P M (fun a i q => congrFun (o a (by omega)) i)
theorem lC_o {b : Nat} (P : lP w) (hb : 205 ≤ b) (ht : t + 41 ≤ 205) (C : lC t h w) (o : ofO b h h1) : lC t h1 w := lC_m P C (fun a i q => congrFun (o a (by omega)) i)
theorem lM_o {b : Nat} (P : lP w) (hb : b = 219 ∨ b = 221) (M : lM h w) (o : ofO b h h1) : lM h1 w := lM_m P M (fun a i q => congrFun (o a (by omega)) i)
theorem lC_o2 (P : lP w) (ht : t + 41 ≤ 205) (C : lC t h w) (o : of2 219 220 h h1) : lC t h1 w := lC_m P C (fun a i q => congrFun (o a (by omega) (by omega)) i)
theorem lM_o2 (P : lP w) (M : lM h w) (o : of2 219 220 h h1) : lM h1 w := lM_m P M (fun a i q => congrFun (o a (by omega) (by omega)) i)
theorem lC_own (P : lP w) (h123 : 123 ≤ t) (C : lC t h w) (m : smT (wdS w) S') (o : ofR t (t + 41) h h1) (V : cV h1 t S') : lC t h1 (uSX w S' (wdX w)) := lC_S P C m V ((congrFun (o 0 (by omega)) 9).trans C.2.2.1) (fun a i q => congrFun (o a (by omega)) i)
theorem lM_own (P : lP w) (M : lM h w) (o : ofR t (t + 41) h h1) (ht : t + 41 ≤ 205) : lM h1 w := lM_m P M (fun a i q => congrFun (o a (by omega)) i)
theorem lM_16 (P : lP w) (M : lM h w) (o : ofO 206 h h1) (f : ∀ i, 18 ≤ i → h1 206 i = h 206 i) (V : mV h1 S') : lM h1 (uSX w S' (wdX w)) := lM_S P M V ((f 18 (by omega)).trans M.2.2.1) (fun a i q => by
  by_cases q2 : a = 206
  · subst q2; exact f i (by omega)
  · exact congrFun (o a q2) i)
theorem mV_im {S : TS} {y : Nat} (V : mV h S) (sm : smT S S') (hC : sC S' ≤ 8) (I : imV h m S' y) (o : ofO 206 h h1) (c1 : ∀ j, j < 20 → h1 206 j = h 206 (20 * (1 + m) + j)) : mV h1 S' ∧ h1 206 18 = (y : Int) := by
  obtain ⟨v1, v2, v3, v4, v5, v6, v7, v8⟩ := V
  have e : ∀ a i, a ≠ 206 → h1 a i = h a i := fun a i q => congrFun (o a q) i
  refine ⟨⟨?_, ?_, ?_, fun c hc => ⟨(c1 c (by omega)).trans (I.1 c hc).1, (c1 (8 + c) (by omega)).trans (I.1 c hc).2, ?_⟩, fun x hx => ?_, (c1 16 (by omega)).trans I.2.1, (c1 17 (by omega)).trans I.2.2.1, fun p q hp hq => ?_⟩, (c1 18 (by omega)).trans I.2.2.2⟩
  · rw [e _ _ (by decide), sm.1]; exact v1
  · rw [e _ _ (by decide), sm.2.1]; exact v2
  · rw [e _ _ (by decide), sm.2.2.1]; exact v3
  · rw [e _ _ (by decide), sm.2.2.2.1]; exact (v4 c (by rw [← sm.2.1]; exact hc)).2.2
  · rw [e _ _ (by decide), e _ _ (by decide), e _ _ (by decide), e _ _ (by decide), sm.2.2.2.2.1]; exact v5 x (by rw [← sm.2.2.1]; exact hx)
  · rw [e _ _ (by decide), sm.2.2.2.2.2]; exact v8 p q (by rw [← sm.1]; exact hp) (by rw [← sm.1]; exact hq)
theorem lc_0 (hF : gF g = true) (hL : gL g ≤ 2048) (hi : i + 4 ≤ gL g) (I : LI t s h) (ih : ∀ (t s : Nat) (h : PH), LI t s h → eX g 12 mL_law 958 [(3, .int (zI ↑i)), (2, .ref (gA g 205)), (1, .ref (gA g 0)), (0, .ref (gS g))] [] (tau t s) h QL) : eX g 12 mL_law 168 [(3, .int (zI ↑i)), (2, .ref (gA g 205)), (1, .ref (gA g 0)), (0, .ref (gS g))] [] (tau t s) h QL := by
  obtain ⟨ht, hs, hts, w, P, C, M⟩ := I
  have T := tn_tau (a := t) (b := s) ht
  obtain ⟨h123, h205⟩ := isT_b ht
  have h38 : 38 ≤ t := by omega
  refine eR_aldn_2 dL_law_168 rfl ?_
  refine eR_aldn_3 dL_law_169 rfl ?_
  refine eR_ildn_0 dL_law_170 rfl ?_
  refine eR_ic dL_law_171 ?_
  refine eR_iadd dL_law_172 ?_
  refine eR_sldz (n := i + 1) hF dL_law_173 (by omega) (by omega) (by omega) ?_
  refine eR_aldn_3 dL_law_174 rfl ?_
  refine eR_ildn_0 dL_law_175 rfl ?_
  refine eR_ic dL_law_176 ?_
  refine eR_iadd dL_law_177 ?_
  refine eR_sldz (n := i + 2) hF dL_law_178 (by omega) (by omega) (by omega) ?_
  refine eR_i2l dL_law_179 ?_
  refine eR_bi (z := 32) dL_law_180 rfl ?_
  refine eR_lshl dL_law_182 ?_
  refine eR_aldn_3 dL_law_183 rfl ?_
  refine eR_ildn_0 dL_law_184 rfl ?_
  refine eR_ic dL_law_185 ?_
  refine eR_iadd dL_law_186 ?_
  refine eR_sldz (n := i + 3) hF dL_law_187 (by omega) (by omega) (by omega) ?_
  refine eR_i2l dL_law_188 ?_
  refine eR_ldc2 (z := 4294967295) dL_law_189 kw_1270 (by decide) ?_
  refine eR_land dL_law_192 ?_
  refine eR_lor dL_law_193 ?_
  refine eR_callVi [_, _] rfl dL_law_194 ok_mX8_feed kw_345 rfl rfl th_0 rfl (Nat.le_of_ble_eq_true rfl) (d' := 1) (by decide) (Nat.le_of_ble_eq_true rfl) ?_
  refine ct_feed P.2.1 C.2.1 (rg_of _) (fun h0 => ?_) (fun h0 h4 => ?_) (fun c e1 c1 c8 c4 h1 o1 t1 => ?_)
  · refine eR_aldn_1 dL_law_197 rfl ?_
    refine eR_aldn_3 dL_law_198 rfl ?_
    refine eR_ildn_0 dL_law_199 rfl ?_
    refine eR_ic dL_law_200 ?_
    refine eR_iadd dL_law_201 ?_
    refine eR_sldz (n := i + 1) hF dL_law_202 (by omega) (by omega) (by omega) ?_
    refine eR_aldn_3 dL_law_203 rfl ?_
    refine eR_ildn_0 dL_law_204 rfl ?_
    refine eR_ic dL_law_205 ?_
    refine eR_iadd dL_law_206 ?_
    refine eR_sldz (n := i + 2) hF dL_law_207 (by omega) (by omega) (by omega) ?_
    refine eR_i2l dL_law_208 ?_
    refine eR_bi (z := 32) dL_law_209 rfl ?_
    refine eR_lshl dL_law_211 ?_
    refine eR_aldn_3 dL_law_212 rfl ?_
    refine eR_ildn_0 dL_law_213 rfl ?_
    refine eR_ic dL_law_214 ?_
    refine eR_iadd dL_law_215 ?_
    refine eR_sldz (n := i + 3) hF dL_law_216 (by omega) (by omega) (by omega) ?_
    refine eR_i2l dL_law_217 ?_
    refine eR_ldc2 (z := 4294967295) dL_law_218 kw_1270 (by decide) ?_
    refine eR_land dL_law_221 ?_
    refine eR_lor dL_law_222 ?_
    refine eR_callVi [_, _] rfl dL_law_223 ok_mX9_feed kw_947 rfl rfl th_205 rfl (Nat.le_of_ble_eq_true rfl) (d' := 1) (by decide) (Nat.le_of_ble_eq_true rfl) ?_
    refine sp_feed P.2.1 M.2.1 (rg_of _) (fun _ => ?_) (fun q _ => absurd q h0) (fun c e1 c1 c8 _ => absurd ⟨by omega, by omega⟩ h0)
    refine eR_eqs (tgt := 958) dL_law_226 (by decide) (ih _ _ _ (LI_mk ht hs hts P C M))
  · refine eR_aldn_1 dL_law_197 rfl ?_
    refine eR_aldn_3 dL_law_198 rfl ?_
    refine eR_ildn_0 dL_law_199 rfl ?_
    refine eR_ic dL_law_200 ?_
    refine eR_iadd dL_law_201 ?_
    refine eR_sldz (n := i + 1) hF dL_law_202 (by omega) (by omega) (by omega) ?_
    refine eR_aldn_3 dL_law_203 rfl ?_
    refine eR_ildn_0 dL_law_204 rfl ?_
    refine eR_ic dL_law_205 ?_
    refine eR_iadd dL_law_206 ?_
    refine eR_sldz (n := i + 2) hF dL_law_207 (by omega) (by omega) (by omega) ?_
    refine eR_i2l dL_law_208 ?_
    refine eR_bi (z := 32) dL_law_209 rfl ?_
    refine eR_lshl dL_law_211 ?_
    refine eR_aldn_3 dL_law_212 rfl ?_
    refine eR_ildn_0 dL_law_213 rfl ?_
    refine eR_ic dL_law_214 ?_
    refine eR_iadd dL_law_215 ?_
    refine eR_sldz (n := i + 3) hF dL_law_216 (by omega) (by omega) (by omega) ?_
    refine eR_i2l dL_law_217 ?_
    refine eR_ldc2 (z := 4294967295) dL_law_218 kw_1270 (by decide) ?_
    refine eR_land dL_law_221 ?_
    refine eR_lor dL_law_222 ?_
    refine eR_callVi [_, _] rfl dL_law_223 ok_mX9_feed kw_947 rfl rfl th_205 rfl (Nat.le_of_ble_eq_true rfl) (d' := 1) (by decide) (Nat.le_of_ble_eq_true rfl) ?_
    refine sp_feed P.2.1 M.2.1 (rg_of _) (fun q => absurd h0 q) (fun _ _ => ?_) (fun c e1 c1 c8 c4 => absurd h4 (by omega))
    refine eR_eqs (tgt := 958) dL_law_226 (by decide) (ih _ _ _ (LI_mk ht hs hts P C M))
  · have M1 : lM h1 w := lM_m P M (fun a i q => o1 a i (by omega))
    have C1 : lC t h1 (uT w (fdT (wdT w) (wdN w) _ c) (wdN w + c)) := lC_T P h123 C t1 o1
    refine eR_aldn_1 dL_law_197 rfl ?_
    refine eR_aldn_3 dL_law_198 rfl ?_
    refine eR_ildn_0 dL_law_199 rfl ?_
    refine eR_ic dL_law_200 ?_
    refine eR_iadd dL_law_201 ?_
    refine eR_sldz (n := i + 1) hF dL_law_202 (by omega) (by omega) (by omega) ?_
    refine eR_aldn_3 dL_law_203 rfl ?_
    refine eR_ildn_0 dL_law_204 rfl ?_
    refine eR_ic dL_law_205 ?_
    refine eR_iadd dL_law_206 ?_
    refine eR_sldz (n := i + 2) hF dL_law_207 (by omega) (by omega) (by omega) ?_
    refine eR_i2l dL_law_208 ?_
    refine eR_bi (z := 32) dL_law_209 rfl ?_
    refine eR_lshl dL_law_211 ?_
    refine eR_aldn_3 dL_law_212 rfl ?_
    refine eR_ildn_0 dL_law_213 rfl ?_
    refine eR_ic dL_law_214 ?_
    refine eR_iadd dL_law_215 ?_
    refine eR_sldz (n := i + 3) hF dL_law_216 (by omega) (by omega) (by omega) ?_
    refine eR_i2l dL_law_217 ?_
    refine eR_ldc2 (z := 4294967295) dL_law_218 kw_1270 (by decide) ?_
    refine eR_land dL_law_221 ?_
    refine eR_lor dL_law_222 ?_
    refine eR_callVi [_, _] rfl dL_law_223 ok_mX9_feed kw_947 rfl rfl th_205 rfl (Nat.le_of_ble_eq_true rfl) (d' := 1) (by decide) (Nat.le_of_ble_eq_true rfl) ?_
    refine sp_feed P.2.1 M1.2.1 (rg_of _) (fun q => absurd ⟨by omega, by omega⟩ q) (fun _ q => absurd q (by omega)) (fun k9 e2 k1 k8 k4 h2 o2 t2 => ?_)
    obtain rfl : k9 = c := by omega
    have P2 := lP_Tc P t1 c4
    have M2 := lM_T P M1 t2 o2
    have C2 := lC_m P2 C1 (h1 := h2) (fun a i q => o2 a i (by omega))
    refine eR_eqs (tgt := 958) dL_law_226 (by decide) (ih _ _ _ (LI_mk ht hs hts P2 C2 M2))
theorem lc_1 (hF : gF g = true) (hL : gL g ≤ 2048) (hi : i + 4 ≤ gL g) (I : LI t s h) (ih : ∀ (t s : Nat) (h : PH), LI t s h → eX g 12 mL_law 958 [(3, .int (zI ↑i)), (2, .ref (gA g 205)), (1, .ref (gA g 0)), (0, .ref (gS g))] [] (tau t s) h QL) : eX g 12 mL_law 231 [(3, .int (zI ↑i)), (2, .ref (gA g 205)), (1, .ref (gA g 0)), (0, .ref (gS g))] [] (tau t s) h QL := by
  obtain ⟨ht, hs, hts, w, P, C, M⟩ := I
  have T := tn_tau (a := t) (b := s) ht
  obtain ⟨h123, h205⟩ := isT_b ht
  have h38 : 38 ≤ t := by omega
  have Ts := tn_tau (a := t) (b := s) hs
  have Ts2 := tn_tau (a := s) (b := t) hs
  obtain ⟨s123, s205⟩ := isT_b hs
  have hdj : s + 41 ≤ t ∨ t + 41 ≤ s := by
    rcases ht with rfl | rfl <;> rcases hs with rfl | rfl <;> first | (exfalso; exact hts rfl) | decide
  refine eR_aldn_2 dL_law_231 rfl ?_
  refine eR_callVi [] rfl dL_law_232 ok_mX8_town kw_356 rfl rfl th_0 rfl (Nat.le_of_ble_eq_true rfl) (d' := 8) (by decide) (Nat.le_of_ble_eq_true rfl) ?_
  refine ct_town hF Ts Ts2 s123 P.2.1 C.2.1 (fun x h1 e1 ho o1 n1 z1 => ?_) (fun U j h1 e1 W1 o1 n1 z1 v1 a1 a2 a3 a4 => ?_)
  · have hn := P.2.1.1
    have M1 : lM h1 w := lM_m P M (fun a i q => o1 a i (by omega))
    have C1 : lC t h1 (uZf w 0 ↑x.2) := lC_Z (s := s) P h123 C ⟨s123, hdj⟩ n1 z1 (fun a i q => o1 a i (by omega))
    have P2 : lP (uZf w 0 ↑x.2) := lP_Z P ⟨by omega, by have := ho.2.2; omega⟩
    refine eR_aldn_1 dL_law_235 rfl ?_
    refine eR_callVi [] rfl dL_law_236 ok_mX9_town kw_958 rfl rfl th_205 rfl (Nat.le_of_ble_eq_true rfl) (d' := 5) (by decide) (Nat.le_of_ble_eq_true rfl) ?_
    refine sp_town P.2.1 M1.2.1 (fun x2 h2 e2 ho2 o2 f1 f2 => ?_) (fun U j h2 e2 W2 tw => ?_)
    · obtain rfl : x2 = x := by rw [e1] at e2; cases e2; rfl
      have M2 : lM (hU h2 205 13 0) (uZf w 0 ↑x2.2) := lM_Z P M1 (mV_w (mV_F P.1 M1.1 o2) (by decide)) (hU_s _ _ _ _) ((hU_ne2 (by omega)).trans f2) (fun a i q => (hU_ne2 (by omega)).trans (o2 a i (by unfold pS; omega)))
      refine eR_eqs (tgt := 958) dL_law_239 (by decide) (ih _ _ _ (LI_mk ht hs hts P2 (lC_hi P2 h205 C1 (fun a q => (hU_a _ _ _ (by omega)).trans (funext fun i => o2 a i (by unfold pS; omega)))) M2))
    · rw [e1] at e2; cases e2
  · have M1 : lM h1 w := lM_m P M (fun a i q => o1 a i (by omega))
    have P2 : lP (uTw w U.1) := lP_Tw P W1.1.1
    refine eR_aldn_1 dL_law_235 rfl ?_
    refine eR_callVi [] rfl dL_law_236 ok_mX9_town kw_958 rfl rfl th_205 rfl (Nat.le_of_ble_eq_true rfl) (d' := 5) (by decide) (Nat.le_of_ble_eq_true rfl) ?_
    refine sp_town P.2.1 M1.2.1 (fun x2 h2 e2 ho2 o2 f1 f2 => ?_) (fun U2 j2 h2 e2 W2 tw => ?_)
    · rw [e1] at e2; cases e2
    obtain rfl : U2 = U := by rw [e1] at e2; cases e2; rfl
    obtain ⟨t1, t2, t3, t4, t5, t6, t7, t8, t9⟩ := tw
    have M2 : lM h2 (uTw w U2.1) := ⟨t1, ⟨t2, fun x hx => absurd hx (Nat.not_lt_zero x)⟩, t8.trans M1.2.2.1, t3, ⟨t4, fun i hi => absurd hi (Nat.not_lt_zero i)⟩, ⟨t5, fun i hi => absurd hi (Nat.not_lt_zero i)⟩, fun m hm => ⟨fun _ => by rcases (show m = 0 ∨ m = 1 by omega) with rfl | rfl; exact t6; exact t7, fun hk => by cases hk⟩⟩
    have C2 : lC s h2 (uTw w U2.1) := ⟨cV_of W1.1.1 v1 (fun a q1 q2 => t9 a (by omega)), ⟨by rw [t9 1 (by decide)]; exact n1, fun x hx => absurd hx (Nat.not_lt_zero x)⟩, by rw [t9 0 (by decide)]; exact (o1 0 9 (by omega)).trans C.2.2.1, by rw [t9 0 (by decide)]; exact z1, ⟨by rw [t9 38 (by decide)]; exact a1, fun i hi => absurd hi (Nat.not_lt_zero i)⟩, ⟨by rw [t9 70 (by decide)]; exact a2, fun i hi => absurd hi (Nat.not_lt_zero i)⟩, fun m hm => ⟨fun _ => by rcases (show m = 0 ∨ m = 1 by omega) with rfl | rfl; rw [t9 103 (by decide)]; exact a3; rw [t9 113 (by decide)]; exact a4, fun hk => by cases hk⟩⟩
    refine eR_eqs (tgt := 958) dL_law_239 (by decide) (ih _ _ _ (LI_mk hs ht hts.symm P2 C2 M2))
theorem lc_2 (hF : gF g = true) (hL : gL g ≤ 2048) (hi : i + 4 ≤ gL g) (I : LI t s h) (ih : ∀ (t s : Nat) (h : PH), LI t s h → eX g 12 mL_law 958 [(3, .int (zI ↑i)), (2, .ref (gA g 205)), (1, .ref (gA g 0)), (0, .ref (gS g))] [] (tau t s) h QL) : eX g 12 mL_law 244 [(3, .int (zI ↑i)), (2, .ref (gA g 205)), (1, .ref (gA g 0)), (0, .ref (gS g))] [] (tau t s) h QL := by
  obtain ⟨ht, hs, hts, w, P, C, M⟩ := I
  have T := tn_tau (a := t) (b := s) ht
  obtain ⟨h123, h205⟩ := isT_b ht
  have h38 : 38 ≤ t := by omega
  refine eR_aldn_2 dL_law_244 rfl ?_
  refine eR_callVi [] rfl dL_law_245 ok_mX8_fault kw_515 rfl rfl th_0 rfl (Nat.le_of_ble_eq_true rfl) (d' := 0) (by decide) (Nat.le_of_ble_eq_true rfl) ?_
  refine ct_fault C.2.2.2.1   ?_
  refine eR_aldn_1 dL_law_248 rfl ?_
  refine eR_callVi [] rfl dL_law_249 ok_mX9_fault kw_1015 rfl rfl th_205 rfl (Nat.le_of_ble_eq_true rfl) (d' := 0) (by decide) (Nat.le_of_ble_eq_true rfl) ?_
  refine sp_fault     ?_
  refine eX_topI M.2.2.2.1 ?_
  refine eR_eqs (tgt := 958) dL_law_252 (by decide) (ih _ _ _ (LI_mk ht hs hts P C M))
theorem lc_3 (hF : gF g = true) (hL : gL g ≤ 2048) (hi : i + 4 ≤ gL g) (I : LI t s h) (ih : ∀ (t s : Nat) (h : PH), LI t s h → eX g 12 mL_law 958 [(3, .int (zI ↑i)), (2, .ref (gA g 205)), (1, .ref (gA g 0)), (0, .ref (gS g))] [] (tau t s) h QL) : eX g 12 mL_law 257 [(3, .int (zI ↑i)), (2, .ref (gA g 205)), (1, .ref (gA g 0)), (0, .ref (gS g))] [] (tau t s) h QL := by
  obtain ⟨ht, hs, hts, w, P, C, M⟩ := I
  have T := tn_tau (a := t) (b := s) ht
  obtain ⟨h123, h205⟩ := isT_b ht
  have h38 : 38 ≤ t := by omega
  refine eR_aldn_2 dL_law_257 rfl ?_
  refine eR_aldn_3 dL_law_258 rfl ?_
  refine eR_ildn_0 dL_law_259 rfl ?_
  refine eR_ic dL_law_260 ?_
  refine eR_iadd dL_law_261 ?_
  refine eR_sldz (n := i + 1) hF dL_law_262 (by omega) (by omega) (by omega) ?_
  refine eR_callVi [_] rfl dL_law_263 ok_mX8_told kw_519 rfl rfl th_0 rfl (Nat.le_of_ble_eq_true rfl) (d' := 5) (by decide) (Nat.le_of_ble_eq_true rfl) ?_
  refine ct_told T P.1 C.1 h38 (rg_of _) P.2.1 C.2.1 C.2.2.2.2.1.1 C.2.2.2.2.2.1.1 (fun h1 o1 => ?_)
  have C1 := lC_r P h123 C o1
  have M1 := lM_r P M o1
  refine eR_aldn_1 dL_law_266 rfl ?_
  refine eR_aldn_3 dL_law_267 rfl ?_
  refine eR_ildn_0 dL_law_268 rfl ?_
  refine eR_ic dL_law_269 ?_
  refine eR_iadd dL_law_270 ?_
  refine eR_sldz (n := i + 1) hF dL_law_271 (by omega) (by omega) (by omega) ?_
  refine eR_callVi [_] rfl dL_law_272 ok_mX9_told kw_1019 rfl rfl th_205 rfl (Nat.le_of_ble_eq_true rfl) (d' := 8) (by decide) (Nat.le_of_ble_eq_true rfl) ?_
  refine sp_told P.1 M1.1 (rg_of _)  (fun h2 o2 => ?_)
  have C2 := lC_o P (by decide) h205 C1 o2
  have M2 := lM_o P (by decide) M1 o2
  refine eX_topI (rTold_M M1.2.1.1 M1.2.2.2.2.1.1 M1.2.2.2.2.2.1.1 _) ?_
  refine eR_eqs (tgt := 958) dL_law_275 (by decide) (ih _ _ _ (LI_mk ht hs hts P C2 M2))
theorem lc_4 (hF : gF g = true) (hL : gL g ≤ 2048) (hi : i + 4 ≤ gL g) (I : LI t s h) (ih : ∀ (t s : Nat) (h : PH), LI t s h → eX g 12 mL_law 958 [(3, .int (zI ↑i)), (2, .ref (gA g 205)), (1, .ref (gA g 0)), (0, .ref (gS g))] [] (tau t s) h QL) : eX g 12 mL_law 280 [(3, .int (zI ↑i)), (2, .ref (gA g 205)), (1, .ref (gA g 0)), (0, .ref (gS g))] [] (tau t s) h QL := by
  obtain ⟨ht, hs, hts, w, P, C, M⟩ := I
  have T := tn_tau (a := t) (b := s) ht
  obtain ⟨h123, h205⟩ := isT_b ht
  have h38 : 38 ≤ t := by omega
  refine eR_aldn_2 dL_law_280 rfl ?_
  refine eR_aldn_3 dL_law_281 rfl ?_
  refine eR_ildn_0 dL_law_282 rfl ?_
  refine eR_ic dL_law_283 ?_
  refine eR_iadd dL_law_284 ?_
  refine eR_sldz (n := i + 1) hF dL_law_285 (by omega) (by omega) (by omega) ?_
  refine eR_aldn_3 dL_law_286 rfl ?_
  refine eR_ildn_0 dL_law_287 rfl ?_
  refine eR_ic dL_law_288 ?_
  refine eR_iadd dL_law_289 ?_
  refine eR_sldz (n := i + 2) hF dL_law_290 (by omega) (by omega) (by omega) ?_
  refine eR_callVi [_, _] rfl dL_law_291 ok_mX8_coat kw_604 rfl rfl th_0 rfl (Nat.le_of_ble_eq_true rfl) (d' := 1) (by decide) (Nat.le_of_ble_eq_true rfl) ?_
  refine ct_coat T P.1 C.1 h38 (rg_of _) (rg_of _)  ?_
  refine eR_aldn_1 dL_law_294 rfl ?_
  refine eR_aldn_3 dL_law_295 rfl ?_
  refine eR_ildn_0 dL_law_296 rfl ?_
  refine eR_ic dL_law_297 ?_
  refine eR_iadd dL_law_298 ?_
  refine eR_sldz (n := i + 1) hF dL_law_299 (by omega) (by omega) (by omega) ?_
  refine eR_aldn_3 dL_law_300 rfl ?_
  refine eR_ildn_0 dL_law_301 rfl ?_
  refine eR_ic dL_law_302 ?_
  refine eR_iadd dL_law_303 ?_
  refine eR_sldz (n := i + 2) hF dL_law_304 (by omega) (by omega) (by omega) ?_
  refine eR_callVi [_, _] rfl dL_law_305 ok_mX9_coat kw_1081 rfl rfl th_205 rfl (Nat.le_of_ble_eq_true rfl) (d' := 2) (by decide) (Nat.le_of_ble_eq_true rfl) ?_
  refine sp_coat P.1 M.1 (rg_of _) (rg_of _)  ?_
  refine eR_eqs (tgt := 958) dL_law_308 (by decide) (ih _ _ _ (LI_mk ht hs hts P C M))
theorem lc_5 (hF : gF g = true) (hL : gL g ≤ 2048) (hi : i + 4 ≤ gL g) (I : LI t s h) (ih : ∀ (t s : Nat) (h : PH), LI t s h → eX g 12 mL_law 958 [(3, .int (zI ↑i)), (2, .ref (gA g 205)), (1, .ref (gA g 0)), (0, .ref (gS g))] [] (tau t s) h QL) : eX g 12 mL_law 313 [(3, .int (zI ↑i)), (2, .ref (gA g 205)), (1, .ref (gA g 0)), (0, .ref (gS g))] [] (tau t s) h QL := by
  obtain ⟨ht, hs, hts, w, P, C, M⟩ := I
  have T := tn_tau (a := t) (b := s) ht
  obtain ⟨h123, h205⟩ := isT_b ht
  have h38 : 38 ≤ t := by omega
  refine eR_aldn_2 dL_law_313 rfl ?_
  refine eR_aldn_3 dL_law_314 rfl ?_
  refine eR_ildn_0 dL_law_315 rfl ?_
  refine eR_ic dL_law_316 ?_
  refine eR_iadd dL_law_317 ?_
  refine eR_sldz (n := i + 1) hF dL_law_318 (by omega) (by omega) (by omega) ?_
  refine eR_aldn_3 dL_law_319 rfl ?_
  refine eR_ildn_0 dL_law_320 rfl ?_
  refine eR_ic dL_law_321 ?_
  refine eR_iadd dL_law_322 ?_
  refine eR_sldz (n := i + 2) hF dL_law_323 (by omega) (by omega) (by omega) ?_
  refine eR_callVi [_, _] rfl dL_law_324 ok_mX8_errand kw_614 rfl rfl th_0 rfl (Nat.le_of_ble_eq_true rfl) (d' := 1) (by decide) (Nat.le_of_ble_eq_true rfl) ?_
  refine ct_errand T P.1 C.1 h38 (rg_of _) (rg_of _)  ?_
  refine eR_aldn_1 dL_law_327 rfl ?_
  refine eR_aldn_3 dL_law_328 rfl ?_
  refine eR_ildn_0 dL_law_329 rfl ?_
  refine eR_ic dL_law_330 ?_
  refine eR_iadd dL_law_331 ?_
  refine eR_sldz (n := i + 1) hF dL_law_332 (by omega) (by omega) (by omega) ?_
  refine eR_aldn_3 dL_law_333 rfl ?_
  refine eR_ildn_0 dL_law_334 rfl ?_
  refine eR_ic dL_law_335 ?_
  refine eR_iadd dL_law_336 ?_
  refine eR_sldz (n := i + 2) hF dL_law_337 (by omega) (by omega) (by omega) ?_
  refine eR_callVi [_, _] rfl dL_law_338 ok_mX9_errand kw_1090 rfl rfl th_205 rfl (Nat.le_of_ble_eq_true rfl) (d' := 2) (by decide) (Nat.le_of_ble_eq_true rfl) ?_
  refine sp_errand P.1 M.1 (rg_of _) (rg_of _)  ?_
  refine eR_eqs (tgt := 958) dL_law_341 (by decide) (ih _ _ _ (LI_mk ht hs hts P C M))
theorem lc_6 (hF : gF g = true) (hL : gL g ≤ 2048) (hi : i + 4 ≤ gL g) (I : LI t s h) (ih : ∀ (t s : Nat) (h : PH), LI t s h → eX g 12 mL_law 958 [(3, .int (zI ↑i)), (2, .ref (gA g 205)), (1, .ref (gA g 0)), (0, .ref (gS g))] [] (tau t s) h QL) : eX g 12 mL_law 346 [(3, .int (zI ↑i)), (2, .ref (gA g 205)), (1, .ref (gA g 0)), (0, .ref (gS g))] [] (tau t s) h QL := by
  obtain ⟨ht, hs, hts, w, P, C, M⟩ := I
  have T := tn_tau (a := t) (b := s) ht
  obtain ⟨h123, h205⟩ := isT_b ht
  have h38 : 38 ≤ t := by omega
  refine eR_aldn_2 dL_law_346 rfl ?_
  refine eR_aldn_3 dL_law_347 rfl ?_
  refine eR_ildn_0 dL_law_348 rfl ?_
  refine eR_ic dL_law_349 ?_
  refine eR_iadd dL_law_350 ?_
  refine eR_sldz (n := i + 1) hF dL_law_351 (by omega) (by omega) (by omega) ?_
  refine eR_aldn_3 dL_law_352 rfl ?_
  refine eR_ildn_0 dL_law_353 rfl ?_
  refine eR_ic dL_law_354 ?_
  refine eR_iadd dL_law_355 ?_
  refine eR_sldz (n := i + 2) hF dL_law_356 (by omega) (by omega) (by omega) ?_
  refine eR_callVi [_, _] rfl dL_law_357 ok_mX8_where kw_618 rfl rfl th_0 rfl (Nat.le_of_ble_eq_true rfl) (d' := 1) (by decide) (Nat.le_of_ble_eq_true rfl) ?_
  refine ct_where T P.1 C.1 h38 (rg_of _) (rg_of _)  ?_
  refine eR_aldn_1 dL_law_360 rfl ?_
  refine eR_aldn_3 dL_law_361 rfl ?_
  refine eR_ildn_0 dL_law_362 rfl ?_
  refine eR_ic dL_law_363 ?_
  refine eR_iadd dL_law_364 ?_
  refine eR_sldz (n := i + 1) hF dL_law_365 (by omega) (by omega) (by omega) ?_
  refine eR_aldn_3 dL_law_366 rfl ?_
  refine eR_ildn_0 dL_law_367 rfl ?_
  refine eR_ic dL_law_368 ?_
  refine eR_iadd dL_law_369 ?_
  refine eR_sldz (n := i + 2) hF dL_law_370 (by omega) (by omega) (by omega) ?_
  refine eR_callVi [_, _] rfl dL_law_371 ok_mX9_where kw_1094 rfl rfl th_205 rfl (Nat.le_of_ble_eq_true rfl) (d' := 3) (by decide) (Nat.le_of_ble_eq_true rfl) ?_
  refine sp_where P.1 M.1 (rg_of _) (rg_of _)  ?_
  refine eR_eqs (tgt := 958) dL_law_374 (by decide) (ih _ _ _ (LI_mk ht hs hts P C M))
theorem lc_7 (hF : gF g = true) (hL : gL g ≤ 2048) (hi : i + 4 ≤ gL g) (I : LI t s h) (ih : ∀ (t s : Nat) (h : PH), LI t s h → eX g 12 mL_law 958 [(3, .int (zI ↑i)), (2, .ref (gA g 205)), (1, .ref (gA g 0)), (0, .ref (gS g))] [] (tau t s) h QL) : eX g 12 mL_law 379 [(3, .int (zI ↑i)), (2, .ref (gA g 205)), (1, .ref (gA g 0)), (0, .ref (gS g))] [] (tau t s) h QL := by
  obtain ⟨ht, hs, hts, w, P, C, M⟩ := I
  have T := tn_tau (a := t) (b := s) ht
  obtain ⟨h123, h205⟩ := isT_b ht
  have h38 : 38 ≤ t := by omega
  refine eR_aldn_2 dL_law_379 rfl ?_
  refine eR_aldn_3 dL_law_380 rfl ?_
  refine eR_ildn_0 dL_law_381 rfl ?_
  refine eR_ic dL_law_382 ?_
  refine eR_iadd dL_law_383 ?_
  refine eR_sldz (n := i + 1) hF dL_law_384 (by omega) (by omega) (by omega) ?_
  refine eR_aldn_3 dL_law_385 rfl ?_
  refine eR_ildn_0 dL_law_386 rfl ?_
  refine eR_ic dL_law_387 ?_
  refine eR_iadd dL_law_388 ?_
  refine eR_sldz (n := i + 2) hF dL_law_389 (by omega) (by omega) (by omega) ?_
  refine eR_callVi [_, _] rfl dL_law_390 ok_mX8_likes kw_629 rfl rfl th_0 rfl (Nat.le_of_ble_eq_true rfl) (d' := 1) (by decide) (Nat.le_of_ble_eq_true rfl) ?_
  refine ct_likes T P.1 C.1 h38 (rg_of _) (rg_of _)  ?_
  refine eR_aldn_1 dL_law_393 rfl ?_
  refine eR_aldn_3 dL_law_394 rfl ?_
  refine eR_ildn_0 dL_law_395 rfl ?_
  refine eR_ic dL_law_396 ?_
  refine eR_iadd dL_law_397 ?_
  refine eR_sldz (n := i + 1) hF dL_law_398 (by omega) (by omega) (by omega) ?_
  refine eR_aldn_3 dL_law_399 rfl ?_
  refine eR_ildn_0 dL_law_400 rfl ?_
  refine eR_ic dL_law_401 ?_
  refine eR_iadd dL_law_402 ?_
  refine eR_sldz (n := i + 2) hF dL_law_403 (by omega) (by omega) (by omega) ?_
  refine eR_callVi [_, _] rfl dL_law_404 ok_mX9_likes kw_1103 rfl rfl th_205 rfl (Nat.le_of_ble_eq_true rfl) (d' := 2) (by decide) (Nat.le_of_ble_eq_true rfl) ?_
  refine sp_likes P.1 M.1 (rg_of _) (rg_of _)  ?_
  refine eR_eqs (tgt := 958) dL_law_407 (by decide) (ih _ _ _ (LI_mk ht hs hts P C M))
theorem lc_8 (hF : gF g = true) (hL : gL g ≤ 2048) (hi : i + 4 ≤ gL g) (I : LI t s h) (ih : ∀ (t s : Nat) (h : PH), LI t s h → eX g 12 mL_law 958 [(3, .int (zI ↑i)), (2, .ref (gA g 205)), (1, .ref (gA g 0)), (0, .ref (gS g))] [] (tau t s) h QL) : eX g 12 mL_law 412 [(3, .int (zI ↑i)), (2, .ref (gA g 205)), (1, .ref (gA g 0)), (0, .ref (gS g))] [] (tau t s) h QL := by
  obtain ⟨ht, hs, hts, w, P, C, M⟩ := I
  have T := tn_tau (a := t) (b := s) ht
  obtain ⟨h123, h205⟩ := isT_b ht
  have h38 : 38 ≤ t := by omega
  refine eR_aldn_2 dL_law_412 rfl ?_
  refine eR_aldn_3 dL_law_413 rfl ?_
  refine eR_ildn_0 dL_law_414 rfl ?_
  refine eR_ic dL_law_415 ?_
  refine eR_iadd dL_law_416 ?_
  refine eR_sldz (n := i + 1) hF dL_law_417 (by omega) (by omega) (by omega) ?_
  refine eR_aldn_3 dL_law_418 rfl ?_
  refine eR_ildn_0 dL_law_419 rfl ?_
  refine eR_ic dL_law_420 ?_
  refine eR_iadd dL_law_421 ?_
  refine eR_sldz (n := i + 2) hF dL_law_422 (by omega) (by omega) (by omega) ?_
  refine eR_callVi [_, _] rfl dL_law_423 ok_mX8_net kw_633 rfl rfl th_0 rfl (Nat.le_of_ble_eq_true rfl) (d' := 3) (by decide) (Nat.le_of_ble_eq_true rfl) ?_
  refine ct_net T P.1 C.1 h38 (rg_of _) (rg_of _)  (fun h1 o1 => ?_)
  have C1 := lC_r P h123 C o1
  have M1 := lM_r P M o1
  refine eR_aldn_1 dL_law_426 rfl ?_
  refine eR_aldn_3 dL_law_427 rfl ?_
  refine eR_ildn_0 dL_law_428 rfl ?_
  refine eR_ic dL_law_429 ?_
  refine eR_iadd dL_law_430 ?_
  refine eR_sldz (n := i + 1) hF dL_law_431 (by omega) (by omega) (by omega) ?_
  refine eR_aldn_3 dL_law_432 rfl ?_
  refine eR_ildn_0 dL_law_433 rfl ?_
  refine eR_ic dL_law_434 ?_
  refine eR_iadd dL_law_435 ?_
  refine eR_sldz (n := i + 2) hF dL_law_436 (by omega) (by omega) (by omega) ?_
  refine eR_callVi [_, _] rfl dL_law_437 ok_mX9_net kw_1107 rfl rfl th_205 rfl (Nat.le_of_ble_eq_true rfl) (d' := 4) (by decide) (Nat.le_of_ble_eq_true rfl) ?_
  refine sp_net P.1 M1.1 (rg_of _) (rg_of _)  ?_
  refine eR_eqs (tgt := 958) dL_law_440 (by decide) (ih _ _ _ (LI_mk ht hs hts P C1 M1))
theorem lc_9 (hF : gF g = true) (hL : gL g ≤ 2048) (hi : i + 4 ≤ gL g) (I : LI t s h) (ih : ∀ (t s : Nat) (h : PH), LI t s h → eX g 12 mL_law 958 [(3, .int (zI ↑i)), (2, .ref (gA g 205)), (1, .ref (gA g 0)), (0, .ref (gS g))] [] (tau t s) h QL) : eX g 12 mL_law 445 [(3, .int (zI ↑i)), (2, .ref (gA g 205)), (1, .ref (gA g 0)), (0, .ref (gS g))] [] (tau t s) h QL := by
  obtain ⟨ht, hs, hts, w, P, C, M⟩ := I
  have T := tn_tau (a := t) (b := s) ht
  obtain ⟨h123, h205⟩ := isT_b ht
  have h38 : 38 ≤ t := by omega
  refine eR_aldn_2 dL_law_445 rfl ?_
  refine eR_aldn_3 dL_law_446 rfl ?_
  refine eR_ildn_0 dL_law_447 rfl ?_
  refine eR_ic dL_law_448 ?_
  refine eR_iadd dL_law_449 ?_
  refine eR_sldz (n := i + 1) hF dL_law_450 (by omega) (by omega) (by omega) ?_
  refine eR_aldn_3 dL_law_451 rfl ?_
  refine eR_ildn_0 dL_law_452 rfl ?_
  refine eR_ic dL_law_453 ?_
  refine eR_iadd dL_law_454 ?_
  refine eR_sldz (n := i + 2) hF dL_law_455 (by omega) (by omega) (by omega) ?_
  refine eR_aldn_3 dL_law_456 rfl ?_
  refine eR_ildn_0 dL_law_457 rfl ?_
  refine eR_ic dL_law_458 ?_
  refine eR_iadd dL_law_459 ?_
  refine eR_sldz (n := i + 3) hF dL_law_460 (by omega) (by omega) (by omega) ?_
  refine eR_callVi [_, _, _] rfl dL_law_461 ok_mX8_sell kw_655 rfl rfl th_0 rfl (Nat.le_of_ble_eq_true rfl) (d' := 2) (by decide) (Nat.le_of_ble_eq_true rfl) ?_
  refine ct_sell T P.1 C.1 h38 (rg_of _) (rg_of _) (rg_of _) (fun h1 o1 v1 => ?_)
  have M1 := lM_own P M o1 h205
  refine eR_aldn_1 dL_law_464 rfl ?_
  refine eR_aldn_3 dL_law_465 rfl ?_
  refine eR_ildn_0 dL_law_466 rfl ?_
  refine eR_ic dL_law_467 ?_
  refine eR_iadd dL_law_468 ?_
  refine eR_sldz (n := i + 1) hF dL_law_469 (by omega) (by omega) (by omega) ?_
  refine eR_aldn_3 dL_law_470 rfl ?_
  refine eR_ildn_0 dL_law_471 rfl ?_
  refine eR_ic dL_law_472 ?_
  refine eR_iadd dL_law_473 ?_
  refine eR_sldz (n := i + 2) hF dL_law_474 (by omega) (by omega) (by omega) ?_
  refine eR_aldn_3 dL_law_475 rfl ?_
  refine eR_ildn_0 dL_law_476 rfl ?_
  refine eR_ic dL_law_477 ?_
  refine eR_iadd dL_law_478 ?_
  refine eR_sldz (n := i + 3) hF dL_law_479 (by omega) (by omega) (by omega) ?_
  refine eR_callVi [_, _, _] rfl dL_law_480 ok_mX9_sell kw_1126 rfl rfl th_205 rfl (Nat.le_of_ble_eq_true rfl) (d' := 3) (by decide) (Nat.le_of_ble_eq_true rfl) ?_
  refine sp_sell P.1 M1.1 (rg_of _) (rg_of _) (rg_of _) (fun h2 o2 v2 b2 => ?_)
  have sm := smT_sell (wdS w) (gX g (i + 1)).toInt (gX g (i + 2)).toInt (gX g (i + 3)).toInt
  have P2 := lP_S P sm b2 P.2.2.1
  have C2 := lC_hi P2 h205 (lC_own P h123 C sm o1 v1) (h1 := h2) (fun a q => o2.1 a (by omega))
  have M2 := lM_16 P M1 o2.1 (fun i q => o2.2 i (by omega)) v2
  refine eR_eqs (tgt := 958) dL_law_483 (by decide) (ih _ _ _ (LI_mk ht hs hts P2 C2 M2))
theorem lc_10 (hF : gF g = true) (hL : gL g ≤ 2048) (hi : i + 4 ≤ gL g) (I : LI t s h) (ih : ∀ (t s : Nat) (h : PH), LI t s h → eX g 12 mL_law 958 [(3, .int (zI ↑i)), (2, .ref (gA g 205)), (1, .ref (gA g 0)), (0, .ref (gS g))] [] (tau t s) h QL) : eX g 12 mL_law 488 [(3, .int (zI ↑i)), (2, .ref (gA g 205)), (1, .ref (gA g 0)), (0, .ref (gS g))] [] (tau t s) h QL := by
  obtain ⟨ht, hs, hts, w, P, C, M⟩ := I
  have T := tn_tau (a := t) (b := s) ht
  obtain ⟨h123, h205⟩ := isT_b ht
  have h38 : 38 ≤ t := by omega
  refine eR_aldn_2 dL_law_488 rfl ?_
  refine eR_aldn_3 dL_law_489 rfl ?_
  refine eR_ildn_0 dL_law_490 rfl ?_
  refine eR_ic dL_law_491 ?_
  refine eR_iadd dL_law_492 ?_
  refine eR_sldz (n := i + 1) hF dL_law_493 (by omega) (by omega) (by omega) ?_
  refine eR_callVi [_] rfl dL_law_494 ok_mX8_cut kw_664 rfl rfl th_0 rfl (Nat.le_of_ble_eq_true rfl) (d' := 1) (by decide) (Nat.le_of_ble_eq_true rfl) ?_
  refine ct_cut T P.1 C.1 h38 (rg_of _) (fun h1 o1 v1 => ?_)
  have M1 := lM_own P M o1 h205
  refine eR_aldn_1 dL_law_497 rfl ?_
  refine eR_aldn_3 dL_law_498 rfl ?_
  refine eR_ildn_0 dL_law_499 rfl ?_
  refine eR_ic dL_law_500 ?_
  refine eR_iadd dL_law_501 ?_
  refine eR_sldz (n := i + 1) hF dL_law_502 (by omega) (by omega) (by omega) ?_
  refine eR_callVi [_] rfl dL_law_503 ok_mX9_cut kw_1135 rfl rfl th_205 rfl (Nat.le_of_ble_eq_true rfl) (d' := 2) (by decide) (Nat.le_of_ble_eq_true rfl) ?_
  refine sp_cut P.1 M1.1 (rg_of _) (fun h2 o2 v2 b2 => ?_)
  have sm := smT_cut (wdS w) (gX g (i + 1)).toInt
  have P2 := lP_S P sm b2 P.2.2.1
  have C2 := lC_hi P2 h205 (lC_own P h123 C sm o1 v1) (h1 := h2) (fun a q => o2.1 a (by omega))
  have M2 := lM_16 P M1 o2.1 (fun i q => o2.2 i (by omega)) v2
  refine eR_eqs (tgt := 958) dL_law_506 (by decide) (ih _ _ _ (LI_mk ht hs hts P2 C2 M2))
theorem lc_11 (hF : gF g = true) (hL : gL g ≤ 2048) (hi : i + 4 ≤ gL g) (I : LI t s h) (ih : ∀ (t s : Nat) (h : PH), LI t s h → eX g 12 mL_law 958 [(3, .int (zI ↑i)), (2, .ref (gA g 205)), (1, .ref (gA g 0)), (0, .ref (gS g))] [] (tau t s) h QL) : eX g 12 mL_law 511 [(3, .int (zI ↑i)), (2, .ref (gA g 205)), (1, .ref (gA g 0)), (0, .ref (gS g))] [] (tau t s) h QL := by
  obtain ⟨ht, hs, hts, w, P, C, M⟩ := I
  have T := tn_tau (a := t) (b := s) ht
  obtain ⟨h123, h205⟩ := isT_b ht
  have h38 : 38 ≤ t := by omega
  refine eR_aldn_2 dL_law_511 rfl ?_
  refine eR_aldn_3 dL_law_512 rfl ?_
  refine eR_ildn_0 dL_law_513 rfl ?_
  refine eR_ic dL_law_514 ?_
  refine eR_iadd dL_law_515 ?_
  refine eR_sldz (n := i + 1) hF dL_law_516 (by omega) (by omega) (by omega) ?_
  refine eR_callVi [_] rfl dL_law_517 ok_mX8_frost kw_668 rfl rfl th_0 rfl (Nat.le_of_ble_eq_true rfl) (d' := 0) (by decide) (Nat.le_of_ble_eq_true rfl) ?_
  refine ct_frost T P.1 C.1 h38 (rg_of _) (fun h1 o1 v1 => ?_)
  have M1 := lM_own P M o1 h205
  refine eR_aldn_1 dL_law_520 rfl ?_
  refine eR_aldn_3 dL_law_521 rfl ?_
  refine eR_ildn_0 dL_law_522 rfl ?_
  refine eR_ic dL_law_523 ?_
  refine eR_iadd dL_law_524 ?_
  refine eR_sldz (n := i + 1) hF dL_law_525 (by omega) (by omega) (by omega) ?_
  refine eR_callVi [_] rfl dL_law_526 ok_mX9_frost kw_1139 rfl rfl th_205 rfl (Nat.le_of_ble_eq_true rfl) (d' := 1) (by decide) (Nat.le_of_ble_eq_true rfl) ?_
  refine sp_frost P.1 M1.1 (rg_of _) (fun h2 o2 v2 b2 => ?_)
  have sm := smT_frost (wdS w) (gX g (i + 1)).toInt
  have P2 := lP_S P sm b2 P.2.2.1
  have C2 := lC_hi P2 h205 (lC_own P h123 C sm o1 v1) (h1 := h2) (fun a q => o2.1 a (by omega))
  have M2 := lM_16 P M1 o2.1 (fun i q => o2.2 i (by omega)) v2
  refine eR_eqs (tgt := 958) dL_law_529 (by decide) (ih _ _ _ (LI_mk ht hs hts P2 C2 M2))
theorem lc_12 (hF : gF g = true) (hL : gL g ≤ 2048) (hi : i + 4 ≤ gL g) (I : LI t s h) (ih : ∀ (t s : Nat) (h : PH), LI t s h → eX g 12 mL_law 958 [(3, .int (zI ↑i)), (2, .ref (gA g 205)), (1, .ref (gA g 0)), (0, .ref (gS g))] [] (tau t s) h QL) : eX g 12 mL_law 534 [(3, .int (zI ↑i)), (2, .ref (gA g 205)), (1, .ref (gA g 0)), (0, .ref (gS g))] [] (tau t s) h QL := by
  obtain ⟨ht, hs, hts, w, P, C, M⟩ := I
  have T := tn_tau (a := t) (b := s) ht
  obtain ⟨h123, h205⟩ := isT_b ht
  have h38 : 38 ≤ t := by omega
  refine eR_aldn_2 dL_law_534 rfl ?_
  refine eR_aldn_3 dL_law_535 rfl ?_
  refine eR_ildn_0 dL_law_536 rfl ?_
  refine eR_ic dL_law_537 ?_
  refine eR_iadd dL_law_538 ?_
  refine eR_sldz (n := i + 1) hF dL_law_539 (by omega) (by omega) (by omega) ?_
  refine eR_aldn_3 dL_law_540 rfl ?_
  refine eR_ildn_0 dL_law_541 rfl ?_
  refine eR_ic dL_law_542 ?_
  refine eR_iadd dL_law_543 ?_
  refine eR_sldz (n := i + 2) hF dL_law_544 (by omega) (by omega) (by omega) ?_
  refine eR_callVi [_, _] rfl dL_law_545 ok_mX8_worn kw_672 rfl rfl th_0 rfl (Nat.le_of_ble_eq_true rfl) (d' := 5) (by decide) (Nat.le_of_ble_eq_true rfl) ?_
  refine ct_worn T P.1 C.1 h38 (rg_of _) (rg_of _)  (fun h1 o1 => ?_)
  have C1 := lC_r P h123 C o1
  have M1 := lM_r P M o1
  refine eR_aldn_1 dL_law_548 rfl ?_
  refine eR_aldn_3 dL_law_549 rfl ?_
  refine eR_ildn_0 dL_law_550 rfl ?_
  refine eR_ic dL_law_551 ?_
  refine eR_iadd dL_law_552 ?_
  refine eR_sldz (n := i + 1) hF dL_law_553 (by omega) (by omega) (by omega) ?_
  refine eR_aldn_3 dL_law_554 rfl ?_
  refine eR_ildn_0 dL_law_555 rfl ?_
  refine eR_ic dL_law_556 ?_
  refine eR_iadd dL_law_557 ?_
  refine eR_sldz (n := i + 2) hF dL_law_558 (by omega) (by omega) (by omega) ?_
  refine eR_callVi [_, _] rfl dL_law_559 ok_mX9_worn kw_1144 rfl rfl th_205 rfl (Nat.le_of_ble_eq_true rfl) (d' := 7) (by decide) (Nat.le_of_ble_eq_true rfl) ?_
  refine sp_worn P.1 M1.1 (rg_of _) (rg_of _)  (fun h2 o2 => ?_)
  have C2 := lC_o2 P h205 C1 o2
  have M2 := lM_o2 P M1 o2
  refine eR_eqs (tgt := 958) dL_law_562 (by decide) (ih _ _ _ (LI_mk ht hs hts P C2 M2))
theorem lc_13 (hF : gF g = true) (hL : gL g ≤ 2048) (hi : i + 4 ≤ gL g) (I : LI t s h) (ih : ∀ (t s : Nat) (h : PH), LI t s h → eX g 12 mL_law 958 [(3, .int (zI ↑i)), (2, .ref (gA g 205)), (1, .ref (gA g 0)), (0, .ref (gS g))] [] (tau t s) h QL) : eX g 12 mL_law 567 [(3, .int (zI ↑i)), (2, .ref (gA g 205)), (1, .ref (gA g 0)), (0, .ref (gS g))] [] (tau t s) h QL := by
  obtain ⟨ht, hs, hts, w, P, C, M⟩ := I
  have T := tn_tau (a := t) (b := s) ht
  obtain ⟨h123, h205⟩ := isT_b ht
  have h38 : 38 ≤ t := by omega
  refine eR_aldn_2 dL_law_567 rfl ?_
  refine eR_aldn_3 dL_law_568 rfl ?_
  refine eR_ildn_0 dL_law_569 rfl ?_
  refine eR_ic dL_law_570 ?_
  refine eR_iadd dL_law_571 ?_
  refine eR_sldz (n := i + 1) hF dL_law_572 (by omega) (by omega) (by omega) ?_
  refine eR_aldn_3 dL_law_573 rfl ?_
  refine eR_ildn_0 dL_law_574 rfl ?_
  refine eR_ic dL_law_575 ?_
  refine eR_iadd dL_law_576 ?_
  refine eR_sldz (n := i + 2) hF dL_law_577 (by omega) (by omega) (by omega) ?_
  refine eR_callVi [_, _] rfl dL_law_578 ok_mX8_chill kw_681 rfl rfl th_0 rfl (Nat.le_of_ble_eq_true rfl) (d' := 5) (by decide) (Nat.le_of_ble_eq_true rfl) ?_
  refine ct_chill T P.1 C.1 h38 (rg_of _) (rg_of _)  (fun h1 o1 => ?_)
  have C1 := lC_r P h123 C o1
  have M1 := lM_r P M o1
  refine eR_aldn_1 dL_law_581 rfl ?_
  refine eR_aldn_3 dL_law_582 rfl ?_
  refine eR_ildn_0 dL_law_583 rfl ?_
  refine eR_ic dL_law_584 ?_
  refine eR_iadd dL_law_585 ?_
  refine eR_sldz (n := i + 1) hF dL_law_586 (by omega) (by omega) (by omega) ?_
  refine eR_aldn_3 dL_law_587 rfl ?_
  refine eR_ildn_0 dL_law_588 rfl ?_
  refine eR_ic dL_law_589 ?_
  refine eR_iadd dL_law_590 ?_
  refine eR_sldz (n := i + 2) hF dL_law_591 (by omega) (by omega) (by omega) ?_
  refine eR_callVi [_, _] rfl dL_law_592 ok_mX9_chill kw_1152 rfl rfl th_205 rfl (Nat.le_of_ble_eq_true rfl) (d' := 7) (by decide) (Nat.le_of_ble_eq_true rfl) ?_
  refine sp_chill P.1 M1.1 (rg_of _) (rg_of _)  (fun h2 o2 => ?_)
  have C2 := lC_o2 P h205 C1 o2
  have M2 := lM_o2 P M1 o2
  refine eR_eqs (tgt := 958) dL_law_595 (by decide) (ih _ _ _ (LI_mk ht hs hts P C2 M2))
theorem lc_14 (hF : gF g = true) (hL : gL g ≤ 2048) (hi : i + 4 ≤ gL g) (I : LI t s h) (ih : ∀ (t s : Nat) (h : PH), LI t s h → eX g 12 mL_law 958 [(3, .int (zI ↑i)), (2, .ref (gA g 205)), (1, .ref (gA g 0)), (0, .ref (gS g))] [] (tau t s) h QL) : eX g 12 mL_law 600 [(3, .int (zI ↑i)), (2, .ref (gA g 205)), (1, .ref (gA g 0)), (0, .ref (gS g))] [] (tau t s) h QL := by
  obtain ⟨ht, hs, hts, w, P, C, M⟩ := I
  have T := tn_tau (a := t) (b := s) ht
  obtain ⟨h123, h205⟩ := isT_b ht
  have h38 : 38 ≤ t := by omega
  refine eR_aldn_2 dL_law_600 rfl ?_
  refine eR_aldn_3 dL_law_601 rfl ?_
  refine eR_ildn_0 dL_law_602 rfl ?_
  refine eR_ic dL_law_603 ?_
  refine eR_iadd dL_law_604 ?_
  refine eR_sldz (n := i + 1) hF dL_law_605 (by omega) (by omega) (by omega) ?_
  refine eR_aldn_3 dL_law_606 rfl ?_
  refine eR_ildn_0 dL_law_607 rfl ?_
  refine eR_ic dL_law_608 ?_
  refine eR_iadd dL_law_609 ?_
  refine eR_sldz (n := i + 2) hF dL_law_610 (by omega) (by omega) (by omega) ?_
  refine eR_callVi [_, _] rfl dL_law_611 ok_mX8_fair kw_690 rfl rfl th_0 rfl (Nat.le_of_ble_eq_true rfl) (d' := 2) (by decide) (Nat.le_of_ble_eq_true rfl) ?_
  refine ct_fair T P.1 C.1 h38 (rg_of _) (rg_of _)  ?_
  refine eR_aldn_1 dL_law_614 rfl ?_
  refine eR_aldn_3 dL_law_615 rfl ?_
  refine eR_ildn_0 dL_law_616 rfl ?_
  refine eR_ic dL_law_617 ?_
  refine eR_iadd dL_law_618 ?_
  refine eR_sldz (n := i + 1) hF dL_law_619 (by omega) (by omega) (by omega) ?_
  refine eR_aldn_3 dL_law_620 rfl ?_
  refine eR_ildn_0 dL_law_621 rfl ?_
  refine eR_ic dL_law_622 ?_
  refine eR_iadd dL_law_623 ?_
  refine eR_sldz (n := i + 2) hF dL_law_624 (by omega) (by omega) (by omega) ?_
  refine eR_callVi [_, _] rfl dL_law_625 ok_mX9_fair kw_1156 rfl rfl th_205 rfl (Nat.le_of_ble_eq_true rfl) (d' := 4) (by decide) (Nat.le_of_ble_eq_true rfl) ?_
  refine sp_fair P.1 M.1 (rg_of _) (rg_of _)  ?_
  refine eR_eqs (tgt := 958) dL_law_628 (by decide) (ih _ _ _ (LI_mk ht hs hts P C M))
theorem lc_15 (hF : gF g = true) (hL : gL g ≤ 2048) (hi : i + 4 ≤ gL g) (I : LI t s h) (ih : ∀ (t s : Nat) (h : PH), LI t s h → eX g 12 mL_law 958 [(3, .int (zI ↑i)), (2, .ref (gA g 205)), (1, .ref (gA g 0)), (0, .ref (gS g))] [] (tau t s) h QL) : eX g 12 mL_law 633 [(3, .int (zI ↑i)), (2, .ref (gA g 205)), (1, .ref (gA g 0)), (0, .ref (gS g))] [] (tau t s) h QL := by
  obtain ⟨ht, hs, hts, w, P, C, M⟩ := I
  have T := tn_tau (a := t) (b := s) ht
  obtain ⟨h123, h205⟩ := isT_b ht
  have h38 : 38 ≤ t := by omega
  refine eR_aldn_2 dL_law_633 rfl ?_
  refine eR_aldn_3 dL_law_634 rfl ?_
  refine eR_ildn_0 dL_law_635 rfl ?_
  refine eR_ic dL_law_636 ?_
  refine eR_iadd dL_law_637 ?_
  refine eR_sldz (n := i + 1) hF dL_law_638 (by omega) (by omega) (by omega) ?_
  refine eR_callVi [_] rfl dL_law_639 ok_mX8_wish kw_703 rfl rfl th_0 rfl (Nat.le_of_ble_eq_true rfl) (d' := 2) (by decide) (Nat.le_of_ble_eq_true rfl) ?_
  refine ct_wish T P.1 C.1 h38 (rg_of _)  ?_
  refine eR_aldn_1 dL_law_642 rfl ?_
  refine eR_aldn_3 dL_law_643 rfl ?_
  refine eR_ildn_0 dL_law_644 rfl ?_
  refine eR_ic dL_law_645 ?_
  refine eR_iadd dL_law_646 ?_
  refine eR_sldz (n := i + 1) hF dL_law_647 (by omega) (by omega) (by omega) ?_
  refine eR_callVi [_] rfl dL_law_648 ok_mX9_wish kw_1160 rfl rfl th_205 rfl (Nat.le_of_ble_eq_true rfl) (d' := 3) (by decide) (Nat.le_of_ble_eq_true rfl) ?_
  refine sp_wish P.1 M.1 (rg_of _)  ?_
  refine eR_eqs (tgt := 958) dL_law_651 (by decide) (ih _ _ _ (LI_mk ht hs hts P C M))
theorem lc_16 (hF : gF g = true) (hL : gL g ≤ 2048) (hi : i + 4 ≤ gL g) (I : LI t s h) (ih : ∀ (t s : Nat) (h : PH), LI t s h → eX g 12 mL_law 958 [(3, .int (zI ↑i)), (2, .ref (gA g 205)), (1, .ref (gA g 0)), (0, .ref (gS g))] [] (tau t s) h QL) : eX g 12 mL_law 656 [(3, .int (zI ↑i)), (2, .ref (gA g 205)), (1, .ref (gA g 0)), (0, .ref (gS g))] [] (tau t s) h QL := by
  obtain ⟨ht, hs, hts, w, P, C, M⟩ := I
  have T := tn_tau (a := t) (b := s) ht
  obtain ⟨h123, h205⟩ := isT_b ht
  have h38 : 38 ≤ t := by omega
  refine eR_aldn_2 dL_law_656 rfl ?_
  refine eR_callVi [] rfl dL_law_657 ok_mX8_swap kw_711 rfl rfl th_0 rfl (Nat.le_of_ble_eq_true rfl) (d' := 4) (by decide) (Nat.le_of_ble_eq_true rfl) ?_
  refine ct_swap T P.1 C.1 (fun h1 o1 v1 b1 => ?_)
  have M1 := lM_own P M o1 h205
  refine eR_aldn_1 dL_law_660 rfl ?_
  refine eR_callVi [] rfl dL_law_661 ok_mX9_swap kw_1168 rfl rfl th_205 rfl (Nat.le_of_ble_eq_true rfl) (d' := 5) (by decide) (Nat.le_of_ble_eq_true rfl) ?_
  refine sp_swap P.1 M1.1  (fun h2 o2 v2 b2 => ?_)
  have sm := smT_swIt 50 (wdS w) 0
  have P2 := lP_S P sm b2 P.2.2.1
  have C2 := lC_hi P2 h205 (lC_own P h123 C sm o1 v1) (h1 := h2) (fun a q => o2.1 a (by omega))
  have M2 := lM_16 P M1 o2.1 (fun i q => o2.2 i (by omega)) v2
  refine eR_eqs (tgt := 958) dL_law_664 (by decide) (ih _ _ _ (LI_mk ht hs hts P2 C2 M2))
theorem lc_17 (hF : gF g = true) (hL : gL g ≤ 2048) (hi : i + 4 ≤ gL g) (I : LI t s h) (ih : ∀ (t s : Nat) (h : PH), LI t s h → eX g 12 mL_law 958 [(3, .int (zI ↑i)), (2, .ref (gA g 205)), (1, .ref (gA g 0)), (0, .ref (gS g))] [] (tau t s) h QL) : eX g 12 mL_law 669 [(3, .int (zI ↑i)), (2, .ref (gA g 205)), (1, .ref (gA g 0)), (0, .ref (gS g))] [] (tau t s) h QL := by
  obtain ⟨ht, hs, hts, w, P, C, M⟩ := I
  have T := tn_tau (a := t) (b := s) ht
  obtain ⟨h123, h205⟩ := isT_b ht
  have h38 : 38 ≤ t := by omega
  refine eR_aldn_2 dL_law_669 rfl ?_
  refine eR_callVi [] rfl dL_law_670 ok_mX8_most kw_731 rfl rfl th_0 rfl (Nat.le_of_ble_eq_true rfl) (d' := 3) (by decide) (Nat.le_of_ble_eq_true rfl) ?_
  refine ct_most T P.1 C.1 h38 (fun r1 h1 o1 q1 => ?_)
  have C1 := lC_r P h123 C o1
  have M1 := lM_r P M o1
  refine eR_aldn_1 dL_law_673 rfl ?_
  refine eR_callVi [] rfl dL_law_674 ok_mX9_most kw_1184 rfl rfl th_205 rfl (Nat.le_of_ble_eq_true rfl) (d' := 4) (by decide) (Nat.le_of_ble_eq_true rfl) ?_
  refine sp_most P.1 M1.1 (fun r2 h2 o2 q2 => ?_)
  obtain rfl := isMst_one q1 q2
  have C2 := lC_o P (by decide) h205 C1 o2
  have M2 := lM_o P (by decide) M1 o2
  refine eR_eqs (tgt := 958) dL_law_677 (by decide) (ih _ _ _ (LI_mk ht hs hts P C2 M2))
theorem lc_18 (hF : gF g = true) (hL : gL g ≤ 2048) (hi : i + 4 ≤ gL g) (I : LI t s h) (ih : ∀ (t s : Nat) (h : PH), LI t s h → eX g 12 mL_law 958 [(3, .int (zI ↑i)), (2, .ref (gA g 205)), (1, .ref (gA g 0)), (0, .ref (gS g))] [] (tau t s) h QL) : eX g 12 mL_law 682 [(3, .int (zI ↑i)), (2, .ref (gA g 205)), (1, .ref (gA g 0)), (0, .ref (gS g))] [] (tau t s) h QL := by
  obtain ⟨ht, hs, hts, w, P, C, M⟩ := I
  have T := tn_tau (a := t) (b := s) ht
  obtain ⟨h123, h205⟩ := isT_b ht
  have h38 : 38 ≤ t := by omega
  refine eR_aldn_2 dL_law_682 rfl ?_
  refine eR_aldn_3 dL_law_683 rfl ?_
  refine eR_ildn_0 dL_law_684 rfl ?_
  refine eR_ic dL_law_685 ?_
  refine eR_iadd dL_law_686 ?_
  refine eR_sldz (n := i + 1) hF dL_law_687 (by omega) (by omega) (by omega) ?_
  refine eR_callVi [_] rfl dL_law_688 ok_mX8_gain kw_756 rfl rfl th_0 rfl (Nat.le_of_ble_eq_true rfl) (d' := 6) (by decide) (Nat.le_of_ble_eq_true rfl) ?_
  refine ct_gain T P.1 C.1 h38 (rg_of _)  (fun h1 o1 => ?_)
  have C1 := lC_r P h123 C o1
  have M1 := lM_r P M o1
  refine eR_aldn_1 dL_law_691 rfl ?_
  refine eR_aldn_3 dL_law_692 rfl ?_
  refine eR_ildn_0 dL_law_693 rfl ?_
  refine eR_ic dL_law_694 ?_
  refine eR_iadd dL_law_695 ?_
  refine eR_sldz (n := i + 1) hF dL_law_696 (by omega) (by omega) (by omega) ?_
  refine eR_callVi [_] rfl dL_law_697 ok_mX9_gain kw_1200 rfl rfl th_205 rfl (Nat.le_of_ble_eq_true rfl) (d' := 9) (by decide) (Nat.le_of_ble_eq_true rfl) ?_
  refine sp_gain P.1 M1.1 (rg_of _)  (fun h2 o2 => ?_)
  have C2 := lC_o P (by decide) h205 C1 o2
  have M2 := lM_o P (by decide) M1 o2
  refine eR_eqs (tgt := 958) dL_law_700 (by decide) (ih _ _ _ (LI_mk ht hs hts P C2 M2))
theorem lc_19 (hF : gF g = true) (hL : gL g ≤ 2048) (hi : i + 4 ≤ gL g) (I : LI t s h) (ih : ∀ (t s : Nat) (h : PH), LI t s h → eX g 12 mL_law 958 [(3, .int (zI ↑i)), (2, .ref (gA g 205)), (1, .ref (gA g 0)), (0, .ref (gS g))] [] (tau t s) h QL) : eX g 12 mL_law 705 [(3, .int (zI ↑i)), (2, .ref (gA g 205)), (1, .ref (gA g 0)), (0, .ref (gS g))] [] (tau t s) h QL := by
  obtain ⟨ht, hs, hts, w, P, C, M⟩ := I
  have T := tn_tau (a := t) (b := s) ht
  obtain ⟨h123, h205⟩ := isT_b ht
  have h38 : 38 ≤ t := by omega
  refine eR_aldn_2 dL_law_705 rfl ?_
  refine eR_callVi [] rfl dL_law_706 ok_mX8_best kw_764 rfl rfl th_0 rfl (Nat.le_of_ble_eq_true rfl) (d' := 6) (by decide) (Nat.le_of_ble_eq_true rfl) ?_
  refine ct_best T P.1 C.1 h38   (fun h1 o1 => ?_)
  have C1 := lC_r P h123 C o1
  have M1 := lM_r P M o1
  refine eR_aldn_1 dL_law_709 rfl ?_
  refine eR_callVi [] rfl dL_law_710 ok_mX9_best kw_1208 rfl rfl th_205 rfl (Nat.le_of_ble_eq_true rfl) (d' := 9) (by decide) (Nat.le_of_ble_eq_true rfl) ?_
  refine sp_best P.1 M1.1   (fun h2 o2 => ?_)
  have C2 := lC_o P (by decide) h205 C1 o2
  have M2 := lM_o P (by decide) M1 o2
  refine eR_eqs (tgt := 958) dL_law_713 (by decide) (ih _ _ _ (LI_mk ht hs hts P C2 M2))
theorem lc_20 (hF : gF g = true) (hL : gL g ≤ 2048) (hi : i + 4 ≤ gL g) (I : LI t s h) (ih : ∀ (t s : Nat) (h : PH), LI t s h → eX g 12 mL_law 958 [(3, .int (zI ↑i)), (2, .ref (gA g 205)), (1, .ref (gA g 0)), (0, .ref (gS g))] [] (tau t s) h QL) : eX g 12 mL_law 718 [(3, .int (zI ↑i)), (2, .ref (gA g 205)), (1, .ref (gA g 0)), (0, .ref (gS g))] [] (tau t s) h QL := by
  obtain ⟨ht, hs, hts, w, P, C, M⟩ := I
  have T := tn_tau (a := t) (b := s) ht
  obtain ⟨h123, h205⟩ := isT_b ht
  have h38 : 38 ≤ t := by omega
  refine eR_aldn_2 dL_law_718 rfl ?_
  refine eR_aldn_3 dL_law_719 rfl ?_
  refine eR_ildn_0 dL_law_720 rfl ?_
  refine eR_ic dL_law_721 ?_
  refine eR_iadd dL_law_722 ?_
  refine eR_sldz (n := i + 1) hF dL_law_723 (by omega) (by omega) (by omega) ?_
  refine eR_aldn_3 dL_law_724 rfl ?_
  refine eR_ildn_0 dL_law_725 rfl ?_
  refine eR_ic dL_law_726 ?_
  refine eR_iadd dL_law_727 ?_
  refine eR_sldz (n := i + 2) hF dL_law_728 (by omega) (by omega) (by omega) ?_
  refine eR_aldn_3 dL_law_729 rfl ?_
  refine eR_ildn_0 dL_law_730 rfl ?_
  refine eR_ic dL_law_731 ?_
  refine eR_iadd dL_law_732 ?_
  refine eR_sldz (n := i + 3) hF dL_law_733 (by omega) (by omega) (by omega) ?_
  refine eR_callVi [_, _, _] rfl dL_law_734 ok_mX8_see kw_768 rfl rfl th_0 rfl (Nat.le_of_ble_eq_true rfl) (d' := 1) (by decide) (Nat.le_of_ble_eq_true rfl) ?_
  refine ct_see T P.1 C.1 h38 (rg_of _) (rg_of _) (rg_of _) C.2.2.2.2.1.1 P.2.2.2.2.1.1 (fun h0 => ?_) (fun h0 => ?_)
  · refine eR_aldn_1 dL_law_737 rfl ?_
    refine eR_aldn_3 dL_law_738 rfl ?_
    refine eR_ildn_0 dL_law_739 rfl ?_
    refine eR_ic dL_law_740 ?_
    refine eR_iadd dL_law_741 ?_
    refine eR_sldz (n := i + 1) hF dL_law_742 (by omega) (by omega) (by omega) ?_
    refine eR_aldn_3 dL_law_743 rfl ?_
    refine eR_ildn_0 dL_law_744 rfl ?_
    refine eR_ic dL_law_745 ?_
    refine eR_iadd dL_law_746 ?_
    refine eR_sldz (n := i + 2) hF dL_law_747 (by omega) (by omega) (by omega) ?_
    refine eR_aldn_3 dL_law_748 rfl ?_
    refine eR_ildn_0 dL_law_749 rfl ?_
    refine eR_ic dL_law_750 ?_
    refine eR_iadd dL_law_751 ?_
    refine eR_sldz (n := i + 3) hF dL_law_752 (by omega) (by omega) (by omega) ?_
    refine eR_callVi [_, _, _] rfl dL_law_753 ok_mX9_see kw_1212 rfl rfl th_205 rfl (Nat.le_of_ble_eq_true rfl) (d' := 2) (by decide) (Nat.le_of_ble_eq_true rfl) ?_
    refine sp_see P.1 M.1 (rg_of _) (rg_of _) (rg_of _) M.2.2.2.2.1.1 P.2.2.2.2.1.1 (fun _ => ?_) (fun q => absurd q h0)
    refine eR_eqs (tgt := 958) dL_law_756 (by decide) (ih _ _ _ (LI_mk ht hs hts P C M))
  · obtain ⟨⟨q1, q2⟩, ⟨q3, q4⟩, ⟨q5, q6⟩, q7⟩ := id h0
    obtain ⟨c1, e1⟩ : ∃ k : Nat, (gX g (i + 1)).toInt = (k : Int) := ⟨(gX g (i + 1)).toInt.toNat, by omega⟩
    obtain ⟨c2, e2⟩ : ∃ k : Nat, (gX g (i + 2)).toInt = (k : Int) := ⟨(gX g (i + 2)).toInt.toNat, by omega⟩
    obtain ⟨c3, e3⟩ : ∃ k : Nat, (gX g (i + 3)).toInt = (k : Int) := ⟨(gX g (i + 3)).toInt.toNat, by omega⟩
    have P2 : lP (uG w (wdSn w + 1) (sgA (wdSg w) (wdSn w) c1 c2 c3)) := lP_G P (sgB_A P.2.2.2.2.1 q7 (by omega) (by omega) (by omega))
    have C1 : lC t (hU (hU (hU (hU h (40 + wdSn w) 0 (gX g (i + 3)).toInt) (40 + wdSn w) 1 (gX g (i + 1)).toInt) (40 + wdSn w) 2 (gX g (i + 2)).toInt) 38 1 (↑(wdSn w) + 1)) (uG w (wdSn w + 1) (sgA (wdSg w) (wdSn w) c1 c2 c3)) := by
      have := P.2.2.2.2.1.1
      rw [e1, e2, e3]
      exact lC_G P h123 C (sgC_A C.2.2.2.2.1) (fun a i q => by rw [hU_ne2 (by omega), hU_ne2 (by omega), hU_ne2 (by omega), hU_ne2 (by omega)])
    have M1 := lM_lo P M (h1 := hU (hU (hU (hU h (40 + wdSn w) 0 (gX g (i + 3)).toInt) (40 + wdSn w) 1 (gX g (i + 1)).toInt) (40 + wdSn w) 2 (gX g (i + 2)).toInt) 38 1 (↑(wdSn w) + 1)) (fun a q => funext fun j => by have := P.2.2.2.2.1.1; rw [hU_ne2 (by omega), hU_ne2 (by omega), hU_ne2 (by omega), hU_ne2 (by omega)])
    refine eR_aldn_1 dL_law_737 rfl ?_
    refine eR_aldn_3 dL_law_738 rfl ?_
    refine eR_ildn_0 dL_law_739 rfl ?_
    refine eR_ic dL_law_740 ?_
    refine eR_iadd dL_law_741 ?_
    refine eR_sldz (n := i + 1) hF dL_law_742 (by omega) (by omega) (by omega) ?_
    refine eR_aldn_3 dL_law_743 rfl ?_
    refine eR_ildn_0 dL_law_744 rfl ?_
    refine eR_ic dL_law_745 ?_
    refine eR_iadd dL_law_746 ?_
    refine eR_sldz (n := i + 2) hF dL_law_747 (by omega) (by omega) (by omega) ?_
    refine eR_aldn_3 dL_law_748 rfl ?_
    refine eR_ildn_0 dL_law_749 rfl ?_
    refine eR_ic dL_law_750 ?_
    refine eR_iadd dL_law_751 ?_
    refine eR_sldz (n := i + 3) hF dL_law_752 (by omega) (by omega) (by omega) ?_
    refine eR_callVi [_, _, _] rfl dL_law_753 ok_mX9_see kw_1212 rfl rfl th_205 rfl (Nat.le_of_ble_eq_true rfl) (d' := 2) (by decide) (Nat.le_of_ble_eq_true rfl) ?_
    refine sp_see P.1 M1.1 (rg_of _) (rg_of _) (rg_of _) M1.2.2.2.2.1.1 P.2.2.2.2.1.1 (fun q => absurd h0 q) (fun _ => ?_)
    generalize hU (hU (hU (hU h _ _ _) _ _ _) _ _ _) _ _ _ = h5 at C1 M1 ⊢
    rw [e1, e2, e3]
    have M2 := lM_G P M1 (sgV_A (c := c1) (a := c2) (b := c3) M1.2.2.2.2.1) (fun a i q => by rw [hU_ne2 (by omega), hU_ne2 (by omega), hU_ne2 (by omega), hU_ne2 (by omega)])
    refine eR_eqs (tgt := 958) dL_law_756 (by decide) (ih _ _ _ (LI_mk ht hs hts P2 (lC_hi P2 h205 C1 (fun a q => funext fun j => by rw [hU_ne2 (by omega), hU_ne2 (by omega), hU_ne2 (by omega), hU_ne2 (by omega)])) M2))
theorem lc_21 (hF : gF g = true) (hL : gL g ≤ 2048) (hi : i + 4 ≤ gL g) (I : LI t s h) (ih : ∀ (t s : Nat) (h : PH), LI t s h → eX g 12 mL_law 958 [(3, .int (zI ↑i)), (2, .ref (gA g 205)), (1, .ref (gA g 0)), (0, .ref (gS g))] [] (tau t s) h QL) : eX g 12 mL_law 761 [(3, .int (zI ↑i)), (2, .ref (gA g 205)), (1, .ref (gA g 0)), (0, .ref (gS g))] [] (tau t s) h QL := by
  obtain ⟨ht, hs, hts, w, P, C, M⟩ := I
  have T := tn_tau (a := t) (b := s) ht
  obtain ⟨h123, h205⟩ := isT_b ht
  have h38 : 38 ≤ t := by omega
  refine eR_aldn_2 dL_law_761 rfl ?_
  refine eR_aldn_3 dL_law_762 rfl ?_
  refine eR_ildn_0 dL_law_763 rfl ?_
  refine eR_ic dL_law_764 ?_
  refine eR_iadd dL_law_765 ?_
  refine eR_sldz (n := i + 1) hF dL_law_766 (by omega) (by omega) (by omega) ?_
  refine eR_callVi [_] rfl dL_law_767 ok_mX8_wore kw_777 rfl rfl th_0 rfl (Nat.le_of_ble_eq_true rfl) (d' := 1) (by decide) (Nat.le_of_ble_eq_true rfl) ?_
  refine ct_wore T P.1 C.1 h38 (rg_of _) P.2.2.2.2.1 C.2.2.2.2.1 ?_
  refine eR_aldn_1 dL_law_770 rfl ?_
  refine eR_aldn_3 dL_law_771 rfl ?_
  refine eR_ildn_0 dL_law_772 rfl ?_
  refine eR_ic dL_law_773 ?_
  refine eR_iadd dL_law_774 ?_
  refine eR_sldz (n := i + 1) hF dL_law_775 (by omega) (by omega) (by omega) ?_
  refine eR_callVi [_] rfl dL_law_776 ok_mX9_wore kw_1217 rfl rfl th_205 rfl (Nat.le_of_ble_eq_true rfl) (d' := 4) (by decide) (Nat.le_of_ble_eq_true rfl) ?_
  refine sp_wore P.1 M.1 P.2.2.2.2.1 M.2.2.2.2.1 (rg_of _)  ?_
  refine eR_eqs (tgt := 958) dL_law_779 (by decide) (ih _ _ _ (LI_mk ht hs hts P C M))
theorem lc_22 (hF : gF g = true) (hL : gL g ≤ 2048) (hi : i + 4 ≤ gL g) (I : LI t s h) (ih : ∀ (t s : Nat) (h : PH), LI t s h → eX g 12 mL_law 958 [(3, .int (zI ↑i)), (2, .ref (gA g 205)), (1, .ref (gA g 0)), (0, .ref (gS g))] [] (tau t s) h QL) : eX g 12 mL_law 784 [(3, .int (zI ↑i)), (2, .ref (gA g 205)), (1, .ref (gA g 0)), (0, .ref (gS g))] [] (tau t s) h QL := by
  obtain ⟨ht, hs, hts, w, P, C, M⟩ := I
  have T := tn_tau (a := t) (b := s) ht
  obtain ⟨h123, h205⟩ := isT_b ht
  have h38 : 38 ≤ t := by omega
  refine eR_aldn_2 dL_law_784 rfl ?_
  refine eR_callVi [] rfl dL_law_785 ok_mX8_theft kw_785 rfl rfl th_0 rfl (Nat.le_of_ble_eq_true rfl) (d' := 2) (by decide) (Nat.le_of_ble_eq_true rfl) ?_
  refine ct_theft T P.1 C.1 h38  P.2.2.2.2.1 C.2.2.2.2.1 ?_
  refine eR_aldn_1 dL_law_788 rfl ?_
  refine eR_callVi [] rfl dL_law_789 ok_mX9_theft kw_1225 rfl rfl th_205 rfl (Nat.le_of_ble_eq_true rfl) (d' := 4) (by decide) (Nat.le_of_ble_eq_true rfl) ?_
  refine sp_theft P.1 M.1 P.2.2.2.2.1 M.2.2.2.2.1   ?_
  refine eR_eqs (tgt := 958) dL_law_792 (by decide) (ih _ _ _ (LI_mk ht hs hts P C M))
theorem lc_23 (hF : gF g = true) (hL : gL g ≤ 2048) (hi : i + 4 ≤ gL g) (I : LI t s h) (ih : ∀ (t s : Nat) (h : PH), LI t s h → eX g 12 mL_law 958 [(3, .int (zI ↑i)), (2, .ref (gA g 205)), (1, .ref (gA g 0)), (0, .ref (gS g))] [] (tau t s) h QL) : eX g 12 mL_law 797 [(3, .int (zI ↑i)), (2, .ref (gA g 205)), (1, .ref (gA g 0)), (0, .ref (gS g))] [] (tau t s) h QL := by
  obtain ⟨ht, hs, hts, w, P, C, M⟩ := I
  have T := tn_tau (a := t) (b := s) ht
  obtain ⟨h123, h205⟩ := isT_b ht
  have h38 : 38 ≤ t := by omega
  refine eR_aldn_2 dL_law_797 rfl ?_
  refine eR_aldn_3 dL_law_798 rfl ?_
  refine eR_ildn_0 dL_law_799 rfl ?_
  refine eR_ic dL_law_800 ?_
  refine eR_iadd dL_law_801 ?_
  refine eR_sldz (n := i + 1) hF dL_law_802 (by omega) (by omega) (by omega) ?_
  refine eR_aldn_3 dL_law_803 rfl ?_
  refine eR_ildn_0 dL_law_804 rfl ?_
  refine eR_ic dL_law_805 ?_
  refine eR_iadd dL_law_806 ?_
  refine eR_sldz (n := i + 2) hF dL_law_807 (by omega) (by omega) (by omega) ?_
  refine eR_aldn_3 dL_law_808 rfl ?_
  refine eR_ildn_0 dL_law_809 rfl ?_
  refine eR_ic dL_law_810 ?_
  refine eR_iadd dL_law_811 ?_
  refine eR_sldz (n := i + 3) hF dL_law_812 (by omega) (by omega) (by omega) ?_
  refine eR_callVi [_, _, _] rfl dL_law_813 ok_mX8_write kw_797 rfl rfl th_0 rfl (Nat.le_of_ble_eq_true rfl) (d' := 1) (by decide) (Nat.le_of_ble_eq_true rfl) ?_
  refine ct_write T P.1 C.1 h38 (rg_of _) (rg_of _) (rg_of _) C.2.2.2.2.2.1.1 P.2.2.2.2.2.1.1 (fun h0 => ?_) (fun h0 => ?_)
  · refine eR_aldn_1 dL_law_816 rfl ?_
    refine eR_aldn_3 dL_law_817 rfl ?_
    refine eR_ildn_0 dL_law_818 rfl ?_
    refine eR_ic dL_law_819 ?_
    refine eR_iadd dL_law_820 ?_
    refine eR_sldz (n := i + 1) hF dL_law_821 (by omega) (by omega) (by omega) ?_
    refine eR_aldn_3 dL_law_822 rfl ?_
    refine eR_ildn_0 dL_law_823 rfl ?_
    refine eR_ic dL_law_824 ?_
    refine eR_iadd dL_law_825 ?_
    refine eR_sldz (n := i + 2) hF dL_law_826 (by omega) (by omega) (by omega) ?_
    refine eR_aldn_3 dL_law_827 rfl ?_
    refine eR_ildn_0 dL_law_828 rfl ?_
    refine eR_ic dL_law_829 ?_
    refine eR_iadd dL_law_830 ?_
    refine eR_sldz (n := i + 3) hF dL_law_831 (by omega) (by omega) (by omega) ?_
    refine eR_callVi [_, _, _] rfl dL_law_832 ok_mX9_write kw_1229 rfl rfl th_205 rfl (Nat.le_of_ble_eq_true rfl) (d' := 2) (by decide) (Nat.le_of_ble_eq_true rfl) ?_
    refine sp_write P.1 M.1 (rg_of _) (rg_of _) (rg_of _) M.2.2.2.2.2.1.1 P.2.2.2.2.2.1.1 (fun _ => ?_) (fun q => absurd q h0)
    refine eR_eqs (tgt := 958) dL_law_835 (by decide) (ih _ _ _ (LI_mk ht hs hts P C M))
  · obtain ⟨⟨q1, q2⟩, ⟨q3, q4⟩, ⟨q5, q6⟩, q7⟩ := id h0
    obtain ⟨c1, e1⟩ : ∃ k : Nat, (gX g (i + 1)).toInt = (k : Int) := ⟨(gX g (i + 1)).toInt.toNat, by omega⟩
    obtain ⟨c2, e2⟩ : ∃ k : Nat, (gX g (i + 2)).toInt = (k : Int) := ⟨(gX g (i + 2)).toInt.toNat, by omega⟩
    obtain ⟨c3, e3⟩ : ∃ k : Nat, (gX g (i + 3)).toInt = (k : Int) := ⟨(gX g (i + 3)).toInt.toNat, by omega⟩
    have P2 : lP (uB2 w (wdBn w + 1) (sgA (wdBk w) (wdBn w) c1 c2 c3)) := lP_B P (bkB_A P.2.2.2.2.2.1 q7 (by omega) (by omega) (by omega))
    have C1 : lC t (hU (hU (hU (hU h (72 + wdBn w) 0 (gX g (i + 1)).toInt) (72 + wdBn w) 1 (gX g (i + 2)).toInt) (72 + wdBn w) 2 (gX g (i + 3)).toInt) 70 1 (↑(wdBn w) + 1)) (uB2 w (wdBn w + 1) (sgA (wdBk w) (wdBn w) c1 c2 c3)) := by
      have := P.2.2.2.2.2.1.1
      rw [e1, e2, e3]
      exact lC_B P h123 C (bkC_A C.2.2.2.2.2.1) (fun a i q => by rw [hU_ne2 (by omega), hU_ne2 (by omega), hU_ne2 (by omega), hU_ne2 (by omega)])
    have M1 := lM_lo P M (h1 := hU (hU (hU (hU h (72 + wdBn w) 0 (gX g (i + 1)).toInt) (72 + wdBn w) 1 (gX g (i + 2)).toInt) (72 + wdBn w) 2 (gX g (i + 3)).toInt) 70 1 (↑(wdBn w) + 1)) (fun a q => funext fun j => by have := P.2.2.2.2.2.1.1; rw [hU_ne2 (by omega), hU_ne2 (by omega), hU_ne2 (by omega), hU_ne2 (by omega)])
    refine eR_aldn_1 dL_law_816 rfl ?_
    refine eR_aldn_3 dL_law_817 rfl ?_
    refine eR_ildn_0 dL_law_818 rfl ?_
    refine eR_ic dL_law_819 ?_
    refine eR_iadd dL_law_820 ?_
    refine eR_sldz (n := i + 1) hF dL_law_821 (by omega) (by omega) (by omega) ?_
    refine eR_aldn_3 dL_law_822 rfl ?_
    refine eR_ildn_0 dL_law_823 rfl ?_
    refine eR_ic dL_law_824 ?_
    refine eR_iadd dL_law_825 ?_
    refine eR_sldz (n := i + 2) hF dL_law_826 (by omega) (by omega) (by omega) ?_
    refine eR_aldn_3 dL_law_827 rfl ?_
    refine eR_ildn_0 dL_law_828 rfl ?_
    refine eR_ic dL_law_829 ?_
    refine eR_iadd dL_law_830 ?_
    refine eR_sldz (n := i + 3) hF dL_law_831 (by omega) (by omega) (by omega) ?_
    refine eR_callVi [_, _, _] rfl dL_law_832 ok_mX9_write kw_1229 rfl rfl th_205 rfl (Nat.le_of_ble_eq_true rfl) (d' := 2) (by decide) (Nat.le_of_ble_eq_true rfl) ?_
    refine sp_write P.1 M1.1 (rg_of _) (rg_of _) (rg_of _) M1.2.2.2.2.2.1.1 P.2.2.2.2.2.1.1 (fun q => absurd h0 q) (fun _ => ?_)
    generalize hU (hU (hU (hU h _ _ _) _ _ _) _ _ _) _ _ _ = h5 at C1 M1 ⊢
    rw [e1, e2, e3]
    have M2 := lM_B P M1 (bkV_A (c := c1) (a := c2) (b := c3) M1.2.2.2.2.2.1) (fun a i q => by rw [hU_ne2 (by omega), hU_ne2 (by omega), hU_ne2 (by omega), hU_ne2 (by omega)])
    refine eR_eqs (tgt := 958) dL_law_835 (by decide) (ih _ _ _ (LI_mk ht hs hts P2 (lC_hi P2 h205 C1 (fun a q => funext fun j => by rw [hU_ne2 (by omega), hU_ne2 (by omega), hU_ne2 (by omega), hU_ne2 (by omega)])) M2))
theorem lc_24 (hF : gF g = true) (hL : gL g ≤ 2048) (hi : i + 4 ≤ gL g) (I : LI t s h) (ih : ∀ (t s : Nat) (h : PH), LI t s h → eX g 12 mL_law 958 [(3, .int (zI ↑i)), (2, .ref (gA g 205)), (1, .ref (gA g 0)), (0, .ref (gS g))] [] (tau t s) h QL) : eX g 12 mL_law 840 [(3, .int (zI ↑i)), (2, .ref (gA g 205)), (1, .ref (gA g 0)), (0, .ref (gS g))] [] (tau t s) h QL := by
  obtain ⟨ht, hs, hts, w, P, C, M⟩ := I
  have T := tn_tau (a := t) (b := s) ht
  obtain ⟨h123, h205⟩ := isT_b ht
  have h38 : 38 ≤ t := by omega
  refine eR_aldn_2 dL_law_840 rfl ?_
  refine eR_callVi [] rfl dL_law_841 ok_mX8_tear kw_801 rfl rfl th_0 rfl (Nat.le_of_ble_eq_true rfl) (d' := 1) (by decide) (Nat.le_of_ble_eq_true rfl) ?_
  refine ct_tear C.2.2.2.2.1.1 C.2.2.2.2.2.1.1 ?_
  have P1 : lP (uG w 0 (wdSg w)) := lP_G P ⟨Nat.zero_le _, fun i q => absurd q (Nat.not_lt_zero i)⟩
  have P2 : lP (uB2 (uG w 0 (wdSg w)) 0 (wdBk w)) := lP_B P1 ⟨Nat.zero_le _, fun i q => absurd q (Nat.not_lt_zero i)⟩
  have C1 : lC t (hU h 38 1 0) (uG w 0 (wdSg w)) := lC_G P h123 C ⟨hU_s _ _ _ _, fun i q => absurd q (Nat.not_lt_zero i)⟩ (fun a i q => hU_ne2 (by omega))
  have C2 : lC t (hU (hU h 38 1 0) 70 1 0) (uB2 (uG w 0 (wdSg w)) 0 (wdBk w)) := lC_B P1 h123 C1 ⟨hU_s _ _ _ _, fun i q => absurd q (Nat.not_lt_zero i)⟩ (fun a i q => hU_ne2 (by omega))
  have M1 := lM_lo P M (h1 := hU (hU h 38 1 0) 70 1 0) (fun a q => funext fun j => by rw [hU_ne2 (by omega), hU_ne2 (by omega)])
  generalize hU (hU h 38 1 0) 70 1 0 = h5 at C2 M1 ⊢
  refine eR_aldn_1 dL_law_844 rfl ?_
  refine eR_callVi [] rfl dL_law_845 ok_mX9_tear kw_1234 rfl rfl th_205 rfl (Nat.le_of_ble_eq_true rfl) (d' := 0) (by decide) (Nat.le_of_ble_eq_true rfl) ?_
  refine sp_tear ?_
  refine eX_topI (show h5 205 26 + h5 205 28 = ↑(wdSn w) + ↑(wdBn w) from by rw [M1.2.2.2.2.1.1, M1.2.2.2.2.2.1.1]) ?_
  have M2 : lM (hU h5 205 26 0) (uG w 0 (wdSg w)) := lM_G P M1 ⟨hU_s _ _ _ _, fun i q => absurd q (Nat.not_lt_zero i)⟩ (fun a i q => hU_ne2 (by omega))
  have M3 : lM (hU (hU h5 205 26 0) 205 28 0) (uB2 (uG w 0 (wdSg w)) 0 (wdBk w)) := lM_B P1 M2 ⟨hU_s _ _ _ _, fun i q => absurd q (Nat.not_lt_zero i)⟩ (fun a i q => hU_ne2 (by omega))
  refine eR_eqs (tgt := 958) dL_law_848 (by decide) (ih _ _ _ (LI_mk ht hs hts P2 (lC_hi P2 h205 C2 (fun a q => funext fun j => by rw [hU_ne2 (by omega), hU_ne2 (by omega)])) M3))
theorem lc_25 (hF : gF g = true) (hL : gL g ≤ 2048) (hi : i + 4 ≤ gL g) (I : LI t s h) (ih : ∀ (t s : Nat) (h : PH), LI t s h → eX g 12 mL_law 958 [(3, .int (zI ↑i)), (2, .ref (gA g 205)), (1, .ref (gA g 0)), (0, .ref (gS g))] [] (tau t s) h QL) : eX g 12 mL_law 853 [(3, .int (zI ↑i)), (2, .ref (gA g 205)), (1, .ref (gA g 0)), (0, .ref (gS g))] [] (tau t s) h QL := by
  obtain ⟨ht, hs, hts, w, P, C, M⟩ := I
  have T := tn_tau (a := t) (b := s) ht
  obtain ⟨h123, h205⟩ := isT_b ht
  have h38 : 38 ≤ t := by omega
  refine eR_aldn_2 dL_law_853 rfl ?_
  refine eR_callVi [] rfl dL_law_854 ok_mX8_judge kw_805 rfl rfl th_0 rfl (Nat.le_of_ble_eq_true rfl) (d' := 3) (by decide) (Nat.le_of_ble_eq_true rfl) ?_
  refine ct_judge T P.1 C.1 h38  P.2.2.2.2.2.1 C.2.2.2.2.2.1 ?_
  refine eR_aldn_1 dL_law_857 rfl ?_
  refine eR_callVi [] rfl dL_law_858 ok_mX9_judge kw_1238 rfl rfl th_205 rfl (Nat.le_of_ble_eq_true rfl) (d' := 5) (by decide) (Nat.le_of_ble_eq_true rfl) ?_
  refine sp_judge P.1 M.1 P.2.2.2.2.2.1 M.2.2.2.2.2.1   ?_
  refine eR_eqs (tgt := 958) dL_law_861 (by decide) (ih _ _ _ (LI_mk ht hs hts P C M))
theorem lc_26 (hF : gF g = true) (hL : gL g ≤ 2048) (hi : i + 4 ≤ gL g) (I : LI t s h) (ih : ∀ (t s : Nat) (h : PH), LI t s h → eX g 12 mL_law 958 [(3, .int (zI ↑i)), (2, .ref (gA g 205)), (1, .ref (gA g 0)), (0, .ref (gS g))] [] (tau t s) h QL) : eX g 12 mL_law 866 [(3, .int (zI ↑i)), (2, .ref (gA g 205)), (1, .ref (gA g 0)), (0, .ref (gS g))] [] (tau t s) h QL := by
  obtain ⟨ht, hs, hts, w, P, C, M⟩ := I
  have T := tn_tau (a := t) (b := s) ht
  obtain ⟨h123, h205⟩ := isT_b ht
  have h38 : 38 ≤ t := by omega
  refine eR_aldn_2 dL_law_866 rfl ?_
  refine eR_aldn_3 dL_law_867 rfl ?_
  refine eR_ildn_0 dL_law_868 rfl ?_
  refine eR_ic dL_law_869 ?_
  refine eR_iadd dL_law_870 ?_
  refine eR_sldz (n := i + 1) hF dL_law_871 (by omega) (by omega) (by omega) ?_
  refine eR_callVi [_] rfl dL_law_872 ok_mX8_winter kw_814 rfl rfl th_0 rfl (Nat.le_of_ble_eq_true rfl) (d' := 5) (by decide) (Nat.le_of_ble_eq_true rfl) ?_
  refine ct_winter T P.1 C.1 h38 C.2.2.1 P.2.2.1 (rg_of _) (fun h0 => ?_) (fun h0 h4 => ?_) (fun h0 h4 h1 o1 v1 x1 => ?_)
  · refine eR_aldn_1 dL_law_875 rfl ?_
    refine eR_aldn_3 dL_law_876 rfl ?_
    refine eR_ildn_0 dL_law_877 rfl ?_
    refine eR_ic dL_law_878 ?_
    refine eR_iadd dL_law_879 ?_
    refine eR_sldz (n := i + 1) hF dL_law_880 (by omega) (by omega) (by omega) ?_
    refine eR_callVi [_] rfl dL_law_881 ok_mX9_winter kw_1242 rfl rfl th_205 rfl (Nat.le_of_ble_eq_true rfl) (d' := 8) (by decide) (Nat.le_of_ble_eq_true rfl) ?_
    refine sp_winter P.1 M.1 M.2.2.1 P.2.2.1 (rg_of _) (fun _ => ?_) (fun q _ => absurd q h0) (fun q _ => absurd q h0)
    refine eR_eqs (tgt := 958) dL_law_884 (by decide) (ih _ _ _ (LI_mk ht hs hts P C M))
  · refine eR_aldn_1 dL_law_875 rfl ?_
    refine eR_aldn_3 dL_law_876 rfl ?_
    refine eR_ildn_0 dL_law_877 rfl ?_
    refine eR_ic dL_law_878 ?_
    refine eR_iadd dL_law_879 ?_
    refine eR_sldz (n := i + 1) hF dL_law_880 (by omega) (by omega) (by omega) ?_
    refine eR_callVi [_] rfl dL_law_881 ok_mX9_winter kw_1242 rfl rfl th_205 rfl (Nat.le_of_ble_eq_true rfl) (d' := 8) (by decide) (Nat.le_of_ble_eq_true rfl) ?_
    refine sp_winter P.1 M.1 M.2.2.1 P.2.2.1 (rg_of _) (fun q => absurd h0 q) (fun _ _ => ?_) (fun _ q => absurd q (by omega))
    refine eR_eqs (tgt := 958) dL_law_884 (by decide) (ih _ _ _ (LI_mk ht hs hts P C M))
  · have M1 : lM h1 w := lM_m P M (fun a i q => o1 a i (by omega))
    refine eR_aldn_1 dL_law_875 rfl ?_
    refine eR_aldn_3 dL_law_876 rfl ?_
    refine eR_ildn_0 dL_law_877 rfl ?_
    refine eR_ic dL_law_878 ?_
    refine eR_iadd dL_law_879 ?_
    refine eR_sldz (n := i + 1) hF dL_law_880 (by omega) (by omega) (by omega) ?_
    refine eR_callVi [_] rfl dL_law_881 ok_mX9_winter kw_1242 rfl rfl th_205 rfl (Nat.le_of_ble_eq_true rfl) (d' := 8) (by decide) (Nat.le_of_ble_eq_true rfl) ?_
    refine sp_winter P.1 M1.1 M1.2.2.1 P.2.2.1 (rg_of _) (fun q => absurd h0 q) (fun _ q => absurd h4 (by omega)) (fun _ _ h2 o2 v2 b2 x2 x3 => ?_)
    have sm := smT_wnW (gX g (i + 1)).toInt.toNat (wdS w, wdX w, 0)
    have P2 := lP_S P sm b2 x3
    have C1 := lC_S P C sm v1 x1 (fun a i q => o1 a i (by omega))
    have C2 := lC_hi P2 h205 C1 (h1 := h2) (fun a q => o2.1 a (by omega) (by omega))
    have M2 := lM_S P M1 v2 x2 (fun a i q => by
      by_cases q2 : a = 206
      · subst q2; exact o2.2 i (by omega)
      · exact congrFun (o2.1 a q2 (by omega)) i)
    refine eR_eqs (tgt := 958) dL_law_884 (by decide) (ih _ _ _ (LI_mk ht hs hts P2 C2 M2))
theorem lc_27 (hF : gF g = true) (hL : gL g ≤ 2048) (hi : i + 4 ≤ gL g) (I : LI t s h) (ih : ∀ (t s : Nat) (h : PH), LI t s h → eX g 12 mL_law 958 [(3, .int (zI ↑i)), (2, .ref (gA g 205)), (1, .ref (gA g 0)), (0, .ref (gS g))] [] (tau t s) h QL) : eX g 12 mL_law 889 [(3, .int (zI ↑i)), (2, .ref (gA g 205)), (1, .ref (gA g 0)), (0, .ref (gS g))] [] (tau t s) h QL := by
  obtain ⟨ht, hs, hts, w, P, C, M⟩ := I
  have T := tn_tau (a := t) (b := s) ht
  obtain ⟨h123, h205⟩ := isT_b ht
  have h38 : 38 ≤ t := by omega
  refine eR_aldn_2 dL_law_889 rfl ?_
  refine eR_aldn_3 dL_law_890 rfl ?_
  refine eR_ildn_0 dL_law_891 rfl ?_
  refine eR_ic dL_law_892 ?_
  refine eR_iadd dL_law_893 ?_
  refine eR_sldz (n := i + 1) hF dL_law_894 (by omega) (by omega) (by omega) ?_
  refine eR_callVi [_] rfl dL_law_895 ok_mX8_seed kw_830 rfl rfl th_0 rfl (Nat.le_of_ble_eq_true rfl) (d' := 0) (by decide) (Nat.le_of_ble_eq_true rfl) ?_
  refine ct_seed C.2.2.1 (rg_of _) (fun h0 => ?_) (fun h0 => ?_)
  · refine eR_aldn_1 dL_law_898 rfl ?_
    refine eR_aldn_3 dL_law_899 rfl ?_
    refine eR_ildn_0 dL_law_900 rfl ?_
    refine eR_ic dL_law_901 ?_
    refine eR_iadd dL_law_902 ?_
    refine eR_sldz (n := i + 1) hF dL_law_903 (by omega) (by omega) (by omega) ?_
    refine eR_callVi [_] rfl dL_law_904 ok_mX9_seed kw_1254 rfl rfl th_205 rfl (Nat.le_of_ble_eq_true rfl) (d' := 0) (by decide) (Nat.le_of_ble_eq_true rfl) ?_
    refine sp_seed (rg_of _) (fun _ => ?_) (fun q => absurd q (by omega))
    refine eR_eqs (tgt := 958) dL_law_907 (by decide) (ih _ _ _ (LI_mk ht hs hts P C M))
  · obtain ⟨v, e1⟩ : ∃ k : Nat, (gX g (i + 1)).toInt = (k : Int) := ⟨(gX g (i + 1)).toInt.toNat, by omega⟩
    have hv := rg_of (gX g (i + 1))
    have M1 := lM_lo P M (h1 := hU h 0 9 (gX g (i + 1)).toInt) (fun a q => hU_a _ _ _ (by omega))
    refine eR_aldn_1 dL_law_898 rfl ?_
    refine eR_aldn_3 dL_law_899 rfl ?_
    refine eR_ildn_0 dL_law_900 rfl ?_
    refine eR_ic dL_law_901 ?_
    refine eR_iadd dL_law_902 ?_
    refine eR_sldz (n := i + 1) hF dL_law_903 (by omega) (by omega) (by omega) ?_
    refine eR_callVi [_] rfl dL_law_904 ok_mX9_seed kw_1254 rfl rfl th_205 rfl (Nat.le_of_ble_eq_true rfl) (d' := 0) (by decide) (Nat.le_of_ble_eq_true rfl) ?_
    refine sp_seed (rg_of _) (fun q => absurd h0 (by omega)) (fun _ => ?_)
    refine eX_topI M1.2.2.1 ?_
    rw [e1] at hv M1 ⊢
    have P2 : lP (uSX w (wdS w) v) := lP_S P (smT_rf _) P.1 (by have := hv.2; omega)
    have C1 : lC t (hU h 0 9 v) (uSX w (wdS w) v) := lC_S P C (smT_rf _) (cV_w P.1 C.1 (by omega)) (hU_s _ _ _ _) (fun a i q => hU_ne2 (by omega))
    have M2 : lM (hU (hU h 0 9 v) 206 18 v) (uSX w (wdS w) v) := lM_S P M1 (mV_hi M1.1 P.1.2.1 (by decide)) (hU_s _ _ _ _) (fun a i q => hU_ne2 (by omega))
    refine eR_eqs (tgt := 958) dL_law_907 (by decide) (ih _ _ _ (LI_mk ht hs hts P2 (lC_hi P2 h205 C1 (fun a q => hU_a _ _ _ (by omega))) M2))
theorem lc_28 (hF : gF g = true) (hL : gL g ≤ 2048) (hi : i + 4 ≤ gL g) (I : LI t s h) (ih : ∀ (t s : Nat) (h : PH), LI t s h → eX g 12 mL_law 958 [(3, .int (zI ↑i)), (2, .ref (gA g 205)), (1, .ref (gA g 0)), (0, .ref (gS g))] [] (tau t s) h QL) : eX g 12 mL_law 912 [(3, .int (zI ↑i)), (2, .ref (gA g 205)), (1, .ref (gA g 0)), (0, .ref (gS g))] [] (tau t s) h QL := by
  obtain ⟨ht, hs, hts, w, P, C, M⟩ := I
  have T := tn_tau (a := t) (b := s) ht
  obtain ⟨h123, h205⟩ := isT_b ht
  have h38 : 38 ≤ t := by omega
  refine eR_aldn_2 dL_law_912 rfl ?_
  refine eR_aldn_3 dL_law_913 rfl ?_
  refine eR_ildn_0 dL_law_914 rfl ?_
  refine eR_ic dL_law_915 ?_
  refine eR_iadd dL_law_916 ?_
  refine eR_sldz (n := i + 1) hF dL_law_917 (by omega) (by omega) (by omega) ?_
  refine eR_callVi [_] rfl dL_law_918 ok_mX8_keep kw_834 rfl rfl th_0 rfl (Nat.le_of_ble_eq_true rfl) (d' := 2) (by decide) (Nat.le_of_ble_eq_true rfl) ?_
  refine ct_keep T P.1 C.1 h38 h123 C.2.2.1 (rg_of _) (fun h0 => ?_) (fun m hm e1 h1 o1 f0 f1 f2 f3 f4 => ?_)
  · refine eR_aldn_1 dL_law_921 rfl ?_
    refine eR_aldn_3 dL_law_922 rfl ?_
    refine eR_ildn_0 dL_law_923 rfl ?_
    refine eR_ic dL_law_924 ?_
    refine eR_iadd dL_law_925 ?_
    refine eR_sldz (n := i + 1) hF dL_law_926 (by omega) (by omega) (by omega) ?_
    refine eR_callVi [_] rfl dL_law_927 ok_mX9_keep kw_1258 rfl rfl th_205 rfl (Nat.le_of_ble_eq_true rfl) (d' := 1) (by decide) (Nat.le_of_ble_eq_true rfl) ?_
    refine sp_keep (rg_of _) (fun _ => ?_) (fun m hm e1 => absurd ⟨by omega, by omega⟩ h0)
    refine eR_eqs (tgt := 958) dL_law_930 (by decide) (ih _ _ _ (LI_mk ht hs hts P C M))
  · have M1 : lM h1 w := lM_m P M (fun a i q => congrFun (o1 a (by omega)) i)
    have C1 := lC_K P h123 C hm o1 f0 ⟨smT_rf _, f1, f2, f3, f4⟩
    refine eR_aldn_1 dL_law_921 rfl ?_
    refine eR_aldn_3 dL_law_922 rfl ?_
    refine eR_ildn_0 dL_law_923 rfl ?_
    refine eR_ic dL_law_924 ?_
    refine eR_iadd dL_law_925 ?_
    refine eR_sldz (n := i + 1) hF dL_law_926 (by omega) (by omega) (by omega) ?_
    refine eR_callVi [_] rfl dL_law_927 ok_mX9_keep kw_1258 rfl rfl th_205 rfl (Nat.le_of_ble_eq_true rfl) (d' := 1) (by decide) (Nat.le_of_ble_eq_true rfl) ?_
    refine sp_keep (rg_of _) (fun q => absurd ⟨by omega, by omega⟩ q) (fun m2 hm2 e2 h2 o2 c1 c2 => ?_)
    obtain rfl : m2 = m := by omega
    have P2 := lP_K (m := m2) P
    have M2 := lM_K P M1 hm o2 c1 c2
    refine eR_eqs (tgt := 958) dL_law_930 (by decide) (ih _ _ _ (LI_mk ht hs hts P2 (lC_hi P2 h205 C1 (fun a q => (hU_a _ _ _ (by omega)).trans (o2 a (by omega)))) M2))
theorem lc_29 (hF : gF g = true) (hL : gL g ≤ 2048) (hi : i + 4 ≤ gL g) (I : LI t s h) (ih : ∀ (t s : Nat) (h : PH), LI t s h → eX g 12 mL_law 958 [(3, .int (zI ↑i)), (2, .ref (gA g 205)), (1, .ref (gA g 0)), (0, .ref (gS g))] [] (tau t s) h QL) : eX g 12 mL_law 935 [(3, .int (zI ↑i)), (2, .ref (gA g 205)), (1, .ref (gA g 0)), (0, .ref (gS g))] [] (tau t s) h QL := by
  obtain ⟨ht, hs, hts, w, P, C, M⟩ := I
  have T := tn_tau (a := t) (b := s) ht
  obtain ⟨h123, h205⟩ := isT_b ht
  have h38 : 38 ≤ t := by omega
  have hk : ∀ m : Nat, m < 2 → h (103 + 10 * m) 0 = 0 ∨ (h (103 + 10 * m) 0 = 1 ∧ imC h (wdS w) (103 + 10 * m) (wdI w m) (wdY w m)) := fun m hm => by
    cases q : wdK w m with
    | false => exact Or.inl ((C.2.2.2.2.2.2 m hm).1 q)
    | true => exact Or.inr ((C.2.2.2.2.2.2 m hm).2 q)
  have hk2 : ∀ h1 : PH, lM h1 w → ∀ m : Nat, m < 2 → h1 207 m = 0 ∨ h1 207 m = 1 := fun h1 M m hm => by
    cases q : wdK w m with
    | false => exact Or.inl ((M.2.2.2.2.2.2 m hm).1 q)
    | true => exact Or.inr ((M.2.2.2.2.2.2 m hm).2 q).1
  refine eR_aldn_2 dL_law_935 rfl ?_
  refine eR_aldn_3 dL_law_936 rfl ?_
  refine eR_ildn_0 dL_law_937 rfl ?_
  refine eR_ic dL_law_938 ?_
  refine eR_iadd dL_law_939 ?_
  refine eR_sldz (n := i + 1) hF dL_law_940 (by omega) (by omega) (by omega) ?_
  refine eR_callVi [_] rfl dL_law_941 ok_mX8_goBack kw_845 rfl rfl th_0 rfl (Nat.le_of_ble_eq_true rfl) (d' := 2) (by decide) (Nat.le_of_ble_eq_true rfl) ?_
  refine ct_goBack T P.1 C.1 h38 h123 hk (rg_of _) (fun h0 => ?_) (fun m hm e1 z1 => ?_) (fun m hm e1 z1 h1 o1 v1 => ?_)
  · refine eR_aldn_1 dL_law_944 rfl ?_
    refine eR_aldn_3 dL_law_945 rfl ?_
    refine eR_ildn_0 dL_law_946 rfl ?_
    refine eR_ic dL_law_947 ?_
    refine eR_iadd dL_law_948 ?_
    refine eR_sldz (n := i + 1) hF dL_law_949 (by omega) (by omega) (by omega) ?_
    refine eR_callVi [_] rfl dL_law_950 ok_mX9_goBack kw_1266 rfl rfl th_205 rfl (Nat.le_of_ble_eq_true rfl) (d' := 1) (by decide) (Nat.le_of_ble_eq_true rfl) ?_
    refine sp_goBack (rg_of _) (hk2 h M) (fun _ => ?_) (fun m hm e1 => absurd ⟨by omega, by omega⟩ h0) (fun m hm e1 => absurd ⟨by omega, by omega⟩ h0)
    refine eR_eqs (tgt := 958) dL_law_953 (by decide) (ih _ _ _ (LI_mk ht hs hts P C M))
  · have q : wdK w m = false := by
      cases q : wdK w m with
      | false => rfl
      | true => have := ((C.2.2.2.2.2.2 m hm).2 q).1; omega
    have q0 := (M.2.2.2.2.2.2 m hm).1 q
    refine eR_aldn_1 dL_law_944 rfl ?_
    refine eR_aldn_3 dL_law_945 rfl ?_
    refine eR_ildn_0 dL_law_946 rfl ?_
    refine eR_ic dL_law_947 ?_
    refine eR_iadd dL_law_948 ?_
    refine eR_sldz (n := i + 1) hF dL_law_949 (by omega) (by omega) (by omega) ?_
    refine eR_callVi [_] rfl dL_law_950 ok_mX9_goBack kw_1266 rfl rfl th_205 rfl (Nat.le_of_ble_eq_true rfl) (d' := 1) (by decide) (Nat.le_of_ble_eq_true rfl) ?_
    refine sp_goBack (rg_of _) (hk2 h M) (fun q => absurd ⟨by omega, by omega⟩ q) (fun m2 hm2 e2 z2 => ?_) (fun m2 hm2 e2 z2 => absurd (show h 207 m = 1 from (show m2 = m by omega) ▸ z2) (by omega))
    refine eR_eqs (tgt := 958) dL_law_953 (by decide) (ih _ _ _ (LI_mk ht hs hts P C M))
  · have q : wdK w m = true := by
      cases q : wdK w m with
      | false => have := (C.2.2.2.2.2.2 m hm).1 q; omega
      | true => rfl
    obtain ⟨q0, q1⟩ := (M.2.2.2.2.2.2 m hm).2 q
    obtain ⟨p1, p2, p3⟩ := P.2.2.2.2.2.2 m hm q
    have P2 := lP_S P p1 p2 p3
    have o5 : ofR t (t + 10) h h1 := o1
    have C1 : lC t (hU h1 0 9 ↑(wdY w m)) (uSX w (wdI w m) (wdY w m)) := lC_S P C p1 (cV_w p2 v1 (by omega)) (hU_s _ _ _ _) (fun a i q => (hU_ne2 (by omega)).trans (congrFun (o1 a (by omega)) i))
    have M1 : lM (hU h1 0 9 ↑(wdY w m)) w := lM_lo P M (fun a q => (hU_a _ _ _ (by omega)).trans (o1 a (by omega)))
    generalize hU h1 0 9 ↑(wdY w m) = h5 at C1 M1 ⊢
    refine eR_aldn_1 dL_law_944 rfl ?_
    refine eR_aldn_3 dL_law_945 rfl ?_
    refine eR_ildn_0 dL_law_946 rfl ?_
    refine eR_ic dL_law_947 ?_
    refine eR_iadd dL_law_948 ?_
    refine eR_sldz (n := i + 1) hF dL_law_949 (by omega) (by omega) (by omega) ?_
    refine eR_callVi [_] rfl dL_law_950 ok_mX9_goBack kw_1266 rfl rfl th_205 rfl (Nat.le_of_ble_eq_true rfl) (d' := 1) (by decide) (Nat.le_of_ble_eq_true rfl) ?_
    refine sp_goBack (rg_of _) (hk2 _ M1) (fun q => absurd ⟨by omega, by omega⟩ q) (fun m2 hm2 e2 z2 => ?_) (fun m2 hm2 e2 z2 h2 o2 c1 c2 => ?_)
    · obtain rfl : m2 = m := by omega
      have := ((M1.2.2.2.2.2.2 m2 hm).2 q).1
      omega
    obtain rfl : m2 = m := by omega
    have I1 := ((M1.2.2.2.2.2.2 m2 hm).2 q).2
    obtain ⟨v2, x2⟩ := mV_im M1.1 p1 p2.2.1 I1 o2 c1
    have M2 : lM h2 (uSX w (wdI w m2) (wdY w m2)) := lM_S P M1 v2 x2 (fun a i q => by
      by_cases q2 : a = 206
      · subst q2; exact c2 i (by omega)
      · exact congrFun (o2 a q2) i)
    refine eR_eqs (tgt := 958) dL_law_953 (by decide) (ih _ _ _ (LI_mk ht hs hts P2 (lC_hi P2 h205 C1 (fun a q => o2 a (by omega))) M2))
end M68
