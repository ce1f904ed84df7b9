section M18
variable {g : EG} {d t s : Nat} {h h1 : PH} {Q : EQ} {S : TS}
theorem lp_fair1 (B : sB S) (V : mV h S) {cn : Nat} {what : Int} (hc : cn < sC S) (k : eX g 4 mX9_fair 97 [(0, .ref (gA g 205)), (1, .int (zI ↑cn)), (2, .int (zI what)), (3, .int (zI ↑(cnF S cn 24))), (4, .int (zI ↑24))] [] (tau t s) h Q) : ∀ n i : Nat, i + n = 24 → eX g 4 mX9_fair 40 [(0, .ref (gA g 205)), (1, .int (zI ↑cn)), (2, .int (zI what)), (3, .int (zI ↑(cnF S cn i))), (4, .int (zI ↑i))] [] (tau t s) h Q := by
  have hP8 := B.1
  have hC8 := B.2.1
  have hE10 := B.2.2.1
  have hF99 := B.2.2.2.2.2.2.1
  have ho9 := B.2.2.2.1 cn hc
  intro n
  induction n with
  | zero =>
    intro i hx9
    refine eR_ild_4 dX9_fair_40 ?_
    refine eR_bi (z := 24) dX9_fair_42 rfl ?_
    refine eR_icmp_ge (tgt := 97) dX9_fair_44 (by decide) (by first | exact rg_b01 _ | (unfold rg; omega)) (by first | exact rg_b01 _ | (unfold rg; omega)) (fun c44 => ?_) (fun c44 => absurd c44 (by omega))
    have e9 : i = 24 := by omega
    subst e9
    exact k
  | succ n ih =>
    intro i hx9
    have hb9 := cnF_le S cn i
    refine eR_ild_4 dX9_fair_40 ?_
    refine eR_bi (z := 24) dX9_fair_42 rfl ?_
    refine eR_icmp_ge (tgt := 97) dX9_fair_44 (by decide) (by first | exact rg_b01 _ | (unfold rg; omega)) (by first | exact rg_b01 _ | (unfold rg; omega)) (fun c44 => absurd c44 (by omega)) (fun c44 => ?_)
    refine eR_ildn_3 dX9_fair_47 rfl ?_
    refine eR_aldn_0 dX9_fair_48 rfl ?_
    refine eR_aldn_0 dX9_fair_49 rfl ?_
    refine eR_getR (i := 206) dX9_fair_50 gf_X9_7 th_205 rfl ?_
    refine eR_ildn_1 dX9_fair_53 rfl ?_
    refine eR_iald (n := cn) dX9_fair_54 th_206 (rfl) (by omega) (by decide) ?_
    refine eX_pcI ((V.2.2.2.1 cn (by omega)).1) ?_
    refine eR_ild_4 dX9_fair_55 ?_
    refine eR_callVi [_, _] rfl dX9_fair_57 ok_mX9_isOut kw_1035 rfl rfl th_205 rfl (Nat.le_of_ble_eq_true rfl) (d' := 3) (by decide) (Nat.le_of_ble_eq_true rfl) ?_
    refine sp_isOut (p := (sO S cn 0)) (hour := i) B V (by omega) (by omega) ?_
    refine eR_if_eq (tgt := 85) dX9_fair_60 (by decide) (by first | exact rg_b01 _ | (unfold rg; omega)) (fun c60 => ?_) (fun c60 => ?_)
    · replace c60 := b01_eq0.mp c60
      refine eR_ic dX9_fair_85 ?_
      refine eR_callSi [_] rfl dX9_fair_86 ok_mX9_one kw_1050 rfl rfl (Nat.le_of_ble_eq_true rfl) (d' := 0) (by decide) (Nat.le_of_ble_eq_true rfl) ?_
      refine sp_one (by first | exact b01_01 _ | omega) ?_
      refine eR_iadd dX9_fair_89 ?_
      refine eR_istn_3 dX9_fair_90 rfl (by decide) rfl ?_
      refine eR_iinc_4 dX9_fair_91 (by decide) rfl ?_
      refine eR_goto (tgt := 40) dX9_fair_94 (by decide) ?_
      rw [show (↑(cnF S cn i) + 0 : Int) = ↑(cnF S cn (i + 1)) from by rw [cnF]; unfold bothO; (repeat' split) <;> first | rfl | omega | (simp_all; done) | grind]
      exact ih (i + 1) (by omega)
    · replace c60 := b01_ne0.mp c60
      refine eR_aldn_0 dX9_fair_63 rfl ?_
      refine eR_aldn_0 dX9_fair_64 rfl ?_
      refine eR_getR (i := 206) dX9_fair_65 gf_X9_7 th_205 rfl ?_
      refine eR_bi (z := 8) dX9_fair_68 rfl ?_
      refine eR_ildn_1 dX9_fair_70 rfl ?_
      refine eR_iadd dX9_fair_71 ?_
      refine eR_iald (n := 8 + cn) dX9_fair_72 th_206 (by omega) (by omega) (by decide) ?_
      refine eX_pcI ((V.2.2.2.1 cn (by omega)).2.1) ?_
      refine eR_ild_4 dX9_fair_73 ?_
      refine eR_callVi [_, _] rfl dX9_fair_75 ok_mX9_isOut kw_1035 rfl rfl th_205 rfl (Nat.le_of_ble_eq_true rfl) (d' := 3) (by decide) (Nat.le_of_ble_eq_true rfl) ?_
      refine sp_isOut (p := (sO S cn 1)) (hour := i) B V (by omega) (by omega) ?_
      refine eR_if_eq (tgt := 85) dX9_fair_78 (by decide) (by first | exact rg_b01 _ | (unfold rg; omega)) (fun c78 => ?_) (fun c78 => ?_)
      · replace c78 := b01_eq0.mp c78
        refine eR_ic dX9_fair_85 ?_
        refine eR_callSi [_] rfl dX9_fair_86 ok_mX9_one kw_1050 rfl rfl (Nat.le_of_ble_eq_true rfl) (d' := 0) (by decide) (Nat.le_of_ble_eq_true rfl) ?_
        refine sp_one (by first | exact b01_01 _ | omega) ?_
        refine eR_iadd dX9_fair_89 ?_
        refine eR_istn_3 dX9_fair_90 rfl (by decide) rfl ?_
        refine eR_iinc_4 dX9_fair_91 (by decide) rfl ?_
        refine eR_goto (tgt := 40) dX9_fair_94 (by decide) ?_
        rw [show (↑(cnF S cn i) + 0 : Int) = ↑(cnF S cn (i + 1)) from by rw [cnF]; unfold bothO; (repeat' split) <;> first | rfl | omega | (simp_all; done) | grind]
        exact ih (i + 1) (by omega)
      · replace c78 := b01_ne0.mp c78
        refine eR_ic dX9_fair_81 ?_
        refine eR_goto (tgt := 86) dX9_fair_82 (by decide) ?_
        refine eR_callSi [_] rfl dX9_fair_86 ok_mX9_one kw_1050 rfl rfl (Nat.le_of_ble_eq_true rfl) (d' := 0) (by decide) (Nat.le_of_ble_eq_true rfl) ?_
        refine sp_one (by first | exact b01_01 _ | omega) ?_
        refine eR_iadd dX9_fair_89 ?_
        refine eR_istn_3 dX9_fair_90 rfl (by decide) rfl ?_
        refine eR_iinc_4 dX9_fair_91 (by decide) rfl ?_
        refine eR_goto (tgt := 40) dX9_fair_94 (by decide) ?_
        rw [show (↑(cnF S cn i) + 1 : Int) = ↑(cnF S cn (i + 1)) from by rw [cnF]; unfold bothO; (repeat' split) <;> first | rfl | omega | (simp_all; done) | grind]
        exact ih (i + 1) (by omega)
theorem lp_fair2 (B : sB S) (V : mV h S) {cn : Nat} {what : Int} (hc : cn < sC S) (k : eX g 4 mX9_fair 172 [(0, .ref (gA g 205)), (1, .int (zI ↑cn)), (2, .int (zI what)), (3, .int (zI ↑(cnF S cn 24))), (4, .int (zI ((frL (cnF S cn 24) (savN S (sW S cn)) (cnF S cn 24 + 1)).1))), (5, .int (zI (↑(frL (cnF S cn 24) (savN S (sW S cn)) (cnF S cn 24 + 1)).2))), (6, .int (zI (↑(cnF S cn 24 + 1 : Nat))))] [] (tau t s) h Q) : ∀ n i : Nat, i + n = cnF S cn 24 + 1 → eX g 4 mX9_fair 106 [(0, .ref (gA g 205)), (1, .int (zI ↑cn)), (2, .int (zI what)), (3, .int (zI ↑(cnF S cn 24))), (4, .int (zI ((frL (cnF S cn 24) (savN S (sW S cn)) i).1))), (5, .int (zI (↑(frL (cnF S cn 24) (savN S (sW S cn)) i).2))), (6, .int (zI ↑i))] [] (tau t s) h Q := by
  have hP8 := B.1
  have hC8 := B.2.1
  have hE10 := B.2.2.1
  have hF99 := B.2.2.2.2.2.2.1
  have ho9 := B.2.2.2.1 cn hc
  intro n
  induction n with
  | zero =>
    intro i hx9
    have hn9 := cnF_le S cn 24
    refine eR_ild_6 dX9_fair_106 ?_
    refine eR_ildn_3 dX9_fair_108 rfl ?_
    refine eR_icmp_gt (tgt := 172) dX9_fair_109 (by decide) (by first | exact rg_b01 _ | (unfold rg; omega)) (by first | exact rg_b01 _ | (unfold rg; omega)) (fun c109 => ?_) (fun c109 => absurd c109 (by omega))
    have e9 : i = cnF S cn 24 + 1 := by omega
    subst e9
    exact k
  | succ n ih =>
    intro i hx9
    have hn9 := cnF_le S cn 24
    have hw9 := savN_le B (sW S cn)
    have hf9 := frL_rg hn9 hw9 i (by omega)
    have hx8 := offF_rg (k := i) hn9 hw9 (by omega)
    have hx7 : -2376 ≤ ((cnF S cn 24 : Int) - 2 * (i : Int)) * (savN S (sW S cn) : Int) ∧ ((cnF S cn 24 : Int) - 2 * (i : Int)) * (savN S (sW S cn) : Int) ≤ 2376 := by
      unfold offF at hx8
      simp only at hx8
      split at hx8 <;> omega
    refine eR_ild_6 dX9_fair_106 ?_
    refine eR_ildn_3 dX9_fair_108 rfl ?_
    refine eR_icmp_gt (tgt := 172) dX9_fair_109 (by decide) (by first | exact rg_b01 _ | (unfold rg; omega)) (by first | exact rg_b01 _ | (unfold rg; omega)) (fun c109 => absurd c109 (by omega)) (fun c109 => ?_)
    refine eR_ildn_3 dX9_fair_112 rfl ?_
    refine eR_ic dX9_fair_113 ?_
    refine eR_ild_6 dX9_fair_114 ?_
    refine eR_imul dX9_fair_116 ?_
    refine eR_isub dX9_fair_117 ?_
    refine eR_aldn_0 dX9_fair_118 rfl ?_
    refine eR_aldn_0 dX9_fair_119 rfl ?_
    refine eR_getR (i := 210) dX9_fair_120 gf_X9_23 th_205 rfl ?_
    refine eR_ildn_1 dX9_fair_123 rfl ?_
    refine eR_iald (n := cn) dX9_fair_124 th_210 (rfl) (by omega) (by decide) ?_
    refine eX_pcI ((V.2.2.2.1 cn (by omega)).2.2) ?_
    refine eR_callVi [_] rfl dX9_fair_125 ok_mX9_saving kw_1069 rfl rfl th_205 rfl (Nat.le_of_ble_eq_true rfl) (d' := 0) (by decide) (Nat.le_of_ble_eq_true rfl) ?_
    refine sp_saving (x := (sW S cn)) B V (by omega) ?_
    refine eR_imul dX9_fair_128 ?_
    refine eR_ist_n7 dX9_fair_129 (by decide) rfl ?_
    refine eR_ild_7 dX9_fair_131 ?_
    refine eR_if_ge (tgt := 142) dX9_fair_133 (by decide) (by first | exact rg_b01 _ | (unfold rg; omega)) (fun c133 => ?_) (fun c133 => ?_)
    · refine eR_ild_7 dX9_fair_142 ?_
      refine eX_pcI (show ((↑(cnF S cn 24) - (2 * ↑i)) * (↑(savN S (sW S cn))) : Int) = offF (cnF S cn 24) (savN S (sW S cn)) i from by unfold offF; simp only; first | rw [if_pos (by omega)] | rw [if_neg (by omega)]) ?_
      refine eR_ist_7 dX9_fair_144 (by decide) rfl ?_
      refine eR_ild_4 dX9_fair_146 ?_
      refine eR_if_lt (tgt := 158) dX9_fair_148 (by decide) (by first | exact rg_b01 _ | (unfold rg; omega)) (fun c148 => ?_) (fun c148 => ?_)
      · refine eR_ild_7 dX9_fair_158 ?_
        refine eR_ist_4 dX9_fair_160 (by decide) rfl ?_
        refine eR_ild_6 dX9_fair_162 ?_
        refine eR_ist_5 dX9_fair_164 (by decide) rfl ?_
        refine eR_iinc_6 dX9_fair_166 (by decide) rfl ?_
        refine eR_goto (tgt := 106) dX9_fair_169 (by decide) ?_
        refine eX_lv (lv2 := List.take 7 _) (fun q hq => List.mem_of_mem_take hq) ?_
        have e9 : frL (cnF S cn 24) (savN S (sW S cn)) (i + 1) = (offF (cnF S cn 24) (savN S (sW S cn)) i, i) := by rw [frL]; exact if_pos (by omega)
        have e8 := ih (i + 1) (by omega)
        rw [e9] at e8
        exact e8
      · refine eR_ild_7 dX9_fair_151 ?_
        refine eR_ild_4 dX9_fair_153 ?_
        refine eR_icmp_ge (tgt := 166) dX9_fair_155 (by decide) (by first | exact rg_b01 _ | (unfold rg; omega)) (by first | exact rg_b01 _ | (unfold rg; omega)) (fun c155 => ?_) (fun c155 => ?_)
        · refine eR_iinc_6 dX9_fair_166 (by decide) rfl ?_
          refine eR_goto (tgt := 106) dX9_fair_169 (by decide) ?_
          refine eX_lv (lv2 := List.take 7 _) (fun q hq => List.mem_of_mem_take hq) ?_
          have e9 : frL (cnF S cn 24) (savN S (sW S cn)) (i + 1) = frL (cnF S cn 24) (savN S (sW S cn)) i := by rw [frL]; exact if_neg (by omega)
          have e8 := ih (i + 1) (by omega)
          rw [e9] at e8
          exact e8
        · refine eR_ild_7 dX9_fair_158 ?_
          refine eR_ist_4 dX9_fair_160 (by decide) rfl ?_
          refine eR_ild_6 dX9_fair_162 ?_
          refine eR_ist_5 dX9_fair_164 (by decide) rfl ?_
          refine eR_iinc_6 dX9_fair_166 (by decide) rfl ?_
          refine eR_goto (tgt := 106) dX9_fair_169 (by decide) ?_
          refine eX_lv (lv2 := List.take 7 _) (fun q hq => List.mem_of_mem_take hq) ?_
          have e9 : frL (cnF S cn 24) (savN S (sW S cn)) (i + 1) = (offF (cnF S cn 24) (savN S (sW S cn)) i, i) := by rw [frL]; exact if_pos (by omega)
          have e8 := ih (i + 1) (by omega)
          rw [e9] at e8
          exact e8
    · refine eR_ild_7 dX9_fair_136 ?_
      refine eR_ineg dX9_fair_138 ?_
      refine eR_goto (tgt := 144) dX9_fair_139 (by decide) ?_
      refine eX_pcI (show (-((↑(cnF S cn 24) - (2 * ↑i)) * (↑(savN S (sW S cn)))) : Int) = offF (cnF S cn 24) (savN S (sW S cn)) i from by unfold offF; simp only; first | rw [if_pos (by omega)] | rw [if_neg (by omega)]) ?_
      refine eR_ist_7 dX9_fair_144 (by decide) rfl ?_
      refine eR_ild_4 dX9_fair_146 ?_
      refine eR_if_lt (tgt := 158) dX9_fair_148 (by decide) (by first | exact rg_b01 _ | (unfold rg; omega)) (fun c148 => ?_) (fun c148 => ?_)
      · refine eR_ild_7 dX9_fair_158 ?_
        refine eR_ist_4 dX9_fair_160 (by decide) rfl ?_
        refine eR_ild_6 dX9_fair_162 ?_
        refine eR_ist_5 dX9_fair_164 (by decide) rfl ?_
        refine eR_iinc_6 dX9_fair_166 (by decide) rfl ?_
        refine eR_goto (tgt := 106) dX9_fair_169 (by decide) ?_
        refine eX_lv (lv2 := List.take 7 _) (fun q hq => List.mem_of_mem_take hq) ?_
        have e9 : frL (cnF S cn 24) (savN S (sW S cn)) (i + 1) = (offF (cnF S cn 24) (savN S (sW S cn)) i, i) := by rw [frL]; exact if_pos (by omega)
        have e8 := ih (i + 1) (by omega)
        rw [e9] at e8
        exact e8
      · refine eR_ild_7 dX9_fair_151 ?_
        refine eR_ild_4 dX9_fair_153 ?_
        refine eR_icmp_ge (tgt := 166) dX9_fair_155 (by decide) (by first | exact rg_b01 _ | (unfold rg; omega)) (by first | exact rg_b01 _ | (unfold rg; omega)) (fun c155 => ?_) (fun c155 => ?_)
        · refine eR_iinc_6 dX9_fair_166 (by decide) rfl ?_
          refine eR_goto (tgt := 106) dX9_fair_169 (by decide) ?_
          refine eX_lv (lv2 := List.take 7 _) (fun q hq => List.mem_of_mem_take hq) ?_
          have e9 : frL (cnF S cn 24) (savN S (sW S cn)) (i + 1) = frL (cnF S cn 24) (savN S (sW S cn)) i := by rw [frL]; exact if_neg (by omega)
          have e8 := ih (i + 1) (by omega)
          rw [e9] at e8
          exact e8
        · refine eR_ild_7 dX9_fair_158 ?_
          refine eR_ist_4 dX9_fair_160 (by decide) rfl ?_
          refine eR_ild_6 dX9_fair_162 ?_
          refine eR_ist_5 dX9_fair_164 (by decide) rfl ?_
          refine eR_iinc_6 dX9_fair_166 (by decide) rfl ?_
          refine eR_goto (tgt := 106) dX9_fair_169 (by decide) ?_
          refine eX_lv (lv2 := List.take 7 _) (fun q hq => List.mem_of_mem_take hq) ?_
          have e9 : frL (cnF S cn 24) (savN S (sW S cn)) (i + 1) = (offF (cnF S cn 24) (savN S (sW S cn)) i, i) := by rw [frL]; exact if_pos (by omega)
          have e8 := ih (i + 1) (by omega)
          rw [e9] at e8
          exact e8
theorem lp_fair3 (B : sB S) (V : mV h S) {cn m : Nat} {what least : Int} (hc : cn < sC S) (hm : m ≤ 24) (k : eX g 4 mX9_fair 241 [(0, .ref (gA g 205)), (1, .int (zI ↑cn)), (2, .int (zI what)), (4, .int (zI least)), (5, .int (zI (↑(frS S cn m 24).1))), (6, .int (zI (↑(frS S cn m 24).2))), (7, .int (zI ↑24))] [] (tau t s) h Q) : ∀ n i : Nat, i + n = 24 → eX g 4 mX9_fair 178 [(0, .ref (gA g 205)), (1, .int (zI ↑cn)), (2, .int (zI what)), (4, .int (zI least)), (5, .int (zI (↑(frS S cn m i).1))), (6, .int (zI (↑(frS S cn m i).2))), (7, .int (zI ↑i))] [] (tau t s) h Q := by
  have hP8 := B.1
  have hC8 := B.2.1
  have hE10 := B.2.2.1
  have hF99 := B.2.2.2.2.2.2.1
  have ho9 := B.2.2.2.1 cn hc
  intro n
  induction n with
  | zero =>
    intro i hx9
    refine eR_ild_6 dX9_fair_178 ?_
    refine eR_bi (z := 24) dX9_fair_180 rfl ?_
    refine eR_icmp_ge (tgt := 241) dX9_fair_182 (by decide) (by first | exact rg_b01 _ | (unfold rg; omega)) (by first | exact rg_b01 _ | (unfold rg; omega)) (fun c182 => ?_) (fun c182 => absurd c182 (by omega))
    have e9 : i = 24 := by omega
    subst e9
    exact k
  | succ n ih =>
    intro i hx9
    have hf9 := frS_rg (S := S) (c := cn) hm i (by omega)
    have h2i : 2 ^ i ≤ 2 ^ 23 := Nat.pow_le_pow_right (by omega) (by omega)
    refine eR_ild_6 dX9_fair_178 ?_
    refine eR_bi (z := 24) dX9_fair_180 rfl ?_
    refine eR_icmp_ge (tgt := 241) dX9_fair_182 (by decide) (by first | exact rg_b01 _ | (unfold rg; omega)) (by first | exact rg_b01 _ | (unfold rg; omega)) (fun c182 => absurd c182 (by omega)) (fun c182 => ?_)
    refine eR_ild_4 dX9_fair_185 ?_
    refine eR_if_le (tgt := 235) dX9_fair_187 (by decide) (by first | exact rg_b01 _ | (unfold rg; omega)) (fun c187 => ?_) (fun c187 => ?_)
    · refine eR_iinc_6 dX9_fair_235 (by decide) rfl ?_
      refine eR_goto (tgt := 178) dX9_fair_238 (by decide) ?_
      have e9 : frS S cn m (i + 1) = frS S cn m i := by rw [frS]; exact if_neg (by first | omega | (rintro ⟨q1, q2, q3⟩; omega))
      have e8 := ih (i + 1) (by omega)
      rw [e9] at e8
      exact e8
    · refine eR_aldn_0 dX9_fair_190 rfl ?_
      refine eR_aldn_0 dX9_fair_191 rfl ?_
      refine eR_getR (i := 206) dX9_fair_192 gf_X9_7 th_205 rfl ?_
      refine eR_ildn_1 dX9_fair_195 rfl ?_
      refine eR_iald (n := cn) dX9_fair_196 th_206 (rfl) (by omega) (by decide) ?_
      refine eX_pcI ((V.2.2.2.1 cn (by omega)).1) ?_
      refine eR_ild_6 dX9_fair_197 ?_
      refine eR_callVi [_, _] rfl dX9_fair_199 ok_mX9_isOut kw_1035 rfl rfl th_205 rfl (Nat.le_of_ble_eq_true rfl) (d' := 3) (by decide) (Nat.le_of_ble_eq_true rfl) ?_
      refine sp_isOut (p := (sO S cn 0)) (hour := i) B V (by omega) (by omega) ?_
      refine eR_if_eq (tgt := 235) dX9_fair_202 (by decide) (by first | exact rg_b01 _ | (unfold rg; omega)) (fun c202 => ?_) (fun c202 => ?_)
      · replace c202 := b01_eq0.mp c202
        refine eR_iinc_6 dX9_fair_235 (by decide) rfl ?_
        refine eR_goto (tgt := 178) dX9_fair_238 (by decide) ?_
        have e9 : frS S cn m (i + 1) = frS S cn m i := by rw [frS]; exact if_neg (by first | omega | (rintro ⟨q1, q2, q3⟩; omega))
        have e8 := ih (i + 1) (by omega)
        rw [e9] at e8
        exact e8
      · replace c202 := b01_ne0.mp c202
        refine eR_aldn_0 dX9_fair_205 rfl ?_
        refine eR_aldn_0 dX9_fair_206 rfl ?_
        refine eR_getR (i := 206) dX9_fair_207 gf_X9_7 th_205 rfl ?_
        refine eR_bi (z := 8) dX9_fair_210 rfl ?_
        refine eR_ildn_1 dX9_fair_212 rfl ?_
        refine eR_iadd dX9_fair_213 ?_
        refine eR_iald (n := 8 + cn) dX9_fair_214 th_206 (by omega) (by omega) (by decide) ?_
        refine eX_pcI ((V.2.2.2.1 cn (by omega)).2.1) ?_
        refine eR_ild_6 dX9_fair_215 ?_
        refine eR_callVi [_, _] rfl dX9_fair_217 ok_mX9_isOut kw_1035 rfl rfl th_205 rfl (Nat.le_of_ble_eq_true rfl) (d' := 3) (by decide) (Nat.le_of_ble_eq_true rfl) ?_
        refine sp_isOut (p := (sO S cn 1)) (hour := i) B V (by omega) (by omega) ?_
        refine eR_if_eq (tgt := 235) dX9_fair_220 (by decide) (by first | exact rg_b01 _ | (unfold rg; omega)) (fun c220 => ?_) (fun c220 => ?_)
        · replace c220 := b01_eq0.mp c220
          refine eR_iinc_6 dX9_fair_235 (by decide) rfl ?_
          refine eR_goto (tgt := 178) dX9_fair_238 (by decide) ?_
          have e9 : frS S cn m (i + 1) = frS S cn m i := by rw [frS]; exact if_neg (by first | omega | (rintro ⟨q1, q2, q3⟩; omega))
          have e8 := ih (i + 1) (by omega)
          rw [e9] at e8
          exact e8
        · replace c220 := b01_ne0.mp c220
          refine eR_ild_5 dX9_fair_223 ?_
          refine eR_ic dX9_fair_225 ?_
          refine eR_ild_6 dX9_fair_226 ?_
          refine eR_ishl dX9_fair_228 ?_
          refine eX_pcI (show (zShl 1 ↑i : Int) = ↑(2 ^ i : Nat) from by have := zShl_nat (a := 1) (k := i) (by omega) (by omega); rw [Nat.one_mul] at this; exact this) ?_
          refine eR_ior dX9_fair_229 ?_
          refine eX_pcI (show (zOr (↑(frS S cn m i).2) ↑(2 ^ i : Nat) : Int) = ↑((frS S cn m i).2 ||| 2 ^ i : Nat) from zOr_nat (by omega) (by omega)) ?_
          refine eR_ist_5 dX9_fair_230 (by decide) rfl ?_
          refine eR_iinc_4 dX9_fair_232 (by decide) rfl ?_
          refine eR_iinc_6 dX9_fair_235 (by decide) rfl ?_
          refine eR_goto (tgt := 178) dX9_fair_238 (by decide) ?_
          have e9 : frS S cn m (i + 1) = ((frS S cn m i).1 - 1, (frS S cn m i).2 ||| 2 ^ i) := by rw [frS]; exact if_pos ⟨by omega, by omega, by omega⟩
          have e8 := ih (i + 1) (by omega)
          rw [e9] at e8
          rw [show (((↑(frS S cn m i).1) + (-1) : Int)) = (((frS S cn m i).1 - 1 : Nat) : Int) from by omega]
          exact e8
theorem sp_fair (B : sB S) (V : mV h S) {c : Int} (hr_c : rg c) {what : Int} (hr_what : rg what) (k : Q (.int (zI (rFair S c what))) (tau t s) h) : eX g 4 mX9_fair 0 (lv_args 0 [.ref (gA g 205), .int (zI c), .int (zI what)]) [] (tau t s) h Q := by
  show eX g 4 mX9_fair 0 [(0, .ref (gA g 205)), (1, .int (zI c)), (2, .int (zI what))] [] (tau t s) h Q
  have hP8 := B.1
  have hC8 := B.2.1
  have hE10 := B.2.2.1
  have hF99 := B.2.2.2.2.2.2.1
  by_cases hq1 : 0 ≤ c ∧ c ≤ ↑(sC S) - 1
  · obtain ⟨cn, rfl⟩ : ∃ cn : Nat, c = (cn : Int) := ⟨c.toNat, by omega⟩
    by_cases hq2 : 0 ≤ what ∧ what ≤ 1
    · refine eR_aldn_0 dX9_fair_0 rfl ?_
      refine eR_ildn_1 dX9_fair_1 rfl ?_
      refine eR_callVi [_] rfl dX9_fair_2 ok_mX9_isCoat kw_1085 rfl rfl th_205 rfl (Nat.le_of_ble_eq_true rfl) (d' := 1) (by decide) (Nat.le_of_ble_eq_true rfl) ?_
      refine sp_isCoat B V (by first | assumption | (unfold rg; omega)) ?_
      refine eR_if_ne (tgt := 11) dX9_fair_5 (by decide) (by first | assumption | exact rg_b01 _ | (unfold rg; omega) | (unfold rg at *; omega)) (fun c5 => ?_) (fun c5 => absurd c5 (by simp [b01, hq1]))
      refine eR_ildn_2 dX9_fair_11 rfl ?_
      refine eR_i2lz dX9_fair_12 (by first | assumption | exact rg_b01 _ | (unfold rg; omega) | (unfold rg at *; omega)) ?_
      refine eR_lc (z := 0) dX9_fair_13 rfl ?_
      refine eR_lc (z := 1) dX9_fair_14 rfl ?_
      refine eR_callSi [_, _, _] rfl dX9_fair_15 ok_mX9_in kw_952 rfl rfl (Nat.le_of_ble_eq_true rfl) (d' := 0) (by decide) (Nat.le_of_ble_eq_true rfl) ?_
      refine sp_in (by first | (unfold rL; omega) | (unfold rL; unfold rg at *; omega)) (by first | (unfold rL; omega) | (unfold rL; unfold rg at *; omega)) (by first | (unfold rL; omega) | (unfold rL; unfold rg at *; omega)) ?_
      refine eR_if_ne (tgt := 24) dX9_fair_18 (by decide) (by first | assumption | exact rg_b01 _ | (unfold rg; omega) | (unfold rg at *; omega)) (fun c18 => ?_) (fun c18 => absurd c18 (by simp [b01, hq2]))
      refine eR_aldn_0 dX9_fair_24 rfl ?_
      refine eR_ildn_1 dX9_fair_25 rfl ?_
      refine eR_callVi [_] rfl dX9_fair_26 ok_mX9_isCut kw_1061 rfl rfl th_205 rfl (Nat.le_of_ble_eq_true rfl) (d' := 1) (by decide) (Nat.le_of_ble_eq_true rfl) ?_
      refine sp_isCut (c := cn) B V (by omega) ?_
      refine eR_if_eq (tgt := 35) dX9_fair_29 (by decide) (by first | assumption | exact rg_b01 _ | (unfold rg; omega) | (unfold rg at *; omega)) (fun c29 => ?_) (fun c29 => ?_)
      · replace c29 := b01_eq0.mp c29
        refine eR_ic dX9_fair_35 ?_
        refine eR_istn_n3 dX9_fair_36 rfl (by decide) rfl ?_
        refine eR_ic dX9_fair_37 ?_
        refine eR_ist_n4 dX9_fair_38 (by decide) rfl ?_
        refine lp_fair1 B V (by omega) ?_ 24 0 (by omega)
        have hn9 := cnF_le S cn 24
        have hw9 := savN_le B (sW S cn)
        have hf9 := frL_rg hn9 hw9 (cnF S cn 24 + 1) (by omega)
        refine eR_ic dX9_fair_97 ?_
        refine eR_ist_4 dX9_fair_98 (by decide) rfl ?_
        refine eR_ic dX9_fair_100 ?_
        refine eR_ist_n5 dX9_fair_101 (by decide) rfl ?_
        refine eR_ic dX9_fair_103 ?_
        refine eR_ist_n6 dX9_fair_104 (by decide) rfl ?_
        refine lp_fair2 B V (by omega) ?_ (cnF S cn 24 + 1) 0 (by omega)
        refine eR_ic dX9_fair_172 ?_
        refine eR_ist_6 dX9_fair_173 (by decide) rfl ?_
        refine eR_ic dX9_fair_175 ?_
        refine eR_ist_n7 dX9_fair_176 (by decide) rfl ?_
        refine eX_lv (lv2 := [(0, .ref (gA g 205)), (1, .int (zI ↑cn)), (2, .int (zI what)), (4, .int (zI ((frL (cnF S cn 24) (savN S (sW S cn)) (cnF S cn 24 + 1)).1))), (5, .int (zI (↑(frL (cnF S cn 24) (savN S (sW S cn)) (cnF S cn 24 + 1)).2))), (6, .int (zI 0)), (7, .int (zI 0))]) (by intro q hq; simp only [List.mem_cons, List.not_mem_nil, or_false] at hq ⊢; rcases hq with q1 | q1 | q1 | q1 | q1 | q1 | q1 <;> simp [q1]) ?_
        refine lp_fair3 (m := (frL (cnF S cn 24) (savN S (sW S cn)) (cnF S cn 24 + 1)).2) B V (by omega) (by omega) ?_ 24 0 (by omega)
        refine eR_ildn_2 dX9_fair_241 rfl ?_
        refine eR_if_ne (tgt := 250) dX9_fair_242 (by decide) (by first | assumption | (unfold rg; omega) | (unfold rg at *; omega)) (fun c242 => ?_) (fun c242 => ?_)
        · refine eR_ild_5 dX9_fair_250 ?_
          refine eR_iret dX9_fair_252 rfl rfl ?_
          rw [show (rFair S ↑cn what : Int) = ↑(frS S cn (frL (cnF S cn 24) (savN S (sW S cn)) (cnF S cn 24 + 1)).2 24).2 from by unfold rFair; (repeat' split) <;> first | rfl | omega | simp_all] at k; exact k
        · refine eR_ild_3 dX9_fair_245 ?_
          refine eR_goto (tgt := 252) dX9_fair_247 (by decide) ?_
          refine eR_iret dX9_fair_252 rfl rfl ?_
          rw [show (rFair S ↑cn what : Int) = (frL (cnF S cn 24) (savN S (sW S cn)) (cnF S cn 24 + 1)).1 from by unfold rFair; (repeat' split) <;> first | rfl | omega | simp_all] at k; exact k
      · replace c29 := b01_ne0.mp c29
        refine eR_ldc (z := -1000000003) dX9_fair_32 kw_1134 (by decide) ?_
        refine eR_iret dX9_fair_34 rfl rfl ?_
        rw [show (rFair S ↑cn what : Int) = (-1000000003) from by unfold rFair; (repeat' split) <;> first | rfl | omega | simp_all] at k; exact k
    · refine eR_aldn_0 dX9_fair_0 rfl ?_
      refine eR_ildn_1 dX9_fair_1 rfl ?_
      refine eR_callVi [_] rfl dX9_fair_2 ok_mX9_isCoat kw_1085 rfl rfl th_205 rfl (Nat.le_of_ble_eq_true rfl) (d' := 1) (by decide) (Nat.le_of_ble_eq_true rfl) ?_
      refine sp_isCoat B V (by first | assumption | (unfold rg; omega)) ?_
      refine eR_if_ne (tgt := 11) dX9_fair_5 (by decide) (by first | assumption | exact rg_b01 _ | (unfold rg; omega) | (unfold rg at *; omega)) (fun c5 => ?_) (fun c5 => absurd c5 (by simp [b01, hq1]))
      refine eR_ildn_2 dX9_fair_11 rfl ?_
      refine eR_i2lz dX9_fair_12 (by first | assumption | exact rg_b01 _ | (unfold rg; omega) | (unfold rg at *; omega)) ?_
      refine eR_lc (z := 0) dX9_fair_13 rfl ?_
      refine eR_lc (z := 1) dX9_fair_14 rfl ?_
      refine eR_callSi [_, _, _] rfl dX9_fair_15 ok_mX9_in kw_952 rfl rfl (Nat.le_of_ble_eq_true rfl) (d' := 0) (by decide) (Nat.le_of_ble_eq_true rfl) ?_
      refine sp_in (by first | (unfold rL; omega) | (unfold rL; unfold rg at *; omega)) (by first | (unfold rL; omega) | (unfold rL; unfold rg at *; omega)) (by first | (unfold rL; omega) | (unfold rL; unfold rg at *; omega)) ?_
      refine eR_if_ne (tgt := 24) dX9_fair_18 (by decide) (by first | assumption | exact rg_b01 _ | (unfold rg; omega) | (unfold rg at *; omega)) (fun c18 => absurd c18 (by simp [b01, hq2])) (fun c18 => ?_)
      refine eR_ldc (z := -1000000002) dX9_fair_21 kw_955 (by decide) ?_
      refine eR_iret dX9_fair_23 rfl rfl ?_
      rw [show (rFair S ↑cn what : Int) = (-1000000002) from by unfold rFair; (repeat' split) <;> first | rfl | omega | simp_all] at k; exact k
  · refine eR_aldn_0 dX9_fair_0 rfl ?_
    refine eR_ildn_1 dX9_fair_1 rfl ?_
    refine eR_callVi [_] rfl dX9_fair_2 ok_mX9_isCoat kw_1085 rfl rfl th_205 rfl (Nat.le_of_ble_eq_true rfl) (d' := 1) (by decide) (Nat.le_of_ble_eq_true rfl) ?_
    refine sp_isCoat B V (by first | assumption | (unfold rg; omega)) ?_
    refine eR_if_ne (tgt := 11) dX9_fair_5 (by decide) (by first | assumption | exact rg_b01 _ | (unfold rg; omega) | (unfold rg at *; omega)) (fun c5 => absurd c5 (by simp [b01, hq1])) (fun c5 => ?_)
    refine eR_ldc (z := -1000000001) dX9_fair_8 kw_1089 (by decide) ?_
    refine eR_iret dX9_fair_10 rfl rfl ?_
    rw [show (rFair S c what : Int) = (-1000000001) from by unfold rFair; (repeat' split) <;> first | rfl | omega | simp_all] at k; exact k
end M18
