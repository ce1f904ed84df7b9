section M14
variable {g : EG} {d t s : Nat} {h h1 : PH} {Q : EQ} {S : TS}
/-- but for one cell nothing has changed -/
def ofO (a : Nat) (h h' : PH) : Prop := ∀ b, b ≠ a → h' b = h b
theorem ofO_rf (a : Nat) (h : PH) : ofO a h h := fun _ _ => rfl
theorem ofO_w {a i : Nat} {h h' : PH} {z : Int} (H : ofO a h h') : ofO a h (hU h' a i z) := fun b hb => by rw [hU_a h' i z hb]; exact H b hb
theorem mV_o {a : Nat} {h h' : PH} (V : mV h S) (H : ofO a h h') (ha : a ≠ 206 ∧ a ≠ 210 ∧ a ≠ 211 ∧ a ≠ 212 ∧ a ≠ 213 ∧ a ≠ 214 ∧ a ≠ 215 ∧ a ≠ 217) : mV h' S := mV_of V (fun b hb => H b (by omega))
theorem lp_fw4 (B : sB S) (V1 : mV h1 S) {hour c set : Nat} {f : Nat → Nat} (hh : hour < 24) (hc : c < sC S) (hs : set < 256) (hf : ∀ x, x < 256 → h1 219 (256 * (c + 1) + x) = (f x : Int)) (hb : ∀ x, f x ≤ 2000)
    (k : eX g 5 mX9_findWearing 138 [(0, .ref (gA g 205)), (1, .int (zI ↑hour)), (2, .int (zI ↑c)), (3, .int (zI ↑set)), (4, .int (zI ↑(bstW S hour c f set 4))), (5, .int (zI ↑4))] [] (tau t s) h1 Q) : ∀ n j : Nat, j + n = 4 → eX g 5 mX9_findWearing 61 [(0, .ref (gA g 205)), (1, .int (zI ↑hour)), (2, .int (zI ↑c)), (3, .int (zI ↑set)), (4, .int (zI ↑(bstW S hour c f set j))), (5, .int (zI ↑j))] [] (tau t s) h1 Q := by
  have hC8 := B.2.1
  intro n
  induction n with
  | zero =>
    intro j hj
    refine eR_ild_5 dX9_findWearing_61 ?_
    refine eR_ic dX9_findWearing_63 ?_
    refine eR_icmp_ge (tgt := 138) dX9_findWearing_64 (by decide) (by first | exact rg_b01 _ | (unfold rg; omega)) (by first | exact rg_b01 _ | (unfold rg; omega)) (fun c64 => ?_) (fun c64 => absurd c64 (by omega))
    have e9 : j = 4 := by omega
    subst e9
    exact k
  | succ n ih =>
    intro j hj
    have hcs := clS_lt B hc j
    have hor : set ||| clS S c j < 256 := Nat.or_lt_two_pow (n := 8) hs hcs
    have hfb := hb (set ||| clS S c j)
    have hsp := spBy_le B c j
    have ha9 : clS S c j &&& set ≤ set := Nat.and_le_right
    have hbj := bstW_le B hour c hb set j
    by_cases hcl : clP S hour c j
    · refine eR_ild_5 dX9_findWearing_61 ?_
      refine eR_ic dX9_findWearing_63 ?_
      refine eR_icmp_ge (tgt := 138) dX9_findWearing_64 (by decide) (by first | exact rg_b01 _ | (unfold rg; omega)) (by first | exact rg_b01 _ | (unfold rg; omega)) (fun c64 => absurd c64 (by omega)) (fun c64 => ?_)
      refine eR_aldn_0 dX9_findWearing_67 rfl ?_
      refine eR_ildn_1 dX9_findWearing_68 rfl ?_
      refine eR_ildn_2 dX9_findWearing_69 rfl ?_
      refine eR_ild_5 dX9_findWearing_70 ?_
      refine eR_callVi [_, _, _] rfl dX9_findWearing_72 ok_mX9_cladBy kw_1057 rfl rfl th_205 rfl (Nat.le_of_ble_eq_true rfl) (d' := 4) (by decide) (Nat.le_of_ble_eq_true rfl) ?_
      refine sp_cladBy (hour := hour) (c := c) (what := j) B V1 (by omega) (by omega) (by omega) ?_
      refine eX_pcI (show (clad S hour c j : Int) = ↑(clS S c j) from if_pos hcl) ?_
      refine eR_ist_n6 dX9_findWearing_75 (by decide) rfl ?_
      refine eR_ild_6 dX9_findWearing_77 ?_
      refine eR_if_lt (tgt := 132) dX9_findWearing_79 (by decide) (by first | exact rg_b01 _ | (unfold rg; omega)) (fun c79 => ?_) (fun c79 => ?_)
      · refine eR_iinc_5 dX9_findWearing_132 (by decide) rfl ?_
        refine eR_goto (tgt := 61) dX9_findWearing_135 (by decide) ?_
        refine eX_lv (lv2 := List.take 6 _) (fun q hq => List.mem_of_mem_take hq) ?_
        rw [show bstW S hour c f set j = bstW S hour c f set (j + 1) from by rw [bstW, if_neg (by rintro ⟨q1, q2⟩; omega)]]
        exact ih (j + 1) (by omega)
      · refine eR_ild_6 dX9_findWearing_82 ?_
        refine eR_ildn_3 dX9_findWearing_84 rfl ?_
        refine eR_iand dX9_findWearing_85 ?_
        refine eX_pcI (show (zAnd ↑(clS S c j) ↑set : Int) = ↑(clS S c j &&& set : Nat) from zAnd_nat (by omega)) ?_
        refine eR_if_ne (tgt := 132) dX9_findWearing_86 (by decide) (by first | exact rg_b01 _ | (unfold rg; omega)) (fun c86 => ?_) (fun c86 => ?_)
        · refine eR_iinc_5 dX9_findWearing_132 (by decide) rfl ?_
          refine eR_goto (tgt := 61) dX9_findWearing_135 (by decide) ?_
          refine eX_lv (lv2 := List.take 6 _) (fun q hq => List.mem_of_mem_take hq) ?_
          rw [show bstW S hour c f set j = bstW S hour c f set (j + 1) from by rw [bstW, if_neg (by rintro ⟨q1, q2⟩; omega)]]
          exact ih (j + 1) (by omega)
        · refine eR_aldn_0 dX9_findWearing_89 rfl ?_
          refine eR_ildn_2 dX9_findWearing_90 rfl ?_
          refine eR_ild_5 dX9_findWearing_91 ?_
          refine eR_callVi [_, _] rfl dX9_findWearing_93 ok_mX9_savedBy kw_1065 rfl rfl th_205 rfl (Nat.le_of_ble_eq_true rfl) (d' := 2) (by decide) (Nat.le_of_ble_eq_true rfl) ?_
          refine sp_savedBy (c := c) (what := j) B V1 (by omega) (by omega) ?_
          refine eR_aldn_0 dX9_findWearing_96 rfl ?_
          refine eR_getR (i := 219) dX9_findWearing_97 gf_X9_54 th_205 rfl ?_
          refine eR_si (z := 256) dX9_findWearing_100 rfl ?_
          refine eR_ildn_2 dX9_findWearing_103 rfl ?_
          refine eR_ic dX9_findWearing_104 ?_
          refine eR_iadd dX9_findWearing_105 ?_
          refine eR_imul dX9_findWearing_106 ?_
          refine eR_ildn_3 dX9_findWearing_107 rfl ?_
          refine eR_ild_6 dX9_findWearing_108 ?_
          refine eR_ior dX9_findWearing_110 ?_
          refine eX_pcI (show (zOr ↑set ↑(clS S c j) : Int) = ↑(set ||| clS S c j : Nat) from zOr_nat (by omega) (by omega)) ?_
          refine eR_iadd dX9_findWearing_111 ?_
          refine eR_iald (n := 256 * (c + 1) + (set ||| clS S c j)) dX9_findWearing_112 th_219 (by omega) (by omega) (by decide) ?_
          refine eX_pcI (hf ((set ||| clS S c j)) (by omega)) ?_
          refine eR_iadd dX9_findWearing_113 ?_
          refine eX_pcI (show (↑(spBy S c j) + (↑(f (set ||| clS S c j))) : Int) = ↑(spBy S c j + f (set ||| clS S c j) : Nat) from rfl) ?_
          refine eR_ist_n7 dX9_findWearing_114 (by decide) rfl ?_
          refine eR_ild_7 dX9_findWearing_116 ?_
          refine eR_ild_4 dX9_findWearing_118 ?_
          refine eR_icmp_le (tgt := 128) dX9_findWearing_120 (by decide) (by first | exact rg_b01 _ | (unfold rg; omega)) (by first | exact rg_b01 _ | (unfold rg; omega)) (fun c120 => ?_) (fun c120 => ?_)
          · refine eR_ild_4 dX9_findWearing_128 ?_
            refine eX_pcI (show (↑(bstW S hour c f set j) : Int) = ↑(bstW S hour c f set (j + 1)) from by rw [bstW, if_pos ⟨hcl, by omega⟩]; omega) ?_
            refine eR_ist_4 dX9_findWearing_130 (by decide) rfl ?_
            refine eR_iinc_5 dX9_findWearing_132 (by decide) rfl ?_
            refine eR_goto (tgt := 61) dX9_findWearing_135 (by decide) ?_
            refine eX_lv (lv2 := List.take 6 _) (fun q hq => List.mem_of_mem_take hq) ?_
            exact ih (j + 1) (by omega)
          · refine eR_ild_7 dX9_findWearing_123 ?_
            refine eR_goto (tgt := 130) dX9_findWearing_125 (by decide) ?_
            refine eX_pcI (show (↑(spBy S c j + f (set ||| clS S c j) : Nat) : Int) = ↑(bstW S hour c f set (j + 1)) from by rw [bstW, if_pos ⟨hcl, by omega⟩]; omega) ?_
            refine eR_ist_4 dX9_findWearing_130 (by decide) rfl ?_
            refine eR_iinc_5 dX9_findWearing_132 (by decide) rfl ?_
            refine eR_goto (tgt := 61) dX9_findWearing_135 (by decide) ?_
            refine eX_lv (lv2 := List.take 6 _) (fun q hq => List.mem_of_mem_take hq) ?_
            exact ih (j + 1) (by omega)
    · refine eR_ild_5 dX9_findWearing_61 ?_
      refine eR_ic dX9_findWearing_63 ?_
      refine eR_icmp_ge (tgt := 138) dX9_findWearing_64 (by decide) (by first | exact rg_b01 _ | (unfold rg; omega)) (by first | exact rg_b01 _ | (unfold rg; omega)) (fun c64 => absurd c64 (by omega)) (fun c64 => ?_)
      refine eR_aldn_0 dX9_findWearing_67 rfl ?_
      refine eR_ildn_1 dX9_findWearing_68 rfl ?_
      refine eR_ildn_2 dX9_findWearing_69 rfl ?_
      refine eR_ild_5 dX9_findWearing_70 ?_
      refine eR_callVi [_, _, _] rfl dX9_findWearing_72 ok_mX9_cladBy kw_1057 rfl rfl th_205 rfl (Nat.le_of_ble_eq_true rfl) (d' := 4) (by decide) (Nat.le_of_ble_eq_true rfl) ?_
      refine sp_cladBy (hour := hour) (c := c) (what := j) B V1 (by omega) (by omega) (by omega) ?_
      refine eX_pcI (show (clad S hour c j : Int) = (-1) from if_neg hcl) ?_
      refine eR_ist_n6 dX9_findWearing_75 (by decide) rfl ?_
      refine eR_ild_6 dX9_findWearing_77 ?_
      refine eR_if_lt (tgt := 132) dX9_findWearing_79 (by decide) (by first | exact rg_b01 _ | (unfold rg; omega)) (fun c79 => ?_) (fun c79 => absurd c79 (by decide))
      refine eR_iinc_5 dX9_findWearing_132 (by decide) rfl ?_
      refine eR_goto (tgt := 61) dX9_findWearing_135 (by decide) ?_
      refine eX_lv (lv2 := List.take 6 _) (fun q hq => List.mem_of_mem_take hq) ?_
      rw [show bstW S hour c f set j = bstW S hour c f set (j + 1) from by rw [bstW, if_neg (by exact fun q => hcl q.1)]]
      exact ih (j + 1) (by omega)
theorem lp_fw3 (B : sB S) (V : mV h S) {h0 : PH} {hour c : Nat} {f : Nat → Nat} (hh : hour < 24) (hc : c < sC S) (hb : ∀ x, f x ≤ 2000)
    (k : ∀ h1 : PH, ofO 219 h h1 → (∀ x, x < 256 → h1 219 (256 * (c + 1) + x) = (f x : Int)) → (∀ x, x < 256 → h1 219 (256 * c + x) = (bstW S hour c f x 4 : Int)) → (∀ i, 256 * (c + 1) ≤ i → h1 219 i = h0 219 i) → eX g 5 mX9_findWearing 158 [(0, .ref (gA g 205)), (1, .int (zI ↑hour)), (2, .int (zI ↑c)), (3, .int (zI ↑256))] [] (tau t s) h1 Q) :
    ∀ n set : Nat, set + n = 256 → ∀ h1 : PH, ofO 219 h h1 → (∀ x, x < 256 → h1 219 (256 * (c + 1) + x) = (f x : Int)) → (∀ x, x < set → h1 219 (256 * c + x) = (bstW S hour c f x 4 : Int)) → (∀ i, 256 * (c + 1) ≤ i → h1 219 i = h0 219 i) → eX g 5 mX9_findWearing 48 [(0, .ref (gA g 205)), (1, .int (zI ↑hour)), (2, .int (zI ↑c)), (3, .int (zI ↑set))] [] (tau t s) h1 Q := by
  have hC8 := B.2.1
  intro n
  induction n with
  | zero =>
    intro set hset h1 hO hf hd ho
    have V1 := mV_o V hO (by decide)
    have e9 : set = 256 := by omega
    subst e9
    refine eR_ildn_3 dX9_findWearing_48 rfl ?_
    refine eR_si (z := 256) dX9_findWearing_49 rfl ?_
    refine eR_icmp_ge (tgt := 158) dX9_findWearing_52 (by decide) (by first | exact rg_b01 _ | (unfold rg; omega)) (by first | exact rg_b01 _ | (unfold rg; omega)) (fun c52 => ?_) (fun c52 => absurd c52 (by omega))
    exact k h1 hO hf (fun x hx => hd x (by omega)) ho
  | succ n ih =>
    intro set hset h1 hO hf hd ho
    have V1 := mV_o V hO (by decide)
    refine eR_ildn_3 dX9_findWearing_48 rfl ?_
    refine eR_si (z := 256) dX9_findWearing_49 rfl ?_
    refine eR_icmp_ge (tgt := 158) dX9_findWearing_52 (by decide) (by first | exact rg_b01 _ | (unfold rg; omega)) (by first | exact rg_b01 _ | (unfold rg; omega)) (fun c52 => absurd c52 (by omega)) (fun c52 => ?_)
    refine eR_ic dX9_findWearing_55 ?_
    refine eR_ist_n4 dX9_findWearing_56 (by decide) rfl ?_
    refine eR_ic dX9_findWearing_58 ?_
    refine eR_ist_n5 dX9_findWearing_59 (by decide) rfl ?_
    refine lp_fw4 B V1 hh hc (by omega) hf hb ?_ 4 0 (by omega)
    have hwb := bstW_le B hour c hb set 4
    refine eR_aldn_0 dX9_findWearing_138 rfl ?_
    refine eR_getR (i := 219) dX9_findWearing_139 gf_X9_54 th_205 rfl ?_
    refine eR_si (z := 256) dX9_findWearing_142 rfl ?_
    refine eR_ildn_2 dX9_findWearing_145 rfl ?_
    refine eR_imul dX9_findWearing_146 ?_
    refine eR_ildn_3 dX9_findWearing_147 rfl ?_
    refine eR_iadd dX9_findWearing_148 ?_
    refine eR_ild_4 dX9_findWearing_149 ?_
    refine eR_iast (n := 256 * c + set) dX9_findWearing_151 th_219 (by omega) (by omega) (by decide) ?_
    refine eR_iinc_3 dX9_findWearing_152 (by decide) rfl ?_
    refine eR_goto (tgt := 48) dX9_findWearing_155 (by decide) ?_
    refine eX_lv (lv2 := List.take 4 _) (fun q hq => List.mem_of_mem_take hq) ?_
    refine ih (set + 1) (by omega) _ (ofO_w hO) ?_ ?_ ?_
    · intro x hx
      rw [hU_i _ _ _ (by omega)]
      exact hf x hx
    · intro x hx
      by_cases hxs : x = set
      · subst hxs
        exact hU_s _ _ _ _
      · rw [hU_i _ _ _ (by omega)]
        exact hd x (by omega)
    · intro i hi
      rw [hU_i _ _ _ (by omega)]
      exact ho i hi
theorem lp_fw2 (B : sB S) (V : mV h S) {hour : Nat} (hh : hour < 24) (k : ∀ h1 : PH, ofO 219 h h1 → (∀ c, 0 ≤ c → c ≤ sC S → ∀ x, x < 256 → h1 219 (256 * c + x) = (savB S hour (sC S - c) x : Int)) → Q .null (tau t s) h1) :
    ∀ n : Nat, n ≤ sC S → ∀ h1 : PH, ofO 219 h h1 → (∀ c, n ≤ c → c ≤ sC S → ∀ x, x < 256 → h1 219 (256 * c + x) = (savB S hour (sC S - c) x : Int)) → eX g 5 mX9_findWearing 42 [(0, .ref (gA g 205)), (1, .int (zI ↑hour)), (2, .int (zI (↑n - 1)))] [] (tau t s) h1 Q := by
  have hC8 := B.2.1
  intro n
  induction n with
  | zero =>
    intro hn h1 hO hd
    refine eR_ildn_2 dX9_findWearing_42 rfl ?_
    refine eR_if_lt (tgt := 164) dX9_findWearing_43 (by decide) (by first | exact rg_b01 _ | (unfold rg; omega)) (fun c43 => ?_) (fun c43 => absurd c43 (by omega))
    refine eR_vret dX9_findWearing_164 rfl ?_
    exact k h1 hO hd
  | succ n ih =>
    intro hn h1 hO hd
    refine eR_ildn_2 dX9_findWearing_42 rfl ?_
    refine eR_if_lt (tgt := 164) dX9_findWearing_43 (by decide) (by first | exact rg_b01 _ | (unfold rg; omega)) (fun c43 => absurd c43 (by omega)) (fun c43 => ?_)
    refine eR_ic dX9_findWearing_46 ?_
    refine eR_istn_n3 dX9_findWearing_47 rfl (by decide) rfl ?_
    rw [show ((↑(n + 1) : Int) - 1) = ↑n from by omega]
    refine lp_fw3 (h0 := h1) (f := savB S hour (sC S - (n + 1))) B V hh (by omega) (fun x => by have := savB_le B hour (sC S - (n + 1)) x; omega) ?_ 256 0 (by omega) h1 hO (fun x hx => hd (n + 1) (by omega) (by omega) x hx) (fun x hx => absurd hx (Nat.not_lt_zero x)) (fun _ _ => rfl)
    intro h2 hO2 hf2 hd2 ho2
    refine eR_iinc_2 dX9_findWearing_158 (by decide) rfl ?_
    refine eR_goto (tgt := 42) dX9_findWearing_161 (by decide) ?_
    refine eX_lv (lv2 := List.take 3 _) (fun q hq => List.mem_of_mem_take hq) ?_
    refine ih (by omega) h2 hO2 ?_
    intro c hc1 hc2 x hx
    by_cases hcn : c = n
    · subst hcn
      have e8 := hd2 x hx
      have e7 : sC S - c = (sC S - (c + 1)) + 1 := by omega
      rw [e7]
      show _ = ((bstW S hour (sC S - (sC S - (c + 1) + 1)) (savB S hour (sC S - (c + 1))) x 4 : Nat) : Int)
      rw [show sC S - (sC S - (c + 1) + 1) = c from by omega]
      exact e8
    · rw [ho2 (256 * c + x) (by omega)]
      exact hd c (by omega) hc2 x hx
theorem lp_fw1 (B : sB S) (V : mV h S) {hour : Nat} (hh : hour < 24) (k : ∀ h1 : PH, ofO 219 h h1 → (∀ c, 0 ≤ c → c ≤ sC S → ∀ x, x < 256 → h1 219 (256 * c + x) = (savB S hour (sC S - c) x : Int)) → Q .null (tau t s) h1) :
    ∀ n i : Nat, i + n = 256 → ∀ h1 : PH, ofO 219 h h1 → (∀ x, x < i → h1 219 (256 * sC S + x) = 0) → eX g 5 mX9_findWearing 2 [(0, .ref (gA g 205)), (1, .int (zI ↑hour)), (2, .int (zI ↑i))] [] (tau t s) h1 Q := by
  have hC8 := B.2.1
  intro n
  induction n with
  | zero =>
    intro i hi h1 hO hz
    have V1 := mV_o V hO (by decide)
    refine eR_ildn_2 dX9_findWearing_2 rfl ?_
    refine eR_si (z := 256) dX9_findWearing_3 rfl ?_
    refine eR_icmp_ge (tgt := 33) dX9_findWearing_6 (by decide) (by first | exact rg_b01 _ | (unfold rg; omega)) (by first | exact rg_b01 _ | (unfold rg; omega)) (fun c6 => ?_) (fun c6 => absurd c6 (by omega))
    refine eR_aldn_0 dX9_findWearing_33 rfl ?_
    refine eR_getR (i := 217) dX9_findWearing_34 gf_X9_44 th_205 rfl ?_
    refine eR_ic dX9_findWearing_37 ?_
    refine eR_iald (n := 1) dX9_findWearing_38 th_217 (rfl) (by decide) (by decide) ?_
    refine eX_pcI (V1.2.1) ?_
    refine eR_ic dX9_findWearing_39 ?_
    refine eR_isub dX9_findWearing_40 ?_
    refine eR_istn_2 dX9_findWearing_41 rfl (by decide) rfl ?_
    refine lp_fw2 B V hh k (sC S) (Nat.le_refl _) h1 hO (fun c hc1 hc2 x hx => ?_)
    rw [show sC S - c = 0 from by omega, show c = sC S from by omega]
    exact hz x (by omega)
  | succ n ih =>
    intro i hi h1 hO hz
    have V1 := mV_o V hO (by decide)
    refine eR_ildn_2 dX9_findWearing_2 rfl ?_
    refine eR_si (z := 256) dX9_findWearing_3 rfl ?_
    refine eR_icmp_ge (tgt := 33) dX9_findWearing_6 (by decide) (by first | exact rg_b01 _ | (unfold rg; omega)) (by first | exact rg_b01 _ | (unfold rg; omega)) (fun c6 => absurd c6 (by omega)) (fun c6 => ?_)
    refine eR_aldn_0 dX9_findWearing_9 rfl ?_
    refine eR_getR (i := 219) dX9_findWearing_10 gf_X9_54 th_205 rfl ?_
    refine eR_si (z := 256) dX9_findWearing_13 rfl ?_
    refine eR_aldn_0 dX9_findWearing_16 rfl ?_
    refine eR_getR (i := 217) dX9_findWearing_17 gf_X9_44 th_205 rfl ?_
    refine eR_ic dX9_findWearing_20 ?_
    refine eR_iald (n := 1) dX9_findWearing_21 th_217 (rfl) (by decide) (by decide) ?_
    refine eX_pcI (V1.2.1) ?_
    refine eR_imul dX9_findWearing_22 ?_
    refine eR_ildn_2 dX9_findWearing_23 rfl ?_
    refine eR_iadd dX9_findWearing_24 ?_
    refine eR_ic dX9_findWearing_25 ?_
    refine eR_iast (n := 256 * sC S + i) dX9_findWearing_26 th_219 (by omega) (by omega) (by decide) ?_
    refine eR_iinc_2 dX9_findWearing_27 (by decide) rfl ?_
    refine eR_goto (tgt := 2) dX9_findWearing_30 (by decide) ?_
    refine ih (i + 1) (by omega) _ (ofO_w hO) ?_
    intro x hx
    by_cases hxi : x = i
    · subst hxi
      exact hU_s _ _ _ _
    · rw [hU_i _ _ _ (by omega)]
      exact hz x (by omega)
theorem sp_findWearing (B : sB S) (V : mV h S) {hour : Nat} (hh : hour < 24) (k : ∀ h1 : PH, ofO 219 h h1 → (∀ c, 0 ≤ c → c ≤ sC S → ∀ x, x < 256 → h1 219 (256 * c + x) = (savB S hour (sC S - c) x : Int)) → Q .null (tau t s) h1) : eX g 5 mX9_findWearing 0 (lv_args 0 [.ref (gA g 205), .int (zI ↑hour)]) [] (tau t s) h Q := by
  show eX g 5 mX9_findWearing 0 [(0, .ref (gA g 205)), (1, .int (zI ↑hour))] [] (tau t s) h Q
  refine eR_ic dX9_findWearing_0 ?_
  refine eR_istn_n2 dX9_findWearing_1 rfl (by decide) rfl ?_
  exact lp_fw1 B V hh k 256 0 (by omega) h (ofO_rf _ _) (fun x hx => absurd hx (Nat.not_lt_zero x))
/-- CHILL of an HOUR -/
def hrC (S : TS) (hour : Nat) : Int := ((outN S hour (sP S) * sF S : Nat) : Int) - (savB S hour (sC S) 0 : Int)
def dyC (S : TS) : Nat → Int
  | 0 => 0
  | n + 1 => dyC S n + hrC S n
theorem outN_0 {hour : Nat} : ∀ n, outN S hour n = 0 → ∀ p, p < n → whereIs S p hour < 0 := by
  intro n
  induction n with
  | zero => intro _ p hp; omega
  | succ n ih =>
    intro h0 p hp
    unfold outN at h0
    by_cases hpn : p = n
    · subst hpn
      split at h0 <;> omega
    · exact ih (by omega) p (by omega)
theorem savB_0 (B : sB S) {hour : Nat} (h0 : outN S hour (sP S) = 0) : ∀ n, n ≤ sC S → ∀ set, savB S hour n set = 0 := by
  intro n
  induction n with
  | zero => intro _ set; rfl
  | succ n ih =>
    intro hn set
    have ho := B.2.2.2.1 (sC S - (n + 1)) (by omega)
    have h1 := outN_0 _ h0 _ ho.1
    have h2 := outN_0 _ h0 _ ho.2.1
    show bstW S hour (sC S - (n + 1)) (savB S hour n) set 4 = 0
    have e1 : bstW S hour (sC S - (n + 1)) (savB S hour n) set 1 = 0 := by
      unfold bstW
      split
      · rw [ih (by omega)]; rfl
      · rfl
    have e2 : bstW S hour (sC S - (n + 1)) (savB S hour n) set 2 = 0 := by
      unfold bstW
      rw [if_neg (by rintro ⟨⟨q1, -⟩, -⟩; have := q1 (by decide); omega)]
      exact e1
    have e3 : bstW S hour (sC S - (n + 1)) (savB S hour n) set 3 = 0 := by
      unfold bstW
      rw [if_neg (by rintro ⟨⟨-, q1, -⟩, -⟩; have := q1 (by decide); omega)]
      exact e2
    unfold bstW
    rw [if_neg (by rintro ⟨⟨-, q1, -⟩, -⟩; have := q1 (by decide); omega)]
    exact e3
theorem hrC_0 (B : sB S) {hour : Nat} (h0 : outN S hour (sP S) = 0) : hrC S hour = 0 := by
  unfold hrC
  rw [h0, savB_0 B h0 _ (Nat.le_refl _)]
  simp
theorem hrC_rg (B : sB S) (hour : Nat) : -1584 ≤ hrC S hour ∧ hrC S hour ≤ 792 := by
  have h1 := outN_le S hour (sP S)
  have h2 := savB_le B hour (sC S) 0
  have hP8 := B.1
  have hC8 := B.2.1
  have hF99 := B.2.2.2.2.2.2.1
  have h3 : outN S hour (sP S) * sF S ≤ 8 * 99 := Nat.mul_le_mul (by omega) hF99
  unfold hrC
  omega
theorem dyC_rg (B : sB S) (n : Nat) : -1584 * (n : Int) ≤ dyC S n ∧ dyC S n ≤ 792 * (n : Int) := by
  induction n with
  | zero => exact ⟨by simp [dyC], by simp [dyC]⟩
  | succ n ih =>
    have := hrC_rg B n
    unfold dyC
    omega
theorem sp_hourChill (B : sB S) (V : mV h S) {hour : Nat} (hh : hour < 24) (k : ∀ h1 : PH, ofO 219 h h1 → Q (.int (zI (hrC S hour))) (tau t s) h1) : eX g 6 mX9_hourChill 0 (lv_args 0 [.ref (gA g 205), .int (zI ↑hour)]) [] (tau t s) h Q := by
  show eX g 6 mX9_hourChill 0 [(0, .ref (gA g 205)), (1, .int (zI ↑hour))] [] (tau t s) h Q
  have hO8 := outN_le S hour (sP S)
  have hP8 := B.1
  have hC8 := B.2.1
  have hE10 := B.2.2.1
  have hF99 := B.2.2.2.2.2.2.1
  refine eR_aldn_0 dX9_hourChill_0 rfl ?_
  refine eR_ildn_1 dX9_hourChill_1 rfl ?_
  refine eR_callVi [_] rfl dX9_hourChill_2 ok_mX9_outMany kw_1031 rfl rfl th_205 rfl (Nat.le_of_ble_eq_true rfl) (d' := 4) (by decide) (Nat.le_of_ble_eq_true rfl) ?_
  refine sp_outMany (hour := hour) B V (by omega) ?_
  refine eR_if_ne (tgt := 10) dX9_hourChill_5 (by decide) (by first | exact rg_b01 _ | (unfold rg; omega)) (fun c5 => ?_) (fun c5 => ?_)
  · refine eR_aldn_0 dX9_hourChill_10 rfl ?_
    refine eR_ildn_1 dX9_hourChill_11 rfl ?_
    refine eR_callVv [_] rfl dX9_hourChill_12 ok_mX9_findWearing kw_1053 rfl rfl th_205 rfl (Nat.le_of_ble_eq_true rfl) (d' := 5) (by decide) (Nat.le_of_ble_eq_true rfl) ?_
    refine sp_findWearing (hour := hour) B V (by omega) (fun k2 Ok2 Dk2 => ?_)
    have Vk2 := mV_o V Ok2 (by decide)
    refine eR_aldn_0 dX9_hourChill_15 rfl ?_
    refine eR_ildn_1 dX9_hourChill_16 rfl ?_
    refine eR_callVi [_] rfl dX9_hourChill_17 ok_mX9_outMany kw_1031 rfl rfl th_205 rfl (Nat.le_of_ble_eq_true rfl) (d' := 4) (by decide) (Nat.le_of_ble_eq_true rfl) ?_
    refine sp_outMany (hour := hour) B Vk2 (by omega) ?_
    refine eR_aldn_0 dX9_hourChill_20 rfl ?_
    refine eR_getR (i := 206) dX9_hourChill_21 gf_X9_7 th_205 rfl ?_
    refine eR_bi (z := 17) dX9_hourChill_24 rfl ?_
    refine eR_iald (n := 17) dX9_hourChill_26 th_206 (rfl) (by decide) (by decide) ?_
    refine eX_pcI (Vk2.2.2.2.2.2.2.1) ?_
    refine eR_imul dX9_hourChill_27 ?_
    refine eX_pcI (show ((↑(outN S hour (sP S))) * ↑(sF S) : Int) = ↑(outN S hour (sP S) * sF S : Nat) from rfl) ?_
    refine eR_aldn_0 dX9_hourChill_28 rfl ?_
    refine eR_getR (i := 219) dX9_hourChill_29 gf_X9_54 th_205 rfl ?_
    refine eR_ic dX9_hourChill_32 ?_
    refine eR_iald (n := 0) dX9_hourChill_33 th_219 (rfl) (by decide) (by decide) ?_
    refine eR_isub dX9_hourChill_34 ?_
    refine eX_pcI (show ((↑(outN S hour (sP S) * sF S : Nat)) - (k2 219 0) : Int) = hrC S hour from by rw [show k2 219 0 = (savB S hour (sC S) 0 : Int) from Dk2 0 (Nat.le_refl _) (Nat.zero_le _) 0 (by omega)]; rfl) ?_
    refine eR_iret dX9_hourChill_35 rfl rfl ?_
    exact k _ Ok2
  · refine eR_ic dX9_hourChill_8 ?_
    refine eR_iret dX9_hourChill_9 rfl rfl ?_
    have := k h (ofO_rf _ _)
    rw [hrC_0 B (by omega)] at this
    exact this
theorem lp_dayChill (B : sB S) (V : mV h S) (k : ∀ h1 : PH, ofO 219 h h1 → Q (.int (zI (dyC S 24))) (tau t s) h1) : ∀ n i : Nat, i + n = 24 → ∀ h1 : PH, ofO 219 h h1 → eX g 7 mX9_dayChill 4 [(0, .ref (gA g 205)), (1, .int (zI (dyC S i))), (2, .int (zI ↑i))] [] (tau t s) h1 Q := by
  intro n
  induction n with
  | zero =>
    intro i hi h1 hO
    refine eR_ildn_2 dX9_dayChill_4 rfl ?_
    refine eR_bi (z := 24) dX9_dayChill_5 rfl ?_
    refine eR_icmp_ge (tgt := 24) dX9_dayChill_7 (by decide) (by first | exact rg_b01 _ | (unfold rg; omega)) (by first | exact rg_b01 _ | (unfold rg; omega)) (fun c7 => ?_) (fun c7 => absurd c7 (by omega))
    refine eR_ildn_1 dX9_dayChill_24 rfl ?_
    refine eR_iret dX9_dayChill_25 rfl rfl ?_
    have e9 : i = 24 := by omega
    subst e9
    exact k h1 hO
  | succ n ih =>
    intro i hi h1 hO
    have V1 := mV_o V hO (by decide)
    have hr1 := hrC_rg B i
    refine eR_ildn_2 dX9_dayChill_4 rfl ?_
    refine eR_bi (z := 24) dX9_dayChill_5 rfl ?_
    refine eR_icmp_ge (tgt := 24) dX9_dayChill_7 (by decide) (by first | exact rg_b01 _ | (unfold rg; omega)) (by first | exact rg_b01 _ | (unfold rg; omega)) (fun c7 => absurd c7 (by omega)) (fun c7 => ?_)
    refine eR_ildn_1 dX9_dayChill_10 rfl ?_
    refine eR_aldn_0 dX9_dayChill_11 rfl ?_
    refine eR_ildn_2 dX9_dayChill_12 rfl ?_
    refine eR_callVi [_] rfl dX9_dayChill_13 ok_mX9_hourChill kw_1027 rfl rfl th_205 rfl (Nat.le_of_ble_eq_true rfl) (d' := 6) (by decide) (Nat.le_of_ble_eq_true rfl) ?_
    refine sp_hourChill (hour := i) B V1 (by omega) (fun k2 Ok2 => ?_)
    have Vk2 := mV_o V1 Ok2 (by decide)
    refine eR_iadd dX9_dayChill_16 ?_
    refine eR_istn_1 dX9_dayChill_17 rfl (by decide) rfl ?_
    refine eR_iinc_2 dX9_dayChill_18 (by decide) rfl ?_
    refine eR_goto (tgt := 4) dX9_dayChill_21 (by decide) ?_
    exact ih (i + 1) (by omega) k2 (fun b hb => (Ok2 b hb).trans (hO b hb))
theorem sp_dayChill (B : sB S) (V : mV h S) (k : ∀ h1 : PH, ofO 219 h h1 → Q (.int (zI (dyC S 24))) (tau t s) h1) : eX g 7 mX9_dayChill 0 (lv_args 0 [.ref (gA g 205)]) [] (tau t s) h Q := by
  show eX g 7 mX9_dayChill 0 [(0, .ref (gA g 205))] [] (tau t s) h Q
  refine eR_ic dX9_dayChill_0 ?_
  refine eR_istn_n1 dX9_dayChill_1 rfl (by decide) rfl ?_
  refine eR_ic dX9_dayChill_2 ?_
  refine eR_istn_n2 dX9_dayChill_3 rfl (by decide) rfl ?_
  exact lp_dayChill B V k 24 0 (by omega) h (ofO_rf _ _)
end M14
