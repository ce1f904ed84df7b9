def cdW (S : TS) (hour c : Nat) (f : Nat → Nat) (set b j : Nat) : Prop := clP S hour c j ∧ clS S c j &&& set = 0 ∧ spBy S c j + f (set ||| clS S c j) = b
noncomputable def fstW (S : TS) (hour c : Nat) (f : Nat → Nat) (set b : Nat) : Nat → Nat → Nat
  | 0, j => j
  | n + 1, j => @ite _ (cdW S hour c f set b j) (Classical.propDecidable _) j (fstW S hour c f set b n (j + 1))
/-- who is clad ahead of coat c, in BEST WEARING -/
noncomputable def setW (S : TS) (hour : Nat) : Nat → Nat
  | 0 => 0
  | c + 1 => setW S hour c ||| clS S c (fstW S hour c (savB S hour (sC S - (c + 1))) (setW S hour c) (savB S hour (sC S - c) (setW S hour c)) 4 0)
noncomputable def wrW (S : TS) (hour c : Nat) : Nat := fstW S hour c (savB S hour (sC S - (c + 1))) (setW S hour c) (savB S hour (sC S - c) (setW S hour c)) 4 0
theorem fstW_y {S : TS} {hour c : Nat} {f : Nat → Nat} {set b n j : Nat} (q : cdW S hour c f set b j) : fstW S hour c f set b (n + 1) j = j := if_pos q
theorem fstW_n {S : TS} {hour c : Nat} {f : Nat → Nat} {set b n j : Nat} (q : ¬ cdW S hour c f set b j) : fstW S hour c f set b (n + 1) j = fstW S hour c f set b n (j + 1) := if_neg q
theorem fstW_le {S : TS} {hour c : Nat} {f : Nat → Nat} {set b : Nat} : ∀ n j, fstW S hour c f set b n j ≤ j + n := by
  intro n
  induction n with
  | zero => intro j; exact Nat.le_refl _
  | succ n ih =>
    intro j
    by_cases q : cdW S hour c f set b j
    · rw [fstW_y q]; omega
    · rw [fstW_n q]; have := ih (j + 1); omega
/-- the best is reached by one of the first k -/
theorem bst_att {S : TS} {hour c : Nat} {f : Nat → Nat} {set : Nat} : ∀ k, 0 < k → ∃ j, j < k ∧ cdW S hour c f set (bstW S hour c f set k) j := by
  intro k
  induction k with
  | zero => intro h; omega
  | succ k ih =>
    intro _
    by_cases hk : k = 0
    · subst hk
      refine ⟨0, by omega, ⟨by simp, by simp, by simp⟩, by simp [clS], ?_⟩
      unfold bstW
      rw [if_pos ⟨⟨by simp, by simp, by simp⟩, by simp [clS]⟩]
      simp [bstW]
    · obtain ⟨j, hj, h1, h2, h3⟩ := ih (by omega)
      unfold bstW
      by_cases hc : clP S hour c k ∧ clS S c k &&& set = 0
      · rw [if_pos hc]
        by_cases hm : bstW S hour c f set k ≤ spBy S c k + f (set ||| clS S c k)
        · rw [Nat.max_eq_right hm]
          exact ⟨k, by omega, hc.1, hc.2, rfl⟩
        · rw [Nat.max_eq_left (by omega)]
          exact ⟨j, by omega, h1, h2, h3⟩
      · rw [if_neg hc]
        exact ⟨j, by omega, h1, h2, h3⟩
theorem savB_att {S : TS} {hour c set : Nat} (hc : c < sC S) : ∃ j, j < 4 ∧ cdW S hour c (savB S hour (sC S - (c + 1))) set (savB S hour (sC S - c) set) j := by
  have e1 : sC S - c = (sC S - (c + 1)) + 1 := by omega
  have h := bst_att (S := S) (hour := hour) (c := c) (f := savB S hour (sC S - (c + 1))) (set := set) 4 (by omega)
  rw [e1]
  show ∃ j, j < 4 ∧ cdW S hour c (savB S hour (sC S - (c + 1))) set (bstW S hour (sC S - (sC S - (c + 1) + 1)) (savB S hour (sC S - (c + 1))) set 4) j
  rw [show sC S - (sC S - (c + 1) + 1) = c from by omega]
  exact h
theorem setW_lt {S : TS} (B : sB S) (hour : Nat) : ∀ c, c ≤ sC S → setW S hour c < 256 := by
  intro c
  induction c with
  | zero => intro _; exact (by decide : (0 : Nat) < 256)
  | succ c ih =>
    intro hc
    exact Nat.or_lt_two_pow (n := 8) (ih (by omega)) (clS_lt B (by omega) _)
theorem setW_s (S : TS) (hour c : Nat) : setW S hour (c + 1) = setW S hour c ||| clS S c (wrW S hour c) := rfl
def of2 (a c : Nat) (h h' : PH) : Prop := ∀ b, b ≠ a → b ≠ c → h' b = h b
theorem of2_w1 {a c i : Nat} {h h' : PH} {z : Int} (H : of2 a c h h') : of2 a c h (hU h' a i z) := fun b h1 h2 => by rw [hU_a h' i z h1]; exact H b h1 h2
theorem of2_w2 {a c i : Nat} {h h' : PH} {z : Int} (H : of2 a c h h') : of2 a c h (hU h' c i z) := fun b h1 h2 => by rw [hU_a h' i z h2]; exact H b h1 h2
theorem mV_o2 {S : TS} {a c : Nat} {h h' : PH} (V : mV h S) (H : of2 a c h h') (ha : a ≠ 206 ∧ a ≠ 210 ∧ a ≠ 211 ∧ a ≠ 212 ∧ a ≠ 213 ∧ a ≠ 214 ∧ a ≠ 215 ∧ a ≠ 217) (hc : c ≠ 206 ∧ c ≠ 210 ∧ c ≠ 211 ∧ c ≠ 212 ∧ c ≠ 213 ∧ c ≠ 214 ∧ c ≠ 215 ∧ c ≠ 217) : mV h' S := mV_of V (fun b hb => H b (by omega) (by omega))
section M15
variable {g : EG} {d t s : Nat} {h h1 : PH} {Q : EQ} {S : TS}
theorem lp_cw2 (B : sB S) (V1 : mV h1 S) {hour c : Nat} (hh : hour < 24) (hc : c < sC S) (hD : ∀ c, 0 ≤ c → c ≤ sC S → ∀ x, x < 256 → h1 219 (256 * c + x) = (savB S hour (sC S - c) x : Int)) :
    ∀ n j : Nat, j + n = 4 → (∃ x, j ≤ x ∧ x < 4 ∧ cdW S hour c (savB S hour (sC S - (c + 1))) (setW S hour c) (savB S hour (sC S - c) (setW S hour c)) x) → eX g 5 mX9_chooseWearing 134 [(0, .ref (gA g 205)), (1, .int (zI ↑hour)), (2, .int (zI (↑(setW S hour c ||| clS S c (fstW S hour c (savB S hour (sC S - (c + 1))) (setW S hour c) (savB S hour (sC S - c) (setW S hour c)) n j) : Nat)))), (3, .int (zI ↑c)), (4, .int (zI (↑(fstW S hour c (savB S hour (sC S - (c + 1))) (setW S hour c) (savB S hour (sC S - c) (setW S hour c)) n j)))), (5, .int (zI 1))] [] (tau t s) h1 Q → eX g 5 mX9_chooseWearing 25 [(0, .ref (gA g 205)), (1, .int (zI ↑hour)), (2, .int (zI ↑(setW S hour c))), (3, .int (zI ↑c)), (4, .int (zI ↑j)), (5, .int (zI 0))] [] (tau t s) h1 Q := by
  have hC8 := B.2.1
  have hset := setW_lt B hour c (by omega)
  intro n
  induction n with
  | zero => intro j hj hex; obtain ⟨x, h1, h2, -⟩ := hex; omega
  | succ n ih =>
    intro j hj hex k
    have hcs := clS_lt B hc j
    have hor : setW S hour c ||| clS S c j < 256 := Nat.or_lt_two_pow (n := 8) hset hcs
    have hfb := savB_le B hour (sC S - (c + 1)) (setW S hour c ||| clS S c j)
    have hfb2 := savB_le B hour (sC S - c) (setW S hour c)
    have hsp := spBy_le B c j
    have ha9 : clS S c j &&& setW S hour c ≤ setW S hour c := Nat.and_le_right
    by_cases hcl : clP S hour c j
    · refine eR_ild_5 dX9_chooseWearing_25 ?_
      refine eR_if_ne (tgt := 134) dX9_chooseWearing_27 (by decide) (by first | exact rg_b01 _ | (unfold rg; omega)) (fun c27 => absurd c27 (by decide)) (fun c27 => ?_)
      refine eR_aldn_0 dX9_chooseWearing_30 rfl ?_
      refine eR_ildn_1 dX9_chooseWearing_31 rfl ?_
      refine eR_ildn_3 dX9_chooseWearing_32 rfl ?_
      refine eR_ild_4 dX9_chooseWearing_33 ?_
      refine eR_callVi [_, _, _] rfl dX9_chooseWearing_35 ok_mX9_cladBy kw_1057 rfl rfl th_205 rfl (Nat.le_of_ble_eq_true rfl) (d' := 4) (by decide) (Nat.le_of_ble_eq_true rfl) ?_
      refine sp_cladBy (hour := hour) (c := c) (what := j) B V1 (by omega) (by omega) (by omega) ?_
      refine eX_pcI (show (clad S hour c j : Int) = ↑(clS S c j) from if_pos hcl) ?_
      refine eR_ist_n6 dX9_chooseWearing_38 (by decide) rfl ?_
      refine eR_ild_6 dX9_chooseWearing_40 ?_
      refine eR_if_lt (tgt := 96) dX9_chooseWearing_42 (by decide) (by first | exact rg_b01 _ | (unfold rg; omega)) (fun c42 => ?_) (fun c42 => ?_)
      · refine eR_ic dX9_chooseWearing_96 ?_
        refine eR_ist_5 dX9_chooseWearing_97 (by decide) rfl ?_
        refine eR_ildn_2 dX9_chooseWearing_99 rfl ?_
        refine eR_ild_5 dX9_chooseWearing_100 ?_
        refine eR_if_eq (tgt := 110) dX9_chooseWearing_102 (by decide) (by first | exact rg_b01 _ | (unfold rg; omega)) (fun c102 => ?_) (fun c102 => absurd c102 (by decide))
        refine eR_ic dX9_chooseWearing_110 ?_
        refine eR_ior dX9_chooseWearing_111 ?_
        refine eX_pcI (show (zOr ↑(setW S hour c) 0 : Int) = ↑(setW S hour c) from by first | exact zOr_nat (by omega) (by omega) | (rw [show (0 : Int) = ((0 : Nat) : Int) from rfl, zOr_nat (by omega) (by omega), Nat.or_zero])) ?_
        refine eR_istn_2 dX9_chooseWearing_112 rfl (by decide) rfl ?_
        refine eR_ild_4 dX9_chooseWearing_113 ?_
        refine eR_ild_5 dX9_chooseWearing_115 ?_
        refine eR_if_ne (tgt := 124) dX9_chooseWearing_117 (by decide) (by first | exact rg_b01 _ | (unfold rg; omega)) (fun c117 => absurd c117 (by decide)) (fun c117 => ?_)
        refine eR_ic dX9_chooseWearing_120 ?_
        refine eR_goto (tgt := 125) dX9_chooseWearing_121 (by decide) ?_
        refine eR_callSi [_] rfl dX9_chooseWearing_125 ok_mX9_one kw_1050 rfl rfl (Nat.le_of_ble_eq_true rfl) (d' := 0) (by decide) (Nat.le_of_ble_eq_true rfl) ?_
        refine sp_one (by first | exact b01_01 _ | omega) ?_
        refine eR_iadd dX9_chooseWearing_128 ?_
        refine eR_ist_4 dX9_chooseWearing_129 (by decide) rfl ?_
        refine eR_goto (tgt := 25) dX9_chooseWearing_131 (by decide) ?_
        refine eX_lv (lv2 := List.take 6 _) (fun q hq => List.mem_of_mem_take hq) ?_
        have q9 : ¬ cdW S hour c (savB S hour (sC S - (c + 1))) (setW S hour c) (savB S hour (sC S - c) (setW S hour c)) j := fun q => by have q1 := q.1; have q2 := q.2.1; have q3 := q.2.2; first | contradiction | omega
        rw [fstW_n q9] at k
        refine ih (j + 1) (by omega) ?_ k
        obtain ⟨x, hx1, hx2, hx3⟩ := hex
        refine ⟨x, ?_, hx2, hx3⟩
        rcases Nat.lt_or_ge j x with q | q
        · omega
        · exact absurd (by rw [show j = x from by omega]; exact hx3) q9
      · refine eR_ild_6 dX9_chooseWearing_45 ?_
        refine eR_ildn_2 dX9_chooseWearing_47 rfl ?_
        refine eR_iand dX9_chooseWearing_48 ?_
        refine eX_pcI (show (zAnd ↑(clS S c j) ↑(setW S hour c) : Int) = ↑(clS S c j &&& setW S hour c : Nat) from zAnd_nat (by omega)) ?_
        refine eR_if_ne (tgt := 96) dX9_chooseWearing_49 (by decide) (by first | exact rg_b01 _ | (unfold rg; omega)) (fun c49 => ?_) (fun c49 => ?_)
        · refine eR_ic dX9_chooseWearing_96 ?_
          refine eR_ist_5 dX9_chooseWearing_97 (by decide) rfl ?_
          refine eR_ildn_2 dX9_chooseWearing_99 rfl ?_
          refine eR_ild_5 dX9_chooseWearing_100 ?_
          refine eR_if_eq (tgt := 110) dX9_chooseWearing_102 (by decide) (by first | exact rg_b01 _ | (unfold rg; omega)) (fun c102 => ?_) (fun c102 => absurd c102 (by decide))
          refine eR_ic dX9_chooseWearing_110 ?_
          refine eR_ior dX9_chooseWearing_111 ?_
          refine eX_pcI (show (zOr ↑(setW S hour c) 0 : Int) = ↑(setW S hour c) from by first | exact zOr_nat (by omega) (by omega) | (rw [show (0 : Int) = ((0 : Nat) : Int) from rfl, zOr_nat (by omega) (by omega), Nat.or_zero])) ?_
          refine eR_istn_2 dX9_chooseWearing_112 rfl (by decide) rfl ?_
          refine eR_ild_4 dX9_chooseWearing_113 ?_
          refine eR_ild_5 dX9_chooseWearing_115 ?_
          refine eR_if_ne (tgt := 124) dX9_chooseWearing_117 (by decide) (by first | exact rg_b01 _ | (unfold rg; omega)) (fun c117 => absurd c117 (by decide)) (fun c117 => ?_)
          refine eR_ic dX9_chooseWearing_120 ?_
          refine eR_goto (tgt := 125) dX9_chooseWearing_121 (by decide) ?_
          refine eR_callSi [_] rfl dX9_chooseWearing_125 ok_mX9_one kw_1050 rfl rfl (Nat.le_of_ble_eq_true rfl) (d' := 0) (by decide) (Nat.le_of_ble_eq_true rfl) ?_
          refine sp_one (by first | exact b01_01 _ | omega) ?_
          refine eR_iadd dX9_chooseWearing_128 ?_
          refine eR_ist_4 dX9_chooseWearing_129 (by decide) rfl ?_
          refine eR_goto (tgt := 25) dX9_chooseWearing_131 (by decide) ?_
          refine eX_lv (lv2 := List.take 6 _) (fun q hq => List.mem_of_mem_take hq) ?_
          have q9 : ¬ cdW S hour c (savB S hour (sC S - (c + 1))) (setW S hour c) (savB S hour (sC S - c) (setW S hour c)) j := fun q => by have q1 := q.1; have q2 := q.2.1; have q3 := q.2.2; first | contradiction | omega
          rw [fstW_n q9] at k
          refine ih (j + 1) (by omega) ?_ k
          obtain ⟨x, hx1, hx2, hx3⟩ := hex
          refine ⟨x, ?_, hx2, hx3⟩
          rcases Nat.lt_or_ge j x with q | q
          · omega
          · exact absurd (by rw [show j = x from by omega]; exact hx3) q9
        · refine eR_aldn_0 dX9_chooseWearing_52 rfl ?_
          refine eR_ildn_3 dX9_chooseWearing_53 rfl ?_
          refine eR_ild_4 dX9_chooseWearing_54 ?_
          refine eR_callVi [_, _] rfl dX9_chooseWearing_56 ok_mX9_savedBy kw_1065 rfl rfl th_205 rfl (Nat.le_of_ble_eq_true rfl) (d' := 2) (by decide) (Nat.le_of_ble_eq_true rfl) ?_
          refine sp_savedBy (c := c) (what := j) B V1 (by omega) (by omega) ?_
          refine eR_aldn_0 dX9_chooseWearing_59 rfl ?_
          refine eR_getR (i := 219) dX9_chooseWearing_60 gf_X9_54 th_205 rfl ?_
          refine eR_si (z := 256) dX9_chooseWearing_63 rfl ?_
          refine eR_ildn_3 dX9_chooseWearing_66 rfl ?_
          refine eR_ic dX9_chooseWearing_67 ?_
          refine eR_iadd dX9_chooseWearing_68 ?_
          refine eR_imul dX9_chooseWearing_69 ?_
          refine eR_ildn_2 dX9_chooseWearing_70 rfl ?_
          refine eR_ild_6 dX9_chooseWearing_71 ?_
          refine eR_ior dX9_chooseWearing_73 ?_
          refine eX_pcI (show (zOr ↑(setW S hour c) ↑(clS S c j) : Int) = ↑(setW S hour c ||| clS S c j : Nat) from zOr_nat (by omega) (by omega)) ?_
          refine eR_iadd dX9_chooseWearing_74 ?_
          refine eR_iald (n := 256 * (c + 1) + (setW S hour c ||| clS S c j)) dX9_chooseWearing_75 th_219 (by omega) (by omega) (by decide) ?_
          refine eX_pcI (hD (c + 1) (by omega) (by omega) ((setW S hour c ||| clS S c j)) (by omega)) ?_
          refine eR_iadd dX9_chooseWearing_76 ?_
          refine eX_pcI (show (↑(spBy S c j) + (↑(savB S hour (sC S - (c + 1)) (setW S hour c ||| clS S c j))) : Int) = ↑(spBy S c j + savB S hour (sC S - (c + 1)) (setW S hour c ||| clS S c j) : Nat) from rfl) ?_
          refine eR_aldn_0 dX9_chooseWearing_77 rfl ?_
          refine eR_getR (i := 219) dX9_chooseWearing_78 gf_X9_54 th_205 rfl ?_
          refine eR_si (z := 256) dX9_chooseWearing_81 rfl ?_
          refine eR_ildn_3 dX9_chooseWearing_84 rfl ?_
          refine eR_imul dX9_chooseWearing_85 ?_
          refine eR_ildn_2 dX9_chooseWearing_86 rfl ?_
          refine eR_iadd dX9_chooseWearing_87 ?_
          refine eR_iald (n := 256 * c + setW S hour c) dX9_chooseWearing_88 th_219 (by omega) (by omega) (by decide) ?_
          refine eX_pcI (hD c (by omega) (by omega) (setW S hour c) (by omega)) ?_
          refine eR_icmp_ne (tgt := 96) dX9_chooseWearing_89 (by decide) (by first | exact rg_b01 _ | (unfold rg; omega)) (by first | exact rg_b01 _ | (unfold rg; omega)) (fun c89 => ?_) (fun c89 => ?_)
          · refine eR_ic dX9_chooseWearing_96 ?_
            refine eR_ist_5 dX9_chooseWearing_97 (by decide) rfl ?_
            refine eR_ildn_2 dX9_chooseWearing_99 rfl ?_
            refine eR_ild_5 dX9_chooseWearing_100 ?_
            refine eR_if_eq (tgt := 110) dX9_chooseWearing_102 (by decide) (by first | exact rg_b01 _ | (unfold rg; omega)) (fun c102 => ?_) (fun c102 => absurd c102 (by decide))
            refine eR_ic dX9_chooseWearing_110 ?_
            refine eR_ior dX9_chooseWearing_111 ?_
            refine eX_pcI (show (zOr ↑(setW S hour c) 0 : Int) = ↑(setW S hour c) from by first | exact zOr_nat (by omega) (by omega) | (rw [show (0 : Int) = ((0 : Nat) : Int) from rfl, zOr_nat (by omega) (by omega), Nat.or_zero])) ?_
            refine eR_istn_2 dX9_chooseWearing_112 rfl (by decide) rfl ?_
            refine eR_ild_4 dX9_chooseWearing_113 ?_
            refine eR_ild_5 dX9_chooseWearing_115 ?_
            refine eR_if_ne (tgt := 124) dX9_chooseWearing_117 (by decide) (by first | exact rg_b01 _ | (unfold rg; omega)) (fun c117 => absurd c117 (by decide)) (fun c117 => ?_)
            refine eR_ic dX9_chooseWearing_120 ?_
            refine eR_goto (tgt := 125) dX9_chooseWearing_121 (by decide) ?_
            refine eR_callSi [_] rfl dX9_chooseWearing_125 ok_mX9_one kw_1050 rfl rfl (Nat.le_of_ble_eq_true rfl) (d' := 0) (by decide) (Nat.le_of_ble_eq_true rfl) ?_
            refine sp_one (by first | exact b01_01 _ | omega) ?_
            refine eR_iadd dX9_chooseWearing_128 ?_
            refine eR_ist_4 dX9_chooseWearing_129 (by decide) rfl ?_
            refine eR_goto (tgt := 25) dX9_chooseWearing_131 (by decide) ?_
            refine eX_lv (lv2 := List.take 6 _) (fun q hq => List.mem_of_mem_take hq) ?_
            have q9 : ¬ cdW S hour c (savB S hour (sC S - (c + 1))) (setW S hour c) (savB S hour (sC S - c) (setW S hour c)) j := fun q => by have q1 := q.1; have q2 := q.2.1; have q3 := q.2.2; first | contradiction | omega
            rw [fstW_n q9] at k
            refine ih (j + 1) (by omega) ?_ k
            obtain ⟨x, hx1, hx2, hx3⟩ := hex
            refine ⟨x, ?_, hx2, hx3⟩
            rcases Nat.lt_or_ge j x with q | q
            · omega
            · exact absurd (by rw [show j = x from by omega]; exact hx3) q9
          · refine eR_ic dX9_chooseWearing_92 ?_
            refine eR_goto (tgt := 97) dX9_chooseWearing_93 (by decide) ?_
            refine eR_ist_5 dX9_chooseWearing_97 (by decide) rfl ?_
            refine eR_ildn_2 dX9_chooseWearing_99 rfl ?_
            refine eR_ild_5 dX9_chooseWearing_100 ?_
            refine eR_if_eq (tgt := 110) dX9_chooseWearing_102 (by decide) (by first | exact rg_b01 _ | (unfold rg; omega)) (fun c102 => absurd c102 (by decide)) (fun c102 => ?_)
            refine eR_ild_6 dX9_chooseWearing_105 ?_
            refine eR_goto (tgt := 111) dX9_chooseWearing_107 (by decide) ?_
            refine eR_ior dX9_chooseWearing_111 ?_
            refine eX_pcI (show (zOr ↑(setW S hour c) ↑(clS S c j) : Int) = ↑(setW S hour c ||| clS S c j : Nat) from by first | exact zOr_nat (by omega) (by omega) | (rw [show (0 : Int) = ((0 : Nat) : Int) from rfl, zOr_nat (by omega) (by omega), Nat.or_zero])) ?_
            refine eR_istn_2 dX9_chooseWearing_112 rfl (by decide) rfl ?_
            refine eR_ild_4 dX9_chooseWearing_113 ?_
            refine eR_ild_5 dX9_chooseWearing_115 ?_
            refine eR_if_ne (tgt := 124) dX9_chooseWearing_117 (by decide) (by first | exact rg_b01 _ | (unfold rg; omega)) (fun c117 => ?_) (fun c117 => absurd c117 (by decide))
            refine eR_ic dX9_chooseWearing_124 ?_
            refine eR_callSi [_] rfl dX9_chooseWearing_125 ok_mX9_one kw_1050 rfl rfl (Nat.le_of_ble_eq_true rfl) (d' := 0) (by decide) (Nat.le_of_ble_eq_true rfl) ?_
            refine sp_one (by first | exact b01_01 _ | omega) ?_
            refine eR_iadd dX9_chooseWearing_128 ?_
            refine eR_ist_4 dX9_chooseWearing_129 (by decide) rfl ?_
            refine eR_goto (tgt := 25) dX9_chooseWearing_131 (by decide) ?_
            refine eX_lv (lv2 := List.take 6 _) (fun q hq => List.mem_of_mem_take hq) ?_
            have q9 : cdW S hour c (savB S hour (sC S - (c + 1))) (setW S hour c) (savB S hour (sC S - c) (setW S hour c)) j := ⟨hcl, by omega, by omega⟩
            rw [fstW_y q9] at k
            refine eR_ild_5 dX9_chooseWearing_25 ?_
            refine eR_if_ne (tgt := 134) dX9_chooseWearing_27 (by decide) (by unfold rg; omega) (fun _ => ?_) (fun q => absurd q (by decide))
            exact k
    · refine eR_ild_5 dX9_chooseWearing_25 ?_
      refine eR_if_ne (tgt := 134) dX9_chooseWearing_27 (by decide) (by first | exact rg_b01 _ | (unfold rg; omega)) (fun c27 => absurd c27 (by decide)) (fun c27 => ?_)
      refine eR_aldn_0 dX9_chooseWearing_30 rfl ?_
      refine eR_ildn_1 dX9_chooseWearing_31 rfl ?_
      refine eR_ildn_3 dX9_chooseWearing_32 rfl ?_
      refine eR_ild_4 dX9_chooseWearing_33 ?_
      refine eR_callVi [_, _, _] rfl dX9_chooseWearing_35 ok_mX9_cladBy kw_1057 rfl rfl th_205 rfl (Nat.le_of_ble_eq_true rfl) (d' := 4) (by decide) (Nat.le_of_ble_eq_true rfl) ?_
      refine sp_cladBy (hour := hour) (c := c) (what := j) B V1 (by omega) (by omega) (by omega) ?_
      refine eX_pcI (show (clad S hour c j : Int) = (-1) from if_neg hcl) ?_
      refine eR_ist_n6 dX9_chooseWearing_38 (by decide) rfl ?_
      refine eR_ild_6 dX9_chooseWearing_40 ?_
      refine eR_if_lt (tgt := 96) dX9_chooseWearing_42 (by decide) (by first | exact rg_b01 _ | (unfold rg; omega)) (fun c42 => ?_) (fun c42 => absurd c42 (by decide))
      refine eR_ic dX9_chooseWearing_96 ?_
      refine eR_ist_5 dX9_chooseWearing_97 (by decide) rfl ?_
      refine eR_ildn_2 dX9_chooseWearing_99 rfl ?_
      refine eR_ild_5 dX9_chooseWearing_100 ?_
      refine eR_if_eq (tgt := 110) dX9_chooseWearing_102 (by decide) (by first | exact rg_b01 _ | (unfold rg; omega)) (fun c102 => ?_) (fun c102 => absurd c102 (by decide))
      refine eR_ic dX9_chooseWearing_110 ?_
      refine eR_ior dX9_chooseWearing_111 ?_
      refine eX_pcI (show (zOr ↑(setW S hour c) 0 : Int) = ↑(setW S hour c) from by first | exact zOr_nat (by omega) (by omega) | (rw [show (0 : Int) = ((0 : Nat) : Int) from rfl, zOr_nat (by omega) (by omega), Nat.or_zero])) ?_
      refine eR_istn_2 dX9_chooseWearing_112 rfl (by decide) rfl ?_
      refine eR_ild_4 dX9_chooseWearing_113 ?_
      refine eR_ild_5 dX9_chooseWearing_115 ?_
      refine eR_if_ne (tgt := 124) dX9_chooseWearing_117 (by decide) (by first | exact rg_b01 _ | (unfold rg; omega)) (fun c117 => absurd c117 (by decide)) (fun c117 => ?_)
      refine eR_ic dX9_chooseWearing_120 ?_
      refine eR_goto (tgt := 125) dX9_chooseWearing_121 (by decide) ?_
      refine eR_callSi [_] rfl dX9_chooseWearing_125 ok_mX9_one kw_1050 rfl rfl (Nat.le_of_ble_eq_true rfl) (d' := 0) (by decide) (Nat.le_of_ble_eq_true rfl) ?_
      refine sp_one (by first | exact b01_01 _ | omega) ?_
      refine eR_iadd dX9_chooseWearing_128 ?_
      refine eR_ist_4 dX9_chooseWearing_129 (by decide) rfl ?_
      refine eR_goto (tgt := 25) dX9_chooseWearing_131 (by decide) ?_
      refine eX_lv (lv2 := List.take 6 _) (fun q hq => List.mem_of_mem_take hq) ?_
      have q9 : ¬ cdW S hour c (savB S hour (sC S - (c + 1))) (setW S hour c) (savB S hour (sC S - c) (setW S hour c)) j := fun q => by have q1 := q.1; have q2 := q.2.1; have q3 := q.2.2; first | contradiction | omega
      rw [fstW_n q9] at k
      refine ih (j + 1) (by omega) ?_ k
      obtain ⟨x, hx1, hx2, hx3⟩ := hex
      refine ⟨x, ?_, hx2, hx3⟩
      rcases Nat.lt_or_ge j x with q | q
      · omega
      · exact absurd (by rw [show j = x from by omega]; exact hx3) q9
theorem lp_cw1 (B : sB S) (V : mV h S) {hour : Nat} (hh : hour < 24) (k : ∀ h1 : PH, of2 219 220 h h1 → (∀ x, x < sC S → h1 220 x = (wrW S hour x : Int)) → Q .null (tau t s) h1) :
    ∀ n c : Nat, c + n = sC S → ∀ h1 : PH, of2 219 220 h h1 → (∀ c, 0 ≤ c → c ≤ sC S → ∀ x, x < 256 → h1 219 (256 * c + x) = (savB S hour (sC S - c) x : Int)) → (∀ x, x < c → h1 220 x = (wrW S hour x : Int)) → eX g 5 mX9_chooseWearing 9 [(0, .ref (gA g 205)), (1, .int (zI ↑hour)), (2, .int (zI ↑(setW S hour c))), (3, .int (zI ↑c))] [] (tau t s) h1 Q := by
  have hC8 := B.2.1
  intro n
  induction n with
  | zero =>
    intro c hc h1 hO hD hw
    have V1 := mV_o2 V hO (by decide) (by decide)
    refine eR_ildn_3 dX9_chooseWearing_9 rfl ?_
    refine eR_aldn_0 dX9_chooseWearing_10 rfl ?_
    refine eR_getR (i := 217) dX9_chooseWearing_11 gf_X9_44 th_205 rfl ?_
    refine eR_ic dX9_chooseWearing_14 ?_
    refine eR_iald (n := 1) dX9_chooseWearing_15 th_217 (rfl) (by decide) (by decide) ?_
    refine eX_pcI (V1.2.1) ?_
    refine eR_icmp_ge (tgt := 148) dX9_chooseWearing_16 (by decide) (by first | exact rg_b01 _ | (unfold rg; omega)) (by first | exact rg_b01 _ | (unfold rg; omega)) (fun c16 => ?_) (fun c16 => absurd c16 (by omega))
    refine eR_vret dX9_chooseWearing_148 rfl ?_
    exact k h1 hO (fun x hx => hw x (by omega))
  | succ n ih =>
    intro c hc h1 hO hD hw
    have V1 := mV_o2 V hO (by decide) (by decide)
    have hw3 : wrW S hour c ≤ 4 := by have := fstW_le (S := S) (hour := hour) (c := c) (f := savB S hour (sC S - (c + 1))) (set := setW S hour c) (b := savB S hour (sC S - c) (setW S hour c)) 4 0; unfold wrW; omega
    refine eR_ildn_3 dX9_chooseWearing_9 rfl ?_
    refine eR_aldn_0 dX9_chooseWearing_10 rfl ?_
    refine eR_getR (i := 217) dX9_chooseWearing_11 gf_X9_44 th_205 rfl ?_
    refine eR_ic dX9_chooseWearing_14 ?_
    refine eR_iald (n := 1) dX9_chooseWearing_15 th_217 (rfl) (by decide) (by decide) ?_
    refine eX_pcI (V1.2.1) ?_
    refine eR_icmp_ge (tgt := 148) dX9_chooseWearing_16 (by decide) (by first | exact rg_b01 _ | (unfold rg; omega)) (by first | exact rg_b01 _ | (unfold rg; omega)) (fun c16 => absurd c16 (by omega)) (fun c16 => ?_)
    refine eR_ic dX9_chooseWearing_19 ?_
    refine eR_ist_n4 dX9_chooseWearing_20 (by decide) rfl ?_
    refine eR_ic dX9_chooseWearing_22 ?_
    refine eR_ist_n5 dX9_chooseWearing_23 (by decide) rfl ?_
    refine lp_cw2 B V1 hh (by omega) hD 4 0 (by omega) (by obtain ⟨j, q1, q2⟩ := savB_att (S := S) (hour := hour) (c := c) (set := setW S hour c) (by omega); exact ⟨j, by omega, q1, q2⟩) ?_
    refine eR_aldn_0 dX9_chooseWearing_134 rfl ?_
    refine eR_getR (i := 220) dX9_chooseWearing_135 gf_X9_57 th_205 rfl ?_
    refine eR_ildn_3 dX9_chooseWearing_138 rfl ?_
    refine eR_ild_4 dX9_chooseWearing_139 ?_
    refine eR_iast (n := c) dX9_chooseWearing_141 th_220 (rfl) (by omega) (by decide) ?_
    refine eR_iinc_3 dX9_chooseWearing_142 (by decide) rfl ?_
    refine eR_goto (tgt := 9) dX9_chooseWearing_145 (by decide) ?_
    refine eX_lv (lv2 := List.take 4 _) (fun q hq => List.mem_of_mem_take hq) ?_
    refine ih (c + 1) (by omega) _ (of2_w2 hO) ?_ ?_
    · intro c1 h1' h2' x hx
      rw [hU_a _ _ _ (by decide)]
      exact hD c1 h1' h2' x hx
    · intro x hx
      by_cases hxc : x = c
      · subst hxc
        exact hU_s _ _ _ _
      · rw [hU_i _ _ _ hxc]
        exact hw x (by omega)
theorem sp_chooseWearing (B : sB S) (V : mV h S) {hour : Nat} (hh : hour < 24) (k : ∀ h1 : PH, of2 219 220 h h1 → (∀ x, x < sC S → h1 220 x = (wrW S hour x : Int)) → Q .null (tau t s) h1) : eX g 6 mX9_chooseWearing 0 (lv_args 0 [.ref (gA g 205), .int (zI ↑hour)]) [] (tau t s) h Q := by
  show eX g 6 mX9_chooseWearing 0 [(0, .ref (gA g 205)), (1, .int (zI ↑hour))] [] (tau t s) h Q
  refine eR_aldn_0 dX9_chooseWearing_0 rfl ?_
  refine eR_ildn_1 dX9_chooseWearing_1 rfl ?_
  refine eR_callVv [_] rfl dX9_chooseWearing_2 ok_mX9_findWearing kw_1053 rfl rfl th_205 rfl (Nat.le_of_ble_eq_true rfl) (d' := 5) (by decide) (Nat.le_of_ble_eq_true rfl) ?_
  refine sp_findWearing (hour := hour) B V (by omega) (fun k2 Ok2 Dk2 => ?_)
  have Vk2 := mV_o V Ok2 (by decide)
  refine eR_ic dX9_chooseWearing_5 ?_
  refine eR_istn_n2 dX9_chooseWearing_6 rfl (by decide) rfl ?_
  refine eR_ic dX9_chooseWearing_7 ?_
  refine eR_istn_n3 dX9_chooseWearing_8 rfl (by decide) rfl ?_
  exact eX_d (by decide) (lp_cw1 B V hh k (sC S) 0 (by omega) _ (fun b h1 h2 => Ok2 b h1) Dk2 (fun x hx => absurd hx (Nat.not_lt_zero x)))
end M15
