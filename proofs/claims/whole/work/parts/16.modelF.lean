def rWhere (S : TS) (p hour : Int) : Int := if 0 ≤ p ∧ p ≤ (sP S : Int) - 1 then (if 0 ≤ hour ∧ hour ≤ 23 then whereIs S p.toNat hour.toNat else -1000000002) else -1000000001
def rLikes (S : TS) (p q : Int) : Int := if 0 ≤ p ∧ p ≤ (sP S : Int) - 1 then (if 0 ≤ q ∧ q ≤ (sP S : Int) - 1 then (if p ≠ q then (sL S p.toNat q.toNat : Int) else -1000000001) else -1000000001) else -1000000001
def rCoat (S : TS) (c what : Int) : Int := if 0 ≤ c ∧ c ≤ (sC S : Int) - 1 then (if what = 0 then (sO S c.toNat 0 : Int) else if what = 1 then (sO S c.toNat 1 : Int) else if what = 2 then (sW S c.toNat : Int) else if what = 3 then b01 ((sK S).testBit c.toNat = true) else -1000000002) else -1000000001
def rErrand (S : TS) (e what : Int) : Int := if 0 ≤ e ∧ e ≤ (sE S : Int) - 1 then (if what = 0 then (sR S e.toNat 0 : Int) else if what = 1 then (sR S e.toNat 1 : Int) else if what = 2 then (sR S e.toNat 2 : Int) else if what = 3 then (sR S e.toNat 3 : Int) else -1000000002) else -1000000001
/-- WISH, coat by coat -/
def wsN (S : TS) (p : Nat) : Nat → Nat
  | 0 => 0
  | c + 1 => wsN S p c + (if (sK S).testBit c = true then 0 else if sO S c 0 = p then sL S p (sO S c 1) else if sO S c 1 = p then sL S p (sO S c 0) else 0)
def rWish (S : TS) (p : Int) : Int := if 0 ≤ p ∧ p ≤ (sP S : Int) - 1 then (wsN S p.toNat (sC S) : Int) else -1000000001
theorem wsN_le {S : TS} (B : sB S) {p : Nat} (hp : p < sP S) : ∀ c, c ≤ sC S → wsN S p c ≤ 99 * c := by
  intro c
  induction c with
  | zero => intro _; exact Nat.le_refl _
  | succ c ih =>
    intro hc
    have ho := B.2.2.2.1 c (by omega)
    have h1 := B.2.2.2.2.2.2.2 p (sO S c 1) hp ho.2.1
    have h2 := B.2.2.2.2.2.2.2 p (sO S c 0) hp ho.1
    have h3 := ih (by omega)
    unfold wsN
    (repeat' split) <;> omega
section M16
variable {g : EG} {d t s : Nat} {h h1 : PH} {Q : EQ} {S : TS}
theorem sp_where (B : sB S) (V : mV h S) {p : Int} (hr_p : rg p) {hour : Int} (hr_hour : rg hour) (k : Q (.int (zI (rWhere S p hour))) (tau t s) h) : eX g 3 mX9_where 0 (lv_args 0 [.ref (gA g 205), .int (zI p), .int (zI hour)]) [] (tau t s) h Q := by
  show eX g 3 mX9_where 0 [(0, .ref (gA g 205)), (1, .int (zI p)), (2, .int (zI hour))] [] (tau t s) h Q
  have hP8 := B.1
  have hC8 := B.2.1
  have hE10 := B.2.2.1
  have hF99 := B.2.2.2.2.2.2.1
  by_cases hq1 : 0 ≤ p ∧ p ≤ ↑(sP S) - 1
  · obtain ⟨pn, rfl⟩ : ∃ pn : Nat, p = (pn : Int) := ⟨p.toNat, by omega⟩
    by_cases hq2 : 0 ≤ hour ∧ hour ≤ 23
    · obtain ⟨hn, rfl⟩ : ∃ hn : Nat, hour = (hn : Int) := ⟨hour.toNat, by omega⟩
      refine eR_aldn_0 dX9_where_0 rfl ?_
      refine eR_ildn_1 dX9_where_1 rfl ?_
      refine eR_callVi [_] rfl dX9_where_2 ok_mX9_isPerson kw_1098 rfl rfl th_205 rfl (Nat.le_of_ble_eq_true rfl) (d' := 1) (by decide) (Nat.le_of_ble_eq_true rfl) ?_
      refine sp_isPerson B V (by first | assumption | (unfold rg; omega)) ?_
      refine eR_if_ne (tgt := 11) dX9_where_5 (by decide) (by first | assumption | exact rg_b01 _ | (unfold rg; omega) | (unfold rg at *; omega)) (fun c5 => ?_) (fun c5 => absurd c5 (by simp [b01, hq1]))
      refine eR_ildn_2 dX9_where_11 rfl ?_
      refine eR_i2lz dX9_where_12 (by first | assumption | exact rg_b01 _ | (unfold rg; omega) | (unfold rg at *; omega)) ?_
      refine eR_lc (z := 0) dX9_where_13 rfl ?_
      refine eR_ldc2 (z := 23) dX9_where_14 kw_1102 (by decide) ?_
      refine eR_callSi [_, _, _] rfl dX9_where_17 ok_mX9_in kw_952 rfl rfl (Nat.le_of_ble_eq_true rfl) (d' := 0) (by decide) (Nat.le_of_ble_eq_true rfl) ?_
      refine sp_in (by first | (unfold rL; omega) | (unfold rL; unfold rg at *; omega)) (by first | (unfold rL; omega) | (unfold rL; unfold rg at *; omega)) (by first | (unfold rL; omega) | (unfold rL; unfold rg at *; omega)) ?_
      refine eR_if_eq (tgt := 32) dX9_where_20 (by decide) (by first | assumption | exact rg_b01 _ | (unfold rg; omega) | (unfold rg at *; omega)) (fun c20 => absurd c20 (by simp [b01, hq2])) (fun c20 => ?_)
      refine eR_aldn_0 dX9_where_23 rfl ?_
      refine eR_ildn_1 dX9_where_24 rfl ?_
      refine eR_ildn_2 dX9_where_25 rfl ?_
      refine eR_callVi [_, _] rfl dX9_where_26 ok_mX9_whereIs kw_1039 rfl rfl th_205 rfl (Nat.le_of_ble_eq_true rfl) (d' := 2) (by decide) (Nat.le_of_ble_eq_true rfl) ?_
      refine sp_whereIs (p := pn) (hour := hn) B V (by omega) (by omega) ?_
      refine eR_goto (tgt := 34) dX9_where_29 (by decide) ?_
      refine eR_iret dX9_where_34 rfl rfl ?_
      rw [show (rWhere S ↑pn ↑hn : Int) = whereIs S pn hn from by unfold rWhere; (repeat' split) <;> first | rfl | omega | simp_all] at k; exact k
    · refine eR_aldn_0 dX9_where_0 rfl ?_
      refine eR_ildn_1 dX9_where_1 rfl ?_
      refine eR_callVi [_] rfl dX9_where_2 ok_mX9_isPerson kw_1098 rfl rfl th_205 rfl (Nat.le_of_ble_eq_true rfl) (d' := 1) (by decide) (Nat.le_of_ble_eq_true rfl) ?_
      refine sp_isPerson B V (by first | assumption | (unfold rg; omega)) ?_
      refine eR_if_ne (tgt := 11) dX9_where_5 (by decide) (by first | assumption | exact rg_b01 _ | (unfold rg; omega) | (unfold rg at *; omega)) (fun c5 => ?_) (fun c5 => absurd c5 (by simp [b01, hq1]))
      refine eR_ildn_2 dX9_where_11 rfl ?_
      refine eR_i2lz dX9_where_12 (by first | assumption | exact rg_b01 _ | (unfold rg; omega) | (unfold rg at *; omega)) ?_
      refine eR_lc (z := 0) dX9_where_13 rfl ?_
      refine eR_ldc2 (z := 23) dX9_where_14 kw_1102 (by decide) ?_
      refine eR_callSi [_, _, _] rfl dX9_where_17 ok_mX9_in kw_952 rfl rfl (Nat.le_of_ble_eq_true rfl) (d' := 0) (by decide) (Nat.le_of_ble_eq_true rfl) ?_
      refine sp_in (by first | (unfold rL; omega) | (unfold rL; unfold rg at *; omega)) (by first | (unfold rL; omega) | (unfold rL; unfold rg at *; omega)) (by first | (unfold rL; omega) | (unfold rL; unfold rg at *; omega)) ?_
      refine eR_if_eq (tgt := 32) dX9_where_20 (by decide) (by first | assumption | exact rg_b01 _ | (unfold rg; omega) | (unfold rg at *; omega)) (fun c20 => ?_) (fun c20 => absurd c20 (by simp [b01, hq2]))
      refine eR_ldc (z := -1000000002) dX9_where_32 kw_955 (by decide) ?_
      refine eR_iret dX9_where_34 rfl rfl ?_
      rw [show (rWhere S ↑pn hour : Int) = (-1000000002) from by unfold rWhere; (repeat' split) <;> first | rfl | omega | simp_all] at k; exact k
  · refine eR_aldn_0 dX9_where_0 rfl ?_
    refine eR_ildn_1 dX9_where_1 rfl ?_
    refine eR_callVi [_] rfl dX9_where_2 ok_mX9_isPerson kw_1098 rfl rfl th_205 rfl (Nat.le_of_ble_eq_true rfl) (d' := 1) (by decide) (Nat.le_of_ble_eq_true rfl) ?_
    refine sp_isPerson B V (by first | assumption | (unfold rg; omega)) ?_
    refine eR_if_ne (tgt := 11) dX9_where_5 (by decide) (by first | assumption | exact rg_b01 _ | (unfold rg; omega) | (unfold rg at *; omega)) (fun c5 => absurd c5 (by simp [b01, hq1])) (fun c5 => ?_)
    refine eR_ldc (z := -1000000001) dX9_where_8 kw_1089 (by decide) ?_
    refine eR_iret dX9_where_10 rfl rfl ?_
    rw [show (rWhere S p hour : Int) = (-1000000001) from by unfold rWhere; (repeat' split) <;> first | rfl | omega | simp_all] at k; exact k
theorem sp_likes (B : sB S) (V : mV h S) {p : Int} (hr_p : rg p) {q : Int} (hr_q : rg q) (k : Q (.int (zI (rLikes S p q))) (tau t s) h) : eX g 2 mX9_likes 0 (lv_args 0 [.ref (gA g 205), .int (zI p), .int (zI q)]) [] (tau t s) h Q := by
  show eX g 2 mX9_likes 0 [(0, .ref (gA g 205)), (1, .int (zI p)), (2, .int (zI q))] [] (tau t s) h Q
  have hP8 := B.1
  have hC8 := B.2.1
  have hE10 := B.2.2.1
  have hF99 := B.2.2.2.2.2.2.1
  by_cases hq1 : 0 ≤ p ∧ p ≤ ↑(sP S) - 1
  · obtain ⟨pn, rfl⟩ : ∃ pn : Nat, p = (pn : Int) := ⟨p.toNat, by omega⟩
    by_cases hq2 : 0 ≤ q ∧ q ≤ ↑(sP S) - 1
    · obtain ⟨qn, rfl⟩ : ∃ qn : Nat, q = (qn : Int) := ⟨q.toNat, by omega⟩
      refine eR_aldn_0 dX9_likes_0 rfl ?_
      refine eR_ildn_1 dX9_likes_1 rfl ?_
      refine eR_callVi [_] rfl dX9_likes_2 ok_mX9_isPerson kw_1098 rfl rfl th_205 rfl (Nat.le_of_ble_eq_true rfl) (d' := 1) (by decide) (Nat.le_of_ble_eq_true rfl) ?_
      refine sp_isPerson B V (by first | assumption | (unfold rg; omega)) ?_
      refine eR_if_eq (tgt := 35) dX9_likes_5 (by decide) (by first | assumption | exact rg_b01 _ | (unfold rg; omega) | (unfold rg at *; omega)) (fun c5 => absurd c5 (by simp [b01, hq1])) (fun c5 => ?_)
      refine eR_aldn_0 dX9_likes_8 rfl ?_
      refine eR_ildn_2 dX9_likes_9 rfl ?_
      refine eR_callVi [_] rfl dX9_likes_10 ok_mX9_isPerson kw_1098 rfl rfl th_205 rfl (Nat.le_of_ble_eq_true rfl) (d' := 1) (by decide) (Nat.le_of_ble_eq_true rfl) ?_
      refine sp_isPerson B V (by first | assumption | (unfold rg; omega)) ?_
      refine eR_if_eq (tgt := 35) dX9_likes_13 (by decide) (by first | assumption | exact rg_b01 _ | (unfold rg; omega) | (unfold rg at *; omega)) (fun c13 => absurd c13 (by simp [b01, hq2])) (fun c13 => ?_)
      refine eR_ildn_1 dX9_likes_16 rfl ?_
      refine eR_ildn_2 dX9_likes_17 rfl ?_
      refine eR_icmp_eq (tgt := 35) dX9_likes_18 (by decide) (by first | assumption | exact rg_b01 _ | (unfold rg; omega) | (unfold rg at *; omega)) (by first | assumption | exact rg_b01 _ | (unfold rg; omega) | (unfold rg at *; omega)) (fun c18 => ?_) (fun c18 => ?_)
      · refine eR_ldc (z := -1000000001) dX9_likes_35 kw_1089 (by decide) ?_
        refine eR_iret dX9_likes_37 rfl rfl ?_
        rw [show (rLikes S ↑pn ↑qn : Int) = (-1000000001) from by unfold rLikes; (repeat' split) <;> first | rfl | omega | simp_all] at k; exact k
      · refine eR_aldn_0 dX9_likes_21 rfl ?_
        refine eR_getR (i := 215) dX9_likes_22 gf_X9_38 th_205 rfl ?_
        refine eR_bi (z := 8) dX9_likes_25 rfl ?_
        refine eR_ildn_1 dX9_likes_27 rfl ?_
        refine eR_imul dX9_likes_28 ?_
        refine eR_ildn_2 dX9_likes_29 rfl ?_
        refine eR_iadd dX9_likes_30 ?_
        refine eR_iald (n := 8 * pn + qn) dX9_likes_31 th_215 (by omega) (by omega) (by decide) ?_
        refine eX_pcI (V.2.2.2.2.2.2.2 pn qn (by omega) (by omega)) ?_
        refine eR_goto (tgt := 37) dX9_likes_32 (by decide) ?_
        refine eR_iret dX9_likes_37 rfl rfl ?_
        rw [show (rLikes S ↑pn ↑qn : Int) = ↑(sL S pn qn) from by unfold rLikes; (repeat' split) <;> first | rfl | omega | simp_all] at k; exact k
    · refine eR_aldn_0 dX9_likes_0 rfl ?_
      refine eR_ildn_1 dX9_likes_1 rfl ?_
      refine eR_callVi [_] rfl dX9_likes_2 ok_mX9_isPerson kw_1098 rfl rfl th_205 rfl (Nat.le_of_ble_eq_true rfl) (d' := 1) (by decide) (Nat.le_of_ble_eq_true rfl) ?_
      refine sp_isPerson B V (by first | assumption | (unfold rg; omega)) ?_
      refine eR_if_eq (tgt := 35) dX9_likes_5 (by decide) (by first | assumption | exact rg_b01 _ | (unfold rg; omega) | (unfold rg at *; omega)) (fun c5 => absurd c5 (by simp [b01, hq1])) (fun c5 => ?_)
      refine eR_aldn_0 dX9_likes_8 rfl ?_
      refine eR_ildn_2 dX9_likes_9 rfl ?_
      refine eR_callVi [_] rfl dX9_likes_10 ok_mX9_isPerson kw_1098 rfl rfl th_205 rfl (Nat.le_of_ble_eq_true rfl) (d' := 1) (by decide) (Nat.le_of_ble_eq_true rfl) ?_
      refine sp_isPerson B V (by first | assumption | (unfold rg; omega)) ?_
      refine eR_if_eq (tgt := 35) dX9_likes_13 (by decide) (by first | assumption | exact rg_b01 _ | (unfold rg; omega) | (unfold rg at *; omega)) (fun c13 => ?_) (fun c13 => absurd c13 (by simp [b01, hq2]))
      refine eR_ldc (z := -1000000001) dX9_likes_35 kw_1089 (by decide) ?_
      refine eR_iret dX9_likes_37 rfl rfl ?_
      rw [show (rLikes S ↑pn q : Int) = (-1000000001) from by unfold rLikes; (repeat' split) <;> first | rfl | omega | simp_all] at k; exact k
  · refine eR_aldn_0 dX9_likes_0 rfl ?_
    refine eR_ildn_1 dX9_likes_1 rfl ?_
    refine eR_callVi [_] rfl dX9_likes_2 ok_mX9_isPerson kw_1098 rfl rfl th_205 rfl (Nat.le_of_ble_eq_true rfl) (d' := 1) (by decide) (Nat.le_of_ble_eq_true rfl) ?_
    refine sp_isPerson B V (by first | assumption | (unfold rg; omega)) ?_
    refine eR_if_eq (tgt := 35) dX9_likes_5 (by decide) (by first | assumption | exact rg_b01 _ | (unfold rg; omega) | (unfold rg at *; omega)) (fun c5 => ?_) (fun c5 => absurd c5 (by simp [b01, hq1]))
    refine eR_ldc (z := -1000000001) dX9_likes_35 kw_1089 (by decide) ?_
    refine eR_iret dX9_likes_37 rfl rfl ?_
    rw [show (rLikes S p q : Int) = (-1000000001) from by unfold rLikes; (repeat' split) <;> first | rfl | omega | simp_all] at k; exact k
theorem sp_coat (B : sB S) (V : mV h S) {c : Int} (hr_c : rg c) {what : Int} (hr_what : rg what) (k : Q (.int (zI (rCoat S c what))) (tau t s) h) : eX g 2 mX9_coat 0 (lv_args 0 [.ref (gA g 205), .int (zI c), .int (zI what)]) [] (tau t s) h Q := by
  show eX g 2 mX9_coat 0 [(0, .ref (gA g 205)), (1, .int (zI c)), (2, .int (zI what))] [] (tau t s) h Q
  have hP8 := B.1
  have hC8 := B.2.1
  have hE10 := B.2.2.1
  have hF99 := B.2.2.2.2.2.2.1
  by_cases hq1 : 0 ≤ c ∧ c ≤ ↑(sC S) - 1
  · obtain ⟨cn, rfl⟩ : ∃ cn : Nat, c = (cn : Int) := ⟨c.toNat, by omega⟩
    refine eR_aldn_0 dX9_coat_0 rfl ?_
    refine eR_ildn_1 dX9_coat_1 rfl ?_
    refine eR_callVi [_] rfl dX9_coat_2 ok_mX9_isCoat kw_1085 rfl rfl th_205 rfl (Nat.le_of_ble_eq_true rfl) (d' := 1) (by decide) (Nat.le_of_ble_eq_true rfl) ?_
    refine sp_isCoat B V (by first | assumption | (unfold rg; omega)) ?_
    refine eR_if_ne (tgt := 11) dX9_coat_5 (by decide) (by first | assumption | exact rg_b01 _ | (unfold rg; omega) | (unfold rg at *; omega)) (fun c5 => ?_) (fun c5 => absurd c5 (by simp [b01, hq1]))
    refine eR_ildn_2 dX9_coat_11 rfl ?_
    refine eR_if_ne (tgt := 24) dX9_coat_12 (by decide) (by first | assumption | exact rg_b01 _ | (unfold rg; omega) | (unfold rg at *; omega)) (fun c12 => ?_) (fun c12 => ?_)
    · refine eR_ildn_2 dX9_coat_24 rfl ?_
      refine eR_ic dX9_coat_25 ?_
      refine eR_icmp_ne (tgt := 41) dX9_coat_26 (by decide) (by first | assumption | exact rg_b01 _ | (unfold rg; omega) | (unfold rg at *; omega)) (by first | assumption | exact rg_b01 _ | (unfold rg; omega) | (unfold rg at *; omega)) (fun c26 => ?_) (fun c26 => ?_)
      · refine eR_ildn_2 dX9_coat_41 rfl ?_
        refine eR_ic dX9_coat_42 ?_
        refine eR_icmp_ne (tgt := 55) dX9_coat_43 (by decide) (by first | assumption | exact rg_b01 _ | (unfold rg; omega) | (unfold rg at *; omega)) (by first | assumption | exact rg_b01 _ | (unfold rg; omega) | (unfold rg at *; omega)) (fun c43 => ?_) (fun c43 => ?_)
        · refine eR_ildn_2 dX9_coat_55 rfl ?_
          refine eR_ic dX9_coat_56 ?_
          refine eR_icmp_ne (tgt := 71) dX9_coat_57 (by decide) (by first | assumption | exact rg_b01 _ | (unfold rg; omega) | (unfold rg at *; omega)) (by first | assumption | exact rg_b01 _ | (unfold rg; omega) | (unfold rg at *; omega)) (fun c57 => ?_) (fun c57 => ?_)
          · refine eR_ldc (z := -1000000002) dX9_coat_71 kw_955 (by decide) ?_
            refine eR_iret dX9_coat_73 rfl rfl ?_
            rw [show (rCoat S ↑cn what : Int) = (-1000000002) from by unfold rCoat; (repeat' split) <;> first | rfl | omega | simp_all] at k; exact k
          · refine eR_aldn_0 dX9_coat_60 rfl ?_
            refine eR_ildn_1 dX9_coat_61 rfl ?_
            refine eR_callVi [_] rfl dX9_coat_62 ok_mX9_isCut kw_1061 rfl rfl th_205 rfl (Nat.le_of_ble_eq_true rfl) (d' := 1) (by decide) (Nat.le_of_ble_eq_true rfl) ?_
            refine sp_isCut (c := cn) B V (by omega) ?_
            refine eR_callSi [_] rfl dX9_coat_65 ok_mX9_one kw_1050 rfl rfl (Nat.le_of_ble_eq_true rfl) (d' := 0) (by decide) (Nat.le_of_ble_eq_true rfl) ?_
            refine sp_one (by first | exact b01_01 _ | omega) ?_
            refine eR_goto (tgt := 73) dX9_coat_68 (by decide) ?_
            refine eR_iret dX9_coat_73 rfl rfl ?_
            rw [show (rCoat S ↑cn what : Int) = b01 ((sK S).testBit cn = true) from by unfold rCoat; (repeat' split) <;> first | rfl | omega | simp_all] at k; exact k
        · refine eR_aldn_0 dX9_coat_46 rfl ?_
          refine eR_getR (i := 210) dX9_coat_47 gf_X9_23 th_205 rfl ?_
          refine eR_ildn_1 dX9_coat_50 rfl ?_
          refine eR_iald (n := cn) dX9_coat_51 th_210 (rfl) (by omega) (by decide) ?_
          refine eX_pcI ((V.2.2.2.1 cn (by omega)).2.2) ?_
          refine eR_goto (tgt := 73) dX9_coat_52 (by decide) ?_
          refine eR_iret dX9_coat_73 rfl rfl ?_
          rw [show (rCoat S ↑cn what : Int) = ↑(sW S cn) from by unfold rCoat; (repeat' split) <;> first | rfl | omega | simp_all] at k; exact k
      · refine eR_aldn_0 dX9_coat_29 rfl ?_
        refine eR_getR (i := 206) dX9_coat_30 gf_X9_7 th_205 rfl ?_
        refine eR_bi (z := 8) dX9_coat_33 rfl ?_
        refine eR_ildn_1 dX9_coat_35 rfl ?_
        refine eR_iadd dX9_coat_36 ?_
        refine eR_iald (n := 8 + cn) dX9_coat_37 th_206 (by omega) (by omega) (by decide) ?_
        refine eX_pcI ((V.2.2.2.1 cn (by omega)).2.1) ?_
        refine eR_goto (tgt := 73) dX9_coat_38 (by decide) ?_
        refine eR_iret dX9_coat_73 rfl rfl ?_
        rw [show (rCoat S ↑cn what : Int) = ↑(sO S cn 1) from by unfold rCoat; (repeat' split) <;> first | rfl | omega | simp_all] at k; exact k
    · refine eR_aldn_0 dX9_coat_15 rfl ?_
      refine eR_getR (i := 206) dX9_coat_16 gf_X9_7 th_205 rfl ?_
      refine eR_ildn_1 dX9_coat_19 rfl ?_
      refine eR_iald (n := cn) dX9_coat_20 th_206 (rfl) (by omega) (by decide) ?_
      refine eX_pcI ((V.2.2.2.1 cn (by omega)).1) ?_
      refine eR_goto (tgt := 73) dX9_coat_21 (by decide) ?_
      refine eR_iret dX9_coat_73 rfl rfl ?_
      rw [show (rCoat S ↑cn what : Int) = ↑(sO S cn 0) from by unfold rCoat; (repeat' split) <;> first | rfl | omega | simp_all] at k; exact k
  · refine eR_aldn_0 dX9_coat_0 rfl ?_
    refine eR_ildn_1 dX9_coat_1 rfl ?_
    refine eR_callVi [_] rfl dX9_coat_2 ok_mX9_isCoat kw_1085 rfl rfl th_205 rfl (Nat.le_of_ble_eq_true rfl) (d' := 1) (by decide) (Nat.le_of_ble_eq_true rfl) ?_
    refine sp_isCoat B V (by first | assumption | (unfold rg; omega)) ?_
    refine eR_if_ne (tgt := 11) dX9_coat_5 (by decide) (by first | assumption | exact rg_b01 _ | (unfold rg; omega) | (unfold rg at *; omega)) (fun c5 => absurd c5 (by simp [b01, hq1])) (fun c5 => ?_)
    refine eR_ldc (z := -1000000001) dX9_coat_8 kw_1089 (by decide) ?_
    refine eR_iret dX9_coat_10 rfl rfl ?_
    rw [show (rCoat S c what : Int) = (-1000000001) from by unfold rCoat; (repeat' split) <;> first | rfl | omega | simp_all] at k; exact k
theorem sp_errand (B : sB S) (V : mV h S) {e : Int} (hr_e : rg e) {what : Int} (hr_what : rg what) (k : Q (.int (zI (rErrand S e what))) (tau t s) h) : eX g 2 mX9_errand 0 (lv_args 0 [.ref (gA g 205), .int (zI e), .int (zI what)]) [] (tau t s) h Q := by
  show eX g 2 mX9_errand 0 [(0, .ref (gA g 205)), (1, .int (zI e)), (2, .int (zI what))] [] (tau t s) h Q
  have hP8 := B.1
  have hC8 := B.2.1
  have hE10 := B.2.2.1
  have hF99 := B.2.2.2.2.2.2.1
  by_cases hq1 : 0 ≤ e ∧ e ≤ ↑(sE S) - 1
  · obtain ⟨en, rfl⟩ : ∃ en : Nat, e = (en : Int) := ⟨e.toNat, by omega⟩
    refine eR_ildn_1 dX9_errand_0 rfl ?_
    refine eR_i2lz dX9_errand_1 (by first | assumption | exact rg_b01 _ | (unfold rg; omega) | (unfold rg at *; omega)) ?_
    refine eR_lc (z := 0) dX9_errand_2 rfl ?_
    refine eR_aldn_0 dX9_errand_3 rfl ?_
    refine eR_getR (i := 217) dX9_errand_4 gf_X9_44 th_205 rfl ?_
    refine eR_ic dX9_errand_7 ?_
    refine eR_iald (n := 2) dX9_errand_8 th_217 (rfl) (by decide) (by decide) ?_
    refine eX_pcI (V.2.2.1) ?_
    refine eR_ic dX9_errand_9 ?_
    refine eR_isub dX9_errand_10 ?_
    refine eR_i2lz dX9_errand_11 (by first | assumption | exact rg_b01 _ | (unfold rg; omega) | (unfold rg at *; omega)) ?_
    refine eR_callSi [_, _, _] rfl dX9_errand_12 ok_mX9_in kw_952 rfl rfl (Nat.le_of_ble_eq_true rfl) (d' := 0) (by decide) (Nat.le_of_ble_eq_true rfl) ?_
    refine sp_in (by first | (unfold rL; omega) | (unfold rL; unfold rg at *; omega)) (by first | (unfold rL; omega) | (unfold rL; unfold rg at *; omega)) (by first | (unfold rL; omega) | (unfold rL; unfold rg at *; omega)) ?_
    refine eR_if_ne (tgt := 21) dX9_errand_15 (by decide) (by first | assumption | exact rg_b01 _ | (unfold rg; omega) | (unfold rg at *; omega)) (fun c15 => ?_) (fun c15 => ?_)
    · replace c15 := b01_ne0.mp c15
      refine eR_ildn_2 dX9_errand_21 rfl ?_
      refine eR_if_ne (tgt := 34) dX9_errand_22 (by decide) (by first | assumption | exact rg_b01 _ | (unfold rg; omega) | (unfold rg at *; omega)) (fun c22 => ?_) (fun c22 => ?_)
      · refine eR_ildn_2 dX9_errand_34 rfl ?_
        refine eR_ic dX9_errand_35 ?_
        refine eR_icmp_ne (tgt := 48) dX9_errand_36 (by decide) (by first | assumption | exact rg_b01 _ | (unfold rg; omega) | (unfold rg at *; omega)) (by first | assumption | exact rg_b01 _ | (unfold rg; omega) | (unfold rg at *; omega)) (fun c36 => ?_) (fun c36 => ?_)
        · refine eR_ildn_2 dX9_errand_48 rfl ?_
          refine eR_ic dX9_errand_49 ?_
          refine eR_icmp_ne (tgt := 62) dX9_errand_50 (by decide) (by first | assumption | exact rg_b01 _ | (unfold rg; omega) | (unfold rg at *; omega)) (by first | assumption | exact rg_b01 _ | (unfold rg; omega) | (unfold rg at *; omega)) (fun c50 => ?_) (fun c50 => ?_)
          · refine eR_ildn_2 dX9_errand_62 rfl ?_
            refine eR_ic dX9_errand_63 ?_
            refine eR_icmp_ne (tgt := 76) dX9_errand_64 (by decide) (by first | assumption | exact rg_b01 _ | (unfold rg; omega) | (unfold rg at *; omega)) (by first | assumption | exact rg_b01 _ | (unfold rg; omega) | (unfold rg at *; omega)) (fun c64 => ?_) (fun c64 => ?_)
            · refine eR_ldc (z := -1000000002) dX9_errand_76 kw_955 (by decide) ?_
              refine eR_iret dX9_errand_78 rfl rfl ?_
              rw [show (rErrand S ↑en what : Int) = (-1000000002) from by unfold rErrand; (repeat' split) <;> first | rfl | omega | simp_all] at k; exact k
            · refine eR_aldn_0 dX9_errand_67 rfl ?_
              refine eR_getR (i := 214) dX9_errand_68 gf_X9_35 th_205 rfl ?_
              refine eR_ildn_1 dX9_errand_71 rfl ?_
              refine eR_iald (n := en) dX9_errand_72 th_214 (rfl) (by omega) (by decide) ?_
              refine eX_pcI ((V.2.2.2.2.1 en (by omega)).2.2.2) ?_
              refine eR_goto (tgt := 78) dX9_errand_73 (by decide) ?_
              refine eR_iret dX9_errand_78 rfl rfl ?_
              rw [show (rErrand S ↑en what : Int) = ↑(sR S en 3) from by unfold rErrand; (repeat' split) <;> first | rfl | omega | simp_all] at k; exact k
          · refine eR_aldn_0 dX9_errand_53 rfl ?_
            refine eR_getR (i := 213) dX9_errand_54 gf_X9_32 th_205 rfl ?_
            refine eR_ildn_1 dX9_errand_57 rfl ?_
            refine eR_iald (n := en) dX9_errand_58 th_213 (rfl) (by omega) (by decide) ?_
            refine eX_pcI ((V.2.2.2.2.1 en (by omega)).2.2.1) ?_
            refine eR_goto (tgt := 78) dX9_errand_59 (by decide) ?_
            refine eR_iret dX9_errand_78 rfl rfl ?_
            rw [show (rErrand S ↑en what : Int) = ↑(sR S en 2) from by unfold rErrand; (repeat' split) <;> first | rfl | omega | simp_all] at k; exact k
        · refine eR_aldn_0 dX9_errand_39 rfl ?_
          refine eR_getR (i := 212) dX9_errand_40 gf_X9_29 th_205 rfl ?_
          refine eR_ildn_1 dX9_errand_43 rfl ?_
          refine eR_iald (n := en) dX9_errand_44 th_212 (rfl) (by omega) (by decide) ?_
          refine eX_pcI ((V.2.2.2.2.1 en (by omega)).2.1) ?_
          refine eR_goto (tgt := 78) dX9_errand_45 (by decide) ?_
          refine eR_iret dX9_errand_78 rfl rfl ?_
          rw [show (rErrand S ↑en what : Int) = ↑(sR S en 1) from by unfold rErrand; (repeat' split) <;> first | rfl | omega | simp_all] at k; exact k
      · refine eR_aldn_0 dX9_errand_25 rfl ?_
        refine eR_getR (i := 211) dX9_errand_26 gf_X9_26 th_205 rfl ?_
        refine eR_ildn_1 dX9_errand_29 rfl ?_
        refine eR_iald (n := en) dX9_errand_30 th_211 (rfl) (by omega) (by decide) ?_
        refine eX_pcI ((V.2.2.2.2.1 en (by omega)).1) ?_
        refine eR_goto (tgt := 78) dX9_errand_31 (by decide) ?_
        refine eR_iret dX9_errand_78 rfl rfl ?_
        rw [show (rErrand S ↑en what : Int) = ↑(sR S en 0) from by unfold rErrand; (repeat' split) <;> first | rfl | omega | simp_all] at k; exact k
    · replace c15 := b01_eq0.mp c15
      refine eR_ldc (z := -1000000001) dX9_errand_18 kw_1089 (by decide) ?_
      refine eR_iret dX9_errand_20 rfl rfl ?_
      rw [show (rErrand S ↑en what : Int) = (-1000000001) from by unfold rErrand; (repeat' split) <;> first | rfl | omega | simp_all] at k; exact k
  · refine eR_ildn_1 dX9_errand_0 rfl ?_
    refine eR_i2lz dX9_errand_1 (by first | assumption | exact rg_b01 _ | (unfold rg; omega) | (unfold rg at *; omega)) ?_
    refine eR_lc (z := 0) dX9_errand_2 rfl ?_
    refine eR_aldn_0 dX9_errand_3 rfl ?_
    refine eR_getR (i := 217) dX9_errand_4 gf_X9_44 th_205 rfl ?_
    refine eR_ic dX9_errand_7 ?_
    refine eR_iald (n := 2) dX9_errand_8 th_217 (rfl) (by decide) (by decide) ?_
    refine eX_pcI (V.2.2.1) ?_
    refine eR_ic dX9_errand_9 ?_
    refine eR_isub dX9_errand_10 ?_
    refine eR_i2lz dX9_errand_11 (by first | assumption | exact rg_b01 _ | (unfold rg; omega) | (unfold rg at *; omega)) ?_
    refine eR_callSi [_, _, _] rfl dX9_errand_12 ok_mX9_in kw_952 rfl rfl (Nat.le_of_ble_eq_true rfl) (d' := 0) (by decide) (Nat.le_of_ble_eq_true rfl) ?_
    refine sp_in (by first | (unfold rL; omega) | (unfold rL; unfold rg at *; omega)) (by first | (unfold rL; omega) | (unfold rL; unfold rg at *; omega)) (by first | (unfold rL; omega) | (unfold rL; unfold rg at *; omega)) ?_
    refine eR_if_ne (tgt := 21) dX9_errand_15 (by decide) (by first | assumption | exact rg_b01 _ | (unfold rg; omega) | (unfold rg at *; omega)) (fun c15 => ?_) (fun c15 => ?_)
    · replace c15 := b01_ne0.mp c15
      refine eR_ildn_2 dX9_errand_21 rfl ?_
      refine eR_if_ne (tgt := 34) dX9_errand_22 (by decide) (by first | assumption | exact rg_b01 _ | (unfold rg; omega) | (unfold rg at *; omega)) (fun c22 => ?_) (fun c22 => ?_)
      · refine eR_ildn_2 dX9_errand_34 rfl ?_
        refine eR_ic dX9_errand_35 ?_
        refine eR_icmp_ne (tgt := 48) dX9_errand_36 (by decide) (by first | assumption | exact rg_b01 _ | (unfold rg; omega) | (unfold rg at *; omega)) (by first | assumption | exact rg_b01 _ | (unfold rg; omega) | (unfold rg at *; omega)) (fun c36 => ?_) (fun c36 => ?_)
        · refine eR_ildn_2 dX9_errand_48 rfl ?_
          refine eR_ic dX9_errand_49 ?_
          refine eR_icmp_ne (tgt := 62) dX9_errand_50 (by decide) (by first | assumption | exact rg_b01 _ | (unfold rg; omega) | (unfold rg at *; omega)) (by first | assumption | exact rg_b01 _ | (unfold rg; omega) | (unfold rg at *; omega)) (fun c50 => ?_) (fun c50 => ?_)
          · refine eR_ildn_2 dX9_errand_62 rfl ?_
            refine eR_ic dX9_errand_63 ?_
            refine eR_icmp_ne (tgt := 76) dX9_errand_64 (by decide) (by first | assumption | exact rg_b01 _ | (unfold rg; omega) | (unfold rg at *; omega)) (by first | assumption | exact rg_b01 _ | (unfold rg; omega) | (unfold rg at *; omega)) (fun c64 => ?_) (fun c64 => ?_)
            · refine eR_ldc (z := -1000000002) dX9_errand_76 kw_955 (by decide) ?_
              refine eR_iret dX9_errand_78 rfl rfl ?_
              rw [show (rErrand S e what : Int) = (-1000000002) from by unfold rErrand; (repeat' split) <;> first | rfl | omega | simp_all] at k; exact k
            · refine eR_aldn_0 dX9_errand_67 rfl ?_
              refine eR_getR (i := 214) dX9_errand_68 gf_X9_35 th_205 rfl ?_
              refine eR_ildn_1 dX9_errand_71 rfl ?_
              refine eR_iald (n := e.toNat) dX9_errand_72 th_214 (by omega) (by omega) (by decide) ?_
              refine eR_goto (tgt := 78) dX9_errand_73 (by decide) ?_
              refine eR_iret dX9_errand_78 rfl rfl ?_
              rw [show (rErrand S e what : Int) = h 214 e.toNat from by unfold rErrand; (repeat' split) <;> first | rfl | omega | simp_all] at k; exact k
          · refine eR_aldn_0 dX9_errand_53 rfl ?_
            refine eR_getR (i := 213) dX9_errand_54 gf_X9_32 th_205 rfl ?_
            refine eR_ildn_1 dX9_errand_57 rfl ?_
            refine eR_iald (n := e.toNat) dX9_errand_58 th_213 (by omega) (by omega) (by decide) ?_
            refine eR_goto (tgt := 78) dX9_errand_59 (by decide) ?_
            refine eR_iret dX9_errand_78 rfl rfl ?_
            rw [show (rErrand S e what : Int) = h 213 e.toNat from by unfold rErrand; (repeat' split) <;> first | rfl | omega | simp_all] at k; exact k
        · refine eR_aldn_0 dX9_errand_39 rfl ?_
          refine eR_getR (i := 212) dX9_errand_40 gf_X9_29 th_205 rfl ?_
          refine eR_ildn_1 dX9_errand_43 rfl ?_
          refine eR_iald (n := e.toNat) dX9_errand_44 th_212 (by omega) (by omega) (by decide) ?_
          refine eR_goto (tgt := 78) dX9_errand_45 (by decide) ?_
          refine eR_iret dX9_errand_78 rfl rfl ?_
          rw [show (rErrand S e what : Int) = h 212 e.toNat from by unfold rErrand; (repeat' split) <;> first | rfl | omega | simp_all] at k; exact k
      · refine eR_aldn_0 dX9_errand_25 rfl ?_
        refine eR_getR (i := 211) dX9_errand_26 gf_X9_26 th_205 rfl ?_
        refine eR_ildn_1 dX9_errand_29 rfl ?_
        refine eR_iald (n := e.toNat) dX9_errand_30 th_211 (by omega) (by omega) (by decide) ?_
        refine eR_goto (tgt := 78) dX9_errand_31 (by decide) ?_
        refine eR_iret dX9_errand_78 rfl rfl ?_
        rw [show (rErrand S e what : Int) = h 211 e.toNat from by unfold rErrand; (repeat' split) <;> first | rfl | omega | simp_all] at k; exact k
    · replace c15 := b01_eq0.mp c15
      refine eR_ldc (z := -1000000001) dX9_errand_18 kw_1089 (by decide) ?_
      refine eR_iret dX9_errand_20 rfl rfl ?_
      rw [show (rErrand S e what : Int) = (-1000000001) from by unfold rErrand; (repeat' split) <;> first | rfl | omega | simp_all] at k; exact k
theorem lp_wishOf (B : sB S) (V : mV h S) {p : Nat} (hp : p < sP S) (k : Q (.int (zI ↑(wsN S p (sC S)))) (tau t s) h) : ∀ n c : Nat, c + n = sC S → eX g 2 mX9_wishOf 4 [(0, .ref (gA g 205)), (1, .int (zI ↑p)), (2, .int (zI ↑(wsN S p c))), (3, .int (zI ↑c))] [] (tau t s) h Q := by
  have hP8 := B.1
  have hC8 := B.2.1
  have hE10 := B.2.2.1
  have hF99 := B.2.2.2.2.2.2.1
  intro n
  induction n with
  | zero =>
    intro c hc
    refine eR_ildn_3 dX9_wishOf_4 rfl ?_
    refine eR_aldn_0 dX9_wishOf_5 rfl ?_
    refine eR_getR (i := 217) dX9_wishOf_6 gf_X9_44 th_205 rfl ?_
    refine eR_ic dX9_wishOf_9 ?_
    refine eR_iald (n := 1) dX9_wishOf_10 th_217 (rfl) (by decide) (by decide) ?_
    refine eX_pcI (V.2.1) ?_
    refine eR_icmp_ge (tgt := 100) dX9_wishOf_11 (by decide) (by first | exact rg_b01 _ | (unfold rg; omega)) (by first | exact rg_b01 _ | (unfold rg; omega)) (fun c11 => ?_) (fun c11 => absurd c11 (by omega))
    refine eR_ildn_2 dX9_wishOf_100 rfl ?_
    refine eR_iret dX9_wishOf_101 rfl rfl ?_
    have e9 : c = sC S := by omega
    subst e9
    exact k
  | succ n ih =>
    intro c hc
    have ho9 := B.2.2.2.1 c (by omega)
    refine eR_ildn_3 dX9_wishOf_4 rfl ?_
    refine eR_aldn_0 dX9_wishOf_5 rfl ?_
    refine eR_getR (i := 217) dX9_wishOf_6 gf_X9_44 th_205 rfl ?_
    refine eR_ic dX9_wishOf_9 ?_
    refine eR_iald (n := 1) dX9_wishOf_10 th_217 (rfl) (by decide) (by decide) ?_
    refine eX_pcI (V.2.1) ?_
    refine eR_icmp_ge (tgt := 100) dX9_wishOf_11 (by decide) (by first | exact rg_b01 _ | (unfold rg; omega)) (by first | exact rg_b01 _ | (unfold rg; omega)) (fun c11 => absurd c11 (by omega)) (fun c11 => ?_)
    refine eR_ildn_2 dX9_wishOf_14 rfl ?_
    refine eR_aldn_0 dX9_wishOf_15 rfl ?_
    refine eR_ildn_3 dX9_wishOf_16 rfl ?_
    refine eR_callVi [_] rfl dX9_wishOf_17 ok_mX9_isCut kw_1061 rfl rfl th_205 rfl (Nat.le_of_ble_eq_true rfl) (d' := 1) (by decide) (Nat.le_of_ble_eq_true rfl) ?_
    refine sp_isCut (c := c) B V (by omega) ?_
    refine eR_if_eq (tgt := 27) dX9_wishOf_20 (by decide) (by first | exact rg_b01 _ | (unfold rg; omega)) (fun c20 => ?_) (fun c20 => ?_)
    · replace c20 := b01_eq0.mp c20
      refine eR_aldn_0 dX9_wishOf_27 rfl ?_
      refine eR_getR (i := 206) dX9_wishOf_28 gf_X9_7 th_205 rfl ?_
      refine eR_ildn_3 dX9_wishOf_31 rfl ?_
      refine eR_iald (n := c) dX9_wishOf_32 th_206 (rfl) (by omega) (by decide) ?_
      refine eX_pcI ((V.2.2.2.1 c (by omega)).1) ?_
      refine eR_ildn_1 dX9_wishOf_33 rfl ?_
      refine eR_icmp_ne (tgt := 59) dX9_wishOf_34 (by decide) (by first | exact rg_b01 _ | (unfold rg; omega)) (by first | exact rg_b01 _ | (unfold rg; omega)) (fun c34 => ?_) (fun c34 => ?_)
      · refine eR_aldn_0 dX9_wishOf_59 rfl ?_
        refine eR_getR (i := 206) dX9_wishOf_60 gf_X9_7 th_205 rfl ?_
        refine eR_bi (z := 8) dX9_wishOf_63 rfl ?_
        refine eR_ildn_3 dX9_wishOf_65 rfl ?_
        refine eR_iadd dX9_wishOf_66 ?_
        refine eR_iald (n := 8 + c) dX9_wishOf_67 th_206 (by omega) (by omega) (by decide) ?_
        refine eX_pcI ((V.2.2.2.1 c (by omega)).2.1) ?_
        refine eR_ildn_1 dX9_wishOf_68 rfl ?_
        refine eR_icmp_ne (tgt := 91) dX9_wishOf_69 (by decide) (by first | exact rg_b01 _ | (unfold rg; omega)) (by first | exact rg_b01 _ | (unfold rg; omega)) (fun c69 => ?_) (fun c69 => ?_)
        · refine eR_ic dX9_wishOf_91 ?_
          refine eR_iadd dX9_wishOf_92 ?_
          refine eR_istn_2 dX9_wishOf_93 rfl (by decide) rfl ?_
          refine eR_iinc_3 dX9_wishOf_94 (by decide) rfl ?_
          refine eR_goto (tgt := 4) dX9_wishOf_97 (by decide) ?_
          rw [show (↑(wsN S p c) + 0 : Int) = ↑(wsN S p (c + 1)) from by rw [wsN]; (repeat' split) <;> first | rfl | omega | simp_all]; exact ih (c + 1) (by omega)
        · refine eR_aldn_0 dX9_wishOf_72 rfl ?_
          refine eR_getR (i := 215) dX9_wishOf_73 gf_X9_38 th_205 rfl ?_
          refine eR_bi (z := 8) dX9_wishOf_76 rfl ?_
          refine eR_ildn_1 dX9_wishOf_78 rfl ?_
          refine eR_imul dX9_wishOf_79 ?_
          refine eR_aldn_0 dX9_wishOf_80 rfl ?_
          refine eR_getR (i := 206) dX9_wishOf_81 gf_X9_7 th_205 rfl ?_
          refine eR_ildn_3 dX9_wishOf_84 rfl ?_
          refine eR_iald (n := c) dX9_wishOf_85 th_206 (rfl) (by omega) (by decide) ?_
          refine eX_pcI ((V.2.2.2.1 c (by omega)).1) ?_
          refine eR_iadd dX9_wishOf_86 ?_
          refine eR_iald (n := 8 * p + sO S c 0) dX9_wishOf_87 th_215 (by omega) (by omega) (by decide) ?_
          refine eX_pcI (V.2.2.2.2.2.2.2 p (sO S c 0) (by omega) (by omega)) ?_
          refine eR_goto (tgt := 92) dX9_wishOf_88 (by decide) ?_
          refine eR_iadd dX9_wishOf_92 ?_
          refine eR_istn_2 dX9_wishOf_93 rfl (by decide) rfl ?_
          refine eR_iinc_3 dX9_wishOf_94 (by decide) rfl ?_
          refine eR_goto (tgt := 4) dX9_wishOf_97 (by decide) ?_
          rw [show (↑(wsN S p c) + (↑(sL S p (sO S c 0))) : Int) = ↑(wsN S p (c + 1)) from by rw [wsN]; (repeat' split) <;> first | rfl | omega | simp_all]; exact ih (c + 1) (by omega)
      · refine eR_aldn_0 dX9_wishOf_37 rfl ?_
        refine eR_getR (i := 215) dX9_wishOf_38 gf_X9_38 th_205 rfl ?_
        refine eR_bi (z := 8) dX9_wishOf_41 rfl ?_
        refine eR_ildn_1 dX9_wishOf_43 rfl ?_
        refine eR_imul dX9_wishOf_44 ?_
        refine eR_aldn_0 dX9_wishOf_45 rfl ?_
        refine eR_getR (i := 206) dX9_wishOf_46 gf_X9_7 th_205 rfl ?_
        refine eR_bi (z := 8) dX9_wishOf_49 rfl ?_
        refine eR_ildn_3 dX9_wishOf_51 rfl ?_
        refine eR_iadd dX9_wishOf_52 ?_
        refine eR_iald (n := 8 + c) dX9_wishOf_53 th_206 (by omega) (by omega) (by decide) ?_
        refine eX_pcI ((V.2.2.2.1 c (by omega)).2.1) ?_
        refine eR_iadd dX9_wishOf_54 ?_
        refine eR_iald (n := 8 * p + sO S c 1) dX9_wishOf_55 th_215 (by omega) (by omega) (by decide) ?_
        refine eX_pcI (V.2.2.2.2.2.2.2 p (sO S c 1) (by omega) (by omega)) ?_
        refine eR_goto (tgt := 92) dX9_wishOf_56 (by decide) ?_
        refine eR_iadd dX9_wishOf_92 ?_
        refine eR_istn_2 dX9_wishOf_93 rfl (by decide) rfl ?_
        refine eR_iinc_3 dX9_wishOf_94 (by decide) rfl ?_
        refine eR_goto (tgt := 4) dX9_wishOf_97 (by decide) ?_
        rw [show (↑(wsN S p c) + (↑(sL S p (sO S c 1))) : Int) = ↑(wsN S p (c + 1)) from by rw [wsN]; (repeat' split) <;> first | rfl | omega | simp_all]; exact ih (c + 1) (by omega)
    · replace c20 := b01_ne0.mp c20
      refine eR_ic dX9_wishOf_23 ?_
      refine eR_goto (tgt := 92) dX9_wishOf_24 (by decide) ?_
      refine eR_iadd dX9_wishOf_92 ?_
      refine eR_istn_2 dX9_wishOf_93 rfl (by decide) rfl ?_
      refine eR_iinc_3 dX9_wishOf_94 (by decide) rfl ?_
      refine eR_goto (tgt := 4) dX9_wishOf_97 (by decide) ?_
      rw [show (↑(wsN S p c) + 0 : Int) = ↑(wsN S p (c + 1)) from by rw [wsN]; (repeat' split) <;> first | rfl | omega | simp_all]; exact ih (c + 1) (by omega)
theorem sp_wishOf (B : sB S) (V : mV h S) {p : Nat} (hp : p < sP S) (k : Q (.int (zI ↑(wsN S p (sC S)))) (tau t s) h) : eX g 2 mX9_wishOf 0 (lv_args 0 [.ref (gA g 205), .int (zI ↑p)]) [] (tau t s) h Q := by
  show eX g 2 mX9_wishOf 0 [(0, .ref (gA g 205)), (1, .int (zI ↑p))] [] (tau t s) h Q
  refine eR_ic dX9_wishOf_0 ?_
  refine eR_istn_n2 dX9_wishOf_1 rfl (by decide) rfl ?_
  refine eR_ic dX9_wishOf_2 ?_
  refine eR_istn_n3 dX9_wishOf_3 rfl (by decide) rfl ?_
  exact lp_wishOf B V hp k (sC S) 0 (by omega)
theorem sp_wish (B : sB S) (V : mV h S) {p : Int} (hr_p : rg p) (k : Q (.int (zI (rWish S p))) (tau t s) h) : eX g 3 mX9_wish 0 (lv_args 0 [.ref (gA g 205), .int (zI p)]) [] (tau t s) h Q := by
  show eX g 3 mX9_wish 0 [(0, .ref (gA g 205)), (1, .int (zI p))] [] (tau t s) h Q
  have hP8 := B.1
  have hC8 := B.2.1
  have hE10 := B.2.2.1
  have hF99 := B.2.2.2.2.2.2.1
  by_cases hq1 : 0 ≤ p ∧ p ≤ ↑(sP S) - 1
  · obtain ⟨pn, rfl⟩ : ∃ pn : Nat, p = (pn : Int) := ⟨p.toNat, by omega⟩
    refine eR_aldn_0 dX9_wish_0 rfl ?_
    refine eR_ildn_1 dX9_wish_1 rfl ?_
    refine eR_callVi [_] rfl dX9_wish_2 ok_mX9_isPerson kw_1098 rfl rfl th_205 rfl (Nat.le_of_ble_eq_true rfl) (d' := 1) (by decide) (Nat.le_of_ble_eq_true rfl) ?_
    refine sp_isPerson B V (by first | assumption | (unfold rg; omega)) ?_
    refine eR_if_eq (tgt := 16) dX9_wish_5 (by decide) (by first | assumption | exact rg_b01 _ | (unfold rg; omega) | (unfold rg at *; omega)) (fun c5 => absurd c5 (by simp [b01, hq1])) (fun c5 => ?_)
    refine eR_aldn_0 dX9_wish_8 rfl ?_
    refine eR_ildn_1 dX9_wish_9 rfl ?_
    refine eR_callVi [_] rfl dX9_wish_10 ok_mX9_wishOf kw_1164 rfl rfl th_205 rfl (Nat.le_of_ble_eq_true rfl) (d' := 2) (by decide) (Nat.le_of_ble_eq_true rfl) ?_
    refine sp_wishOf (p := pn) B V (by omega) ?_
    refine eR_goto (tgt := 18) dX9_wish_13 (by decide) ?_
    refine eR_iret dX9_wish_18 rfl rfl ?_
    rw [show (rWish S ↑pn : Int) = ↑(wsN S pn (sC S)) from by unfold rWish; (repeat' split) <;> first | rfl | omega | simp_all] at k; exact k
  · refine eR_aldn_0 dX9_wish_0 rfl ?_
    refine eR_ildn_1 dX9_wish_1 rfl ?_
    refine eR_callVi [_] rfl dX9_wish_2 ok_mX9_isPerson kw_1098 rfl rfl th_205 rfl (Nat.le_of_ble_eq_true rfl) (d' := 1) (by decide) (Nat.le_of_ble_eq_true rfl) ?_
    refine sp_isPerson B V (by first | assumption | (unfold rg; omega)) ?_
    refine eR_if_eq (tgt := 16) dX9_wish_5 (by decide) (by first | assumption | exact rg_b01 _ | (unfold rg; omega) | (unfold rg at *; omega)) (fun c5 => ?_) (fun c5 => absurd c5 (by simp [b01, hq1]))
    refine eR_ldc (z := -1000000001) dX9_wish_16 kw_1089 (by decide) ?_
    refine eR_iret dX9_wish_18 rfl rfl ?_
    rw [show (rWish S p : Int) = (-1000000001) from by unfold rWish; (repeat' split) <;> first | rfl | omega | simp_all] at k; exact k
end M16
