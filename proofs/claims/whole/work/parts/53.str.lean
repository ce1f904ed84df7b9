section STR
variable {g : EG} {d d' : Nat} {M M' : MM} {pc : Nat} {lv : List (Nat × Value)} {st st0 : List Value} {τ : List Kd} {h : PH} {Q : EQ}
/-! String constants: length() and charAt(), by their places -/
theorem eR_ldcS {i : Nat} (hF : gF g = true) (hi : i < 5) (hc : M.1.cls = RX4) (hd : decode M.2.1 pc = .ok (.ldc (e_sx i), 2)) (k : eX g d M (pc + 2) lv (.ref (gK g i) :: st) τ h Q) : eX g d M pc lv st τ h Q := by
  intro p l e R s m args below meth c H locs cells slots Fin C hH hS ls hl
  have hZ := (C.2.1.2 hF).1 i hi
  refine va_ldcS C.1.1 C.1.2.1 (own := RX4) (by rw [← hc]; exact C.1.2.2.2.1) hZ hd ?_
  exact k p l e R s m args below meth c H locs cells slots Fin C hH hS ls hl
theorem eR_strV {i : Nat} (hF : gF g = true) (hi : i < 5) (hc : M.1.cls = RJ0) (hd : decode M.2.1 pc = .ok (.getfield 9, 3)) (k : eX g d M (pc + 3) lv (.ref (gV g i) :: st) τ h Q) : eX g d M pc lv (.ref (gK g i) :: st) τ h Q := by
  intro p l e R s m args below meth c H locs cells slots Fin C hH hS ls hl
  have hZ := ((C.2.1.2 hF).2.1.1 i hi).2.2.1
  refine vk_getf C.1.1 C.1.2.1 (own := RJ0) (ref := RJ0) hZ hS (by rw [← hc]; exact C.1.2.2.2.1) (C.1.2.2.2.2 _ kw_1271) (fun x hx => hx) hd ?_
  exact k p l e R s m args below meth c H locs cells slots Fin C hH hS ls hl
theorem eR_strC {i : Nat} (hF : gF g = true) (hi : i < 5) (hc : M.1.cls = RJ0) (hd : decode M.2.1 pc = .ok (.getfield 15, 3)) (k : eX g d M (pc + 3) lv (.int (zI 0) :: st) τ h Q) : eX g d M pc lv (.ref (gK g i) :: st) τ h Q := by
  intro p l e R s m args below meth c H locs cells slots Fin C hH hS ls hl
  have hZ := ((C.2.1.2 hF).2.1.1 i hi).2.1
  refine vk_getf C.1.1 C.1.2.1 (own := RJ0) (ref := RJ0) hZ hS (by rw [← hc]; exact C.1.2.2.2.1) (C.1.2.2.2.2 _ kw_1272) (fun x hx => hx) hd ?_
  exact k p l e R s m args below meth c H locs cells slots Fin C hH hS ls hl
theorem e_len_lt : ∀ i, i < 5 → e_len.getD i 0 < 7 := by decide
theorem eR_strL {i : Nat} (hF : gF g = true) (hi : i < 5) (hd : decode M.2.1 pc = .ok (.arraylength, 1)) (k : eX g d M (pc + 1) lv (.int (zI ↑(e_len.getD i 0)) :: st) τ h Q) : eX g d M pc lv (.ref (gV g i) :: st) τ h Q := by
  intro p l e R s m args below meth c H locs cells slots Fin C hH hS ls hl
  have hZ := ((C.2.1.2 hF).2.1.1 i hi).2.2.2
  refine va_tlen C.1.1 C.1.2.1 hZ hS (v := zI ↑(e_len.getD i 0)) (zI_nI _).symm hd ?_
  exact k p l e R s m args below meth c H locs cells slots Fin C hH hS ls hl
theorem eR_strB {i j : Nat} (hF : gF g = true) (hi : i < 5) (hj : j < e_len.getD i 0) (hd : decode M.2.1 pc = .ok (.baload, 1)) (k : eX g d M (pc + 1) lv (.int ((e_byt.getD i []).getD j 0) :: st) τ h Q) : eX g d M pc lv (.int (zI ↑j) :: .ref (gV g i) :: st) τ h Q := by
  intro p l e R s m args below meth c H locs cells slots Fin C hH hS ls hl
  have hZ := ((C.2.1.2 hF).2.1.1 i hi).2.2.2
  have h7 := e_len_lt i hi
  refine va_tb C.1.1 C.1.2.1 hZ hS (zI_in hj (by omega)) (v := .int ((e_byt.getD i []).getD j 0)) (by rw [zI_cl (by omega)]) hd ?_
  exact k p l e R s m args below meth c H locs cells slots Fin C hH hS ls hl
theorem eR_strK (hF : gF g = true) (hc : M.1.cls = RJ0) (hd : decode M.2.1 pc = .ok (.getstatic 38, 3)) (k : eX g d M (pc + 3) lv (.int (zI 1) :: st) τ h Q) : eX g d M pc lv st τ h Q := by
  intro p l e R s m args below meth c H locs cells slots Fin C hH hS ls hl
  have hZ := (C.2.1.2 hF).2.2.1
  refine va_gets C.1.1 C.1.2.1 (own := RJ0) (ref := RJ0) hZ hS (by rw [← hc]; exact C.1.2.2.2.1) (C.1.2.2.2.2 _ kw_394) (fun x hx => hx) hd ?_
  exact k p l e R s m args below meth c H locs cells slots Fin C hH hS ls hl
theorem eR_strF (hF : gF g = true) (hc : M.1.cls = RJ0) (hd : decode M.2.1 pc = .ok (.getstatic 1053, 3)) (k0 : eX g d M (pc + 3) lv (.null :: st) τ h Q) (k1 : ∀ t, eX g d M (pc + 3) lv (.ref t :: st) τ h Q) : eX g d M pc lv st τ h Q := by
  intro p l e R s m args below meth c H locs cells slots Fin C hH hS ls hl
  rcases (C.2.1.2 hF).2.2.2.1 with hZ | ⟨t, hZ⟩
  · refine va_gets C.1.1 C.1.2.1 (own := RJ0) (ref := "jdk/internal/util/Preconditions") hZ hS (by rw [← hc]; exact C.1.2.2.2.1) (C.1.2.2.2.2 _ kw_410) (fun x hx => hx) hd ?_
    exact k0 p l e R s m args below meth c H locs cells slots Fin C hH hS ls hl
  · refine va_gets C.1.1 C.1.2.1 (own := RJ0) (ref := "jdk/internal/util/Preconditions") hZ hS (by rw [← hc]; exact C.1.2.2.2.1) (C.1.2.2.2.2 _ kw_410) (fun x hx => hx) hd ?_
    exact k1 t p l e R s m args below meth c H locs cells slots Fin C hH hS ls hl
/-- a call of a method of a String constant -/
theorem eR_callKi {idx i : Nat} {ty : FieldType} (hF : gF g = true) (hi : i < 5) (As : List Value) (hst : st0 = As.reverse ++ .ref (gK g i) :: st) (hd : decode M.2.1 pc = .ok (.invokevirtual idx, 3)) (hok : okV M') (hcs : M'.1.cls = "java/lang/String") (hlk : Cond.methodLink M.1.cls idx M'.1 ∈ lw_gd) (hr : M'.2.2.2.1 = some ty)
    (hn : As.length = M'.2.2.2.2) (hlen : (lg_sl (.ref (gK g i) :: As)).length ≤ M'.2.2.1) (hdd : d' + 1 ≤ d) (hcat : (st.map fun v => v.category).sum ≤ 8)
    (k9 : eX g d' M' 0 (lv_args 0 (.ref (gK g i) :: As)) [] τ h (fun v τ' h' => eX g d M (pc + 3) lv (v :: st) τ' h' Q)) : eX g d M pc lv st0 τ h Q := by
  intro p l e R s m args below meth c H locs cells slots Fin C hH hS ls hl
  subst hst
  have hMet := e_met_i l hok.1 hr hlen k9
  have hrc := vk_recv (C.2.1.2 hF).2.1 hi hS
  rw [← hcs] at hrc
  exact va_calli (va_runV (As := As) (rest := st) C.1 hMet (cwV M'.2.2.2.2 C.1.2.2.2.2 (e_gV hok hlk) rfl rfl rfl ⟨rfl, hok.1.2.2.1⟩ (e_room hok.1 hdd C.2.2.1 C.2.2.2.1)) ⟨e_blind, hrc, e_start C.2.1 hH hS⟩ rfl hn hl.1 rfl (lv_room hcat) hd ⟨C.2.2.2.2.1, C.2.2.2.2.2.1⟩) hS (fun q _ hq => hq) (fun q hq => hq) (fun r u t H1 locs1 ht1 hvm hw hB hz hk hS1 => by
    have hB1 : eH g u.1 u.2 t.heap := hB
    rw [ht1] at hB1
    exact hw p l e R s m args below meth c H1 locs1 cells slots Fin C hB1 hS1 ls hl)
theorem eR_i2c {x v : Int32} (hd : decode M.2.1 pc = .ok (.i2c, 1)) (hv : (x.toUInt32 % 65536).toInt32 = v) (k : eX g d M (pc + 1) lv (.int v :: st) τ h Q) : eX g d M pc lv (.int x :: st) τ h Q := by
  intro p l e R s m args below meth c H locs cells slots Fin C hH hS ls hl
  refine lv_i2c C.1.1 C.1.2.1 hd hv ?_
  exact k p l e R s m args below meth c H locs cells slots Fin C hH hS ls hl
theorem sp_coder {i : Nat} (hF : gF g = true) (hi : i < 5) (k : Q (.int (zI 0)) τ h) : eX g 0 mJ0_coder_7d493 0 (lv_args 0 [.ref (gK g i)]) [] τ h Q := by
  show eX g 0 mJ0_coder_7d493 0 [(0, .ref (gK g i))] [] τ h Q
  refine eR_strK hF rfl dJ0_coder_7d493_0 ?_
  refine eR_if_eq (tgt := 13) dJ0_coder_7d493_3 (by decide) (by unfold rg; omega) (fun c3 => absurd c3 (by decide)) (fun _ => ?_)
  refine eR_aldn_0 dJ0_coder_7d493_6 rfl ?_
  refine eR_strC hF hi rfl dJ0_coder_7d493_7 ?_
  refine eR_goto (tgt := 14) dJ0_coder_7d493_10 (by decide) ?_
  refine eR_iret dJ0_coder_7d493_14 rfl (by decide) ?_
  exact k
theorem sp_isLatin1 {i : Nat} (hF : gF g = true) (hi : i < 5) (k : Q (.int (zI 1)) τ h) : eX g 0 mJ0_isLatin1_aae02 0 (lv_args 0 [.ref (gK g i)]) [] τ h Q := by
  show eX g 0 mJ0_isLatin1_aae02 0 [(0, .ref (gK g i))] [] τ h Q
  refine eR_strK hF rfl dJ0_isLatin1_aae02_0 ?_
  refine eR_if_eq (tgt := 17) dJ0_isLatin1_aae02_3 (by decide) (by unfold rg; omega) (fun c3 => absurd c3 (by decide)) (fun _ => ?_)
  refine eR_aldn_0 dJ0_isLatin1_aae02_6 rfl ?_
  refine eR_strC hF hi rfl dJ0_isLatin1_aae02_7 ?_
  refine eR_if_ne (tgt := 17) dJ0_isLatin1_aae02_10 (by decide) (by unfold rg; omega) (fun c3 => absurd rfl c3) (fun _ => ?_)
  refine eR_ic dJ0_isLatin1_aae02_13 ?_
  refine eR_goto (tgt := 18) dJ0_isLatin1_aae02_14 (by decide) ?_
  refine eR_zret dJ0_isLatin1_aae02_18 rfl (Or.inr rfl) ?_
  exact k
theorem zShr_0 : ∀ n, n < 7 → zShr ((n : Nat) : Int) 0 = ((n : Nat) : Int) := by decide +kernel
theorem sp_length {i : Nat} (hF : gF g = true) (hi : i < 5) (k : Q (.int (zI ↑(e_len.getD i 0))) τ h) : eX g 1 mJ0_length_8abf5 0 (lv_args 0 [.ref (gK g i)]) [] τ h Q := by
  show eX g 1 mJ0_length_8abf5 0 [(0, .ref (gK g i))] [] τ h Q
  refine eR_aldn_0 dJ0_length_8abf5_0 rfl ?_
  refine eR_strV hF hi rfl dJ0_length_8abf5_1 ?_
  refine eR_strL hF hi dJ0_length_8abf5_4 ?_
  refine eR_aldn_0 dJ0_length_8abf5_5 rfl ?_
  refine eR_callKi hF hi [] rfl dJ0_length_8abf5_6 ok_mJ0_coder_7d493 rfl kw_390 rfl rfl (Nat.le_of_ble_eq_true rfl) (d' := 0) (by decide) (Nat.le_of_ble_eq_true rfl) ?_
  refine sp_coder hF hi ?_
  refine eR_ishr dJ0_length_8abf5_9 ?_
  refine eX_pcI (zShr_0 _ (e_len_lt i hi)) ?_
  refine eR_iret dJ0_length_8abf5_10 rfl rfl ?_
  exact k
theorem sp_pcheck {a b : Nat} {v : Value} (hv : v.category = 1) (hab : a < b) (hb : b < 1000) (k : Q (.int (zI ↑a)) τ h) : eX g 0 mJ3_checkIndex_8e157 0 [(0, .int (zI ↑a)), (1, .int (zI ↑b)), (2, v)] [] τ h Q := by
  refine eR_ildn_0 dJ3_checkIndex_8e157_0 rfl ?_
  refine eR_if_lt (tgt := 9) dJ3_checkIndex_8e157_1 (by decide) (by unfold rg; omega) (fun c3 => absurd c3 (by omega)) (fun _ => ?_)
  refine eR_ildn_0 dJ3_checkIndex_8e157_4 rfl ?_
  refine eR_ildn_1 dJ3_checkIndex_8e157_5 rfl ?_
  refine eR_icmp_lt (tgt := 16) dJ3_checkIndex_8e157_6 (by decide) (by unfold rg; omega) (by unfold rg; omega) (fun _ => ?_) (fun c3 => absurd c3 (by omega))
  refine eR_ildn_0 dJ3_checkIndex_8e157_16 rfl ?_
  refine eR_iret dJ3_checkIndex_8e157_17 rfl rfl ?_
  exact k
theorem sp_scheck {a b : Nat} (hF : gF g = true) (hab : a < b) (hb : b < 1000) (k : Q .null τ h) : eX g 1 mJ0_checkIndex_df160 0 (lv_args 0 [.int (zI ↑a), .int (zI ↑b)]) [] τ h Q := by
  show eX g 1 mJ0_checkIndex_df160 0 [(0, .int (zI ↑a)), (1, .int (zI ↑b))] [] τ h Q
  refine eR_ildn_0 dJ0_checkIndex_df160_0 rfl ?_
  refine eR_ildn_1 dJ0_checkIndex_df160_1 rfl ?_
  refine eR_strF hF rfl dJ0_checkIndex_df160_2 ?_ (fun t => ?_)
  · refine eR_callSi [_, _, _] rfl dJ0_checkIndex_df160_5 ok_mJ3_checkIndex_8e157 kw_412 rfl rfl (Nat.le_of_ble_eq_true rfl) (d' := 0) (by decide) (Nat.le_of_ble_eq_true rfl) ?_
    refine sp_pcheck rfl hab hb ?_
    refine eR_pop dJ0_checkIndex_df160_8 rfl ?_
    refine eR_vret dJ0_checkIndex_df160_9 rfl ?_
    exact k
  · refine eR_callSi [_, _, _] rfl dJ0_checkIndex_df160_5 ok_mJ3_checkIndex_8e157 kw_412 rfl rfl (Nat.le_of_ble_eq_true rfl) (d' := 0) (by decide) (Nat.le_of_ble_eq_true rfl) ?_
    refine sp_pcheck rfl hab hb ?_
    refine eR_pop dJ0_checkIndex_df160_8 rfl ?_
    refine eR_vret dJ0_checkIndex_df160_9 rfl ?_
    exact k
/-- the words' letters -/
def wlN : List (List Nat) := [wPe, wCo, wGo, wLi, wFr]
theorem wl_len : ∀ i, i < 5 → (wlN.getD i []).length = e_len.getD i 0 := by decide
theorem wl_lt : ∀ i, i < 5 → ∀ j, j < 6 → (wlN.getD i []).getD j 0 < 256 := by decide
theorem wl_i2c : ∀ i, i < 5 → ∀ j, j < e_len.getD i 0 → ((((e_byt.getD i []).getD j 0) &&& 255).toUInt32 % 65536).toInt32 = zI ↑((wlN.getD i []).getD j 0) := by decide +kernel
theorem wl_nar : ∀ i, i < 5 → ∀ j, j < e_len.getD i 0 → narrow .char (.int (zI ↑((wlN.getD i []).getD j 0))) = .int (zI ↑((wlN.getD i []).getD j 0)) := by decide +kernel
theorem sp_lcharAt {i j : Nat} (hF : gF g = true) (hi : i < 5) (hj : j < e_len.getD i 0) (k : Q (.int (zI ↑((wlN.getD i []).getD j 0))) τ h) : eX g 2 mJ1_charAt_3b067 0 (lv_args 0 [.ref (gV g i), .int (zI ↑j)]) [] τ h Q := by
  show eX g 2 mJ1_charAt_3b067 0 [(0, .ref (gV g i)), (1, .int (zI ↑j))] [] τ h Q
  have h7 := e_len_lt i hi
  refine eR_ildn_1 dJ1_charAt_3b067_0 rfl ?_
  refine eR_aldn_0 dJ1_charAt_3b067_1 rfl ?_
  refine eR_strL hF hi dJ1_charAt_3b067_2 ?_
  refine eR_callSv [_, _] rfl dJ1_charAt_3b067_3 ok_mJ0_checkIndex_df160 kw_407 rfl rfl (Nat.le_of_ble_eq_true rfl) (d' := 1) (by decide) (Nat.le_of_ble_eq_true rfl) ?_
  refine sp_scheck hF hj (by omega) ?_
  refine eR_aldn_0 dJ1_charAt_3b067_6 rfl ?_
  refine eR_ildn_1 dJ1_charAt_3b067_7 rfl ?_
  refine eR_strB hF hi hj dJ1_charAt_3b067_8 ?_
  refine eR_si (z := 255) dJ1_charAt_3b067_9 rfl ?_
  rw [show (Value.int ((e_byt.getD i []).getD j 0)) = .int (zI ((e_byt.getD i []).getD j 0).toInt) from by rw [zI_of]]
  refine eR_iand dJ1_charAt_3b067_12 ?_
  refine eR_i2c dJ1_charAt_3b067_13 (v := zI ↑((wlN.getD i []).getD j 0)) ?_ ?_
  · unfold zAnd
    rw [zI_of, zI_of]
    exact wl_i2c i hi j hj
  refine eR_iret dJ1_charAt_3b067_14 rfl (wl_nar i hi j hj) ?_
  exact k
theorem sp_charAt {i j : Nat} (hF : gF g = true) (hi : i < 5) (hj : j < e_len.getD i 0) (k : Q (.int (zI ↑((wlN.getD i []).getD j 0))) τ h) : eX g 3 mJ0_charAt_5068e 0 (lv_args 0 [.ref (gK g i), .int (zI ↑j)]) [] τ h Q := by
  show eX g 3 mJ0_charAt_5068e 0 [(0, .ref (gK g i)), (1, .int (zI ↑j))] [] τ h Q
  refine eR_aldn_0 dJ0_charAt_5068e_0 rfl ?_
  refine eR_callKi hF hi [] rfl dJ0_charAt_5068e_1 ok_mJ0_isLatin1_aae02 rfl kw_400 rfl rfl (Nat.le_of_ble_eq_true rfl) (d' := 0) (by decide) (Nat.le_of_ble_eq_true rfl) ?_
  refine sp_isLatin1 hF hi ?_
  refine eR_if_eq (tgt := 16) dJ0_charAt_5068e_4 (by decide) (by unfold rg; omega) (fun c3 => absurd c3 (by decide)) (fun _ => ?_)
  refine eR_aldn_0 dJ0_charAt_5068e_7 rfl ?_
  refine eR_strV hF hi rfl dJ0_charAt_5068e_8 ?_
  refine eR_ildn_1 dJ0_charAt_5068e_11 rfl ?_
  refine eR_callSi [_, _] rfl dJ0_charAt_5068e_12 ok_mJ1_charAt_3b067 kw_404 rfl rfl (Nat.le_of_ble_eq_true rfl) (d' := 2) (by decide) (Nat.le_of_ble_eq_true rfl) ?_
  refine sp_lcharAt hF hi hj ?_
  refine eR_iret dJ0_charAt_5068e_15 rfl (wl_nar i hi j hj) ?_
  exact k
end STR
