section HEAP
variable {g : EG} {d : Nat} {M : MM} {pc : Nat} {lv : List (Nat × Value)} {st : List Value} {τ : List Kd} {h : PH} {Q : EQ}
theorem e_fs_get {ad : Nat → Nat} {ks : List Nat} {f : Nat → Int} {k kk : Nat} (hk : ks[k]? = some kk) : (ks.mapIdx (fun i k => vK ad k (f i)))[k]? = some (vK ad kk (f k)) := by
  simp [List.getElem?_mapIdx, hk]
theorem e_fs_set {ad : Nat → Nat} {ks : List Nat} {f : Nat → Int} {k kk : Nat} {z : Int} (hk : ks[k]? = some kk) : (ks.mapIdx (fun i k => vK ad k (f i))).set k (vK ad kk z) = ks.mapIdx (fun i k' => vK ad k' (if i = k then z else f i)) := by
  apply List.ext_getElem?
  intro i
  rw [List.getElem?_set]
  by_cases hi : k = i
  · subst hi
    have hl : k < ks.length := (List.getElem?_eq_some_iff.mp hk).1
    rw [if_pos rfl, if_pos (by simpa using hl)]
    simp [List.getElem?_mapIdx, hk]
  · rw [if_neg hi]
    have h3 : ¬ i = k := fun e => hi e.symm
    simp [List.getElem?_mapIdx, h3]
theorem e_fs_setK {ad : Nat → Nat} {ks : List Nat} {f : Nat → Int} {k kk : Nat} (hk : k < ks.length) : (ks.mapIdx (fun i k => vK ad k (f i))).set k (vK ad kk (f k)) = (ks.set k kk).mapIdx (fun i k' => vK ad k' (f i)) := by
  apply List.ext_getElem?
  intro i
  rw [List.getElem?_set]
  by_cases hi : k = i
  · subst hi
    rw [if_pos rfl, if_pos (by simpa using hk)]
    simp [List.getElem?_mapIdx, List.getElem?_set, hk]
  · rw [if_neg hi]
    simp [List.getElem?_mapIdx, List.getElem?_set, hi]
/-- any field -/
theorem eR_get {idx ci k a kk : Nat} {ks : List Nat} (hd : decode M.2.1 pc = .ok (.getfield idx, 3)) (hg : gfOK M.1.cls idx ci k) (ht : τ[a]? = some (0, ci, ks)) (hk : ks[k]? = some kk) (k9 : eX g d M (pc + 3) lv (vK (gA g) kk (h a k) :: st) τ h Q) : eX g d M pc lv (.ref (gA g a) :: st) τ h Q := by
  intro p l e R s m args below meth c H locs cells slots Fin C hH hS ls hl
  obtain ⟨Cn, T, N, hc, hkN, hin, hown, hlk⟩ := hg
  exact va_get C.1.1 C.1.2.1 (own := M.1.cls) (ref := Cn) C.1.2.2.2.2 hin C.1.2.2.2.1 C.2.1.1 hH.1 a (fs := ks.mapIdx (fun i k => vK (gA g) k (h a i))) (eL_get ht) hc k hkN (C.1.2.2.2.2 _ hlk) (by intro x hx; rw [hown] at hx; exact hx) (e_fs_get hk) hd (k9 p l e R s m args below meth c H locs cells slots Fin C hH hS ls hl)
theorem eR_getI {idx ci k a : Nat} {ks : List Nat} (hd : decode M.2.1 pc = .ok (.getfield idx, 3)) (hg : gfOK M.1.cls idx ci k) (ht : τ[a]? = some (0, ci, ks)) (hk : ks[k]? = some 0) (k9 : eX g d M (pc + 3) lv (.int (zI (h a k)) :: st) τ h Q) : eX g d M pc lv (.ref (gA g a) :: st) τ h Q := eR_get hd hg ht hk k9
theorem eR_getZ {idx ci k a : Nat} {ks : List Nat} (hd : decode M.2.1 pc = .ok (.getfield idx, 3)) (hg : gfOK M.1.cls idx ci k) (ht : τ[a]? = some (0, ci, ks)) (hk : ks[k]? = some 1) (k9 : eX g d M (pc + 3) lv (.int (zI (h a k)) :: st) τ h Q) : eX g d M pc lv (.ref (gA g a) :: st) τ h Q := eR_get hd hg ht hk k9
theorem eR_getL {idx ci k a : Nat} {ks : List Nat} (hd : decode M.2.1 pc = .ok (.getfield idx, 3)) (hg : gfOK M.1.cls idx ci k) (ht : τ[a]? = some (0, ci, ks)) (hk : ks[k]? = some 2) (k9 : eX g d M (pc + 3) lv (.long (zL (h a k)) :: st) τ h Q) : eX g d M pc lv (.ref (gA g a) :: st) τ h Q := eR_get hd hg ht hk k9
theorem eR_getR {idx ci k a i : Nat} {ks : List Nat} (hd : decode M.2.1 pc = .ok (.getfield idx, 3)) (hg : gfOK M.1.cls idx ci k) (ht : τ[a]? = some (0, ci, ks)) (hk : ks[k]? = some (i + 4)) (k9 : eX g d M (pc + 3) lv (.ref (gA g i) :: st) τ h Q) : eX g d M pc lv (.ref (gA g a) :: st) τ h Q := eR_get hd hg ht hk k9
theorem e_put {idx ci k a kk : Nat} {ks : List Nat} {ty : FieldType} {v : Value} {e' : va_E} {τ' : List Kd} {h' : PH} (hd : decode M.2.1 pc = .ok (.putfield idx, 3)) (hg : pfOK M.1.cls idx ci k ty) (ht : τ[a]? = some (0, ci, ks)) (hk : ks[k]? = some kk)
    (hn : narrow ty v = v) (hf : fits ty v = true) (hset : (eL g τ h).set a (gA g a, .inr (ci, (ks.mapIdx (fun i k => vK (gA g) k (h a i))).set k v)) = eL g τ' h') (hlen : τ'.length = τ.length) (k9 : eX g d M (pc + 3) lv st τ' h' Q) : eX g d M pc lv (v :: .ref (gA g a) :: st) τ h Q := by
  intro p l e R s m args below meth c H locs cells slots Fin C hH hS ls hl
  obtain ⟨Cn, T, N, hc, hkN, hin, hown, hlk, hfin, hpd, ty0, hty, hnm⟩ := hg
  refine va_put C.1.1 C.1.2.1 (own := M.1.cls) (ref := Cn) C.1.2.2.2.2 hin ty0 hty hnm C.1.2.2.2.1 C.2.1.1 hH.1 (eD hH.2) hS a (fs := ks.mapIdx (fun i k => vK (gA g) k (h a i))) (eL_get ht) hc k hkN (C.1.2.2.2.2 _ hlk) (by intro x hx; rw [hown] at hx; exact hx) hfin hpd hn hf (by rw [List.length_mapIdx]; exact (List.getElem?_eq_some_iff.mp hk).1) hd (fun H1 locs1 hP1 _ hS1 => ?_)
  rw [hset] at hP1
  exact k9 p l e R s m args below meth c H1 locs1 cells slots Fin C ⟨hP1, by rw [hlen]; exact hH.2⟩ hS1 ls hl
theorem e_setI {ci k a kk : Nat} {ks : List Nat} {z : Int} (ht : τ[a]? = some (0, ci, ks)) (hk : ks[k]? = some kk) : (eL g τ h).set a (gA g a, .inr (ci, (ks.mapIdx (fun i k => vK (gA g) k (h a i))).set k (vK (gA g) kk z))) = eL g τ (hU h a k z) := by
  rw [e_fs_set hk]
  exact eL_set0 (kd := (0, ci, ks)) (f' := fun i => if i = k then z else h a i) ht
theorem eR_putI {idx ci k a : Nat} {ks : List Nat} {z : Int} (hd : decode M.2.1 pc = .ok (.putfield idx, 3)) (hg : pfOK M.1.cls idx ci k .int) (ht : τ[a]? = some (0, ci, ks)) (hk : ks[k]? = some 0) (k9 : eX g d M (pc + 3) lv st τ (hU h a k z) Q) : eX g d M pc lv (.int (zI z) :: .ref (gA g a) :: st) τ h Q :=
  e_put (e' := .inr (0, [])) hd hg ht hk rfl rfl (e_setI ht hk) rfl k9
theorem eR_putZ {idx ci k a : Nat} {ks : List Nat} {z : Int} (hz : z = 0 ∨ z = 1) (hd : decode M.2.1 pc = .ok (.putfield idx, 3)) (hg : pfOK M.1.cls idx ci k .boolean) (ht : τ[a]? = some (0, ci, ks)) (hk : ks[k]? = some 1) (k9 : eX g d M (pc + 3) lv st τ (hU h a k z) Q) : eX g d M pc lv (.int (zI z) :: .ref (gA g a) :: st) τ h Q :=
  e_put (e' := .inr (0, [])) hd hg ht hk (nar_b hz) (by rcases hz with rfl | rfl <;> rfl) (e_setI ht hk) rfl k9
theorem eR_putL {idx ci k a : Nat} {ks : List Nat} {z : Int} (hd : decode M.2.1 pc = .ok (.putfield idx, 3)) (hg : pfOK M.1.cls idx ci k .long) (ht : τ[a]? = some (0, ci, ks)) (hk : ks[k]? = some 2) (k9 : eX g d M (pc + 3) lv st τ (hU h a k z) Q) : eX g d M pc lv (.long (zL z) :: .ref (gA g a) :: st) τ h Q :=
  e_put (e' := .inr (0, [])) hd hg ht hk rfl rfl (e_setI ht hk) rfl k9
theorem eR_putR {idx ci k a i : Nat} {ks : List Nat} {C : String} (hd : decode M.2.1 pc = .ok (.putfield idx, 3)) (hg : pfOK M.1.cls idx ci k (.object C)) (ht : τ[a]? = some (0, ci, ks)) (hk : k < ks.length) (k9 : eX g d M (pc + 3) lv st (τ.set a (0, ci, ks.set k (i + 4))) h Q) : eX g d M pc lv (.ref (gA g i) :: .ref (gA g a) :: st) τ h Q := by
  have hl : a < τ.length := (List.getElem?_eq_some_iff.mp ht).1
  obtain ⟨kk, hkk⟩ : ∃ kk, ks[k]? = some kk := ⟨ks[k], List.getElem?_eq_getElem hk⟩
  refine e_put (e' := .inr (0, [])) hd hg ht hkk rfl rfl ?_ (by rw [List.length_set]) k9
  have h1 := e_fs_setK (ad := gA g) (f := h a) (kk := i + 4) hk
  rw [show (Value.ref (gA g i)) = vK (gA g) (i + 4) (h a k) from rfl, h1]
  rw [show (Sum.inr (ci, (ks.set k (i + 4)).mapIdx fun i k' => vK (gA g) k' (h a i)) : va_E) = eC (gC g) (gA g) (0, ci, ks.set k (i + 4)) (h a) from rfl, eL_set hl]
  congr 1
  funext a'
  by_cases ha : a' = a
  · subst ha; simp
  · simp [ha]
/-! arrays -/
theorem e_rowU {a n : Nat} {z : Int} : (fun j => zI (if j = n then z else h a j)) = upd (fun j => zI (h a j)) n (zI z) := by
  funext j
  unfold upd
  by_cases hj : j = n <;> simp [hj]
theorem eR_iald {a len n : Nat} {ks : List Nat} {z : Int} (hd : decode M.2.1 pc = .ok (.iaload, 1)) (ht : τ[a]? = some (1, len, ks)) (hz : z = (n : Int)) (hn : n < len) (hl31 : len < 2147483648) (k9 : eX g d M (pc + 1) lv (.int (zI (h a n)) :: st) τ h Q) : eX g d M pc lv (.int (zI z) :: .ref (gA g a) :: st) τ h Q := by
  intro p l e R s m args below meth c H locs cells slots Fin C hH hS ls hl
  subst hz
  have hcl := zI_cl (n := n) (by omega)
  refine va_iald C.1.1 C.1.2.1 C.2.1.1 hH.1 a 0 (cA := gC g 0) (n := len) (f := fun j => zI (h a j)) (eL_get ht) rfl (zI_in hn (by omega)) hd ?_
  rw [hcl]
  exact k9 p l e R s m args below meth c H locs cells slots Fin C hH hS ls hl
theorem eR_zald {a len n : Nat} {ks : List Nat} {z : Int} (hd : decode M.2.1 pc = .ok (.baload, 1)) (ht : τ[a]? = some (2, len, ks)) (hz : z = (n : Int)) (hn : n < len) (hl31 : len < 2147483648) (k9 : eX g d M (pc + 1) lv (.int (zI (h a n)) :: st) τ h Q) : eX g d M pc lv (.int (zI z) :: .ref (gA g a) :: st) τ h Q := by
  intro p l e R s m args below meth c H locs cells slots Fin C hH hS ls hl
  subst hz
  have hcl := zI_cl (n := n) (by omega)
  refine va_zald C.1.1 C.1.2.1 C.2.1.1 hH.1 a 1 (cA := gC g 1) (n := len) (f := fun j => zI (h a j)) (eL_get ht) rfl (zI_in hn (by omega)) hd ?_
  rw [hcl]
  exact k9 p l e R s m args below meth c H locs cells slots Fin C hH hS ls hl
theorem eR_iast {a len n : Nat} {ks : List Nat} {z v : Int} (hd : decode M.2.1 pc = .ok (.iastore, 1)) (ht : τ[a]? = some (1, len, ks)) (hz : z = (n : Int)) (hn : n < len) (hl31 : len < 2147483648) (k9 : eX g d M (pc + 1) lv st τ (hU h a n v) Q) : eX g d M pc lv (.int (zI v) :: .int (zI z) :: .ref (gA g a) :: st) τ h Q := by
  intro p l e R s m args below meth c H locs cells slots Fin C hH hS ls hl
  subst hz
  have hcl := zI_cl (n := n) (by omega)
  refine va_iast C.1.1 C.1.2.1 C.2.1.1 hH.1 (eD hH.2) hS a 0 (cA := gC g 0) (n := len) (f := fun j => zI (h a j)) (eL_get ht) rfl (zI_in hn (by omega)) hd (fun H1 locs1 hP1 _ hS1 => ?_)
  rw [hcl, ← e_rowU] at hP1
  have hset := eL_set0 (g := g) (h := h) (kd := (1, len, ks)) (f' := fun i => if i = n then v else h a i) ht
  exact k9 p l e R s m args below meth c H1 locs1 cells slots Fin C ⟨by rw [show eL g τ (hU h a n v) = _ from hset.symm]; exact hP1, hH.2⟩ hS1 ls hl
theorem eR_zast {a len n : Nat} {ks : List Nat} {z v : Int} (hv : v = 0 ∨ v = 1) (hd : decode M.2.1 pc = .ok (.bastore, 1)) (ht : τ[a]? = some (2, len, ks)) (hz : z = (n : Int)) (hn : n < len) (hl31 : len < 2147483648) (k9 : eX g d M (pc + 1) lv st τ (hU h a n v) Q) : eX g d M pc lv (.int (zI v) :: .int (zI z) :: .ref (gA g a) :: st) τ h Q := by
  intro p l e R s m args below meth c H locs cells slots Fin C hH hS ls hl
  subst hz
  have hcl := zI_cl (n := n) (by omega)
  refine va_zast C.1.1 C.1.2.1 C.2.1.1 hH.1 (eD hH.2) hS a 1 (cA := gC g 1) (n := len) (f := fun j => zI (h a j)) (eL_get ht) rfl (zI_in hn (by omega)) hd (fun H1 locs1 hP1 _ hS1 => ?_)
  rw [hcl, show vp_nar .boolean (zI v) = zI v from by rcases hv with rfl | rfl <;> rfl, ← e_rowU] at hP1
  have hset := eL_set0 (g := g) (h := h) (kd := (2, len, ks)) (f' := fun i => if i = n then v else h a i) ht
  exact k9 p l e R s m args below meth c H1 locs1 cells slots Fin C ⟨by rw [show eL g τ (hU h a n v) = _ from hset.symm]; exact hP1, hH.2⟩ hS1 ls hl
/-- a row of a grid: the array's cell i, out of an array of arrays -/
theorem eR_aald3 {a len n i : Nat} {ks : List Nat} {z : Int} (hd : decode M.2.1 pc = .ok (.aaload, 1)) (ht : τ[a]? = some (3, len, ks)) (hz : z = (n : Int)) (hn : n < len) (hl31 : len < 2147483648) (hi : ks.getD n 3 = i + 4) (k9 : eX g d M (pc + 1) lv (.ref (gA g i) :: st) τ h Q) : eX g d M pc lv (.int (zI z) :: .ref (gA g a) :: st) τ h Q := by
  intro p l e R s m args below meth c H locs cells slots Fin C hH hS ls hl
  subst hz
  have hcl := zI_cl (n := n) (by omega)
  have hin := zI_in hn (show n < 2147483648 by omega)
  have hK := (C.2.1.1.2 2 (gC g 2, .array .int) rfl).1
  refine W.aald (v := va_rf (rK (gA g) (ks.getD n 3))) (ty := .array .int) C.1.1 C.1.2.1 (hH.1 a _ (eL_get ht)) (hK len (fun j => va_rf (rK (gA g) (ks.getD j 3)))) rfl (fun q => by cases q) (by show ¬ (zI (n : Int) < 0 ∨ (arrV _ _ _).slots.size ≤ _); rw [arrV_size]; exact hin) (by show (arrV _ _ _).slots[_]? = _; rw [hcl, arrV_read _ _ hn]) rfl rfl hd ?_
  rw [hi]
  exact k9 p l e R s m args below meth c H locs cells slots Fin C hH hS ls hl
theorem eR_aald4 {a len n i : Nat} {ks : List Nat} {z : Int} (hd : decode M.2.1 pc = .ok (.aaload, 1)) (ht : τ[a]? = some (4, len, ks)) (hz : z = (n : Int)) (hn : n < len) (hl31 : len < 2147483648) (hi : ks.getD n 3 = i + 4) (k9 : eX g d M (pc + 1) lv (.ref (gA g i) :: st) τ h Q) : eX g d M pc lv (.int (zI z) :: .ref (gA g a) :: st) τ h Q := by
  intro p l e R s m args below meth c H locs cells slots Fin C hH hS ls hl
  subst hz
  have hcl := zI_cl (n := n) (by omega)
  refine va_aldq C.1.1 C.1.2.1 C.2.1.1 hH.1 a 3 (cA := gC g 3) (C := RX0) (n := len) (f := fun j => rK (gA g) (ks.getD j 3)) (eL_get ht) rfl (zI_in hn (by omega)) hd ?_
  rw [hcl]
  have : rK (gA g) (ks.getD n 3) = some (gA g i) := by rw [hi]; rfl
  simp only [this]
  exact k9 p l e R s m args below meth c H locs cells slots Fin C hH hS ls hl
/-! the script of the law -/
theorem eR_slen (hF : gF g = true) (hd : decode M.2.1 pc = .ok (.arraylength, 1)) (hL : gL g < 2147483648) (k9 : eX g d M (pc + 1) lv (.int (zI (gL g : Int)) :: st) τ h Q) : eX g d M pc lv (.ref (gS g) :: st) τ h Q := by
  intro p l e R s m args below meth c H locs cells slots Fin C hH hS ls hl
  obtain ⟨h4, h5, h6, h7, h8, h9, h10⟩ := C.2.1.2 hF
  refine va_slen C.1.1 C.1.2.1 h8 h10 h9 hS hd ?_
  have e1 : Int32.ofNat (gL g) = zI (gL g : Int) := Int32.ofInt_eq_ofNat.symm
  first | rw [e1] | (show W _ _ _ _ _ _ _ _ _ _ _ _ _ _ _ (F0 m (pc + 1) ls (.int (Int32.ofNat (gL g)) :: st)); rw [e1])
  exact k9 p l e R s m args below meth c H locs cells slots Fin C hH hS ls hl
theorem eR_sld {z : Int} {n : Nat} (hF : gF g = true) (hd : decode M.2.1 pc = .ok (.iaload, 1)) (hz : z = (n : Int)) (hn : n < gL g) (hL : gL g < 2147483648) (k9 : eX g d M (pc + 1) lv (.int (gX g n) :: st) τ h Q) : eX g d M pc lv (.int (zI z) :: .ref (gS g) :: st) τ h Q := by
  intro p l e R s m args below meth c H locs cells slots Fin C hH hS ls hl
  obtain ⟨h4, h5, h6, h7, h8, h9, h10⟩ := C.2.1.2 hF
  subst hz
  have hcl := zI_cl (n := n) (by omega)
  refine va_sld C.1.1 C.1.2.1 h8 h10 h9 hS (zI_in hn (by omega)) hd ?_
  rw [hcl]
  exact k9 p l e R s m args below meth c H locs cells slots Fin C hH hS ls hl
end HEAP
