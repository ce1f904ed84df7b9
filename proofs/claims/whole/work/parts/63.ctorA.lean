/-! constructors: the addresses of the cells are b + their number -/
theorem kw_98 : (Jvm.Cond.instanceMethod Lib.objectInit) ∈ lw_gd := lw_gd_in 98 (by decide +kernel) (by decide +kernel)
theorem kw_99 : (Jvm.Cond.code Lib.objectInit ⟨#[0xb1]⟩ 1 none) ∈ lw_gd := lw_gd_in 99 (by decide +kernel) (by decide +kernel)
def nOv (U : State) : Prop := (Cond.arrayOver (.object RX0)).before #[] U = true ∧ (Cond.arrayOver (.array .int)).before #[] U = true
theorem nOv_arr {t : FieldType} {u U : State} (hvm : u.vm.Alike U.vm) (h9 : (Cond.arrayOver (.array t)).before #[] u = true) : (Cond.arrayOver (.array t)).before #[] U = true := by
  obtain ⟨comp, c1, k1, h1, h2, h3, h4, h5⟩ := arrayOverA_spec h9
  obtain ⟨k', hk', he⟩ := hvm.2.2 _ _ h3
  have e1 := va_idx_bare U.vm comp
  have e2 := va_idx_bare u.vm comp
  have e3 : U.vm.bare = u.vm.bare := by first | exact hvm.bare_eq | exact hvm.bare_eq.symm
  rw [e3] at e1
  have hi := (e1.symm.trans e2).trans h2
  have hkind : k'.kind = .array comp (.array t) := by rw [he]; exact h4
  have f1 : U.vm.findClass (FieldType.array t).toString = some comp := by rw [hvm.findClass]; exact h1
  have f2 : U.vm.findClass ("[" ++ (FieldType.array t).toString) = some c1 := by rw [hvm.findClass]; exact h5
  unfold Cond.before Cond.holds
  simp only [Cond.value]
  rw [f1, Option.bind_some]
  refine (congrArg (fun o : Option Nat => (o.bind (fun c => (U.vm.classes[c]?).map fun (k : Class) => match k.kind with | .array _ ty => decide (ty = FieldType.array t) && decide (U.vm.findClass ("[" ++ (FieldType.array t).toString) = some c) | _ => false) == some true)) hi).trans ?_
  simp [hk', hkind, f2]
theorem nOv_moved {u U : State} (hvm : u.vm.Alike U.vm) (h9 : nOv u) : nOv U := ⟨va_AO.moved (C := RX0) hvm h9.1, nOv_arr hvm h9.2⟩
def nG (g : EG) (b : Nat) : Prop := (∀ k, gA g k = b + k) ∧ ∀ q, eA g q ↔ b ≤ q
theorem nG_DD {g : EG} {b : Nat} (hG : nG g b) (n : Nat) : eDD g n := ⟨fun i j _ _ e9 => by rw [hG.1, hG.1] at e9; omega, fun k _ => by rw [hG.2, hG.1]; omega⟩
abbrev NQ : Type := Program → Launch → Env → Room → State → MethodId → Array Value → List Frame → Method → Code → Nat → Nat → (State → Prop) → Prop
/-- a constructor's end -/
def nE (g : EG) (M : MM) (Q : EQ) : NQ := fun p l e R s m args below meth c cells slots Fin => meth.name = "<init>" ∧ ∀ (τ' : List Kd) (h' : PH) (H' : Heap) (locs' : List Loc) (pc' : Nat) (ls' : Array Slot), Q .null τ' h' → eH g τ' h' H' → va_S (eA g) s.heap H' locs' → decode M.2.1 pc' = .ok (.return_, 1) → W p l e R s m args below meth c H' locs' cells slots Fin (F0 m pc' ls' [])
/-- the end of a method that answers -/
def nL (g : EG) (M : MM) (Q : EQ) : NQ := fun p l e R s m args below meth c cells slots Fin => ∀ (v : Value) (τ' : List Kd) (h' : PH) (H' : Heap) (locs' : List Loc) (pc' : Nat) (ls' : Array Slot) (st' : List Value) (ins : Instr), Q v τ' h' → eH g τ' h' H' → va_S (eA g) s.heap H' locs' → decode M.2.1 pc' = .ok (ins, 1) → e_Rt M.2.2.2.1 ins v st' → W p l e R s m args below meth c H' locs' cells slots Fin (F0 m pc' ls' st')
def nCx (g : EG) (b d n : Nat) (M : MM) (cn sn : Nat) (Q : NQ) (p : Program) (l : Launch) (e : Env) (R : Room) (s : State) (m : MethodId) (args : Array Value) (below : List Frame) (meth : Method) (c : Code) (cells slots : Nat) (Fin : State → Prop) : Prop :=
  (p.tables.exec = Jvm.exec ∧ c.code = M.2.1 ∧ c.maxLocals = M.2.2.1 ∧ s.vm.findClass M.1.cls = some m.cls ∧ ∀ w ∈ lw_gd, w.before args s = true) ∧ e_Ok g s s.heap ∧ d ≤ R.frames ∧ 39 * d ≤ R.locals ∧
  cells + cn ≤ R.cells ∧ slots + sn ≤ R.slots ∧ (nOv s ∧ nG g b ∧ b ≤ s.heap.size ∧ True ∧ s.heap.size + cells = b + n) ∧
    Q p l e R s m args below meth c (cells + cn) (slots + sn) Fin
/-- from here the constructor M comes to its end with Q, with cn new cells and sn new slots -/
def nX (g : EG) (b d : Nat) (M : MM) (pc : Nat) (lv : List (Nat × Value)) (st : List Value) (τ : List Kd) (h : PH) (cn sn : Nat) (Q : NQ) : Prop :=
  ∀ (p : Program) (l : Launch) (e : Env) (R : Room) (s : State) (m : MethodId) (args : Array Value) (below : List Frame) (meth : Method) (c : Code) (H : Heap) (locs : List Loc) (cells slots : Nat) (Fin : State → Prop),
    nCx g b d τ.length M cn sn Q p l e R s m args below meth c cells slots Fin → eH g τ h H → va_S (eA g) s.heap H locs → ∀ ls : Array Slot, lv_has ls M.2.2.1 lv → W p l e R s m args below meth c H locs cells slots Fin (F0 m pc ls st)
section NX
variable {g : EG} {b d n cn cn' sn sn' mc ms : Nat} {M M' : MM} {pc : Nat} {lv : List (Nat × Value)} {st : List Value} {τ τ' : List Kd} {h : PH} {Q : NQ} {Q0 : EQ}
theorem nCx_mv {n2 cells2 slots2 cn2 sn2 : Nat} {p : Program} {l : Launch} {e : Env} {R : Room} {s : State} {m : MethodId} {args : Array Value} {below : List Frame} {meth : Method} {c : Code} {cells slots : Nat} {Fin : State → Prop}
    (C : nCx g b d n M cn sn Q p l e R s m args below meth c cells slots Fin) (h1 : cells + cn = cells2 + cn2) (h2 : slots + sn = slots2 + sn2) (h3 : s.heap.size + cells2 = b + n2) : nCx g b d n2 M cn2 sn2 Q p l e R s m args below meth c cells2 slots2 Fin := by
  obtain ⟨c1, c2, c3, c4, c5, c6, ⟨c7, c8, c9, c10, c11⟩, c12⟩ := C
  rw [h1, h2] at c12
  exact ⟨c1, c2, c3, c4, by omega, by omega, ⟨c7, c8, c9, c10, h3⟩, c12⟩
/-- the heap's size is known -/
theorem n_size {p : Program} {l : Launch} {e : Env} {R : Room} {s : State} {m : MethodId} {args : Array Value} {below : List Frame} {meth : Method} {c : Code} {cells slots : Nat} {Fin : State → Prop} {H : Heap} {locs : List Loc} {f : JFrame}
    (C : nCx g b d τ.length M cn sn Q p l e R s m args below meth c cells slots Fin) (hH : eH g τ h H) (hS : va_S (eA g) s.heap H locs) (k : H.size = b + τ.length → W p l e R s m args below meth c H locs cells slots Fin f) : W p l e R s m args below meth c H locs cells slots Fin f := by
  intro T hT X
  refine k ?_ T hT X
  obtain ⟨-, -, -, -, -, -, ⟨-, hG, hb, -, hn⟩, -⟩ := C
  have h1 : T.heap.size ≤ s.heap.size + cells := by
    exact X.same.2.2.1
  rw [hT] at h1
  by_cases h0 : τ.length = 0
  · have := hS.1
    omega
  · obtain ⟨kd, hk⟩ : ∃ kd, τ[τ.length - 1]? = some kd := ⟨τ[τ.length - 1], List.getElem?_eq_getElem (by omega)⟩
    have h2 := (hH.1 _ _ (eL_get hk)).lt
    have h3 : gA g (τ.length - 1) < H.size := h2
    rw [hG.1] at h3
    omega
theorem n_eL {L : List Kd} : eL g (τ ++ L) h = eL g τ h ++ L.mapIdx (fun k kd => (gA g (τ.length + k), eC (gC g) (gA g) kd (h (τ.length + k)))) := by
  unfold eL
  rw [List.mapIdx_append]
  congr 1
  show L.mapIdx _ = L.mapIdx _
  congr 1
  funext k kd
  rw [Nat.add_comm]
theorem nX_tau {τ2 : List Kd} (e9 : τ = τ2) (k : nX g b d M pc lv st τ2 h cn sn Q) : nX g b d M pc lv st τ h cn sn Q := by rw [e9]; exact k
theorem nX_hp {h2 : PH} (e9 : h = h2) (k : nX g b d M pc lv st τ h2 cn sn Q) : nX g b d M pc lv st τ h cn sn Q := by rw [e9]; exact k
theorem nR_ic {n : Int} (hd : decode M.2.1 pc = .ok (.iconst n, 1)) (k : nX g b d M (pc + 1) lv (.int (zI n) :: st) τ h cn sn Q) : nX g b d M pc lv (st) τ h cn sn Q := by
  intro p l e R s m args below meth c H locs cells slots Fin C hH hS ls hl
  exact lv_iconst C.1.1 C.1.2.1 hd rfl (k p l e R s m args below meth c H locs cells slots Fin C hH hS ls hl)
theorem nR_bi {n z : Int} (hd : decode M.2.1 pc = .ok (.bipush n, 2)) (hv : (Int8.ofInt n).toInt32 = zI z) (k : nX g b d M (pc + 2) lv (.int (zI z) :: st) τ h cn sn Q) : nX g b d M pc lv (st) τ h cn sn Q := by
  intro p l e R s m args below meth c H locs cells slots Fin C hH hS ls hl
  exact lv_bipush C.1.1 C.1.2.1 hd hv (k p l e R s m args below meth c H locs cells slots Fin C hH hS ls hl)
theorem nR_si {n z : Int} (hd : decode M.2.1 pc = .ok (.sipush n, 3)) (hv : (Int16.ofInt n).toInt32 = zI z) (k : nX g b d M (pc + 3) lv (.int (zI z) :: st) τ h cn sn Q) : nX g b d M pc lv (st) τ h cn sn Q := by
  intro p l e R s m args below meth c H locs cells slots Fin C hH hS ls hl
  exact lv_sipush C.1.1 C.1.2.1 hd hv (k p l e R s m args below meth c H locs cells slots Fin C hH hS ls hl)
theorem nR_lc {n : Fin 2} {z : Int} (hd : decode M.2.1 pc = .ok (.lconst n, 1)) (hv : Int64.ofNat (n : Nat) = zL z) (k : nX g b d M (pc + 1) lv (.long (zL z) :: st) τ h cn sn Q) : nX g b d M pc lv (st) τ h cn sn Q := by
  intro p l e R s m args below meth c H locs cells slots Fin C hH hS ls hl
  exact lv_lconst C.1.1 C.1.2.1 hd hv (k p l e R s m args below meth c H locs cells slots Fin C hH hS ls hl)
theorem nR_dup {v : Value} (hd : decode M.2.1 pc = .ok (.dup, 1)) (hc : v.category = 1) (k : nX g b d M (pc + 1) lv (v :: v :: st) τ h cn sn Q) : nX g b d M pc lv (v :: st) τ h cn sn Q := by
  intro p l e R s m args below meth c H locs cells slots Fin C hH hS ls hl
  exact lv_dup C.1.1 C.1.2.1 hd hc (k p l e R s m args below meth c H locs cells slots Fin C hH hS ls hl)
theorem nR_aldn {k9 : Fin 4} {i x : Nat} (j9 : Nat) (hd : decode M.2.1 pc = .ok (.aload_n k9, 1)) (hi : (k9 : Nat) = i) (hj : lv[j9]? = some (i, .ref x)) (k : nX g b d M (pc + 1) lv (.ref x :: st) τ h cn sn Q) : nX g b d M pc lv (st) τ h cn sn Q := by
  intro p l e R s m args below meth c H locs cells slots Fin C hH hS ls hl
  exact lv_aload_n C.1.1 C.1.2.1 hd hi (lv_at hl j9 hj) (k p l e R s m args below meth c H locs cells slots Fin C hH hS ls hl)
theorem nR_ildn {k9 : Fin 4} {i : Nat} {x : Int32} (j9 : Nat) (hd : decode M.2.1 pc = .ok (.iload_n k9, 1)) (hi : (k9 : Nat) = i) (hj : lv[j9]? = some (i, .int x)) (k : nX g b d M (pc + 1) lv (.int x :: st) τ h cn sn Q) : nX g b d M pc lv (st) τ h cn sn Q := by
  intro p l e R s m args below meth c H locs cells slots Fin C hH hS ls hl
  exact lv_iload_n C.1.1 C.1.2.1 hd hi (lv_at hl j9 hj) (k p l e R s m args below meth c H locs cells slots Fin C hH hS ls hl)
theorem nR_istn {k9 : Fin 4} {i : Nat} {x : Int32} {lv2 : List (Nat × Value)} (hd : decode M.2.1 pc = .ok (.istore_n k9, 1)) (hi : (k9 : Nat) = i) (hn : i < M.2.2.1) (ho : (i, Value.int x) :: lv.filter (fun q => !(q.1 == i) && !(q.1 + 1 == i && q.2.category == 2)) = lv2) (k : nX g b d M (pc + 1) lv2 st τ h cn sn Q) : nX g b d M pc lv (.int x :: st) τ h cn sn Q := by
  intro p l e R s m args below meth c H locs cells slots Fin C hH hS ls hl
  exact lv_istore_n C.1.1 C.1.2.1 hd hi hl hn ho (fun ls hl => k p l e R s m args below meth c H locs cells slots Fin C hH hS ls hl)
theorem nR_astn {k9 : Fin 4} {i x : Nat} {lv2 : List (Nat × Value)} (hd : decode M.2.1 pc = .ok (.astore_n k9, 1)) (hi : (k9 : Nat) = i) (hn : i < M.2.2.1) (ho : (i, Value.ref x) :: lv.filter (fun q => !(q.1 == i) && !(q.1 + 1 == i && q.2.category == 2)) = lv2) (k : nX g b d M (pc + 1) lv2 st τ h cn sn Q) : nX g b d M pc lv (.ref x :: st) τ h cn sn Q := by
  intro p l e R s m args below meth c H locs cells slots Fin C hH hS ls hl
  exact lv_astore_n C.1.1 C.1.2.1 hd hi hl hn ho (fun ls hl => k p l e R s m args below meth c H locs cells slots Fin C hH hS ls hl)
theorem nX_eX (k : eX g d M pc lv st τ h Q0) : nX g b d M pc lv st τ h 0 0 (nL g M Q0) := by
  intro p l e R s m args below meth c H locs cells slots Fin C hH hS ls hl
  obtain ⟨c1, c2, c3, c4, c5, c6, c7, c12⟩ := C
  exact k p l e R s m args below meth c H locs cells slots Fin ⟨c1, c2, c3, c4, c5, c6, c12⟩ hH hS ls hl
theorem nR_iinc {i : Nat} {n z : Int} {lv2 : List (Nat × Value)} (j9 : Nat) (hd : decode M.2.1 pc = .ok (.iinc i n, 3)) (hj : lv[j9]? = some (i, .int (zI z))) (hn : i < M.2.2.1) (ho : (i, Value.int (zI (z + n))) :: lv.filter (fun q => !(q.1 == i) && !(q.1 + 1 == i && q.2.category == 2)) = lv2) (k : nX g b d M (pc + 3) lv2 st τ h cn sn Q) : nX g b d M pc lv st τ h cn sn Q := by
  intro p l e R s m args below meth c H locs cells slots Fin C hH hS ls hl
  exact lv_iinc C.1.1 C.1.2.1 hd hl (k := j9) hj (show zI z + zI n = zI (z + n) from zI_add z n) hn ho (fun ls hl => k p l e R s m args below meth c H locs cells slots Fin C hH hS ls hl)
theorem nR_goto {off : Int} {tgt : Nat} (hd : decode M.2.1 pc = .ok (.goto off, 3)) (ht : (pc : Int) + off = (tgt : Int)) (k : nX g b d M tgt lv st τ h cn sn Q) : nX g b d M pc lv st τ h cn sn Q := by
  intro p l e R s m args below meth c H locs cells slots Fin C hH hS ls hl
  exact lv_goto C.1.1 C.1.2.1 hd ht (k p l e R s m args below meth c H locs cells slots Fin C hH hS ls hl)
theorem nR_icmp_ge {a9 b9 off : Int} {tgt : Nat} (hd : decode M.2.1 pc = .ok (.if_icmp .ge off, 3)) (ht : (pc : Int) + off = (tgt : Int)) (ha : rg a9) (hb : rg b9) (kt : b9 ≤ a9 → nX g b d M tgt lv st τ h cn sn Q) (kf : a9 < b9 → nX g b d M (pc + 3) lv st τ h cn sn Q) : nX g b d M pc lv (.int (zI b9) :: .int (zI a9) :: st) τ h cn sn Q := by
  intro p l e R s m args below meth c H locs cells slots Fin C hH hS ls hl
  exact lv_icmp_ge C.1.1 C.1.2.1 hd ht (fun h9 => kt ((zI_le hb ha).mp h9) p l e R s m args below meth c H locs cells slots Fin C hH hS ls hl) (fun h9 => kf (Int.not_le.mp (fun q9 => h9 ((zI_le hb ha).mpr q9))) p l e R s m args below meth c H locs cells slots Fin C hH hS ls hl)
theorem nR_obj {idx x : Nat} (hd : decode M.2.1 pc = .ok (.invokespecial idx, 3)) (hlk : Cond.methodLink M.1.cls idx Lib.objectInit ∈ lw_gd) (hd1 : 1 ≤ d) (hcat : (st.map fun v => v.category).sum ≤ 8) (k : nX g b d M (pc + 3) lv st τ h cn sn Q) : nX g b d M pc lv (.ref x :: st) τ h cn sn Q := by
  intro p l e R s m args below meth c H locs cells slots Fin C hH hS ls hl
  have h39 := C.2.2.2.1
  have hfr := C.2.2.1
  exact W.objInit C.1.1 C.1.2.1 C.1.2.2.2.1 (C.1.2.2.2.2 _ hlk) (C.1.2.2.2.2 _ kw_98) (C.1.2.2.2.2 _ kw_99) rfl (hl.1.trans C.1.2.2.1.symm) rfl hd (by omega) (by have := lv_room (m := m) (pc := pc) (ls := ls) (rest := .ref x :: st) hcat; omega) (k p l e R s m args below meth c H locs cells slots Fin C hH hS ls hl)
theorem nR_getR {idx ci k a i : Nat} {ks : List Nat} (hd : decode M.2.1 pc = .ok (.getfield idx, 3)) (hg : gfOK M.1.cls idx ci k) (ht : τ[a]? = some (0, ci, ks)) (hk : ks[k]? = some (i + 4)) (k9 : nX g b d M (pc + 3) lv (.ref (gA g i) :: st) τ h cn sn Q) : nX g b d M pc lv (.ref (gA g a) :: st) τ h cn sn Q := by
  intro p l e R s m args below meth c H locs cells slots Fin C hH hS ls hl
  obtain ⟨Cn, T, N, hc, hkN, hin, hown, hlk⟩ := hg
  exact va_get C.1.1 C.1.2.1 (own := M.1.cls) (ref := Cn) C.1.2.2.2.2 hin C.1.2.2.2.1 C.2.1.1 hH.1 a (fs := ks.mapIdx (fun i k => vK (gA g) k (h a i))) (eL_get ht) hc k hkN (C.1.2.2.2.2 _ hlk) (by intro x hx; rw [hown] at hx; exact hx) (v := .ref (gA g i)) (e_fs_get (f := h a) hk) hd (k9 p l e R s m args below meth c H locs cells slots Fin C hH hS ls hl)
def pfN (own : String) (idx ci k : Nat) (ty : FieldType) : Prop := ∃ (C : String) (T : u_T) (N : Nat), e_cl[ci]? = some (C, T, N) ∧ k < N ∧ (∀ w ∈ u_ws C T N, w ∈ lw_gd) ∧ (T k).1 = C ∧ Cond.fieldLink own idx C (T k).2.1 (T k).2.2.1 ∈ lw_gd ∧ ((T k).2.2.2 = false ∨ (T k).2.2.2 = true ∧ (T k).1 = own) ∧ parseFieldDescriptor (T k).2.2.1 = some ty ∧ ∃ ty0 : Nat → FieldType, (∀ k, k < N → parseFieldDescriptor (T k).2.2.1 = some (ty0 k)) ∧ ∀ a, a < N → ∀ b, b < N → a ≠ b → (T a).2.1 ≠ (T b).2.1
theorem n_put {idx ci k a kk : Nat} {ks : List Nat} {ty : FieldType} {v : Value} {h' : PH} (hd : decode M.2.1 pc = .ok (.putfield idx, 3)) (hg : pfN M.1.cls idx ci k ty) (ht : τ[a]? = some (0, ci, ks)) (hk : ks[k]? = some kk)
    (hn : narrow ty v = v) (hf : fits ty v = true) (hset : (eL g τ h).set a (gA g a, .inr (ci, (ks.mapIdx (fun i k => vK (gA g) k (h a i))).set k v)) = eL g τ' h') (hlen : τ'.length = τ.length) (k9 : nX g b d M (pc + 3) lv st τ' h' cn sn (nE g M Q0)) : nX g b d M pc lv (v :: .ref (gA g a) :: st) τ h cn sn (nE g M Q0) := by
  intro p l e R s m args below meth c H locs cells slots Fin C hH hS ls hl
  obtain ⟨Cn, T, N, hc, hkN, hin, hown, hlk, hfin, hpd, ty0, hty, hnm⟩ := hg
  have hC := C.2.2.2.2.2.2.1
  have kk9 : ∀ (H1 : Heap) (locs1 : List Loc), va_P g.1 e_cl ((eL g τ h).set a (gA g a, .inr (ci, (ks.mapIdx (fun i k => vK (gA g) k (h a i))).set k v))) H1 → va_D (eA g) ((eL g τ h).set a (gA g a, .inr (ci, (ks.mapIdx (fun i k => vK (gA g) k (h a i))).set k v))) → va_S (eA g) s.heap H1 locs1 → W p l e R s m args below meth c H1 locs1 cells slots Fin (F0 m (pc + 3) ls st) := fun H1 locs1 hP1 _ hS1 => by
    rw [hset] at hP1
    exact k9 p l e R s m args below meth c H1 locs1 cells slots Fin (by rw [hlen]; exact C) ⟨hP1, nG_DD hC.2.1 _⟩ hS1 ls hl
  rcases hfin with hfin | ⟨hfin, hdecl⟩
  · exact va_put C.1.1 C.1.2.1 (own := M.1.cls) (ref := Cn) C.1.2.2.2.2 hin ty0 hty hnm C.1.2.2.2.1 C.2.1.1 hH.1 (eD hH.2) hS a (fs := ks.mapIdx (fun i k => vK (gA g) k (h a i))) (eL_get ht) hc k hkN (C.1.2.2.2.2 _ hlk) (by intro x hx; rw [hown] at hx; exact hx) hfin hpd hn hf (by rw [List.length_mapIdx]; exact (List.getElem?_eq_some_iff.mp hk).1) hd kk9
  · exact va_putF C.1.1 C.1.2.1 (own := M.1.cls) (ref := Cn) C.1.2.2.2.2 hin ty0 hty hnm C.1.2.2.2.1 C.2.1.1 hH.1 (eD hH.2) hS a (fs := ks.mapIdx (fun i k => vK (gA g) k (h a i))) (eL_get ht) hc k hkN (C.1.2.2.2.2 _ hlk) (by intro x hx; rw [hown] at hx; exact hx) hfin C.2.2.2.2.2.2.2.1 hdecl hpd hn hf (by rw [List.length_mapIdx]; exact (List.getElem?_eq_some_iff.mp hk).1) hd kk9
theorem nR_putI {idx ci k a : Nat} {ks : List Nat} {z : Int} (hd : decode M.2.1 pc = .ok (.putfield idx, 3)) (hg : pfN M.1.cls idx ci k .int) (ht : τ[a]? = some (0, ci, ks)) (hk : ks[k]? = some 0) (k9 : nX g b d M (pc + 3) lv st τ (hU h a k z) cn sn (nE g M Q0)) : nX g b d M pc lv (.int (zI z) :: .ref (gA g a) :: st) τ h cn sn (nE g M Q0) :=
  n_put hd hg ht hk rfl rfl (e_setI ht hk) rfl k9
theorem nR_putI0 {idx ci k a : Nat} {ks : List Nat} {z : Int} (hz : h a k = z) (hd : decode M.2.1 pc = .ok (.putfield idx, 3)) (hg : pfN M.1.cls idx ci k .int) (ht : τ[a]? = some (0, ci, ks)) (hk : ks[k]? = some 0) (k9 : nX g b d M (pc + 3) lv st τ h cn sn (nE g M Q0)) : nX g b d M pc lv (.int (zI z) :: .ref (gA g a) :: st) τ h cn sn (nE g M Q0) :=
  nR_putI hd hg ht hk (by rw [hU_idv hz]; exact k9)
theorem nR_putZ0 {idx ci k a : Nat} {ks : List Nat} (hz : h a k = 0) (hd : decode M.2.1 pc = .ok (.putfield idx, 3)) (hg : pfN M.1.cls idx ci k .boolean) (ht : τ[a]? = some (0, ci, ks)) (hk : ks[k]? = some 1) (k9 : nX g b d M (pc + 3) lv st τ h cn sn (nE g M Q0)) : nX g b d M pc lv (.int (zI 0) :: .ref (gA g a) :: st) τ h cn sn (nE g M Q0) :=
  n_put (h' := hU h a k 0) hd hg ht hk rfl rfl (e_setI ht hk) rfl (by rw [hU_idv hz]; exact k9)
theorem nR_putL0 {idx ci k a : Nat} {ks : List Nat} (hz : h a k = 0) (hd : decode M.2.1 pc = .ok (.putfield idx, 3)) (hg : pfN M.1.cls idx ci k .long) (ht : τ[a]? = some (0, ci, ks)) (hk : ks[k]? = some 2) (k9 : nX g b d M (pc + 3) lv st τ h cn sn (nE g M Q0)) : nX g b d M pc lv (.long (zL 0) :: .ref (gA g a) :: st) τ h cn sn (nE g M Q0) :=
  n_put (h' := hU h a k 0) hd hg ht hk rfl rfl (e_setI ht hk) rfl (by rw [hU_idv hz]; exact k9)
theorem nR_putR {idx ci k a i : Nat} {ks : List Nat} {ty : FieldType} (hd : decode M.2.1 pc = .ok (.putfield idx, 3)) (hg : pfN M.1.cls idx ci k ty) (hn : narrow ty (.ref (gA g i)) = .ref (gA g i)) (hf : fits ty (.ref (gA g i)) = true) (ht : τ[a]? = some (0, ci, ks)) (hk : k < ks.length) (hτ : τ.set a (0, ci, ks.set k (i + 4)) = τ') (k9 : nX g b d M (pc + 3) lv st τ' h cn sn (nE g M Q0)) : nX g b d M pc lv (.ref (gA g i) :: .ref (gA g a) :: st) τ h cn sn (nE g M Q0) := by
  have hl : a < τ.length := (List.getElem?_eq_some_iff.mp ht).1
  obtain ⟨kk, hkk⟩ : ∃ kk, ks[k]? = some kk := ⟨ks[k], List.getElem?_eq_getElem hk⟩
  subst hτ
  refine n_put hd hg ht hkk hn hf ?_ (by rw [List.length_set]) k9
  have h1 := e_fs_setK (ad := gA g) (f := h a) (kk := i + 4) hk
  rw [show (Value.ref (gA g i)) = vK (gA g) (i + 4) (h a k) from rfl, h1]
  rw [show (Sum.inr (ci, (ks.set k (i + 4)).mapIdx fun i k' => vK (gA g) k' (h a i)) : va_E) = eC (gC g) (gA g) (0, ci, ks.set k (i + 4)) (h a) from rfl, eL_set hl]
  congr 1
  funext a'
  by_cases ha : a' = a
  · subst ha; simp
  · simp [ha]
def nwOK (own : String) (idx ci N : Nat) (ks : List Nat) : Prop := ∃ (C : String) (T : u_T) (ty : Nat → FieldType), e_cl[ci]? = some (C, T, N) ∧ (∀ w ∈ u_ws C T N, w ∈ lw_gd) ∧ (∀ k, k < N → parseFieldDescriptor (T k).2.2.1 = some (ty k)) ∧ Cond.classLink own idx C ∈ lw_gd ∧ Cond.instantiable C N ∈ lw_gd ∧ Cond.initialized C ∈ lw_gd ∧ ks.length = N ∧ ∀ j, j < N → ∀ ad : Nat → Nat, defaultValue (ty j) = (ks.mapIdx (fun _ k => vK ad k 0)).getD j .null
/-- cells that come: the world grows by L -/
theorem n_grow {p : Program} {l : Launch} {e : Env} {R : Room} {s : State} {m : MethodId} {args : Array Value} {below : List Frame} {meth : Method} {c : Code} {H H1 : Heap} {locs : List Loc} {cells slots : Nat} {Fin : State → Prop} {L : List Kd} {pc2 : Nat} {st2 : List Value} {ls : Array Slot}
    (C : nCx g b d τ.length M cn sn Q p l e R s m args below meth c cells slots Fin) (hH : eH g τ h H) (hS : va_S (eA g) s.heap H locs) (hz : H.size = b + τ.length) (hz1 : H1.size = H.size + L.length) (ho : ∀ q : Nat, q < H.size → H1[q]? = H[q]?)
    (hL : va_P g.1 e_cl (L.mapIdx (fun k kd => (gA g (τ.length + k), eC (gC g) (gA g) kd (h (τ.length + k))))) H1) (hcn : cn = cn' + L.length) (hsn : sn = sn' + ms) (hτ : τ ++ L = τ') (hl : lv_has ls M.2.2.1 lv) (k : nX g b d M pc2 lv st2 τ' h cn' sn' Q) : W p l e R s m args below meth c H1 locs (cells + L.length) (slots + ms) Fin (F0 m pc2 ls st2) := by
  subst hτ
  have hC := C.2.2.2.2.2.2.1
  refine k p l e R s m args below meth c H1 locs (cells + L.length) (slots + ms) Fin (nCx_mv C (by omega) (by omega) (by rw [List.length_append]; have := hC.2.2.2.2; omega)) ⟨?_, nG_DD hC.2.1 _⟩ ⟨by have := hS.1; omega, fun x h1 h2 => (ho x (Nat.lt_of_lt_of_le h1 hS.1)).trans (hS.2.1 x h1 h2), hS.2.2⟩ ls hl
  rw [n_eL]
  exact (hH.1.kept (fun k x hx => ho x.1 ((hH.1 k x hx).lt))).app hL
theorem nR_new {idx ci N q : Nat} {ks : List Nat} (hd : decode M.2.1 pc = .ok (.new idx, 3)) (hg : nwOK M.1.cls idx ci N ks) (hq : τ.length = q) (hcn : cn = cn' + 1) (hsn : sn = sn' + N) (hh : ∀ i, h q i = 0) (hτ : τ ++ [(0, ci, ks)] = τ') (k : nX g b d M (pc + 3) lv (.ref (gA g q) :: st) τ' h cn' sn' Q) : nX g b d M pc lv st τ h cn sn Q := by
  intro p l e R s m args below meth c H locs cells slots Fin C hH hS ls hl
  refine n_size C hH hS (fun hz => ?_)
  obtain ⟨Cn, T, ty, hc, hin, hty, hlk, hins, hini, hlen, hdv⟩ := hg
  subst hq
  have hC := C.2.2.2.2.2.2.1
  have hKn := C.2.1.1.1 ci _ hc
  refine W.newcK C.1.1 C.1.2.1 C.1.2.2.2.1 (C.1.2.2.2.2 _ hlk) (C.1.2.2.2.2 _ hins) (C.1.2.2.2.2 _ hini) rfl hd (by have := C.2.2.2.2.1; omega) (by have := C.2.2.2.2.2.1; omega) hKn.2.1 (hz.trans (hC.2.1.1 τ.length).symm) (fun H1 kC hkC e1 z1 o1 => ?_)
  rw [hC.2.1.1] at z1 o1
  refine n_grow (L := [(0, ci, ks)]) (ms := N) C hH hS hz (by rw [z1, hz]; rfl) (fun q hq => o1 q (by omega)) (fun k x hx => ?_) hcn hsn hτ hl k
  have hz0 : k < 1 := (List.getElem?_eq_some_iff.mp hx).1
  rw [show k = 0 by omega] at hx
  cases hx
  refine ⟨_, hc, (u_born ty C.1.2.2.2.2 hin hKn hkC e1 hty).to (fun j hj => (hdv j hj (gA g)).trans ?_)⟩
  show _ = ((ks.mapIdx (fun i k => vK (gA g) k (h τ.length i))).getD j .null)
  simp only [hh]
theorem nR_newaI {N q : Nat} {z : Int} (hd : decode M.2.1 pc = .ok (.newarray .int, 2)) (hz9 : z = (N : Int)) (hN : N < 100000000) (hq : τ.length = q) (hcn : cn = cn' + 1) (hsn : sn = sn' + N) (hh : ∀ i, h q i = 0) (hτ : τ ++ [(1, N, [])] = τ') (k : nX g b d M (pc + 2) lv (.ref (gA g q) :: st) τ' h cn' sn' Q) : nX g b d M pc lv (.int (zI z) :: st) τ h cn sn Q := by
  intro p l e R s m args below meth c H locs cells slots Fin C hH hS ls hl
  refine n_size C hH hS (fun hz => ?_)
  subst hq; subst hz9
  have hC := C.2.2.2.2.2.2.1
  have hcl := zI_cl (n := N) (by omega)
  have h0 : ¬ zI (N : Int) < 0 := by rw [zI_0, zI_lt ⟨by omega, by omega⟩ rg_0]; omega
  refine va_newaK (atype := .int) C.1.1 C.1.2.1 (C.1.2.2.2.2 _ kw_125) rfl hd rfl h0 hcl (by show N * 4 ≤ 536870912; omega) (by have := C.2.2.2.2.1; omega) (by have := C.2.2.2.2.2.1; omega) (hz.trans (hC.2.1.1 τ.length).symm) (fun H1 cA e1 z1 o1 hAr hfc => ?_)
  rw [hC.2.1.1] at z1 o1
  have hcA : cA = gC g 0 := Option.some.inj (hfc.symm.trans (C.2.1.1.2 0 (gC g 0, .int) rfl).2)
  subst hcA
  refine n_grow (L := [(1, N, [])]) (ms := N) C hH hS hz (by rw [z1, hz]; rfl) (fun q hq => o1 q (by omega)) (fun k x hx => ?_) hcn hsn hτ hl k
  have hz0 : k < 1 := (List.getElem?_eq_some_iff.mp hx).1
  rw [show k = 0 by omega] at hx
  cases hx
  show H1[gA g (τ.length + 0)]? = some (vp_cell (gC g 0) (N, .inl (fun j => zI (h (τ.length + 0) j))))
  rw [Nat.add_zero, vp_cell_i]
  simp only [hh]
  exact e1
theorem nR_newaZ {N q : Nat} {z : Int} (hd : decode M.2.1 pc = .ok (.newarray .boolean, 2)) (hz9 : z = (N : Int)) (hN : N < 100000000) (hq : τ.length = q) (hcn : cn = cn' + 1) (hsn : sn = sn' + N) (hh : ∀ i, h q i = 0) (hτ : τ ++ [(2, N, [])] = τ') (k : nX g b d M (pc + 2) lv (.ref (gA g q) :: st) τ' h cn' sn' Q) : nX g b d M pc lv (.int (zI z) :: st) τ h cn sn Q := by
  intro p l e R s m args below meth c H locs cells slots Fin C hH hS ls hl
  refine n_size C hH hS (fun hz => ?_)
  subst hq; subst hz9
  have hC := C.2.2.2.2.2.2.1
  have hcl := zI_cl (n := N) (by omega)
  have h0 : ¬ zI (N : Int) < 0 := by rw [zI_0, zI_lt ⟨by omega, by omega⟩ rg_0]; omega
  refine va_newaK (atype := .boolean) C.1.1 C.1.2.1 (C.1.2.2.2.2 _ kw_164) rfl hd rfl h0 hcl (by show N * 1 ≤ 536870912; omega) (by have := C.2.2.2.2.1; omega) (by have := C.2.2.2.2.2.1; omega) (hz.trans (hC.2.1.1 τ.length).symm) (fun H1 cA e1 z1 o1 hAr hfc => ?_)
  rw [hC.2.1.1] at z1 o1
  have hcA : cA = gC g 1 := Option.some.inj (hfc.symm.trans (C.2.1.1.2 1 (gC g 1, .boolean) rfl).2)
  subst hcA
  refine n_grow (L := [(2, N, [])]) (ms := N) C hH hS hz (by rw [z1, hz]; rfl) (fun q hq => o1 q (by omega)) (fun k x hx => ?_) hcn hsn hτ hl k
  have hz0 : k < 1 := (List.getElem?_eq_some_iff.mp hx).1
  rw [show k = 0 by omega] at hx
  cases hx
  show H1[gA g (τ.length + 0)]? = some (vp_cell (gC g 1) (N, .inl (fun j => zI (h (τ.length + 0) j))))
  rw [Nat.add_zero, vp_cell_i]
  simp only [hh]
  exact e1
theorem nR_newq {idx N q : Nat} {z : Int} {ks : List Nat} (hd : decode M.2.1 pc = .ok (.anewarray idx, 3)) (hlk : Cond.classLink M.1.cls idx RX0 ∈ lw_gd) (hz9 : z = (N : Int)) (hN : N < 100000000) (hks : ∀ j, ks.getD j 3 = 3) (hq : τ.length = q) (hcn : cn = cn' + 1) (hsn : sn = sn' + N) (hτ : τ ++ [(4, N, ks)] = τ') (k : nX g b d M (pc + 3) lv (.ref (gA g q) :: st) τ' h cn' sn' Q) : nX g b d M pc lv (.int (zI z) :: st) τ h cn sn Q := by
  intro p l e R s m args below meth c H locs cells slots Fin C hH hS ls hl
  refine n_size C hH hS (fun hz => ?_)
  subst hq; subst hz9
  have hC := C.2.2.2.2.2.2.1
  have hcl := zI_cl (n := N) (by omega)
  have h0 : ¬ zI (N : Int) < 0 := by rw [zI_0, zI_lt ⟨by omega, by omega⟩ rg_0]; omega
  refine W.anew C.1.1 C.1.2.1 C.1.2.2.2.1 (C.1.2.2.2.2 _ hlk) (va_AO.use (C := RX0) hC.1.1) rfl hd rfl h0 (by rw [hcl]; omega) (by have := C.2.2.2.2.1; omega) (by rw [hcl]; have := C.2.2.2.2.2.1; omega) (fun cA kA comp f1 f2 f3 f4 => ?_)
  rw [hcl]
  obtain ⟨kA2, comp2, -, -, -, f5⟩ := (C.2.1.1.2 3 (gC g 3, .object RX0) rfl).2
  have hcA : cA = gC g 3 := Option.some.inj (f1.symm.trans f5)
  subst hcA
  generalize hH1 : H.push ({ cls := gC g 3, slots := Array.replicate N .null, vm := .none } : Cell) = H1
  have z1 : H1.size = H.size + 1 := by rw [← hH1, Array.size_push]
  have e1 : H1[H.size]? = some (arrV (gC g 3) N (fun _ => .null)) := by rw [← hH1, Array.getElem?_push_size, ← arrV_new]
  have o1 : ∀ q : Nat, q < H.size → H1[q]? = H[q]? := fun q hq => by rw [← hH1, Array.getElem?_push, if_neg (Nat.ne_of_lt hq)]
  have hsz : H.size = gA g τ.length := hz.trans (hC.2.1.1 τ.length).symm
  rw [show ({ F0 m pc ls (.int (zI (N : Int)) :: st) with pc := pc + 3, stack := Value.ref H.size :: st } : JFrame) = F0 m (pc + 3) ls (.ref (gA g τ.length) :: st) from by rw [hsz]]
  refine n_grow (L := [(4, N, ks)]) (ms := N) C hH hS hz z1 o1 (fun k x hx => ?_) hcn hsn hτ hl k
  have hz0 : k < 1 := (List.getElem?_eq_some_iff.mp hx).1
  rw [show k = 0 by omega] at hx
  cases hx
  show H1[gA g (τ.length + 0)]? = some (vp_cell (gC g 3) (N, .inr (.inr (.inr (.inr (fun j => rK (gA g) (ks.getD j 3)))))))
  rw [Nat.add_zero, vp_cell_q, ← hsz]
  simp only [hks]
  exact e1
theorem nR_mna {g : EG} {b d cn cn' sn sn' : Nat} {M : MM} {pc : Nat} {lv : List (Nat × Value)} {st : List Value} {τ τ' : List Kd} {h : PH} {Q : NQ} {idx N K q : Nat} {z y : Int} (hd : decode M.2.1 pc = .ok (.multianewarray idx 2, 4)) (hlk : Cond.classLink M.1.cls idx "[[I" ∈ lw_gd) (hz9 : z = (N : Int)) (hy9 : y = (K : Int)) (hN : N < 100000000) (hK : K < 100000000) (hq : τ.length = q) (hcn : cn = cn' + (N + 1)) (hsn : sn = sn' + (N + N * K)) (hh : ∀ a i, q ≤ a → h a i = 0) (hτ : τ ++ (3, N, rowsK (q + 1) N) :: List.replicate N (1, K, []) = τ') (k : nX g b d M (pc + 4) lv (.ref (gA g q) :: st) τ' h cn' sn' Q) : nX g b d M pc lv (.int (zI y) :: .int (zI z) :: st) τ h cn sn Q := by
  intro p l e R s m args below meth c H locs cells slots Fin C hH hS ls hl
  refine n_size C hH hS (fun hz => ?_)
  subst hq; subst hz9; subst hy9
  have hC := C.2.2.2.2.2.2.1
  have hcN := zI_cl (n := N) (by omega)
  have hcK := zI_cl (n := K) (by omega)
  have hN0 : ¬ zI (N : Int) < 0 := by rw [zI_0, zI_lt ⟨by omega, by omega⟩ rg_0]; omega
  have hK0 : ¬ zI (K : Int) < 0 := by rw [zI_0, zI_lt ⟨by omega, by omega⟩ rg_0]; omega
  have hcy : s.vm.findClass (FieldType.array .int).toString = some (gC g 0) := (C.2.1.1.2 0 (gC g 0, .int) rfl).2
  have hc2 : s.vm.findClass ("[" ++ (FieldType.array .int).toString) = some (gC g 2) := (C.2.1.1.2 2 (gC g 2, .array .int) rfl).2
  have hc5 := C.2.2.2.2.1
  have hc6 := C.2.2.2.2.2.1
  refine m_mna C.1.1 C.1.2.1 C.1.2.2.2.1 (C.1.2.2.2.2 _ hlk) hC.1.2 (C.1.2.2.2.2 _ kw_125) (g := F0 m pc ls (.int (zI (K : Int)) :: .int (zI (N : Int)) :: st)) rfl hd rfl hN0 hK0 hcN hcK (by omega) (by omega) (by omega) (by omega) (fun H1 cA comp fA fC f1 f2 hrow hold => ?_)
  cases hcy.symm.trans fC
  cases hc2.symm.trans fA
  unfold mO at f2
  unfold mI at hrow
  have hL : va_P g.1 e_cl (((3, N, rowsK (τ.length + 1) N) :: List.replicate N (1, K, [])).mapIdx (fun k kd => (gA g (τ.length + k), eC (gC g) (gA g) kd (h (τ.length + k))))) H1 := by
    intro k x hx
    rw [List.getElem?_mapIdx] at hx
    obtain ⟨kd, hk, rfl⟩ := Option.map_eq_some_iff.mp hx
    cases k with
    | zero =>
      cases hk
      show H1[gA g (τ.length + 0)]? = some (vp_cell (gC g 2) (N, .inr (.inr (.inr (.inr (fun j => rK (gA g) ((rowsK (τ.length + 1) N).getD j 3)))))))
      rw [hC.2.1.1, Nat.add_zero, ← hz, vp_cell_q, f2]
      refine congrArg (fun f => some (arrV (gC g 2) N f)) (funext fun j => ?_)
      by_cases hj : j < N
      · rw [if_pos hj, rowsK_at hj]
        show va_rf (some (H.size + 1 + j)) = va_rf (some (gA g (τ.length + 1 + j)))
        refine congrArg (fun n9 => va_rf (some n9)) ?_
        rw [hC.2.1.1, hz]
        omega
      · rw [if_neg hj]
        have e9 : (rowsK (τ.length + 1) N).getD j 3 = 3 := by
          rw [List.getD, List.getElem?_eq_none (by simp [rowsK]; omega)]
          rfl
        rw [e9]
        rfl
    | succ j =>
      have hk2 : (List.replicate N ((1, K, []) : Kd))[j]? = some kd := hk
      have hj : j < N := by
        have := (List.getElem?_eq_some_iff.mp hk2).1
        rw [List.length_replicate] at this
        exact this
      rw [List.getElem?_replicate, if_pos hj] at hk2
      cases hk2
      show H1[gA g (τ.length + (j + 1))]? = some (vp_cell (gC g 0) (K, .inl (fun i => zI (h (τ.length + (j + 1)) i))))
      rw [hC.2.1.1, vp_cell_i, show b + (τ.length + (j + 1)) = H.size + 1 + j by omega, hrow j hj]
      refine congrArg (fun f => some (arrV (gC g 0) K f)) (funext fun i => ?_)
      rw [hh _ i (by omega)]
      rfl
  have hlen : ((3, N, rowsK (τ.length + 1) N) :: List.replicate N ((1, K, []) : Kd)).length = N + 1 := by simp
  have e1 : cells + 1 + N = cells + ((3, N, rowsK (τ.length + 1) N) :: List.replicate N ((1, K, []) : Kd)).length := by rw [hlen]; omega
  have e2 : slots + N + N * K = slots + (N + N * K) := by omega
  have e9 : H.size = gA g τ.length := by rw [hC.2.1.1]; exact hz
  rw [e1, e2]
  show W p l e R s m args below meth c H1 locs _ _ Fin (F0 m (pc + 4) ls (.ref H.size :: st))
  rw [e9]
  exact n_grow (ms := N + N * K) C hH hS hz (by rw [f1, hlen]; omega) hold hL (by rw [hlen]; exact hcn) hsn hτ hl k
/-- an object's address into a cell of the array of images -/
theorem nR_aast {a i n len ci : Nat} {ks vs : List Nat} {z : Int} (hd : decode M.2.1 pc = .ok (.aastore, 1)) (ht : τ[a]? = some (4, len, ks)) (hv : τ[i]? = some (0, 0, vs)) (hz : z = (n : Int)) (hn : n < len) (hl31 : len < 2147483648) (hks : n < ks.length) (hτ : τ.set a (4, len, ks.set n (i + 4)) = τ') (k9 : nX g b d M (pc + 1) lv st τ' h cn sn Q) : nX g b d M pc lv (.ref (gA g i) :: .int (zI z) :: .ref (gA g a) :: st) τ h cn sn Q := by
  intro p l e R s m args below meth c H locs cells slots Fin C hH hS ls hl
  subst hz; subst hτ
  have hC := C.2.2.2.2.2.2.1
  have hcl := zI_cl (n := n) (by omega)
  have hla : a < τ.length := (List.getElem?_eq_some_iff.mp ht).1
  refine va_astq C.1.1 C.1.2.1 C.2.1.1 hH.1 (eD hH.2) hS a 3 i 0 (cA := gC g 3) (r := (RX0, TX0, 5)) (n := len) (f := fun j => rK (gA g) (ks.getD j 3)) (eL_get ht) rfl (eL_get hv) rfl (zI_in hn (by omega)) hd (fun H1 locs1 hP1 _ hS1 => ?_)
  rw [hcl] at hP1
  have e5 : va_up (fun j => rK (gA g) (ks.getD j 3)) n (some (gA g i)) = fun j => rK (gA g) ((ks.set n (i + 4)).getD j 3) := by
    funext j
    unfold va_up
    by_cases hj : j = n
    · subst hj
      rw [if_pos rfl]
      simp [List.getD, List.getElem?_set, hks, rK]
    · rw [if_neg hj]
      simp [List.getD, List.getElem?_set, show ¬ n = j from fun q => hj q.symm]
  rw [e5] at hP1
  have e6 : (eL g τ h).set a (gA g a, eC (gC g) (gA g) (4, len, ks.set n (i + 4)) (h a)) = eL g (τ.set a (4, len, ks.set n (i + 4))) h := by
    rw [eL_set hla]
    congr 1
    funext a'
    by_cases ha : a' = a
    · subst ha; simp
    · simp [ha]
  exact k9 p l e R s m args below meth c H1 locs1 cells slots Fin (by rw [List.length_set]; exact C) ⟨by rw [← e6]; exact hP1, nG_DD hC.2.1 _⟩ hS1 ls hl
theorem nR_iast {a len n : Nat} {ks : List Nat} {z v : Int} (hd : decode M.2.1 pc = .ok (.iastore, 1)) (ht : τ[a]? = some (1, len, ks)) (hz : z = (n : Int)) (hn : n < len) (hl31 : len < 2147483648) (k9 : nX g b d M (pc + 1) lv st τ (hU h a n v) cn sn Q) : nX g b d M pc lv (.int (zI v) :: .int (zI z) :: .ref (gA g a) :: st) τ h cn sn Q := by
  intro p l e R s m args below meth c H locs cells slots Fin C hH hS ls hl
  subst hz
  have hcl := zI_cl (n := n) (by omega)
  refine va_iast C.1.1 C.1.2.1 C.2.1.1 hH.1 (eD hH.2) hS a 0 (cA := gC g 0) (n := len) (f := fun j => zI (h a j)) (eL_get ht) rfl (zI_in hn (by omega)) hd (fun H1 locs1 hP1 _ hS1 => ?_)
  rw [hcl, ← e_rowU] at hP1
  have hset := eL_set0 (g := g) (h := h) (kd := (1, len, ks)) (f' := fun i => if i = n then v else h a i) ht
  exact k9 p l e R s m args below meth c H1 locs1 cells slots Fin C ⟨by rw [show eL g τ (hU h a n v) = _ from hset.symm]; exact hP1, hH.2⟩ hS1 ls hl
theorem nR_vret (hd : decode M.2.1 pc = .ok (.return_, 1)) (hcn : cn = 0) (hsn : sn = 0) (k : Q0 .null τ h) : nX g b d M pc lv [] τ h cn sn (nE g M Q0) := by
  intro p l e R s m args below meth c H locs cells slots Fin C hH hS ls hl
  subst hcn; subst hsn
  obtain ⟨c1, c2, c3, c4, c5, c6, c7, c12⟩ := C
  exact c12.2 τ h H locs pc ls k hH hS hd
/-! calls -/
abbrev n_rm (d mc ms : Nat) : Room := { frames := d, cells := mc, slots := ms, locals := 39 * d }
abbrev n_Pc (g : EG) (b : Nat) (As : List Value) (τ : List Kd) (h : PH) : Array Value → State → Prop := va_Pc As (fun U => e_Ok g U U.heap ∧ nOv U ∧ eH g τ h U.heap ∧ U.heap.size = b + τ.length)
abbrev n_Qv (g : EG) (Q : EQ) : Array Value → State → Outcome → State → Prop := va_Qv (S := List Kd × PH) (fun u => Q .null u.1 u.2) (fun u t => eH g u.1 u.2 t.heap) (eA g)
theorem n_met (l : Launch) {x : Nat} (hG : nG g b) (hM : okI M) (hlen : 1 ≤ M.2.2.1) (hE : nX g b d M 0 (lv_args 0 [.ref x]) [] τ h mc ms (nE g M Q0)) : Met l M.1 (e_ws M) (n_rm d mc ms) (n_Pc g b [.ref x] τ h) (n_Qv g Q0) mc ms (eA g) := by
  refine Met.ofW (cc := M.2.1) (maxL := M.2.2.1) (ret := M.2.2.2.1) hM.1.2.2.2.1 rfl ?_
  intro p e s m args below meth c s₁ B hml hv
  obtain ⟨rfl, hok, hov, hH, hsz⟩ := hv
  have hts := atoms_spec (ws := e_ws M) B.pre
  have hown : s.vm.findClass M.1.cls = some m.cls := findClass_of_methodNamed B.named
  have hin : meth.name = M.1.name := (name_of_methodNamed B.named B.method).1
  have hl := lv_entry [.ref x] (n := M.2.2.1) hlen
  rw [lg_entry_eq]
  refine hE p l e _ s m _ below meth c s.heap [] 0 0 _ ⟨⟨B.exec, B.bytes, hml, hown, fun w hw => hts w (List.mem_cons_of_mem _ hw)⟩, hok, Nat.le_refl _, Nat.le_refl _, by rw [Nat.zero_add]; exact Nat.le_refl _, by rw [Nat.zero_add]; exact Nat.le_refl _, ⟨hov, hG, by omega, trivial, by omega⟩, hin.trans hM.2.1, ?_⟩ hH va_S.rf _ hl
  intro τ' h' H' locs' pc' ls' hq hH' hS' hdg
  rw [Nat.zero_add, Nat.zero_add]
  exact W.vret B.exec B.bytes (B.returns.trans hM.2.2.2) (fun t ht _ => ⟨⟨(τ', h'), rfl, hq, by show eH g τ' h' t.heap; rw [ht]; exact hH'⟩, hS'.F ht⟩) hS'.2.2 hdg B.notSynchronized
theorem n_blind {As : List Value} : FrameBlind (n_Pc g b As τ h) := fun a U gg mk q => by
  obtain ⟨q0, q1, q2, q3⟩ := q
  exact ⟨q0, e_Ok_same (u := U) (U := U.calling gg mk a) rfl q1, nOv_moved (u := U) (U := U.calling gg mk a) (Vm.Alike.refl U.vm) q2, q3⟩
theorem nR_init {idx a d' : Nat} (hd : decode M.2.1 pc = .ok (.invokespecial idx, 3)) (hok : okI M') (hlk : Cond.methodLink M.1.cls idx M'.1 ∈ lw_gd) (h0 : M'.2.2.2.2 = 0) (hml : 1 ≤ M'.2.2.1) (hdd : d' + 1 ≤ d) (hcat : (st.map fun v => v.category).sum ≤ 8) (hcn : cn = cn' + mc) (hsn : sn = sn' + ms)
    (k9 : nX g b d' M' 0 (lv_args 0 [.ref (gA g a)]) [] τ h mc ms (nE g M' (fun _ τ' h' => τ'.length = τ.length + mc ∧ nX g b d M (pc + 3) lv st τ' h' cn' sn' Q))) : nX g b d M pc lv (.ref (gA g a) :: st) τ h cn sn Q := by
  intro p l e R s m args below meth c H locs cells slots Fin C hH hS ls hl
  refine n_size C hH hS (fun hz => ?_)
  have hC := C.2.2.2.2.2.2.1
  have hMet := n_met l hC.2.1 hok hml k9
  have h20 := hok.1.2.2.2.2
  have h39 := C.2.2.2.1
  have hfr := C.2.2.1
  have hret := hok.2.2.2
  exact va_callv (va_runI (As := []) (rest := st) C.1 hMet (cwI 0 C.1.2.2.2.2 (e_good hok.1) (show e_ws M' = Cond.code M'.1 M'.2.1 M'.2.2.1 none :: lw_gd from by rw [← hret]) rfl rfl (C.1.2.2.2.2 _ hok.1.2.1) (C.1.2.2.2.2 _ hlk) (C.1.2.2.2.2 _ hok.2.2.1) hok.2.1 (by have := hok.1.2.2.1; rw [h0] at this; exact this) ⟨by show d' + 1 ≤ R.frames; omega, by show 8 + (M'.2.2.1 + 11) + 39 * d' ≤ R.locals; omega⟩) ⟨n_blind, fun U hU hW => ⟨rfl, by rw [hU]; exact e_Ok_warm hW (e_Ok_kept C.2.1 hS.1 hS.2.1), nOv_moved hW.alike hC.1, by rw [hU]; exact hH, by rw [hU]; exact hz⟩⟩ rfl rfl hl.1 rfl (lv_room hcat) hd ⟨by have := C.2.2.2.2.1; omega, by have := C.2.2.2.2.2.1; omega⟩) hS (fun q _ hq => hq) (fun q hq => hq) (fun u t H1 locs1 ht1 hvm hw hB hz9 hk hS1 => by
    have hB1 : eH g u.1 u.2 t.heap := hB
    rw [ht1] at hB1
    exact hw.2 p l e R s m args below meth c H1 locs1 (cells + mc) (slots + ms) Fin (nCx_mv C (by omega) (by omega) (by rw [hw.1]; have := hC.2.2.2.2; omega)) hB1 hS1 ls hl)
/-- a plain method, called by a constructor -/
theorem nR_callVv {idx a ci d' : Nat} {ks : List Nat} (hd : decode M.2.1 pc = .ok (.invokevirtual idx, 3)) (hok : okV M') (hlk : Cond.methodLink M.1.cls idx M'.1 ∈ lw_gd) (hr : M'.2.2.2.1 = none)
    (hn : 0 = M'.2.2.2.2) (ht : τ[a]? = some (0, ci, ks)) (hcl : (e_cl[ci]?).map (fun q => q.1) = some M'.1.cls) (hlen : 1 ≤ M'.2.2.1) (hdd : d' + 1 ≤ d) (hcat : (st.map fun v => v.category).sum ≤ 8)
    (k9 : eX g d' M' 0 (lv_args 0 [.ref (gA g a)]) [] τ h (fun _ τ' h' => τ'.length = τ.length ∧ nX g b d M (pc + 3) lv st τ' h' cn sn Q)) : nX g b d M pc lv (.ref (gA g a) :: st) τ h cn sn Q := by
  intro p l e R s m args below meth c H locs cells slots Fin C hH hS ls hl
  have hMet := e_met_v (As := [.ref (gA g a)]) l hok.1 hr hlen k9
  obtain ⟨q, hq, hq1⟩ := Option.map_eq_some_iff.mp hcl
  have hrc := va_recv C.2.1.1 hH.1 (ci := ci) (q0 := a) hq (eL_get ht)
  rw [hq1] at hrc
  exact va_callv (va_runV (As := []) (rest := st) C.1 hMet (cwV M'.2.2.2.2 C.1.2.2.2.2 (e_gV hok hlk) rfl rfl rfl ⟨rfl, hok.1.2.2.1⟩ (e_room hok.1 hdd C.2.2.1 C.2.2.2.1)) ⟨e_blind, hrc, e_start C.2.1 hH hS⟩ rfl hn hl.1 rfl (lv_room hcat) hd ⟨by have := C.2.2.2.2.1; omega, by have := C.2.2.2.2.2.1; omega⟩) hS (fun q _ hq => hq) (fun q hq => hq) (fun u t H1 locs1 ht1 hvm hw hB hz hk hS1 => by
    have hB1 : eH g u.1 u.2 t.heap := hB
    rw [ht1] at hB1
    obtain ⟨v, hw⟩ := hw
    exact hw.2 p l e R s m args below meth c H1 locs1 cells slots Fin (by rw [hw.1]; exact C) hB1 hS1 ls hl)
end NX
theorem n_get {τ0 L : List Kd} {n j : Nat} {kd : Kd} (hn : τ0.length = n) (h9 : L[j]? = some kd) : (τ0 ++ L)[n + j]? = some kd := by
  rw [List.getElem?_append_right (by omega), show n + j - τ0.length = j by omega]; exact h9
theorem n_set {τ0 L L' : List Kd} {n j : Nat} {kd : Kd} (hn : τ0.length = n) (h9 : L.set j kd = L') : (τ0 ++ L).set (n + j) kd = τ0 ++ L' := by
  rw [List.set_append_right _ _ (by omega), show n + j - τ0.length = j by omega, h9]
