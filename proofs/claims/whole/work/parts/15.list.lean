/-! the list's one empty array, a static that nobody writes -/
def zSt (tE mi : Nat) (A : Nat → Prop) (U : State) : Prop := va_Z R_Al "DEFAULTCAPACITY_EMPTY_ELEMENTDATA" "[Ljava/lang/Object;" (.ref tE) A U U.heap ∧ va_T (.object R_Oj) tE 0 (fun _ => .null) A U U.heap ∧ va_Mi "[Ljava/lang/Object;" mi U
theorem zSt.call {tE mi : Nat} {A0 A' : Nat → Prop} {s U : State} {H : Heap} {locs : List Loc} (h : zSt tE mi A0 s) (hS : va_S A0 s.heap H locs) (hA : ∀ q, A' q → A0 q) (hU : U.heap = H) (hW : s.WarmedH U.vm) : zSt tE mi A' U := by
  unfold zSt
  rw [hU]
  exact ⟨va_Z.narrow (va_Z.moved hW.alike (va_Z.kept h.1 (fun a h1 h2 => hS.2.1 a h1 h2))) hA, va_T.narrow (va_T.moved hW.alike (va_T.kept h.2.1 (fun a h1 h2 => hS.2.1 a h1 h2))) hA, va_Mi.moved hW.alike h.2.2⟩
def zPreS (D : va_G) (cl : List vw_C) (T : List (ClassId × FieldType)) (av : List Value) (X : va_W) (sz tE mi : Nat) : Array Value → State → Prop := fun v U => zPre D cl T av X sz v U ∧ zSt tE mi (va_A X sz) U
theorem zPreS_blind {D : va_G} {cl : List vw_C} {T : List (ClassId × FieldType)} {av : List Value} {X : va_W} {sz tE mi : Nat} : FrameBlind (zPreS D cl T av X sz tE mi) := fun a U g mk q =>
  ⟨zPre_blind a U g mk q.1, va_Z.moved (u := U) (U := U.calling g mk a) (Vm.Alike.refl U.vm) q.2.1, va_T.moved (u := U) (U := U.calling g mk a) (Vm.Alike.refl U.vm) q.2.2.1, va_Mi.moved (u := U) (U := U.calling g mk a) (Vm.Alike.refl U.vm) q.2.2.2⟩
section ZPS
variable {s : State} {H : Heap} {D : va_G} {cl : List vw_C} {T : List (ClassId × FieldType)} {X cx pl : va_W} {A0 : Nat → Prop} {locs : List Loc} {tE mi : Nat}
theorem zp_QS {av : List Value} (hK : va_K D cl T s) (hE : zE s) (hZ : zSt tE mi A0 s) (hS : va_S A0 s.heap H locs) (hA : ∀ q, s.heap.size ≤ q → A0 q) (hP : va_P D cl (X ++ pl) H) (hD : va_D A0 (X ++ pl)) (isC : List Nat) (hn : va_nd isC = true) (hC : isC.map (fun i => X[i]?) = cx.map some) : ∀ U : State, U.heap = H → s.WarmedH U.vm → zPreS D cl T av cx H.size tE mi av.toArray U :=
  fun U hU hW => ⟨zp_Q hK hE hP hD isC hn hC U hU hW, zSt.call hZ hS (zFree hD hS hA isC hC) hU hW⟩
theorem zp_PS {av : List Value} (hK : va_K D cl T s) (hE : zE s) (hZ : zSt tE mi A0 s) (hS : va_S A0 s.heap H locs) (hA : ∀ q, s.heap.size ≤ q → A0 q) (hP : va_P D cl (X ++ pl) H) (hD : va_D A0 (X ++ pl)) (isC : List Nat) (hn : va_nd isC = true) (hC : isC.map (fun i => X[i]?) = cx.map some) : ∀ U : State, U.heap = H → s.WarmedH U.vm → zPreS D cl T av (cx ++ pl) H.size tE mi av.toArray U :=
  fun U hU hW => ⟨zp_P hK hE hP hD isC hn hC U hU hW, zSt.call hZ hS (va_freeP hD hS hA isC hC) hU hW⟩
end ZPS
section ZAA
variable {p : Program} {l : Launch} {e : Env} {R : Room} {s : State} {m : MethodId} {args : Array Value} {below : List Frame} {meth : Method} {c : Code} {H : Heap} {locs : List Loc} {cells slots : Nat} {Q : State → Prop}
variable {cc : ByteArray} {pc : Nat} {ls : Array Slot} {rest : List Value} {D : va_G} {cl : List vw_C} {a : Nat} {tys : List (ClassId × FieldType)} {ws : va_W}
theorem zn_aald (hexec : p.tables.exec = Jvm.exec) (hb : c.code = cc) (hK : va_K D cl tys s) (hP : va_P D cl ws H) (q0 t0 : Nat) {cA : ClassId} {C : String} {n : Nat} {f : Nat → Option Nat} (ha : ws[q0]? = some (a, .inl (cA, n, .inr (.inr (.inr (.inr f)))))) (ht : tys[t0]? = some (cA, .object C)) {i b : Nat} (hi : i < n) (hn : n < 2 ^ 31) (he : f i = some b) (hdg : decode cc pc = .ok (.aaload, 1)) (kk : W p l e R s m args below meth c H locs cells slots Q (F0 m (pc + 1) ls (.ref b :: rest))) : W p l e R s m args below meth c H locs cells slots Q (F0 m pc ls (.int (nI i) :: .ref a :: rest)) :=
  va_aldq hexec hb hK hP q0 t0 ha ht (vp_in_nI hi hn) hdg (by rw [nI_clamp (Nat.lt_trans hi hn), he]; exact kk)
end ZAA
/-- a cell of the pool, for reading -/
theorem zmem {D : va_G} {cl : List vw_C} {X pl : va_W} {H : Heap} {q : Nat × va_E} (hP : va_P D cl (X ++ pl) H) (h : q ∈ pl) : va_P D cl [q] H := by
  obtain ⟨i, hi⟩ := List.getElem?_of_mem (List.mem_append_right X h)
  intro k x hk
  have hz : k < 1 := (List.getElem?_eq_some_iff.mp hk).1
  rw [show k = 0 by omega] at hk
  cases hk
  exact hP i q hi
/-- the pool holds the finished backups 0 .. n - 1 with their images, and the list's array, once there is one -/
def zPo (cT : Nat → ClassId) (pl : va_W) (n ae cap : Nat) (ea : Nat → Option Nat) (ba ia : Nat → Nat) (bF : Nat → Bool) (bS bE bM bV : Nat → Nat) (im : Nat → Nat → Int32) : Prop :=
  (∀ i, i < n → (ba i, bkE (bF i) (bS i) (ia i) (bE i) (bM i) (bV i)) ∈ pl ∧ (ia i, Sum.inl (cT 0, 8, .inl (im i))) ∈ pl) ∧ (0 < n → (ae, Sum.inl (cT 3, cap, .inr (.inr (.inr (.inr ea))))) ∈ pl ∧ n ≤ cap ∧ cap ≤ 1000 ∧ ∀ i, i < n → ea i = some (ba i))
/-- of the backups oK .. n, how many have an image of the page -/
def zkim (im : Nat → Nat → Int32) (pg oK : Nat) : Nat → Nat
  | 0 => 0
  | n + 1 => zkim im pg oK n + (if oK ≤ n + 1 ∧ ¬ im (n + 1 - 1) pg = -1 then 1 else 0)
theorem zkim_pos {im : Nat → Nat → Int32} {pg oK i : Nat} (h : 0 < i) : zkim im pg oK i = zkim im pg oK (i - 1) + (if oK ≤ i ∧ ¬ im (i - 1) pg = -1 then 1 else 0) := by
  cases i with
  | zero => omega
  | succ n => rfl
theorem zkim_0 (im : Nat → Nat → Int32) (pg oK : Nat) : ∀ {n}, n < oK → zkim im pg oK n = 0 := by
  intro n
  induction n with
  | zero => intro _; rfl
  | succ n ih =>
    intro h
    simp only [zkim, ih (by omega)]
    rw [if_neg (fun q => by omega)]
theorem okc_bd {x : Int32} (h : okc x) : kN x ≤ 1000 := by
  rcases h with h | h
  · rw [h, kN_m1]; omega
  · exact h.2
theorem zmaxo {x : Int32} {a : Nat} (h : okc x) (ha : a < 2 ^ 31) : (if nI a < x then x else nI a) = nI (max a (kN x)) := by
  have h1 := okc_le h ha
  by_cases q : nI a < x
  · rw [if_pos q]
    have h2 : ¬ kN x ≤ a := fun z => absurd (h1.mpr z) (Int32.not_le.mpr q)
    rcases h with h | h
    · rw [h, kN_m1] at h2; omega
    · rw [Nat.max_eq_right (by omega)]; exact h.1
  · rw [if_neg q]
    have h2 : kN x ≤ a := h1.mp (Int32.not_lt.mp q)
    rw [Nat.max_eq_left h2]
def zkbs (im : Nat → Nat → Int32) (pg oK : Nat) : Nat → Nat
  | 0 => 0
  | n + 1 => if oK ≤ n + 1 then max (zkbs im pg oK n) (kN (im (n + 1 - 1) pg)) else zkbs im pg oK n
theorem zkbs_pos {im : Nat → Nat → Int32} {pg oK i : Nat} (h : 0 < i) : zkbs im pg oK i = if oK ≤ i then max (zkbs im pg oK (i - 1)) (kN (im (i - 1) pg)) else zkbs im pg oK (i - 1) := by
  cases i with
  | zero => omega
  | succ n => rfl
theorem zkbs_0 (im : Nat → Nat → Int32) (pg oK : Nat) : ∀ {n}, n < oK → zkbs im pg oK n = 0 := by
  intro n
  induction n with
  | zero => intro _; rfl
  | succ n ih =>
    intro h
    simp only [zkbs, ih (by omega)]
    rw [if_neg (by omega)]
def zleb (bE : Nat → Nat) (oK r : Nat) : Nat → Nat
  | 0 => 0
  | n + 1 => if oK ≤ n + 1 ∧ bE (n + 1 - 1) < r then n + 1 else zleb bE oK r n
theorem zleb_pos {bE : Nat → Nat} {oK r i : Nat} (h : 0 < i) : zleb bE oK r i = if oK ≤ i ∧ bE (i - 1) < r then i else zleb bE oK r (i - 1) := by
  cases i with
  | zero => omega
  | succ n => rfl
theorem zleb_0 (bE : Nat → Nat) (oK r : Nat) : ∀ {n}, n < oK → zleb bE oK r n = 0 := by
  intro n
  induction n with
  | zero => intro _; rfl
  | succ n ih =>
    intro h
    simp only [zleb, ih (by omega)]
    rw [if_neg (fun q => by omega)]
def zich (im : Nat → Nat → Int32) (pg oK : Nat) : Nat → Nat
  | 0 => 0
  | n + 1 => if oK ≤ n + 1 ∧ ¬ im (n + 1 - 1) pg = -1 then kN (im (n + 1 - 1) pg) else zich im pg oK n
theorem zich_pos {im : Nat → Nat → Int32} {pg oK i : Nat} (h : 0 < i) : zich im pg oK i = if oK ≤ i ∧ ¬ im (i - 1) pg = -1 then kN (im (i - 1) pg) else zich im pg oK (i - 1) := by
  cases i with
  | zero => omega
  | succ n => rfl
theorem zich_0 (im : Nat → Nat → Int32) (pg oK : Nat) : ∀ {n}, n < oK → zich im pg oK n = 0 := by
  intro n
  induction n with
  | zero => intro _; rfl
  | succ n ih =>
    intro h
    simp only [zich, ih (by omega)]
    rw [if_neg (fun q => by omega)]
set_option maxHeartbeats 4000000 in
set_option maxRecDepth 100000 in
theorem c_Pq_checkIndex (l : Launch) (dC : Nat → ClassId) (dI : Nat → Nat → Nat) (cT : Nat → ClassId) (i : Nat) (n : Nat) (h1 : i < n) (h2 : n < 2 ^ 31) : Met l y_Pq_checkIndex w_Pq_checkIndex ({ frames := 0, cells := 0, slots := 0, locals := 0 } : Room) (zPreR (dC, dI) vwCl (zT cT) [.int (nI i), .int (nI n), .null] ([])) (k2_QcV (.int (nI i))) 0 0 (fun _ => False) := by
  refine Met.ofW (cc := b_Pq_checkIndex) (maxL := 3) (ret := (some .int)) (by decide) rfl ?_
  intro p e s m args below meth c s₁ B hml hv
  obtain ⟨rfl, hP, hK, hE⟩ := hv
  have hx := B.exec
  have hb := B.bytes
  have hr := B.returns
  have hts := fun w h => atoms_spec (ws := w_Pq_checkIndex) B.pre w (List.mem_cons_of_mem _ h)
  have hown : s.vm.findClass R_Pq = some m.cls := findClass_of_methodNamed B.named
  have hlocks := B.notSynchronized
  have hl := lv_entry ([.int (nI i), .int (nI n), .null]) (n := 3) (Nat.le_of_ble_eq_true rfl)
  rw [lg_entry_eq]
  generalize (lg_sl ([.int (nI i), .int (nI n), .null]) ++ List.replicate (3 - (lg_sl ([.int (nI i), .int (nI n), .null])).length) Slot.unset).toArray = ls at hl ⊢
  have hl : lv_has ls 3 [(0, .int (nI i)), (1, .int (nI n)), (2, .null)] := hl
  refine lv_iload_n hx hb d_Pq_checkIndex_0 rfl (lv_at hl 0 rfl) ?_
  refine zn_if_lt (tgt := 9) hx hb (a := i) (by omega) d_Pq_checkIndex_1 (by decide) (fun c => c.elim) (fun _ => ?_)
  refine lv_iload_n hx hb d_Pq_checkIndex_4 rfl (lv_at hl 0 rfl) ?_
  refine lv_iload_n hx hb d_Pq_checkIndex_5 rfl (lv_at hl 1 rfl) ?_
  refine zn_icmp_lt (tgt := 16) hx hb (a := i) (b := n) (by omega) (by omega) d_Pq_checkIndex_6 (by decide) (fun c_6 => ?_) (fun c_6 => absurd c_6 (by omega))
  refine lv_iload_n hx hb d_Pq_checkIndex_16 rfl (lv_at hl 0 rfl) ?_
  exact W.iret hx hb hr (fun t ht hW => ⟨rfl, ht⟩) (fun q h => by cases h) d_Pq_checkIndex_17
set_option maxHeartbeats 4000000 in
set_option maxRecDepth 100000 in
theorem c_Ob_checkIndex (l : Launch) (dC : Nat → ClassId) (dI : Nat → Nat → Nat) (cT : Nat → ClassId) (i : Nat) (n : Nat) (h1 : i < n) (h2 : n < 2 ^ 31) : Met l y_Ob_checkIndex w_Ob_checkIndex ({ frames := 1, cells := 0, slots := 0, locals := 22 } : Room) (zPreR (dC, dI) vwCl (zT cT) [.int (nI i), .int (nI n)] ([])) (k2_QcV (.int (nI i))) 0 0 (fun _ => False) := by
  refine Met.ofW (cc := b_Ob_checkIndex) (maxL := 2) (ret := (some .int)) (by decide) rfl ?_
  intro p e s m args below meth c s₁ B hml hv
  obtain ⟨rfl, hP, hK, hE⟩ := hv
  have hx := B.exec
  have hb := B.bytes
  have hr := B.returns
  have hts := fun w h => atoms_spec (ws := w_Ob_checkIndex) B.pre w (List.mem_cons_of_mem _ h)
  have hown : s.vm.findClass R_Ob = some m.cls := findClass_of_methodNamed B.named
  have hlocks := B.notSynchronized
  have hl := lv_entry ([.int (nI i), .int (nI n)]) (n := 2) (Nat.le_of_ble_eq_true rfl)
  rw [lg_entry_eq]
  generalize (lg_sl ([.int (nI i), .int (nI n)]) ++ List.replicate (2 - (lg_sl ([.int (nI i), .int (nI n)])).length) Slot.unset).toArray = ls at hl ⊢
  have hl : lv_has ls 2 [(0, .int (nI i)), (1, .int (nI n))] := hl
  refine lv_iload_n hx hb d_Ob_checkIndex_0 rfl (lv_at hl 0 rfl) ?_
  refine lv_iload_n hx hb d_Ob_checkIndex_1 rfl (lv_at hl 1 rfl) ?_
  refine lv_null hx hb d_Ob_checkIndex_2 ?_
  refine zw_R (r := .int (nI i)) (va_runS (As := [.int (nI i), .int (nI n), .null]) (rest := []) ⟨hx, hb, hml, hown, hts⟩ (c_Pq_checkIndex l dC dI cT i n (by first | omega | assumption) (by first | omega | assumption)) (va_cwS 3 hts (zgS wd_362 wd_363 wd_14 wd_364) rfl rfl rfl (by decide +kernel) ⟨Nat.le_of_ble_eq_true rfl, Nat.le_of_ble_eq_true rfl⟩) ⟨zPreR_blind, zp_R hK hE (zSub (X := []) (pl := []) hP [] rfl)⟩ rfl rfl hl.1 rfl (lv_room (Nat.le_of_ble_eq_true rfl)) d_Ob_checkIndex_3 ⟨Nat.le_of_ble_eq_true rfl, Nat.le_of_ble_eq_true rfl⟩) ?_
  exact W.iret hx hb hr (fun t ht hW => ⟨rfl, ht⟩) (fun q h => by cases h) d_Ob_checkIndex_6
set_option maxHeartbeats 4000000 in
set_option maxRecDepth 100000 in
theorem c_Al_size (l : Launch) (dC : Nat → ClassId) (dI : Nat → Nat → Nat) (cT : Nat → ClassId) (h0 : Nat) (ae : Nat) (n : Nat) (am : Nat) : Met l y_Al_size w_Al_size ({ frames := 0, cells := 0, slots := 0, locals := 0 } : Room) (zPreR (dC, dI) vwCl (zT cT) [.ref h0] ([(h0, zoAl ae n am)])) (k2_QcV (.int (nI n))) 0 0 (fun _ => False) := by
  refine Met.ofW (cc := b_Al_size) (maxL := 1) (ret := (some .int)) (by decide) rfl ?_
  intro p e s m args below meth c s₁ B hml hv
  obtain ⟨rfl, hP, hK, hE⟩ := hv
  have hx := B.exec
  have hb := B.bytes
  have hr := B.returns
  have hts := fun w h => atoms_spec (ws := w_Al_size) B.pre w (List.mem_cons_of_mem _ h)
  have hown : s.vm.findClass R_Al = some m.cls := findClass_of_methodNamed B.named
  have hlocks := B.notSynchronized
  have hl := lv_entry ([.ref h0]) (n := 1) (Nat.le_of_ble_eq_true rfl)
  rw [lg_entry_eq]
  generalize (lg_sl ([.ref h0]) ++ List.replicate (1 - (lg_sl ([.ref h0])).length) Slot.unset).toArray = ls at hl ⊢
  have hl : lv_has ls 1 [(0, .ref h0)] := hl
  refine lv_aload_n hx hb d_Al_size_0 rfl (lv_at hl 0 rfl) ?_
  refine va_get (D := (dC, dI)) (ci := 7) (v := .int (nI n)) (C := R_Al) (T := F_Al) (N := 3) hx hb hts i_Al hown hK hP 0 rfl rfl 1 (by decide) (hts _ wd_125) (fun _ h9 => h9) rfl d_Al_size_1 ?_
  exact W.iret hx hb hr (fun t ht hW => ⟨rfl, ht⟩) (fun q h => by cases h) d_Al_size_4
set_option maxHeartbeats 4000000 in
set_option maxRecDepth 100000 in
theorem c_Al_isEmpty (l : Launch) (dC : Nat → ClassId) (dI : Nat → Nat → Nat) (cT : Nat → ClassId) (h0 : Nat) (ae : Nat) (n : Nat) (am : Nat) (h2 : n < 2 ^ 31) : Met l y_Al_isEmpty w_Al_isEmpty ({ frames := 0, cells := 0, slots := 0, locals := 0 } : Room) (zPreR (dC, dI) vwCl (zT cT) [.ref h0] ([(h0, zoAl ae n am)])) (k2_QcV (.int (zb (decide (n = 0))))) 0 0 (fun _ => False) := by
  refine Met.ofW (cc := b_Al_isEmpty) (maxL := 1) (ret := (some .boolean)) (by decide) rfl ?_
  intro p e s m args below meth c s₁ B hml hv
  obtain ⟨rfl, hP, hK, hE⟩ := hv
  have hx := B.exec
  have hb := B.bytes
  have hr := B.returns
  have hts := fun w h => atoms_spec (ws := w_Al_isEmpty) B.pre w (List.mem_cons_of_mem _ h)
  have hown : s.vm.findClass R_Al = some m.cls := findClass_of_methodNamed B.named
  have hlocks := B.notSynchronized
  have hl := lv_entry ([.ref h0]) (n := 1) (Nat.le_of_ble_eq_true rfl)
  rw [lg_entry_eq]
  generalize (lg_sl ([.ref h0]) ++ List.replicate (1 - (lg_sl ([.ref h0])).length) Slot.unset).toArray = ls at hl ⊢
  have hl : lv_has ls 1 [(0, .ref h0)] := hl
  refine lv_aload_n hx hb d_Al_isEmpty_0 rfl (lv_at hl 0 rfl) ?_
  refine va_get (D := (dC, dI)) (ci := 7) (v := .int (nI n)) (C := R_Al) (T := F_Al) (N := 3) hx hb hts i_Al hown hK hP 0 rfl rfl 1 (by decide) (hts _ wd_125) (fun _ h9 => h9) rfl d_Al_isEmpty_1 ?_
  refine zn_if_ne (tgt := 11) hx hb (a := n) (by omega) d_Al_isEmpty_4 (by decide) (fun c_4 => ?_) (fun c_4 => ?_)
  · refine lv_iconst (v := (nI 0)) hx hb d_Al_isEmpty_11 (by decide) ?_
    refine W.eq (g2 := F0 m 12 ls [.int (zb false)]) rfl ?_
    exact W.zret hx hb hr (zb_narrow _) (fun t ht hW => ⟨by rw [decide_eq_false c_4], ht⟩) (fun q h => by cases h) d_Al_isEmpty_12
  · refine lv_iconst (v := (nI 1)) hx hb d_Al_isEmpty_7 (by decide) ?_
    refine lv_goto (tgt := 12) hx hb d_Al_isEmpty_8 (by decide) ?_
    refine W.eq (g2 := F0 m 12 ls [.int (zb true)]) rfl ?_
    exact W.zret hx hb hr (zb_narrow _) (fun t ht hW => ⟨by rw [decide_eq_true c_4], ht⟩) (fun q h => by cases h) d_Al_isEmpty_12
set_option maxHeartbeats 4000000 in
set_option maxRecDepth 100000 in
theorem c_Al_elementData (l : Launch) (dC : Nat → ClassId) (dI : Nat → Nat → Nat) (cT : Nat → ClassId) (h0 : Nat) (ae : Nat) (n : Nat) (am : Nat) (i : Nat) (cap : Nat) (b : Nat) (ea : Nat → Option Nat) (h1 : i < cap) (h2 : cap < 2 ^ 31) (he : ea i = some b) : Met l y_Al_elementData w_Al_elementData ({ frames := 0, cells := 0, slots := 0, locals := 0 } : Room) (zPreR (dC, dI) vwCl (zT cT) [.ref h0, .int (nI i)] ([(h0, zoAl ae n am), (ae, zaQ (cT 3) cap ea)])) (k2_QcV (.ref b)) 0 0 (fun _ => False) := by
  refine Met.ofW (cc := b_Al_elementData) (maxL := 2) (ret := (some (.object "java/lang/Object"))) (by decide) rfl ?_
  intro p e s m args below meth c s₁ B hml hv
  obtain ⟨rfl, hP, hK, hE⟩ := hv
  have hx := B.exec
  have hb := B.bytes
  have hr := B.returns
  have hts := fun w h => atoms_spec (ws := w_Al_elementData) B.pre w (List.mem_cons_of_mem _ h)
  have hown : s.vm.findClass R_Al = some m.cls := findClass_of_methodNamed B.named
  have hlocks := B.notSynchronized
  have hl := lv_entry ([.ref h0, .int (nI i)]) (n := 2) (Nat.le_of_ble_eq_true rfl)
  rw [lg_entry_eq]
  generalize (lg_sl ([.ref h0, .int (nI i)]) ++ List.replicate (2 - (lg_sl ([.ref h0, .int (nI i)])).length) Slot.unset).toArray = ls at hl ⊢
  have hl : lv_has ls 2 [(0, .ref h0), (1, .int (nI i))] := hl
  refine lv_aload_n hx hb d_Al_elementData_0 rfl (lv_at hl 0 rfl) ?_
  refine va_get (D := (dC, dI)) (ci := 7) (v := .ref ae) (C := R_Al) (T := F_Al) (N := 3) hx hb hts i_Al hown hK hP 0 rfl rfl 0 (by decide) (hts _ wd_124) (fun _ h9 => h9) rfl d_Al_elementData_1 ?_
  refine lv_iload_n hx hb d_Al_elementData_4 rfl (lv_at hl 1 rfl) ?_
  refine zn_aald hx hb hK hP 1 3 rfl rfl (i := i) (b := b) (by omega) (by omega) he d_Al_elementData_5 ?_
  exact W.aret hx hb hr (Or.inl ⟨_, rfl⟩) (Or.inr ⟨_, rfl⟩) (fun t ht hW => ⟨rfl, ht⟩) (fun q h => by cases h) d_Al_elementData_6
set_option maxHeartbeats 4000000 in
set_option maxRecDepth 100000 in
theorem c_Al_get (l : Launch) (dC : Nat → ClassId) (dI : Nat → Nat → Nat) (cT : Nat → ClassId) (h0 : Nat) (ae : Nat) (n : Nat) (am : Nat) (i : Nat) (cap : Nat) (b : Nat) (ea : Nat → Option Nat) (h1 : i < n) (h3 : n ≤ cap) (h2 : cap < 2 ^ 31) (he : ea i = some b) : Met l y_Al_get w_Al_get ({ frames := 2, cells := 0, slots := 0, locals := 43 } : Room) (zPreR (dC, dI) vwCl (zT cT) [.ref h0, .int (nI i)] ([(h0, zoAl ae n am), (ae, zaQ (cT 3) cap ea)])) (k2_QcV (.ref b)) 0 0 (fun _ => False) := by
  refine Met.ofW (cc := b_Al_get) (maxL := 2) (ret := (some (.object "java/lang/Object"))) (by decide) rfl ?_
  intro p e s m args below meth c s₁ B hml hv
  obtain ⟨rfl, hP, hK, hE⟩ := hv
  have hx := B.exec
  have hb := B.bytes
  have hr := B.returns
  have hts := fun w h => atoms_spec (ws := w_Al_get) B.pre w (List.mem_cons_of_mem _ h)
  have hown : s.vm.findClass R_Al = some m.cls := findClass_of_methodNamed B.named
  have hlocks := B.notSynchronized
  have hl := lv_entry ([.ref h0, .int (nI i)]) (n := 2) (Nat.le_of_ble_eq_true rfl)
  rw [lg_entry_eq]
  generalize (lg_sl ([.ref h0, .int (nI i)]) ++ List.replicate (2 - (lg_sl ([.ref h0, .int (nI i)])).length) Slot.unset).toArray = ls at hl ⊢
  have hl : lv_has ls 2 [(0, .ref h0), (1, .int (nI i))] := hl
  refine lv_iload_n hx hb d_Al_get_0 rfl (lv_at hl 1 rfl) ?_
  refine lv_aload_n hx hb d_Al_get_1 rfl (lv_at hl 0 rfl) ?_
  refine va_get (D := (dC, dI)) (ci := 7) (v := .int (nI n)) (C := R_Al) (T := F_Al) (N := 3) hx hb hts i_Al hown hK hP 0 rfl rfl 1 (by decide) (hts _ wd_125) (fun _ h9 => h9) rfl d_Al_get_2 ?_
  refine zw_R (r := .int (nI i)) (va_runS (As := [.int (nI i), .int (nI n)]) (rest := []) ⟨hx, hb, hml, hown, hts⟩ (c_Ob_checkIndex l dC dI cT i n (by first | omega | assumption) (by first | omega | assumption)) (va_cwS 2 hts (zgS wd_359 wd_360 wd_13 wd_361) rfl rfl rfl (by decide +kernel) ⟨Nat.le_of_ble_eq_true rfl, Nat.le_of_ble_eq_true rfl⟩) ⟨zPreR_blind, zp_R hK hE (zSub (X := [(h0, zoAl ae n am), (ae, zaQ (cT 3) cap ea)]) (pl := []) hP [] rfl)⟩ rfl rfl hl.1 rfl (lv_room (Nat.le_of_ble_eq_true rfl)) d_Al_get_5 ⟨Nat.le_of_ble_eq_true rfl, Nat.le_of_ble_eq_true rfl⟩) ?_
  refine lv_pop hx hb d_Al_get_8 rfl ?_
  refine lv_aload_n hx hb d_Al_get_9 rfl (lv_at hl 0 rfl) ?_
  refine lv_iload_n hx hb d_Al_get_10 rfl (lv_at hl 1 rfl) ?_
  refine zw_R (r := .ref b) (va_runV (As := [.int (nI i)]) (rest := []) ⟨hx, hb, hml, hown, hts⟩ (c_Al_elementData l dC dI cT h0 ae n am i cap b ea (by first | omega | assumption) (by first | omega | assumption) (by first | omega | assumption)) (cwV 1 hts (zgV wd_365 wd_366 wd_367 wd_10 wd_368) rfl rfl rfl (by decide +kernel) ⟨Nat.le_of_ble_eq_true rfl, Nat.le_of_ble_eq_true rfl⟩) ⟨zPreR_blind, va_recv hK hP (ci := 7) (q0 := 0) rfl rfl, zp_R hK hE (zSub (X := [(h0, zoAl ae n am), (ae, zaQ (cT 3) cap ea)]) (pl := []) hP [0, 1] rfl)⟩ rfl rfl hl.1 rfl (lv_room (Nat.le_of_ble_eq_true rfl)) d_Al_get_11 ⟨Nat.le_of_ble_eq_true rfl, Nat.le_of_ble_eq_true rfl⟩) ?_
  exact W.aret hx hb hr (Or.inl ⟨_, rfl⟩) (Or.inr ⟨_, rfl⟩) (fun t ht hW => ⟨rfl, ht⟩) (fun q h => by cases h) d_Al_get_14
set_option maxHeartbeats 4000000 in
set_option maxRecDepth 100000 in
theorem c_Bs_howMany (l : Launch) (dC : Nat → ClassId) (dI : Nat → Nat → Nat) (cT : Nat → ClassId) (h0 : Nat) (bQ : Nat) (aL : Nat) (oK : Nat) (fK : Nat) (rv : Value) (ae : Nat) (n : Nat) (am : Nat) : Met l y_Bs_howMany w_Bs_howMany ({ frames := 1, cells := 0, slots := 0, locals := 20 } : Room) (zPreR (dC, dI) vwCl (zT cT) [.ref h0] ([(h0, zoBs bQ aL rv oK fK), (aL, zoAl ae n am)])) (k2_QcV (.int (nI n))) 0 0 (fun _ => False) := by
  refine Met.ofW (cc := b_Bs_howMany) (maxL := 1) (ret := (some .int)) (by decide) rfl ?_
  intro p e s m args below meth c s₁ B hml hv
  obtain ⟨rfl, hP, hK, hE⟩ := hv
  have hx := B.exec
  have hb := B.bytes
  have hr := B.returns
  have hts := fun w h => atoms_spec (ws := w_Bs_howMany) B.pre w (List.mem_cons_of_mem _ h)
  have hown : s.vm.findClass R_Bs = some m.cls := findClass_of_methodNamed B.named
  have hlocks := B.notSynchronized
  have hl := lv_entry ([.ref h0]) (n := 1) (Nat.le_of_ble_eq_true rfl)
  rw [lg_entry_eq]
  generalize (lg_sl ([.ref h0]) ++ List.replicate (1 - (lg_sl ([.ref h0])).length) Slot.unset).toArray = ls at hl ⊢
  have hl : lv_has ls 1 [(0, .ref h0)] := hl
  refine lv_aload_n hx hb d_Bs_howMany_0 rfl (lv_at hl 0 rfl) ?_
  refine va_get (D := (dC, dI)) (ci := 5) (v := .ref aL) (C := R_Bs) (T := F_Bs) (N := 5) hx hb hts i_Bs hown hK hP 0 rfl rfl 1 (by decide) (hts _ wd_137) (fun _ h9 => h9) rfl d_Bs_howMany_1 ?_
  refine zw_R (r := .int (nI n)) (va_runV (As := []) (rest := []) ⟨hx, hb, hml, hown, hts⟩ (c_Al_size l dC dI cT aL ae n am) (cwV 0 hts (zgV wd_293 wd_294 wd_295 wd_10 wd_296) rfl rfl rfl (by decide +kernel) ⟨Nat.le_of_ble_eq_true rfl, Nat.le_of_ble_eq_true rfl⟩) ⟨zPreR_blind, va_recv hK hP (ci := 7) (q0 := 1) rfl rfl, zp_R hK hE (zSub (X := [(h0, zoBs bQ aL rv oK fK), (aL, zoAl ae n am)]) (pl := []) hP [1] rfl)⟩ rfl rfl hl.1 rfl (lv_room (Nat.le_of_ble_eq_true rfl)) d_Bs_howMany_4 ⟨Nat.le_of_ble_eq_true rfl, Nat.le_of_ble_eq_true rfl⟩) ?_
  exact W.iret hx hb hr (fun t ht hW => ⟨rfl, ht⟩) (fun q h => by cases h) d_Bs_howMany_7
set_option maxHeartbeats 4000000 in
set_option maxRecDepth 100000 in
theorem c_Bs_numbered (l : Launch) (dC : Nat → ClassId) (dI : Nat → Nat → Nat) (cT : Nat → ClassId) (h0 : Nat) (bQ : Nat) (aL : Nat) (oK : Nat) (fK : Nat) (rv : Value) (ae : Nat) (n : Nat) (am : Nat) (cap : Nat) (pl : va_W) (ea : Nat → Option Nat) (ba : Nat → Nat) (ia : Nat → Nat) (bF : Nat → Bool) (bS : Nat → Nat) (bE : Nat → Nat) (bM : Nat → Nat) (bV : Nat → Nat) (im : Nat → Nat → Int32) (k : Nat) (hpo : zPo cT pl n ae cap ea ba ia bF bS bE bM bV im) (hn : n ≤ 257) (hk1 : 1 ≤ k) (hk2 : k ≤ n) : Met l y_Bs_numbered w_Bs_numbered ({ frames := 3, cells := 0, slots := 0, locals := 64 } : Room) (zPreR (dC, dI) vwCl (zT cT) [.ref h0, .int (nI k)] ([(h0, zoBs bQ aL rv oK fK), (aL, zoAl ae n am)] ++ pl)) (k2_QcV (.ref (ba (k - 1)))) 0 0 (fun _ => False) := by
  refine Met.ofW (cc := b_Bs_numbered) (maxL := 2) (ret := (some (.object "PageRescue$Backup"))) (by decide) rfl ?_
  intro p e s m args below meth c s₁ B hml hv
  obtain ⟨rfl, hP, hK, hE⟩ := hv
  have hx := B.exec
  have hb := B.bytes
  have hr := B.returns
  have hts := fun w h => atoms_spec (ws := w_Bs_numbered) B.pre w (List.mem_cons_of_mem _ h)
  have hown : s.vm.findClass R_Bs = some m.cls := findClass_of_methodNamed B.named
  have hlocks := B.notSynchronized
  have hl := lv_entry ([.ref h0, .int (nI k)]) (n := 2) (Nat.le_of_ble_eq_true rfl)
  rw [lg_entry_eq]
  generalize (lg_sl ([.ref h0, .int (nI k)]) ++ List.replicate (2 - (lg_sl ([.ref h0, .int (nI k)])).length) Slot.unset).toArray = ls at hl ⊢
  have hl : lv_has ls 2 [(0, .ref h0), (1, .int (nI k))] := hl
  refine lv_aload_n hx hb d_Bs_numbered_0 rfl (lv_at hl 0 rfl) ?_
  refine va_get (D := (dC, dI)) (ci := 5) (v := .ref aL) (C := R_Bs) (T := F_Bs) (N := 5) hx hb hts i_Bs hown hK hP 0 rfl rfl 1 (by decide) (hts _ wd_137) (fun _ h9 => h9) rfl d_Bs_numbered_1 ?_
  obtain ⟨hv_1, hcap1, hcap2, hea⟩ := hpo.2 (by omega)
  have hr_2 : va_P (dC, dI) vwCl [(ae, zaQ (cT 3) cap ea)] s.heap := zmem hP hv_1
  refine lv_iload_n hx hb d_Bs_numbered_4 rfl (lv_at hl 1 rfl) ?_
  refine lv_iconst (v := (nI 1)) hx hb d_Bs_numbered_5 (by decide) ?_
  refine zn_isub hx hb (by omega) d_Bs_numbered_6 ?_
  refine zw_R (r := .ref (ba (k - 1))) (va_runV (As := [.int (nI (k - 1))]) (rest := []) ⟨hx, hb, hml, hown, hts⟩ (c_Al_get l dC dI cT aL ae n am (k - 1) cap (ba (k - 1)) ea (by first | omega | assumption) (by first | omega | assumption) (by first | omega | assumption) (hea _ (by omega))) (cwV 1 hts (zgV wd_355 wd_356 wd_357 wd_10 wd_358) rfl rfl rfl (by decide +kernel) ⟨Nat.le_of_ble_eq_true rfl, Nat.le_of_ble_eq_true rfl⟩) ⟨zPreR_blind, va_recv hK hP (ci := 7) (q0 := 1) rfl rfl, zp_R hK hE (va_P.app (zSub (X := [(h0, zoBs bQ aL rv oK fK), (aL, zoAl ae n am)]) (pl := pl) (cx := [(aL, zoAl ae n am)]) hP [1] rfl) hr_2)⟩ rfl rfl hl.1 rfl (lv_room (Nat.le_of_ble_eq_true rfl)) d_Bs_numbered_7 ⟨Nat.le_of_ble_eq_true rfl, Nat.le_of_ble_eq_true rfl⟩) ?_
  have hu_3 := hpo.1 (k - 1) (by omega)
  have hr_4 : va_P (dC, dI) vwCl [(ba (k - 1), bkE (bF (k - 1)) (bS (k - 1)) (ia (k - 1)) (bE (k - 1)) (bM (k - 1)) (bV (k - 1)))] s.heap := zmem hP hu_3.1
  refine va_castS hx hb hown (hts _ wd_297) (hK.1 4 _ rfl).2 (va_recv hK hr_4 (ci := 4) (q0 := 0) rfl rfl) d_Bs_numbered_10 ?_
  exact W.aret hx hb hr (Or.inl ⟨_, rfl⟩) (Or.inr ⟨_, rfl⟩) (fun t ht hW => ⟨rfl, ht⟩) (fun q h => by cases h) d_Bs_numbered_13
set_option maxHeartbeats 4000000 in
set_option maxRecDepth 100000 in
theorem c_Bs_isKept (l : Launch) (dC : Nat → ClassId) (dI : Nat → Nat → Nat) (cT : Nat → ClassId) (h0 : Nat) (bQ : Nat) (aL : Nat) (oK : Nat) (fK : Nat) (rv : Value) (k : Nat) (h1 : k < 2 ^ 31) (h2 : oK < 2 ^ 31) : Met l y_Bs_isKept w_Bs_isKept ({ frames := 0, cells := 0, slots := 0, locals := 0 } : Room) (zPreR (dC, dI) vwCl (zT cT) [.ref h0, .int (nI k)] ([(h0, zoBs bQ aL rv oK fK)])) (k2_QcV (.int (zb (decide (oK ≤ k))))) 0 0 (fun _ => False) := by
  refine Met.ofW (cc := b_Bs_isKept) (maxL := 2) (ret := (some .boolean)) (by decide) rfl ?_
  intro p e s m args below meth c s₁ B hml hv
  obtain ⟨rfl, hP, hK, hE⟩ := hv
  have hx := B.exec
  have hb := B.bytes
  have hr := B.returns
  have hts := fun w h => atoms_spec (ws := w_Bs_isKept) B.pre w (List.mem_cons_of_mem _ h)
  have hown : s.vm.findClass R_Bs = some m.cls := findClass_of_methodNamed B.named
  have hlocks := B.notSynchronized
  have hl := lv_entry ([.ref h0, .int (nI k)]) (n := 2) (Nat.le_of_ble_eq_true rfl)
  rw [lg_entry_eq]
  generalize (lg_sl ([.ref h0, .int (nI k)]) ++ List.replicate (2 - (lg_sl ([.ref h0, .int (nI k)])).length) Slot.unset).toArray = ls at hl ⊢
  have hl : lv_has ls 2 [(0, .ref h0), (1, .int (nI k))] := hl
  refine lv_iload_n hx hb d_Bs_isKept_0 rfl (lv_at hl 1 rfl) ?_
  refine lv_aload_n hx hb d_Bs_isKept_1 rfl (lv_at hl 0 rfl) ?_
  refine va_get (D := (dC, dI)) (ci := 5) (v := .int (nI oK)) (C := R_Bs) (T := F_Bs) (N := 5) hx hb hts i_Bs hown hK hP 0 rfl rfl 3 (by decide) (hts _ wd_139) (fun _ h9 => h9) rfl d_Bs_isKept_2 ?_
  refine zn_icmp_lt (tgt := 12) hx hb (a := k) (b := oK) (by omega) (by omega) d_Bs_isKept_5 (by decide) (fun c_5 => ?_) (fun c_5 => ?_)
  · refine lv_iconst (v := (nI 0)) hx hb d_Bs_isKept_12 (by decide) ?_
    refine W.eq (g2 := F0 m 13 ls [.int (zb false)]) rfl ?_
    exact W.zret hx hb hr (zb_narrow _) (fun t ht hW => ⟨by rw [decide_eq_false (by omega)], ht⟩) (fun q h => by cases h) d_Bs_isKept_13
  · refine lv_iconst (v := (nI 1)) hx hb d_Bs_isKept_8 (by decide) ?_
    refine lv_goto (tgt := 13) hx hb d_Bs_isKept_9 (by decide) ?_
    refine W.eq (g2 := F0 m 13 ls [.int (zb true)]) rfl ?_
    exact W.zret hx hb hr (zb_narrow _) (fun t ht hW => ⟨by rw [decide_eq_true c_5], ht⟩) (fun q h => by cases h) d_Bs_isKept_13
set_option maxHeartbeats 4000000 in
set_option maxRecDepth 100000 in
theorem c_Bs_startOfLatest (l : Launch) (dC : Nat → ClassId) (dI : Nat → Nat → Nat) (cT : Nat → ClassId) (h0 : Nat) (bQ : Nat) (aL : Nat) (oK : Nat) (fK : Nat) (rv : Value) (ae : Nat) (n : Nat) (am : Nat) (cap : Nat) (pl : va_W) (ea : Nat → Option Nat) (ba : Nat → Nat) (ia : Nat → Nat) (bF : Nat → Bool) (bS : Nat → Nat) (bE : Nat → Nat) (bM : Nat → Nat) (bV : Nat → Nat) (im : Nat → Nat → Int32) (hpo : zPo cT pl n ae cap ea ba ia bF bS bE bM bV im) (hn : n ≤ 257) : Met l y_Bs_startOfLatest w_Bs_startOfLatest ({ frames := 4, cells := 0, slots := 0, locals := 85 } : Room) (zPreR (dC, dI) vwCl (zT cT) [.ref h0] ([(h0, zoBs bQ aL rv oK fK), (aL, zoAl ae n am)] ++ pl)) (k2_QcV (.int (nI (if n = 0 then 0 else bS (n - 1))))) 0 0 (fun _ => False) := by
  refine Met.ofW (cc := b_Bs_startOfLatest) (maxL := 1) (ret := (some .int)) (by decide) rfl ?_
  intro p e s m args below meth c s₁ B hml hv
  obtain ⟨rfl, hP, hK, hE⟩ := hv
  have hx := B.exec
  have hb := B.bytes
  have hr := B.returns
  have hts := fun w h => atoms_spec (ws := w_Bs_startOfLatest) B.pre w (List.mem_cons_of_mem _ h)
  have hown : s.vm.findClass R_Bs = some m.cls := findClass_of_methodNamed B.named
  have hlocks := B.notSynchronized
  have hl := lv_entry ([.ref h0]) (n := 1) (Nat.le_of_ble_eq_true rfl)
  rw [lg_entry_eq]
  generalize (lg_sl ([.ref h0]) ++ List.replicate (1 - (lg_sl ([.ref h0])).length) Slot.unset).toArray = ls at hl ⊢
  have hl : lv_has ls 1 [(0, .ref h0)] := hl
  refine lv_aload_n hx hb d_Bs_startOfLatest_0 rfl (lv_at hl 0 rfl) ?_
  refine va_get (D := (dC, dI)) (ci := 5) (v := .ref aL) (C := R_Bs) (T := F_Bs) (N := 5) hx hb hts i_Bs hown hK hP 0 rfl rfl 1 (by decide) (hts _ wd_137) (fun _ h9 => h9) rfl d_Bs_startOfLatest_1 ?_
  refine zw_R (r := .int (zb (decide (n = 0)))) (va_runV (As := []) (rest := []) ⟨hx, hb, hml, hown, hts⟩ (c_Al_isEmpty l dC dI cT aL ae n am (by first | omega | assumption)) (cwV 0 hts (zgV wd_347 wd_348 wd_349 wd_10 wd_350) rfl rfl rfl (by decide +kernel) ⟨Nat.le_of_ble_eq_true rfl, Nat.le_of_ble_eq_true rfl⟩) ⟨zPreR_blind, va_recv hK hP (ci := 7) (q0 := 1) rfl rfl, zp_R hK hE (zSub (X := [(h0, zoBs bQ aL rv oK fK), (aL, zoAl ae n am)]) (pl := pl) hP [1] rfl)⟩ rfl rfl hl.1 rfl (lv_room (Nat.le_of_ble_eq_true rfl)) d_Bs_startOfLatest_4 ⟨Nat.le_of_ble_eq_true rfl, Nat.le_of_ble_eq_true rfl⟩) ?_
  refine zb_if_eq (tgt := 14) hx hb d_Bs_startOfLatest_7 (by decide) (fun c_7 => ?_) (fun c_7 => ?_)
  · have hn0 : ¬ n = 0 := by simpa using c_7
    refine lv_aload_n hx hb d_Bs_startOfLatest_14 rfl (lv_at hl 0 rfl) ?_
    refine lv_aload_n hx hb d_Bs_startOfLatest_15 rfl (lv_at hl 0 rfl) ?_
    refine zw_R (r := .int (nI n)) (va_runV (As := []) (rest := [.ref h0]) ⟨hx, hb, hml, hown, hts⟩ (c_Bs_howMany l dC dI cT h0 bQ aL oK fK rv ae n am) (cwV 0 hts (zgV wd_289 wd_290 wd_291 wd_7 wd_292) rfl rfl rfl (by decide +kernel) ⟨Nat.le_of_ble_eq_true rfl, Nat.le_of_ble_eq_true rfl⟩) ⟨zPreR_blind, va_recv hK hP (ci := 5) (q0 := 0) rfl rfl, zp_R hK hE (zSub (X := [(h0, zoBs bQ aL rv oK fK), (aL, zoAl ae n am)]) (pl := pl) hP [0, 1] rfl)⟩ rfl rfl hl.1 rfl (lv_room (Nat.le_of_ble_eq_true rfl)) d_Bs_startOfLatest_16 ⟨Nat.le_of_ble_eq_true rfl, Nat.le_of_ble_eq_true rfl⟩) ?_
    refine zw_R (r := .ref (ba (n - 1))) (va_runV (As := [.int (nI n)]) (rest := []) ⟨hx, hb, hml, hown, hts⟩ (c_Bs_numbered l dC dI cT h0 bQ aL oK fK rv ae n am cap pl ea ba ia bF bS bE bM bV im n (by first | omega | assumption) (by first | omega | assumption) (by first | omega | assumption) (by first | omega | assumption)) (cwV 1 hts (zgV wd_351 wd_352 wd_353 wd_7 wd_354) rfl rfl rfl (by decide +kernel) ⟨Nat.le_of_ble_eq_true rfl, Nat.le_of_ble_eq_true rfl⟩) ⟨zPreR_blind, va_recv hK hP (ci := 5) (q0 := 0) rfl rfl, zp_R hK hE hP⟩ rfl rfl hl.1 rfl (lv_room (Nat.le_of_ble_eq_true rfl)) d_Bs_startOfLatest_19 ⟨Nat.le_of_ble_eq_true rfl, Nat.le_of_ble_eq_true rfl⟩) ?_
    have hu_1 := hpo.1 (n - 1) (by omega)
    have hr_2 : va_P (dC, dI) vwCl [(ba (n - 1), bkE (bF (n - 1)) (bS (n - 1)) (ia (n - 1)) (bE (n - 1)) (bM (n - 1)) (bV (n - 1)))] s.heap := zmem hP hu_1.1
    refine va_get (D := (dC, dI)) (ci := 4) (v := .int (nI (bS (n - 1)))) (C := R_Bk) (T := F_Bk) (N := 6) hx hb hts i_Bk hown hK hr_2 0 rfl rfl 1 (by decide) (hts _ wd_310) (fun _ h9 => h9) rfl d_Bs_startOfLatest_22 ?_
    exact W.iret hx hb hr (fun t ht hW => ⟨by rw [if_neg (by simpa using c_7)], ht⟩) (fun q h => by cases h) d_Bs_startOfLatest_25
  · refine lv_iconst (v := (nI 0)) hx hb d_Bs_startOfLatest_10 (by decide) ?_
    refine lv_goto (tgt := 25) hx hb d_Bs_startOfLatest_11 (by decide) ?_
    exact W.iret hx hb hr (fun t ht hW => ⟨by rw [if_pos (by simpa using c_7)], ht⟩) (fun q h => by cases h) d_Bs_startOfLatest_25
set_option maxHeartbeats 4000000 in
set_option maxRecDepth 100000 in
theorem c_Bs_keptImagesOf (l : Launch) (dC : Nat → ClassId) (dI : Nat → Nat → Nat) (cT : Nat → ClassId) (h0 : Nat) (bQ : Nat) (aL : Nat) (oK : Nat) (fK : Nat) (rv : Value) (ae : Nat) (n : Nat) (am : Nat) (cap : Nat) (pl : va_W) (ea : Nat → Option Nat) (ba : Nat → Nat) (ia : Nat → Nat) (bF : Nat → Bool) (bS : Nat → Nat) (bE : Nat → Nat) (bM : Nat → Nat) (bV : Nat → Nat) (im : Nat → Nat → Int32) (pg : Nat) (hpo : zPo cT pl n ae cap ea ba ia bF bS bE bM bV im) (hn : n ≤ 257) (hp : pg < 8) (hok1 : 1 ≤ oK) (hok2 : oK ≤ n + 1) : Met l y_Bs_keptImagesOf w_Bs_keptImagesOf ({ frames := 4, cells := 0, slots := 0, locals := 85 } : Room) (zPreR (dC, dI) vwCl (zT cT) [.ref h0, .int (nI pg)] ([(h0, zoBs bQ aL rv oK fK), (aL, zoAl ae n am)] ++ pl)) (k2_QcV (.int (nI (zkim im pg oK n)))) 0 0 (fun _ => False) := by
  refine Met.ofW (cc := b_Bs_keptImagesOf) (maxL := 4) (ret := (some .int)) (by decide) rfl ?_
  intro p e s m args below meth c s₁ B hml hv
  obtain ⟨rfl, hP, hK, hE⟩ := hv
  have hx := B.exec
  have hb := B.bytes
  have hr := B.returns
  have hts := fun w h => atoms_spec (ws := w_Bs_keptImagesOf) B.pre w (List.mem_cons_of_mem _ h)
  have hown : s.vm.findClass R_Bs = some m.cls := findClass_of_methodNamed B.named
  have hlocks := B.notSynchronized
  have hl := lv_entry ([.ref h0, .int (nI pg)]) (n := 4) (Nat.le_of_ble_eq_true rfl)
  rw [lg_entry_eq]
  generalize (lg_sl ([.ref h0, .int (nI pg)]) ++ List.replicate (4 - (lg_sl ([.ref h0, .int (nI pg)])).length) Slot.unset).toArray = ls at hl ⊢
  have hl : lv_has ls 4 [(0, .ref h0), (1, .int (nI pg))] := hl
  refine lv_iconst (v := (nI 0)) hx hb d_Bs_keptImagesOf_0 (by decide) ?_
  refine lv_istore_n (lv' := [(2, .int (nI 0)), (0, .ref h0), (1, .int (nI pg))]) hx hb d_Bs_keptImagesOf_1 rfl hl (by decide) rfl (fun ls hl => ?_)
  refine lv_aload_n hx hb d_Bs_keptImagesOf_2 rfl (lv_at hl 1 rfl) ?_
  refine va_get (D := (dC, dI)) (ci := 5) (v := .int (nI oK)) (C := R_Bs) (T := F_Bs) (N := 5) hx hb hts i_Bs hown hK hP 0 rfl rfl 3 (by decide) (hts _ wd_139) (fun _ h9 => h9) rfl d_Bs_keptImagesOf_3 ?_
  refine lv_istore_n (lv' := [(3, .int (nI oK)), (2, .int (nI 0)), (0, .ref h0), (1, .int (nI pg))]) hx hb d_Bs_keptImagesOf_6 rfl hl (by decide) rfl (fun ls hl => ?_)
  have loop_7 : ∀ (fu : Nat) (i : Nat) (a : Nat), n + 1 - i < fu → (oK ≤ i) → (i ≤ n + 1) → (a = zkim im pg oK (i - 1)) → (a ≤ i) → ∀ (ls : Array Slot), lv_has ls 4 [(0, .ref h0), (1, .int (nI pg)), (2, .int (nI a)), (3, .int (nI i))] → W p l e (headSpec w_Bs_keptImagesOf ({ frames := 4, cells := 0, slots := 0, locals := 85 } : Room)).room s m ([.ref h0, .int (nI pg)] : List Value).toArray below meth c s.heap [] 0 0 (MQ below (k2_QcV (.int (nI (zkim im pg oK n)))) ([.ref h0, .int (nI pg)] : List Value).toArray s 0 0 (fun _ => False)) (F0 m 7 ls []) := by
    intro fu
    induction fu with
    | zero => intro _ _ hm; exact absurd hm (Nat.not_lt_zero _)
    | succ fu ih_7 =>
      intro i a hm_7 h1 h2 h3 h4 ls hl
      refine lv_iload_n hx hb d_Bs_keptImagesOf_7 rfl (lv_at hl 3 rfl) ?_
      refine lv_aload_n hx hb d_Bs_keptImagesOf_8 rfl (lv_at hl 0 rfl) ?_
      refine zw_R (r := .int (nI n)) (va_runV (As := []) (rest := [.int (nI i)]) ⟨hx, hb, hml, hown, hts⟩ (c_Bs_howMany l dC dI cT h0 bQ aL oK fK rv ae n am) (cwV 0 hts (zgV wd_289 wd_290 wd_291 wd_7 wd_292) rfl rfl rfl (by decide +kernel) ⟨Nat.le_of_ble_eq_true rfl, Nat.le_of_ble_eq_true rfl⟩) ⟨zPreR_blind, va_recv hK hP (ci := 5) (q0 := 0) rfl rfl, zp_R hK hE (zSub (X := [(h0, zoBs bQ aL rv oK fK), (aL, zoAl ae n am)]) (pl := pl) hP [0, 1] rfl)⟩ rfl rfl hl.1 rfl (lv_room (Nat.le_of_ble_eq_true rfl)) d_Bs_keptImagesOf_9 ⟨Nat.le_of_ble_eq_true rfl, Nat.le_of_ble_eq_true rfl⟩) ?_
      refine zn_icmp_gt (tgt := 36) hx hb (a := i) (b := n) (by omega) (by omega) d_Bs_keptImagesOf_12 (by decide) (fun c_12 => ?_) (fun c_12 => ?_)
      · refine lv_iload_n hx hb d_Bs_keptImagesOf_36 rfl (lv_at hl 2 rfl) ?_
        exact W.iret hx hb hr (fun t ht hW => ⟨by rw [h3, show i - 1 = n by omega], ht⟩) (fun q h => by cases h) d_Bs_keptImagesOf_37
      · refine lv_aload_n hx hb d_Bs_keptImagesOf_15 rfl (lv_at hl 0 rfl) ?_
        refine lv_iload_n hx hb d_Bs_keptImagesOf_16 rfl (lv_at hl 3 rfl) ?_
        refine zw_R (r := .ref (ba (i - 1))) (va_runV (As := [.int (nI i)]) (rest := []) ⟨hx, hb, hml, hown, hts⟩ (c_Bs_numbered l dC dI cT h0 bQ aL oK fK rv ae n am cap pl ea ba ia bF bS bE bM bV im i (by first | omega | assumption) (by first | omega | assumption) (by first | omega | assumption) (by first | omega | assumption)) (cwV 1 hts (zgV wd_351 wd_352 wd_353 wd_7 wd_354) rfl rfl rfl (by decide +kernel) ⟨Nat.le_of_ble_eq_true rfl, Nat.le_of_ble_eq_true rfl⟩) ⟨zPreR_blind, va_recv hK hP (ci := 5) (q0 := 0) rfl rfl, zp_R hK hE hP⟩ rfl rfl hl.1 rfl (lv_room (Nat.le_of_ble_eq_true rfl)) d_Bs_keptImagesOf_17 ⟨Nat.le_of_ble_eq_true rfl, Nat.le_of_ble_eq_true rfl⟩) ?_
        have hu_1 := hpo.1 (i - 1) (by omega)
        have hr_2 : va_P (dC, dI) vwCl [(ba (i - 1), bkE (bF (i - 1)) (bS (i - 1)) (ia (i - 1)) (bE (i - 1)) (bM (i - 1)) (bV (i - 1)))] s.heap := zmem hP hu_1.1
        have hr_3 : va_P (dC, dI) vwCl [(ia (i - 1), zaI (cT 0) 8 (im (i - 1)))] s.heap := zmem hP hu_1.2
        refine lv_iload_n hx hb d_Bs_keptImagesOf_20 rfl (lv_at hl 1 rfl) ?_
        refine zw_R (r := .int (zb (decide (¬ (im (i - 1)) pg = -1)))) (va_runV (As := [.int (nI pg)]) (rest := []) ⟨hx, hb, hml, hown, hts⟩ (c_Bk_hasImageOf l dC dI cT (ba (i - 1)) (bS (i - 1)) (ia (i - 1)) (bE (i - 1)) (bM (i - 1)) (bV (i - 1)) (bF (i - 1)) pg (im (i - 1)) (by first | omega | assumption)) (cwV 1 hts (zgV wd_500 wd_501 wd_502 wd_12 wd_503) rfl rfl rfl (by decide +kernel) ⟨Nat.le_of_ble_eq_true rfl, Nat.le_of_ble_eq_true rfl⟩) ⟨zPreR_blind, va_recv hK hr_2 (ci := 4) (q0 := 0) rfl rfl, zp_R hK hE (va_P.app hr_2 hr_3)⟩ rfl rfl hl.1 rfl (lv_room (Nat.le_of_ble_eq_true rfl)) d_Bs_keptImagesOf_21 ⟨Nat.le_of_ble_eq_true rfl, Nat.le_of_ble_eq_true rfl⟩) ?_
        refine zb_if_eq (tgt := 30) hx hb d_Bs_keptImagesOf_24 (by decide) (fun c_24 => ?_) (fun c_24 => ?_)
        · refine lv_iinc (v := (nI (i + 1))) (lv' := [(3, .int (nI (i + 1))), (0, .ref h0), (1, .int (nI pg)), (2, .int (nI a))]) hx hb d_Bs_keptImagesOf_30 hl (k := 3) rfl (nI_1 _) (by decide) rfl (fun ls hl => ?_)
          refine lv_goto (tgt := 7) hx hb d_Bs_keptImagesOf_33 (by decide) ?_
          exact ih_7 (i + 1) a (by omega) (by first | omega | assumption) (by first | omega | assumption) (by rw [Nat.add_sub_cancel, zkim_pos (by omega), if_neg (fun q => by rw [decide_eq_true q.2] at c_24; exact absurd c_24 (by decide)), h3]; rfl) (by omega) ls (lv_sub hl [1, 2, 3, 0] rfl)
        · refine lv_iinc (v := (nI (a + 1))) (lv' := [(2, .int (nI (a + 1))), (0, .ref h0), (1, .int (nI pg)), (3, .int (nI i))]) hx hb d_Bs_keptImagesOf_27 hl (k := 2) rfl (nI_1 _) (by decide) rfl (fun ls hl => ?_)
          refine lv_iinc (v := (nI (i + 1))) (lv' := [(3, .int (nI (i + 1))), (2, .int (nI (a + 1))), (0, .ref h0), (1, .int (nI pg))]) hx hb d_Bs_keptImagesOf_30 hl (k := 3) rfl (nI_1 _) (by decide) rfl (fun ls hl => ?_)
          refine lv_goto (tgt := 7) hx hb d_Bs_keptImagesOf_33 (by decide) ?_
          exact ih_7 (i + 1) (a + 1) (by omega) (by first | omega | assumption) (by first | omega | assumption) (by rw [Nat.add_sub_cancel, zkim_pos (by omega), if_pos ⟨by omega, of_decide_eq_true c_24⟩, h3]) (by omega) ls (lv_sub hl [2, 3, 1, 0] rfl)
  exact loop_7 (n + 1 - oK + 1) oK 0 (by omega) (by first | omega | assumption) (by first | omega | assumption) (by rw [zkim_0 _ _ _ (by omega)]) (by omega) ls (lv_sub hl [2, 3, 1, 0] rfl)
set_option maxHeartbeats 4000000 in
set_option maxRecDepth 100000 in
theorem c_Bs_bestNumberOf (l : Launch) (dC : Nat → ClassId) (dI : Nat → Nat → Nat) (cT : Nat → ClassId) (h0 : Nat) (bQ : Nat) (aL : Nat) (oK : Nat) (fK : Nat) (rv : Value) (ae : Nat) (n : Nat) (am : Nat) (cap : Nat) (pl : va_W) (ea : Nat → Option Nat) (ba : Nat → Nat) (ia : Nat → Nat) (bF : Nat → Bool) (bS : Nat → Nat) (bE : Nat → Nat) (bM : Nat → Nat) (bV : Nat → Nat) (im : Nat → Nat → Int32) (pg : Nat) (hpo : zPo cT pl n ae cap ea ba ia bF bS bE bM bV im) (hn : n ≤ 257) (him : ∀ i q, i < n → q < 8 → okc (im i q)) (hp : pg < 8) (hok1 : 1 ≤ oK) (hok2 : oK ≤ n + 1) : Met l y_Bs_bestNumberOf w_Bs_bestNumberOf ({ frames := 4, cells := 0, slots := 0, locals := 85 } : Room) (zPreR (dC, dI) vwCl (zT cT) [.ref h0, .int (nI pg)] ([(h0, zoBs bQ aL rv oK fK), (aL, zoAl ae n am)] ++ pl)) (k2_QcV (.int (nI (zkbs im pg oK n)))) 0 0 (fun _ => False) := by
  refine Met.ofW (cc := b_Bs_bestNumberOf) (maxL := 4) (ret := (some .int)) (by decide) rfl ?_
  intro p e s m args below meth c s₁ B hml hv
  obtain ⟨rfl, hP, hK, hE⟩ := hv
  have hx := B.exec
  have hb := B.bytes
  have hr := B.returns
  have hts := fun w h => atoms_spec (ws := w_Bs_bestNumberOf) B.pre w (List.mem_cons_of_mem _ h)
  have hown : s.vm.findClass R_Bs = some m.cls := findClass_of_methodNamed B.named
  have hlocks := B.notSynchronized
  have hl := lv_entry ([.ref h0, .int (nI pg)]) (n := 4) (Nat.le_of_ble_eq_true rfl)
  rw [lg_entry_eq]
  generalize (lg_sl ([.ref h0, .int (nI pg)]) ++ List.replicate (4 - (lg_sl ([.ref h0, .int (nI pg)])).length) Slot.unset).toArray = ls at hl ⊢
  have hl : lv_has ls 4 [(0, .ref h0), (1, .int (nI pg))] := hl
  refine lv_iconst (v := (nI 0)) hx hb d_Bs_bestNumberOf_0 (by decide) ?_
  refine lv_istore_n (lv' := [(2, .int (nI 0)), (0, .ref h0), (1, .int (nI pg))]) hx hb d_Bs_bestNumberOf_1 rfl hl (by decide) rfl (fun ls hl => ?_)
  refine lv_aload_n hx hb d_Bs_bestNumberOf_2 rfl (lv_at hl 1 rfl) ?_
  refine va_get (D := (dC, dI)) (ci := 5) (v := .int (nI oK)) (C := R_Bs) (T := F_Bs) (N := 5) hx hb hts i_Bs hown hK hP 0 rfl rfl 3 (by decide) (hts _ wd_139) (fun _ h9 => h9) rfl d_Bs_bestNumberOf_3 ?_
  refine lv_istore_n (lv' := [(3, .int (nI oK)), (2, .int (nI 0)), (0, .ref h0), (1, .int (nI pg))]) hx hb d_Bs_bestNumberOf_6 rfl hl (by decide) rfl (fun ls hl => ?_)
  have loop_7 : ∀ (fu : Nat) (i : Nat) (a : Nat), n + 1 - i < fu → (oK ≤ i) → (i ≤ n + 1) → (a = zkbs im pg oK (i - 1)) → (a ≤ 1000) → ∀ (ls : Array Slot), lv_has ls 4 [(0, .ref h0), (1, .int (nI pg)), (2, .int (nI a)), (3, .int (nI i))] → W p l e (headSpec w_Bs_bestNumberOf ({ frames := 4, cells := 0, slots := 0, locals := 85 } : Room)).room s m ([.ref h0, .int (nI pg)] : List Value).toArray below meth c s.heap [] 0 0 (MQ below (k2_QcV (.int (nI (zkbs im pg oK n)))) ([.ref h0, .int (nI pg)] : List Value).toArray s 0 0 (fun _ => False)) (F0 m 7 ls []) := by
    intro fu
    induction fu with
    | zero => intro _ _ hm; exact absurd hm (Nat.not_lt_zero _)
    | succ fu ih_7 =>
      intro i a hm_7 h1 h2 h3 h4 ls hl
      refine lv_iload_n hx hb d_Bs_bestNumberOf_7 rfl (lv_at hl 3 rfl) ?_
      refine lv_aload_n hx hb d_Bs_bestNumberOf_8 rfl (lv_at hl 0 rfl) ?_
      refine zw_R (r := .int (nI n)) (va_runV (As := []) (rest := [.int (nI i)]) ⟨hx, hb, hml, hown, hts⟩ (c_Bs_howMany l dC dI cT h0 bQ aL oK fK rv ae n am) (cwV 0 hts (zgV wd_289 wd_290 wd_291 wd_7 wd_292) rfl rfl rfl (by decide +kernel) ⟨Nat.le_of_ble_eq_true rfl, Nat.le_of_ble_eq_true rfl⟩) ⟨zPreR_blind, va_recv hK hP (ci := 5) (q0 := 0) rfl rfl, zp_R hK hE (zSub (X := [(h0, zoBs bQ aL rv oK fK), (aL, zoAl ae n am)]) (pl := pl) hP [0, 1] rfl)⟩ rfl rfl hl.1 rfl (lv_room (Nat.le_of_ble_eq_true rfl)) d_Bs_bestNumberOf_9 ⟨Nat.le_of_ble_eq_true rfl, Nat.le_of_ble_eq_true rfl⟩) ?_
      refine zn_icmp_gt (tgt := 35) hx hb (a := i) (b := n) (by omega) (by omega) d_Bs_bestNumberOf_12 (by decide) (fun c_12 => ?_) (fun c_12 => ?_)
      · refine lv_iload_n hx hb d_Bs_bestNumberOf_35 rfl (lv_at hl 2 rfl) ?_
        exact W.iret hx hb hr (fun t ht hW => ⟨by rw [h3, show i - 1 = n by omega], ht⟩) (fun q h => by cases h) d_Bs_bestNumberOf_36
      · refine lv_iload_n hx hb d_Bs_bestNumberOf_15 rfl (lv_at hl 2 rfl) ?_
        refine lv_aload_n hx hb d_Bs_bestNumberOf_16 rfl (lv_at hl 0 rfl) ?_
        refine lv_iload_n hx hb d_Bs_bestNumberOf_17 rfl (lv_at hl 3 rfl) ?_
        refine zw_R (r := .ref (ba (i - 1))) (va_runV (As := [.int (nI i)]) (rest := [.int (nI a)]) ⟨hx, hb, hml, hown, hts⟩ (c_Bs_numbered l dC dI cT h0 bQ aL oK fK rv ae n am cap pl ea ba ia bF bS bE bM bV im i (by first | omega | assumption) (by first | omega | assumption) (by first | omega | assumption) (by first | omega | assumption)) (cwV 1 hts (zgV wd_351 wd_352 wd_353 wd_7 wd_354) rfl rfl rfl (by decide +kernel) ⟨Nat.le_of_ble_eq_true rfl, Nat.le_of_ble_eq_true rfl⟩) ⟨zPreR_blind, va_recv hK hP (ci := 5) (q0 := 0) rfl rfl, zp_R hK hE hP⟩ rfl rfl hl.1 rfl (lv_room (Nat.le_of_ble_eq_true rfl)) d_Bs_bestNumberOf_18 ⟨Nat.le_of_ble_eq_true rfl, Nat.le_of_ble_eq_true rfl⟩) ?_
        have hu_1 := hpo.1 (i - 1) (by omega)
        have hr_2 : va_P (dC, dI) vwCl [(ba (i - 1), bkE (bF (i - 1)) (bS (i - 1)) (ia (i - 1)) (bE (i - 1)) (bM (i - 1)) (bV (i - 1)))] s.heap := zmem hP hu_1.1
        have hr_3 : va_P (dC, dI) vwCl [(ia (i - 1), zaI (cT 0) 8 (im (i - 1)))] s.heap := zmem hP hu_1.2
        refine lv_iload_n hx hb d_Bs_bestNumberOf_21 rfl (lv_at hl 1 rfl) ?_
        refine zw_R (r := .int ((im (i - 1)) pg)) (va_runV (As := [.int (nI pg)]) (rest := [.int (nI a)]) ⟨hx, hb, hml, hown, hts⟩ (c_Bk_imageNumberOf l dC dI cT (ba (i - 1)) (bS (i - 1)) (ia (i - 1)) (bE (i - 1)) (bM (i - 1)) (bV (i - 1)) (bF (i - 1)) pg (im (i - 1)) (by first | omega | assumption)) (cwV 1 hts (zgV wd_462 wd_463 wd_464 wd_12 wd_465) rfl rfl rfl (by decide +kernel) ⟨Nat.le_of_ble_eq_true rfl, Nat.le_of_ble_eq_true rfl⟩) ⟨zPreR_blind, va_recv hK hr_2 (ci := 4) (q0 := 0) rfl rfl, zp_R hK hE (va_P.app hr_2 hr_3)⟩ rfl rfl hl.1 rfl (lv_room (Nat.le_of_ble_eq_true rfl)) d_Bs_bestNumberOf_22 ⟨Nat.le_of_ble_eq_true rfl, Nat.le_of_ble_eq_true rfl⟩) ?_
        refine va_mmax hx hb (by rw [hml]; exact hl.1.symm) hown (hts _ wd_466) (hts _ wd_66) (hts _ wd_5) (hts _ wd_67) (Nat.le_of_ble_eq_true rfl) (Nat.le_of_ble_eq_true rfl) (Nat.le_of_ble_eq_true rfl) (Nat.le_of_ble_eq_true rfl) d_Bs_bestNumberOf_25 ?_
        have h7 := him (i - 1) pg (by omega) hp
        refine W.eq (congrArg (fun z => F0 m 28 ls [.int z]) (zmaxo h7 (by omega))) ?_
        refine lv_istore_n (lv' := [(2, .int (nI (max a (kN (im (i - 1) pg))))), (0, .ref h0), (1, .int (nI pg)), (3, .int (nI i))]) hx hb d_Bs_bestNumberOf_28 rfl hl (by decide) rfl (fun ls hl => ?_)
        refine lv_iinc (v := (nI (i + 1))) (lv' := [(3, .int (nI (i + 1))), (2, .int (nI (max a (kN (im (i - 1) pg))))), (0, .ref h0), (1, .int (nI pg))]) hx hb d_Bs_bestNumberOf_29 hl (k := 3) rfl (nI_1 _) (by decide) rfl (fun ls hl => ?_)
        refine lv_goto (tgt := 7) hx hb d_Bs_bestNumberOf_32 (by decide) ?_
        exact ih_7 (i + 1) (max a (kN (im (i - 1) pg))) (by omega) (by first | omega | assumption) (by first | omega | assumption) (by rw [Nat.add_sub_cancel, zkbs_pos (by omega), if_pos (by omega), h3]) (by have := okc_bd h7; omega) ls (lv_sub hl [2, 3, 1, 0] rfl)
  exact loop_7 (n + 1 - oK + 1) oK 0 (by omega) (by first | omega | assumption) (by first | omega | assumption) (by rw [zkbs_0 _ _ _ (by omega)]) (by omega) ls (lv_sub hl [2, 3, 1, 0] rfl)
set_option maxHeartbeats 4000000 in
set_option maxRecDepth 100000 in
theorem c_Bs_latestEndedBefore (l : Launch) (dC : Nat → ClassId) (dI : Nat → Nat → Nat) (cT : Nat → ClassId) (h0 : Nat) (bQ : Nat) (aL : Nat) (oK : Nat) (fK : Nat) (rv : Value) (ae : Nat) (n : Nat) (am : Nat) (cap : Nat) (pl : va_W) (ea : Nat → Option Nat) (ba : Nat → Nat) (ia : Nat → Nat) (bF : Nat → Bool) (bS : Nat → Nat) (bE : Nat → Nat) (bM : Nat → Nat) (bV : Nat → Nat) (im : Nat → Nat → Int32) (r : Nat) (hpo : zPo cT pl n ae cap ea ba ia bF bS bE bM bV im) (hn : n ≤ 257) (hr0 : r ≤ 1000) (hbE : ∀ i, i < n → bE i ≤ 1000) (hok1 : 1 ≤ oK) (hok2 : oK ≤ n + 1) : Met l y_Bs_latestEndedBefore w_Bs_latestEndedBefore ({ frames := 4, cells := 0, slots := 0, locals := 85 } : Room) (zPreR (dC, dI) vwCl (zT cT) [.ref h0, .int (nI r)] ([(h0, zoBs bQ aL rv oK fK), (aL, zoAl ae n am)] ++ pl)) (k2_QcV (.int (nI (zleb bE oK r n)))) 0 0 (fun _ => False) := by
  refine Met.ofW (cc := b_Bs_latestEndedBefore) (maxL := 3) (ret := (some .int)) (by decide) rfl ?_
  intro p e s m args below meth c s₁ B hml hv
  obtain ⟨rfl, hP, hK, hE⟩ := hv
  have hx := B.exec
  have hb := B.bytes
  have hr := B.returns
  have hts := fun w h => atoms_spec (ws := w_Bs_latestEndedBefore) B.pre w (List.mem_cons_of_mem _ h)
  have hown : s.vm.findClass R_Bs = some m.cls := findClass_of_methodNamed B.named
  have hlocks := B.notSynchronized
  have hl := lv_entry ([.ref h0, .int (nI r)]) (n := 3) (Nat.le_of_ble_eq_true rfl)
  rw [lg_entry_eq]
  generalize (lg_sl ([.ref h0, .int (nI r)]) ++ List.replicate (3 - (lg_sl ([.ref h0, .int (nI r)])).length) Slot.unset).toArray = ls at hl ⊢
  have hl : lv_has ls 3 [(0, .ref h0), (1, .int (nI r))] := hl
  refine lv_aload_n hx hb d_Bs_latestEndedBefore_0 rfl (lv_at hl 0 rfl) ?_
  refine zw_R (r := .int (nI n)) (va_runV (As := []) (rest := []) ⟨hx, hb, hml, hown, hts⟩ (c_Bs_howMany l dC dI cT h0 bQ aL oK fK rv ae n am) (cwV 0 hts (zgV wd_289 wd_290 wd_291 wd_7 wd_292) rfl rfl rfl (by decide +kernel) ⟨Nat.le_of_ble_eq_true rfl, Nat.le_of_ble_eq_true rfl⟩) ⟨zPreR_blind, va_recv hK hP (ci := 5) (q0 := 0) rfl rfl, zp_R hK hE (zSub (X := [(h0, zoBs bQ aL rv oK fK), (aL, zoAl ae n am)]) (pl := pl) hP [0, 1] rfl)⟩ rfl rfl hl.1 rfl (lv_room (Nat.le_of_ble_eq_true rfl)) d_Bs_latestEndedBefore_1 ⟨Nat.le_of_ble_eq_true rfl, Nat.le_of_ble_eq_true rfl⟩) ?_
  refine lv_istore_n (lv' := [(2, .int (nI n)), (0, .ref h0), (1, .int (nI r))]) hx hb d_Bs_latestEndedBefore_4 rfl hl (by decide) rfl (fun ls hl => ?_)
  have loop_5 : ∀ (fu : Nat) (i : Nat), i < fu → (i ≤ n) → (zleb bE oK r n = zleb bE oK r i) → ∀ (ls : Array Slot), lv_has ls 3 [(0, .ref h0), (1, .int (nI r)), (2, .int (nI i))] → W p l e (headSpec w_Bs_latestEndedBefore ({ frames := 4, cells := 0, slots := 0, locals := 85 } : Room)).room s m ([.ref h0, .int (nI r)] : List Value).toArray below meth c s.heap [] 0 0 (MQ below (k2_QcV (.int (nI (zleb bE oK r n)))) ([.ref h0, .int (nI r)] : List Value).toArray s 0 0 (fun _ => False)) (F0 m 5 ls []) := by
    intro fu
    induction fu with
    | zero => intro _ hm; exact absurd hm (Nat.not_lt_zero _)
    | succ fu ih_5 =>
      intro i hm_5 h1 h2 ls hl
      refine lv_iload_n hx hb d_Bs_latestEndedBefore_5 rfl (lv_at hl 2 rfl) ?_
      refine lv_aload_n hx hb d_Bs_latestEndedBefore_6 rfl (lv_at hl 0 rfl) ?_
      refine va_get (D := (dC, dI)) (ci := 5) (v := .int (nI oK)) (C := R_Bs) (T := F_Bs) (N := 5) hx hb hts i_Bs hown hK hP 0 rfl rfl 3 (by decide) (hts _ wd_139) (fun _ h9 => h9) rfl d_Bs_latestEndedBefore_7 ?_
      refine zn_icmp_lt (tgt := 33) hx hb (a := i) (b := oK) (by omega) (by omega) d_Bs_latestEndedBefore_10 (by decide) (fun c_10 => ?_) (fun c_10 => ?_)
      · refine lv_iconst (v := (nI 0)) hx hb d_Bs_latestEndedBefore_33 (by decide) ?_
        exact W.iret hx hb hr (fun t ht hW => ⟨by rw [h2, zleb_0 _ _ _ c_10], ht⟩) (fun q h => by cases h) d_Bs_latestEndedBefore_34
      · refine lv_aload_n hx hb d_Bs_latestEndedBefore_13 rfl (lv_at hl 0 rfl) ?_
        refine lv_iload_n hx hb d_Bs_latestEndedBefore_14 rfl (lv_at hl 2 rfl) ?_
        refine zw_R (r := .ref (ba (i - 1))) (va_runV (As := [.int (nI i)]) (rest := []) ⟨hx, hb, hml, hown, hts⟩ (c_Bs_numbered l dC dI cT h0 bQ aL oK fK rv ae n am cap pl ea ba ia bF bS bE bM bV im i (by first | omega | assumption) (by first | omega | assumption) (by first | omega | assumption) (by first | omega | assumption)) (cwV 1 hts (zgV wd_351 wd_352 wd_353 wd_7 wd_354) rfl rfl rfl (by decide +kernel) ⟨Nat.le_of_ble_eq_true rfl, Nat.le_of_ble_eq_true rfl⟩) ⟨zPreR_blind, va_recv hK hP (ci := 5) (q0 := 0) rfl rfl, zp_R hK hE hP⟩ rfl rfl hl.1 rfl (lv_room (Nat.le_of_ble_eq_true rfl)) d_Bs_latestEndedBefore_15 ⟨Nat.le_of_ble_eq_true rfl, Nat.le_of_ble_eq_true rfl⟩) ?_
        have hu_1 := hpo.1 (i - 1) (by omega)
        have hr_2 : va_P (dC, dI) vwCl [(ba (i - 1), bkE (bF (i - 1)) (bS (i - 1)) (ia (i - 1)) (bE (i - 1)) (bM (i - 1)) (bV (i - 1)))] s.heap := zmem hP hu_1.1
        have h8 := hbE (i - 1) (by omega)
        refine va_get (D := (dC, dI)) (ci := 4) (v := .int (nI (bE (i - 1)))) (C := R_Bk) (T := F_Bk) (N := 6) hx hb hts i_Bk hown hK hr_2 0 rfl rfl 3 (by decide) (hts _ wd_314) (fun _ h9 => h9) rfl d_Bs_latestEndedBefore_18 ?_
        refine lv_iload_n hx hb d_Bs_latestEndedBefore_21 rfl (lv_at hl 1 rfl) ?_
        refine zn_icmp_ge (tgt := 27) hx hb (a := bE (i - 1)) (b := r) (by omega) (by omega) d_Bs_latestEndedBefore_22 (by decide) (fun c_22 => ?_) (fun c_22 => ?_)
        · refine lv_iinc (v := (nI (i - 1))) (lv' := [(2, .int (nI (i - 1))), (0, .ref h0), (1, .int (nI r))]) hx hb d_Bs_latestEndedBefore_27 hl (k := 2) rfl (sb_m1 (by omega)) (by decide) rfl (fun ls hl => ?_)
          refine lv_goto (tgt := 5) hx hb d_Bs_latestEndedBefore_30 (by decide) ?_
          exact ih_5 (i - 1) (by omega) (by first | omega | assumption) (by rw [h2, zleb_pos (by omega), if_neg (fun q => by omega)]) ls (lv_sub hl [1, 2, 0] rfl)
        · refine lv_iload_n hx hb d_Bs_latestEndedBefore_25 rfl (lv_at hl 2 rfl) ?_
          exact W.iret hx hb hr (fun t ht hW => ⟨by rw [h2, zleb_pos (by omega), if_pos ⟨c_10, c_22⟩], ht⟩) (fun q h => by cases h) d_Bs_latestEndedBefore_26
  exact loop_5 (n + 1) n (by omega) (by first | omega | assumption) rfl ls (lv_sub hl [1, 2, 0] rfl)
set_option maxHeartbeats 4000000 in
set_option maxRecDepth 100000 in
theorem c_Bs_imageInChain (l : Launch) (dC : Nat → ClassId) (dI : Nat → Nat → Nat) (cT : Nat → ClassId) (h0 : Nat) (bQ : Nat) (aL : Nat) (oK : Nat) (fK : Nat) (rv : Value) (ae : Nat) (n : Nat) (am : Nat) (cap : Nat) (pl : va_W) (ea : Nat → Option Nat) (ba : Nat → Nat) (ia : Nat → Nat) (bF : Nat → Bool) (bS : Nat → Nat) (bE : Nat → Nat) (bM : Nat → Nat) (bV : Nat → Nat) (im : Nat → Nat → Int32) (k : Nat) (pg : Nat) (hpo : zPo cT pl n ae cap ea ba ia bF bS bE bM bV im) (hn : n ≤ 257) (him : ∀ i q, i < n → q < 8 → okc (im i q)) (hp : pg < 8) (hkn : k ≤ n) (hok1 : 1 ≤ oK) (hok2 : oK ≤ n + 1) : Met l y_Bs_imageInChain w_Bs_imageInChain ({ frames := 4, cells := 0, slots := 0, locals := 85 } : Room) (zPreR (dC, dI) vwCl (zT cT) [.ref h0, .int (nI k), .int (nI pg)] ([(h0, zoBs bQ aL rv oK fK), (aL, zoAl ae n am)] ++ pl)) (k2_QcV (.int (nI (zich im pg oK k)))) 0 0 (fun _ => False) := by
  refine Met.ofW (cc := b_Bs_imageInChain) (maxL := 4) (ret := (some .int)) (by decide) rfl ?_
  intro p e s m args below meth c s₁ B hml hv
  obtain ⟨rfl, hP, hK, hE⟩ := hv
  have hx := B.exec
  have hb := B.bytes
  have hr := B.returns
  have hts := fun w h => atoms_spec (ws := w_Bs_imageInChain) B.pre w (List.mem_cons_of_mem _ h)
  have hown : s.vm.findClass R_Bs = some m.cls := findClass_of_methodNamed B.named
  have hlocks := B.notSynchronized
  have hl := lv_entry ([.ref h0, .int (nI k), .int (nI pg)]) (n := 4) (Nat.le_of_ble_eq_true rfl)
  rw [lg_entry_eq]
  generalize (lg_sl ([.ref h0, .int (nI k), .int (nI pg)]) ++ List.replicate (4 - (lg_sl ([.ref h0, .int (nI k), .int (nI pg)])).length) Slot.unset).toArray = ls at hl ⊢
  have hl : lv_has ls 4 [(0, .ref h0), (1, .int (nI k)), (2, .int (nI pg))] := hl
  refine lv_iload_n hx hb d_Bs_imageInChain_0 rfl (lv_at hl 1 rfl) ?_
  refine lv_istore_n (lv' := [(3, .int (nI k)), (0, .ref h0), (1, .int (nI k)), (2, .int (nI pg))]) hx hb d_Bs_imageInChain_1 rfl hl (by decide) rfl (fun ls hl => ?_)
  have loop_2 : ∀ (fu : Nat) (i : Nat), i < fu → (i ≤ k) → (zich im pg oK k = zich im pg oK i) → ∀ (ls : Array Slot), lv_has ls 4 [(0, .ref h0), (1, .int (nI k)), (2, .int (nI pg)), (3, .int (nI i))] → W p l e (headSpec w_Bs_imageInChain ({ frames := 4, cells := 0, slots := 0, locals := 85 } : Room)).room s m ([.ref h0, .int (nI k), .int (nI pg)] : List Value).toArray below meth c s.heap [] 0 0 (MQ below (k2_QcV (.int (nI (zich im pg oK k)))) ([.ref h0, .int (nI k), .int (nI pg)] : List Value).toArray s 0 0 (fun _ => False)) (F0 m 2 ls []) := by
    intro fu
    induction fu with
    | zero => intro _ hm; exact absurd hm (Nat.not_lt_zero _)
    | succ fu ih_2 =>
      intro i hm_2 h1 h2 ls hl
      refine lv_iload_n hx hb d_Bs_imageInChain_2 rfl (lv_at hl 3 rfl) ?_
      refine lv_aload_n hx hb d_Bs_imageInChain_3 rfl (lv_at hl 0 rfl) ?_
      refine va_get (D := (dC, dI)) (ci := 5) (v := .int (nI oK)) (C := R_Bs) (T := F_Bs) (N := 5) hx hb hts i_Bs hown hK hP 0 rfl rfl 3 (by decide) (hts _ wd_139) (fun _ h9 => h9) rfl d_Bs_imageInChain_4 ?_
      refine zn_icmp_lt (tgt := 38) hx hb (a := i) (b := oK) (by omega) (by omega) d_Bs_imageInChain_7 (by decide) (fun c_7 => ?_) (fun c_7 => ?_)
      · refine lv_iconst (v := (nI 0)) hx hb d_Bs_imageInChain_38 (by decide) ?_
        exact W.iret hx hb hr (fun t ht hW => ⟨by rw [h2, zich_0 _ _ _ c_7], ht⟩) (fun q h => by cases h) d_Bs_imageInChain_39
      · refine lv_aload_n hx hb d_Bs_imageInChain_10 rfl (lv_at hl 0 rfl) ?_
        refine lv_iload_n hx hb d_Bs_imageInChain_11 rfl (lv_at hl 3 rfl) ?_
        refine zw_R (r := .ref (ba (i - 1))) (va_runV (As := [.int (nI i)]) (rest := []) ⟨hx, hb, hml, hown, hts⟩ (c_Bs_numbered l dC dI cT h0 bQ aL oK fK rv ae n am cap pl ea ba ia bF bS bE bM bV im i (by first | omega | assumption) (by first | omega | assumption) (by first | omega | assumption) (by first | omega | assumption)) (cwV 1 hts (zgV wd_351 wd_352 wd_353 wd_7 wd_354) rfl rfl rfl (by decide +kernel) ⟨Nat.le_of_ble_eq_true rfl, Nat.le_of_ble_eq_true rfl⟩) ⟨zPreR_blind, va_recv hK hP (ci := 5) (q0 := 0) rfl rfl, zp_R hK hE hP⟩ rfl rfl hl.1 rfl (lv_room (Nat.le_of_ble_eq_true rfl)) d_Bs_imageInChain_12 ⟨Nat.le_of_ble_eq_true rfl, Nat.le_of_ble_eq_true rfl⟩) ?_
        have hu_1 := hpo.1 (i - 1) (by omega)
        have hr_2 : va_P (dC, dI) vwCl [(ba (i - 1), bkE (bF (i - 1)) (bS (i - 1)) (ia (i - 1)) (bE (i - 1)) (bM (i - 1)) (bV (i - 1)))] s.heap := zmem hP hu_1.1
        have hr_3 : va_P (dC, dI) vwCl [(ia (i - 1), zaI (cT 0) 8 (im (i - 1)))] s.heap := zmem hP hu_1.2
        refine lv_iload_n hx hb d_Bs_imageInChain_15 rfl (lv_at hl 2 rfl) ?_
        refine zw_R (r := .int (zb (decide (¬ (im (i - 1)) pg = -1)))) (va_runV (As := [.int (nI pg)]) (rest := []) ⟨hx, hb, hml, hown, hts⟩ (c_Bk_hasImageOf l dC dI cT (ba (i - 1)) (bS (i - 1)) (ia (i - 1)) (bE (i - 1)) (bM (i - 1)) (bV (i - 1)) (bF (i - 1)) pg (im (i - 1)) (by first | omega | assumption)) (cwV 1 hts (zgV wd_500 wd_501 wd_502 wd_12 wd_503) rfl rfl rfl (by decide +kernel) ⟨Nat.le_of_ble_eq_true rfl, Nat.le_of_ble_eq_true rfl⟩) ⟨zPreR_blind, va_recv hK hr_2 (ci := 4) (q0 := 0) rfl rfl, zp_R hK hE (va_P.app hr_2 hr_3)⟩ rfl rfl hl.1 rfl (lv_room (Nat.le_of_ble_eq_true rfl)) d_Bs_imageInChain_16 ⟨Nat.le_of_ble_eq_true rfl, Nat.le_of_ble_eq_true rfl⟩) ?_
        refine zb_if_eq (tgt := 32) hx hb d_Bs_imageInChain_19 (by decide) (fun c_19 => ?_) (fun c_19 => ?_)
        · refine lv_iinc (v := (nI (i - 1))) (lv' := [(3, .int (nI (i - 1))), (0, .ref h0), (1, .int (nI k)), (2, .int (nI pg))]) hx hb d_Bs_imageInChain_32 hl (k := 3) rfl (sb_m1 (by omega)) (by decide) rfl (fun ls hl => ?_)
          refine lv_goto (tgt := 2) hx hb d_Bs_imageInChain_35 (by decide) ?_
          exact ih_2 (i - 1) (by omega) (by first | omega | assumption) (by rw [h2, zich_pos (by omega), if_neg (fun q => by rw [decide_eq_true q.2] at c_19; exact absurd c_19 (by decide))]) ls (lv_sub hl [1, 2, 3, 0] rfl)
        · refine lv_aload_n hx hb d_Bs_imageInChain_22 rfl (lv_at hl 0 rfl) ?_
          refine lv_iload_n hx hb d_Bs_imageInChain_23 rfl (lv_at hl 3 rfl) ?_
          refine zw_R (r := .ref (ba (i - 1))) (va_runV (As := [.int (nI i)]) (rest := []) ⟨hx, hb, hml, hown, hts⟩ (c_Bs_numbered l dC dI cT h0 bQ aL oK fK rv ae n am cap pl ea ba ia bF bS bE bM bV im i (by first | omega | assumption) (by first | omega | assumption) (by first | omega | assumption) (by first | omega | assumption)) (cwV 1 hts (zgV wd_351 wd_352 wd_353 wd_7 wd_354) rfl rfl rfl (by decide +kernel) ⟨Nat.le_of_ble_eq_true rfl, Nat.le_of_ble_eq_true rfl⟩) ⟨zPreR_blind, va_recv hK hP (ci := 5) (q0 := 0) rfl rfl, zp_R hK hE hP⟩ rfl rfl hl.1 rfl (lv_room (Nat.le_of_ble_eq_true rfl)) d_Bs_imageInChain_24 ⟨Nat.le_of_ble_eq_true rfl, Nat.le_of_ble_eq_true rfl⟩) ?_
          have hu_4 := hpo.1 (i - 1) (by omega)
          have hr_5 : va_P (dC, dI) vwCl [(ba (i - 1), bkE (bF (i - 1)) (bS (i - 1)) (ia (i - 1)) (bE (i - 1)) (bM (i - 1)) (bV (i - 1)))] s.heap := zmem hP hu_4.1
          have hr_6 : va_P (dC, dI) vwCl [(ia (i - 1), zaI (cT 0) 8 (im (i - 1)))] s.heap := zmem hP hu_4.2
          refine lv_iload_n hx hb d_Bs_imageInChain_27 rfl (lv_at hl 2 rfl) ?_
          refine zw_R (r := .int ((im (i - 1)) pg)) (va_runV (As := [.int (nI pg)]) (rest := []) ⟨hx, hb, hml, hown, hts⟩ (c_Bk_imageNumberOf l dC dI cT (ba (i - 1)) (bS (i - 1)) (ia (i - 1)) (bE (i - 1)) (bM (i - 1)) (bV (i - 1)) (bF (i - 1)) pg (im (i - 1)) (by first | omega | assumption)) (cwV 1 hts (zgV wd_462 wd_463 wd_464 wd_12 wd_465) rfl rfl rfl (by decide +kernel) ⟨Nat.le_of_ble_eq_true rfl, Nat.le_of_ble_eq_true rfl⟩) ⟨zPreR_blind, va_recv hK hr_5 (ci := 4) (q0 := 0) rfl rfl, zp_R hK hE (va_P.app hr_5 hr_6)⟩ rfl rfl hl.1 rfl (lv_room (Nat.le_of_ble_eq_true rfl)) d_Bs_imageInChain_28 ⟨Nat.le_of_ble_eq_true rfl, Nat.le_of_ble_eq_true rfl⟩) ?_
          have h7 := of_decide_eq_true c_19
          have h8 : im (i - 1) pg = nI (kN (im (i - 1) pg)) := by rcases him (i - 1) pg (by omega) hp with q | q; exact absurd q h7; exact q.1
          refine W.eq (congrArg (fun z => F0 m 31 ls [.int z]) h8) ?_
          exact W.iret hx hb hr (fun t ht hW => ⟨by rw [h2, zich_pos (by omega), if_pos ⟨c_7, h7⟩], ht⟩) (fun q h => by cases h) d_Bs_imageInChain_31
  exact loop_2 (k + 1) k (by omega) (by first | omega | assumption) rfl ls (lv_sub hl [1, 2, 3, 0] rfl)
set_option maxHeartbeats 4000000 in
set_option maxRecDepth 100000 in
theorem c_Bs_stillToVisit_none (l : Launch) (dC : Nat → ClassId) (dI : Nat → Nat → Nat) (cT : Nat → ClassId) (h0 : Nat) (bQ : Nat) (aL : Nat) (oK : Nat) (fK : Nat) : Met l y_Bs_stillToVisit w_Bs_stillToVisit ({ frames := 0, cells := 0, slots := 0, locals := 0 } : Room) (zPreR (dC, dI) vwCl (zT cT) [.ref h0] ([(h0, zoBs bQ aL .null oK fK)])) (k2_QcV (.int (-2))) 0 0 (fun _ => False) := by
  refine Met.ofW (cc := b_Bs_stillToVisit) (maxL := 1) (ret := (some .int)) (by decide) rfl ?_
  intro p e s m args below meth c s₁ B hml hv
  obtain ⟨rfl, hP, hK, hE⟩ := hv
  have hx := B.exec
  have hb := B.bytes
  have hr := B.returns
  have hts := fun w h => atoms_spec (ws := w_Bs_stillToVisit) B.pre w (List.mem_cons_of_mem _ h)
  have hown : s.vm.findClass R_Bs = some m.cls := findClass_of_methodNamed B.named
  have hlocks := B.notSynchronized
  have hl := lv_entry ([.ref h0]) (n := 1) (Nat.le_of_ble_eq_true rfl)
  rw [lg_entry_eq]
  generalize (lg_sl ([.ref h0]) ++ List.replicate (1 - (lg_sl ([.ref h0])).length) Slot.unset).toArray = ls at hl ⊢
  have hl : lv_has ls 1 [(0, .ref h0)] := hl
  refine lv_aload_n hx hb d_Bs_stillToVisit_0 rfl (lv_at hl 0 rfl) ?_
  refine va_get (D := (dC, dI)) (ci := 5) (v := .null) (C := R_Bs) (T := F_Bs) (N := 5) hx hb hts i_Bs hown hK hP 0 rfl rfl 2 (by decide) (hts _ wd_138) (fun _ h9 => h9) rfl d_Bs_stillToVisit_1 ?_
  refine lv_ifnonnullN hx hb d_Bs_stillToVisit_4 ?_
  refine lv_bipush (v := (-2)) hx hb d_Bs_stillToVisit_7 (by decide) ?_
  refine lv_goto (tgt := 22) hx hb d_Bs_stillToVisit_9 (by decide) ?_
  exact W.iret hx hb hr (fun t ht hW => ⟨rfl, ht⟩) (fun q h => by cases h) d_Bs_stillToVisit_22
set_option maxHeartbeats 4000000 in
set_option maxRecDepth 100000 in
theorem c_Bs_stillToVisit_run (l : Launch) (dC : Nat → ClassId) (dI : Nat → Nat → Nat) (cT : Nat → ClassId) (h0 : Nat) (bQ : Nat) (aL : Nat) (oK : Nat) (fK : Nat) (rB : Nat) (cS : Nat) (bA : Nat) (cE : Nat) (cM : Nat) (cV : Nat) (cF : Bool) (hv : cV ≤ 8) : Met l y_Bs_stillToVisit w_Bs_stillToVisit ({ frames := 0, cells := 0, slots := 0, locals := 0 } : Room) (zPreR (dC, dI) vwCl (zT cT) [.ref h0] ([(h0, zoBs bQ aL (.ref rB) oK fK), (rB, bkE cF cS bA cE cM cV)])) (k2_QcV (.int (nI (8 - cV)))) 0 0 (fun _ => False) := by
  refine Met.ofW (cc := b_Bs_stillToVisit) (maxL := 1) (ret := (some .int)) (by decide) rfl ?_
  intro p e s m args below meth c s₁ B hml hv
  obtain ⟨rfl, hP, hK, hE⟩ := hv
  have hx := B.exec
  have hb := B.bytes
  have hr := B.returns
  have hts := fun w h => atoms_spec (ws := w_Bs_stillToVisit) B.pre w (List.mem_cons_of_mem _ h)
  have hown : s.vm.findClass R_Bs = some m.cls := findClass_of_methodNamed B.named
  have hlocks := B.notSynchronized
  have hl := lv_entry ([.ref h0]) (n := 1) (Nat.le_of_ble_eq_true rfl)
  rw [lg_entry_eq]
  generalize (lg_sl ([.ref h0]) ++ List.replicate (1 - (lg_sl ([.ref h0])).length) Slot.unset).toArray = ls at hl ⊢
  have hl : lv_has ls 1 [(0, .ref h0)] := hl
  refine lv_aload_n hx hb d_Bs_stillToVisit_0 rfl (lv_at hl 0 rfl) ?_
  refine va_get (D := (dC, dI)) (ci := 5) (v := .ref rB) (C := R_Bs) (T := F_Bs) (N := 5) hx hb hts i_Bs hown hK hP 0 rfl rfl 2 (by decide) (hts _ wd_138) (fun _ h9 => h9) rfl d_Bs_stillToVisit_1 ?_
  refine lv_ifnonnull (tgt := 12) hx hb d_Bs_stillToVisit_4 (by decide) ?_
  refine lv_bipush (v := (nI 8)) hx hb d_Bs_stillToVisit_12 (by decide) ?_
  refine lv_aload_n hx hb d_Bs_stillToVisit_14 rfl (lv_at hl 0 rfl) ?_
  refine va_get (D := (dC, dI)) (ci := 5) (v := .ref rB) (C := R_Bs) (T := F_Bs) (N := 5) hx hb hts i_Bs hown hK hP 0 rfl rfl 2 (by decide) (hts _ wd_138) (fun _ h9 => h9) rfl d_Bs_stillToVisit_15 ?_
  refine va_get (D := (dC, dI)) (ci := 4) (v := .int (nI cV)) (C := R_Bk) (T := F_Bk) (N := 6) hx hb hts i_Bk hown hK hP 1 rfl rfl 5 (by decide) (hts _ wd_319) (fun _ h9 => h9) rfl d_Bs_stillToVisit_18 ?_
  refine zn_isub hx hb (by omega) d_Bs_stillToVisit_21 ?_
  exact W.iret hx hb hr (fun t ht hW => ⟨rfl, ht⟩) (fun q h => by cases h) d_Bs_stillToVisit_22
