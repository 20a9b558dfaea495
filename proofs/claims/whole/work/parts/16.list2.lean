section ZQ
variable {p : Program} {l : Launch} {e : Env} {R : Room} {s : State} {m : MethodId} {args : Array Value} {below : List Frame} {meth : Method} {c : Code} {H : Heap} {locs : List Loc} {cells slots : Nat} {Q : State → Prop}
variable {cc : ByteArray} {pc : Nat} {ls : Array Slot} {rest : List Value} {D : va_G} {cl : List vw_C} {A : Nat → Prop} {a : Nat} {T : List (ClassId × FieldType)} {ws : va_W} {H0 : Heap}
theorem zn_ishr1 (hexec : p.tables.exec = Jvm.exec) (hb : c.code = cc) {x : Nat} (hx : x < 2 ^ 31) (hdg : decode cc pc = .ok (.ishr, 1)) (k : W p l e R s m args below meth c H locs cells slots Q (F0 m (pc + 1) ls (.int (nI (x / 2)) :: rest))) : W p l e R s m args below meth c H locs cells slots Q (F0 m pc ls (.int (nI 1) :: .int (nI x) :: rest)) := by
  refine lv_ishr hexec hb hdg ?_
  rw [pk_shrN hx _ 1 (by decide)]
  exact k
theorem zn_newQ {own : String} (hexec : p.tables.exec = Jvm.exec) (hb : c.code = cc) {index : Nat} (hown : s.vm.findClass own = some m.cls) (hclink : (Cond.classLink own index R_Oj).before args s = true) (hover : va_AO R_Oj s) (hK : va_K D cl T s) (hP : va_P D cl ws H) (hD : va_D A ws) (hS : va_S A H0 H locs) (hA : ∀ q, H0.size ≤ q → A q) {cQ : ClassId} (ht : T[3]? = some (cQ, .object R_Oj))
    {N : Nat} (hN : N < 2 ^ 24) (hcells : cells + 1 ≤ R.cells) (hslots : slots + N ≤ R.slots) (hdg : decode cc pc = .ok (.anewarray index, 3))
    (kk : ∀ (q : Nat) (H1 : Heap), va_P D cl (ws ++ [(q, .inl (cQ, N, .inr (.inr (.inr (.inr (fun _ => none))))))]) H1 → va_D A (ws ++ [(q, .inl (cQ, N, .inr (.inr (.inr (.inr (fun _ => none))))))]) → va_S A H0 H1 locs → W p l e R s m args below meth c H1 locs (cells + 1) (slots + N) Q (F0 m (pc + 3) ls (.ref q :: rest))) : W p l e R s m args below meth c H locs cells slots Q (F0 m pc ls (.int (nI N) :: rest)) := by
  have h31 : N < 2 ^ 31 := Nat.lt_trans hN (by decide)
  refine va_newq hexec hb hown hclink hover hK hP hD hS hA (nI_pos h31) (nI_clamp h31) (by omega) hcells hslots hdg (fun q cA H1 hK1 hP1 hD1 hS1 => ?_)
  have e1 := va_nmO (hK1.2 T.length (cA, .object R_Oj) (by simp)).2 rfl
  have e2 := va_nmO (hK.2 3 _ ht).2 rfl
  have e3 : cA = cQ := Option.some.inj (e1.symm.trans e2)
  subst e3
  exact kk q H1 hP1 hD1 hS1
theorem zn_aastO (hexec : p.tables.exec = Jvm.exec) (hb : c.code = cc) (hK : va_K D cl T s) (hP : va_P D cl ws H) (hD : va_D A ws) (hS : va_S A H0 H locs) (q0 t0 qk ci : Nat) {E : String} {cA : ClassId} {r : vw_C} {n v : Nat} {vs : List Value} {f : Nat → Option Nat} (ha : ws[q0]? = some (a, .inl (cA, n, .inr (.inr (.inr (.inr f)))))) (ht : T[t0]? = some (cA, .object E)) (hca : va_Nw (.castable r.1 E) s) (hv : ws[qk]? = some (v, .inr (ci, vs))) (hc : cl[ci]? = some r) {i : Nat} (hi : i < n) (hn : n < 2 ^ 31) (hdg : decode cc pc = .ok (.aastore, 1))
    (kk : ∀ (H1 : Heap) (locs1 : List Loc), va_P D cl (ws.set q0 (a, .inl (cA, n, .inr (.inr (.inr (.inr (va_up f i (some v)))))))) H1 → va_D A (ws.set q0 (a, .inl (cA, n, .inr (.inr (.inr (.inr (va_up f i (some v)))))))) → va_S A H0 H1 locs1 → W p l e R s m args below meth c H1 locs1 cells slots Q (F0 m (pc + 1) ls rest)) : W p l e R s m args below meth c H locs cells slots Q (F0 m pc ls (.ref v :: .int (nI i) :: .ref a :: rest)) :=
  va_astqO hexec hb hK hP hD hS q0 t0 qk ci ha ht hca hv hc (vp_in_nI hi hn) hdg (fun H1 locs1 h1 h2 h3 => kk H1 locs1 (by rw [nI_clamp (Nat.lt_trans hi hn)] at h1; exact h1) (by rw [nI_clamp (Nat.lt_trans hi hn)] at h2; exact h2) h3)
/-- an array of Object is of the class of that name -/
theorem zarec {cT : Nat → ClassId} (hK : va_K D cl (zT cT) s) (hP : va_P D cl ws H) (q0 : Nat) {n : Nat} {f : Nat → Option Nat} (ha : ws[q0]? = some (a, .inl (cT 3, n, .inr (.inr (.inr (.inr f)))))) : ∃ cell : Cell, H[a]? = some cell ∧ cell.vm.isStatics = false ∧ s.vm.findClass "[Ljava/lang/Object;" = some cell.cls :=
  ⟨_, hP q0 _ ha, rfl, va_nmO (hK.2 3 _ rfl).2 rfl⟩
theorem zn_copyq {X pl : va_W} {cT : Nat → ClassId} (hexec : p.tables.exec = Jvm.exec) (hb : c.code = cc) (hml : c.maxLocals = ls.size) {own : String} {index : Nat} (hown : s.vm.findClass own = some m.cls) (hlink : (Cond.methodLink own index arraycopyName).before args s = true) (hnat : (Cond.native arraycopyName).before args s = true) (hstat : (Cond.static arraycopyName).before args s = true) (hini : (Cond.initialized "java/lang/System").before args s = true) (hca : va_Nw (.castable R_Bk R_Oj) s)
    (hK : va_K D cl (zT cT) s) (hP : va_P D cl (X ++ pl) H) (hD : va_D A (X ++ pl)) (hS : va_S A H0 H locs) (q0 q1 : Nat) {a0 : Nat} {n0 n1 : Nat} {f g : Nat → Option Nat} {r : vw_C} (ha0 : (X ++ pl)[q0]? = some (a0, .inl (cT 3, n0, .inr (.inr (.inr (.inr f)))))) (ha1 : (X ++ pl)[q1]? = some (a, .inl (cT 3, n1, .inr (.inr (.inr (.inr g)))))) (hc : cl[4]? = some r) (hr : r.1 = R_Bk) (ht : (zT cT)[3]? = some (cT 3, .object R_Oj))
    {k : Nat} (hk0 : k ≤ n0) (hk1 : k ≤ n1) (hn0 : n0 < 2 ^ 31) (hn1 : n1 < 2 ^ 31) (hel : ∀ i, i < k → ∃ (y : Nat) (fs : List Value), f i = some y ∧ (y, Sum.inr (4, fs)) ∈ pl)
    (hframes : 1 ≤ R.frames) (hlocals : (rest.map fun v => v.category).sum + (nativeFrameWords "java/lang/System" "arraycopy" 5 + 11) ≤ R.locals) (hdg : decode cc pc = .ok (.invokestatic index, 3))
    (kk : ∀ (H1 : Heap) (locs1 : List Loc), va_P D cl ((X ++ pl).set q1 (a, .inl (cT 3, n1, .inr (.inr (.inr (.inr (va_cpy f g 0 0 k))))))) H1 → va_D A ((X ++ pl).set q1 (a, .inl (cT 3, n1, .inr (.inr (.inr (.inr (va_cpy f g 0 0 k))))))) → va_S A H0 H1 locs1 → W p l e R s m args below meth c H1 locs1 cells slots Q (F0 m (pc + 3) ls rest)) : W p l e R s m args below meth c H locs cells slots Q (F0 m pc ls (.int (nI k) :: .int (nI 0) :: .ref a :: .int (nI 0) :: .ref a0 :: rest)) := by
  have ek : (nI k).toNatClampNeg = k := nI_clamp (by omega)
  have e0 : (nI 0).toNatClampNeg = 0 := by decide
  refine va_copyq (C := R_Bk) (E0 := R_Oj) (E1 := R_Oj) hexec hb hml hown hlink hnat hstat hini hK hP hD hS q0 q1 3 3 ha0 ha1 ht ht (by decide) (by decide) (nI_pos (by omega)) (by rw [ek, e0]; omega) (by rw [ek, e0]; omega) (fun i hi y hy => ?_) (fun comp c0 h1 h2 => vb_asgC hca comp c0 h1 h2) hframes hlocals hdg (fun H1 locs1 h1 h2 h3 => kk H1 locs1 (by rw [ek, e0] at h1; exact h1) (by rw [ek, e0] at h2; exact h2) h3)
  rw [ek] at hi
  rw [e0, Nat.zero_add] at hy
  obtain ⟨z, fs, h1, h2⟩ := hel i hi
  rw [hy] at h1
  cases h1
  have := va_recv hK (zmem hP h2) hc (q0 := 0) rfl
  rw [hr] at this
  exact this
end ZQ
set_option maxHeartbeats 4000000 in
set_option maxRecDepth 100000 in
theorem c_Ac_init (l : Launch) (dC : Nat → ClassId) (dI : Nat → Nat → Nat) (cT : Nat → ClassId) (sz : Nat) (h0 : Nat) (n : Nat) (am : Nat) (v0 : Value) : Met l y_Ac_init w_Ac_init ({ frames := 1, cells := 0, slots := 0, locals := 20 } : Room) (zPre (dC, dI) vwCl (zT cT) [.ref h0] ([(h0, .inr (7, [v0, .int (nI n), .int (nI am)]))]) sz) (zQ (dC, dI) vwCl (S := Unit) (fun zu => True) (fun zu => none) (fun zu => [(h0, .inr (7, [v0, .int (nI n), .int (nI am)]))]) (va_A ([(h0, .inr (7, [v0, .int (nI n), .int (nI am)]))]) sz)) 0 0 (va_A ([(h0, .inr (7, [v0, .int (nI n), .int (nI am)]))]) sz) := by
  refine Met.ofW (cc := b_Ac_init) (maxL := 1) (ret := none) (by decide) rfl ?_
  intro p e s m args below meth c s₁ B hml hv
  obtain ⟨rfl, hsz, hP, hK, hD0, hE⟩ := hv
  have hx := B.exec
  have hb := B.bytes
  have hr := B.returns
  have hts := fun w h => atoms_spec (ws := w_Ac_init) B.pre w (List.mem_cons_of_mem _ h)
  have hown : s.vm.findClass R_Ac = some m.cls := findClass_of_methodNamed B.named
  have hlocks := B.notSynchronized
  have hin : meth.name = "<init>" := (name_of_methodNamed B.named B.method).1
  subst hsz
  have hD := hD0.self (sz := s.heap.size)
  generalize hAe : va_A ([(h0, .inr (7, [v0, .int (nI n), .int (nI am)]))]) s.heap.size = A at hD ⊢
  have hA : ∀ q : Nat, s.heap.size ≤ q → A q := fun q h => by rw [← hAe]; exact Or.inr h
  have hS : va_S A s.heap s.heap [] := va_S.rf
  have hl := lv_entry ([.ref h0]) (n := 1) (Nat.le_of_ble_eq_true rfl)
  rw [lg_entry_eq]
  generalize (lg_sl ([.ref h0]) ++ List.replicate (1 - (lg_sl ([.ref h0])).length) Slot.unset).toArray = ls at hl ⊢
  have hl : lv_has ls 1 [(0, .ref h0)] := hl
  refine lv_aload_n hx hb d_Ac_init_0 rfl (lv_at hl 0 rfl) ?_
  refine W.objInit hx hb hown (hts _ wd_121) (hts _ wd_23) (hts _ wd_24) rfl (by rw [hml]; exact hl.1) rfl d_Ac_init_1 (Nat.le_of_ble_eq_true rfl) (Nat.le_of_ble_eq_true rfl) ?_
  refine W.eq (g2 := F0 m 4 ls []) rfl ?_
  have hP9 := hP.sub (ws' := [(h0, .inr (7, [v0, .int (nI n), .int (nI am)]))]) [0] rfl
  have hD9 := hD.sub (ws' := [(h0, .inr (7, [v0, .int (nI n), .int (nI am)]))]) [0] (by decide) rfl
  exact W.vret hx hb hr (fun t ht hW => ⟨⟨(), trivial, rfl, by rw [ht]; exact hP9, hD9⟩, hS.F ht⟩) hS.2.2 d_Ac_init_4
set_option maxHeartbeats 4000000 in
set_option maxRecDepth 100000 in
theorem c_Ab_init (l : Launch) (dC : Nat → ClassId) (dI : Nat → Nat → Nat) (cT : Nat → ClassId) (sz : Nat) (h0 : Nat) (n : Nat) (am : Nat) (v0 : Value) : Met l y_Ab_init w_Ab_init ({ frames := 2, cells := 0, slots := 0, locals := 40 } : Room) (zPre (dC, dI) vwCl (zT cT) [.ref h0] ([(h0, .inr (7, [v0, .int (nI n), .int (nI am)]))]) sz) (zQ (dC, dI) vwCl (S := Unit) (fun zu => True) (fun zu => none) (fun zu => [(h0, .inr (7, [v0, .int (nI n), .int (nI 0)]))]) (va_A ([(h0, .inr (7, [v0, .int (nI n), .int (nI am)]))]) sz)) 0 0 (va_A ([(h0, .inr (7, [v0, .int (nI n), .int (nI am)]))]) sz) := by
  refine Met.ofW (cc := b_Ab_init) (maxL := 1) (ret := none) (by decide) rfl ?_
  intro p e s m args below meth c s₁ B hml hv
  obtain ⟨rfl, hsz, hP, hK, hD0, hE⟩ := hv
  have hx := B.exec
  have hb := B.bytes
  have hr := B.returns
  have hts := fun w h => atoms_spec (ws := w_Ab_init) B.pre w (List.mem_cons_of_mem _ h)
  have hown : s.vm.findClass R_Ab = some m.cls := findClass_of_methodNamed B.named
  have hlocks := B.notSynchronized
  have hin : meth.name = "<init>" := (name_of_methodNamed B.named B.method).1
  subst hsz
  have hD := hD0.self (sz := s.heap.size)
  generalize hAe : va_A ([(h0, .inr (7, [v0, .int (nI n), .int (nI am)]))]) s.heap.size = A at hD ⊢
  have hA : ∀ q : Nat, s.heap.size ≤ q → A q := fun q h => by rw [← hAe]; exact Or.inr h
  have hS : va_S A s.heap s.heap [] := va_S.rf
  have hl := lv_entry ([.ref h0]) (n := 1) (Nat.le_of_ble_eq_true rfl)
  rw [lg_entry_eq]
  generalize (lg_sl ([.ref h0]) ++ List.replicate (1 - (lg_sl ([.ref h0])).length) Slot.unset).toArray = ls at hl ⊢
  have hl : lv_has ls 1 [(0, .ref h0)] := hl
  refine lv_aload_n hx hb d_Ab_init_0 rfl (lv_at hl 0 rfl) ?_
  refine zw_Q (X := [(h0, .inr (7, [v0, .int (nI n), .int (nI am)]))]) (pl := []) (va_runI (As := []) (rest := []) ⟨hx, hb, hml, hown, hts⟩ (c_Ac_init l dC dI cT s.heap.size h0 n am v0) (cwI 0 hts (zgI wd_120) rfl rfl rfl (hts _ wd_8) (hts _ wd_118) (hts _ wd_119) rfl (by decide +kernel) ⟨Nat.le_of_ble_eq_true rfl, Nat.le_of_ble_eq_true rfl⟩) ⟨zPre_blind, zp_Q (X := [(h0, .inr (7, [v0, .int (nI n), .int (nI am)]))]) (pl := []) hK hE hP hD [0] (by decide) rfl⟩ rfl rfl hl.1 rfl (lv_room (Nat.le_of_ble_eq_true rfl)) d_Ab_init_1 ⟨Nat.le_of_ble_eq_true rfl, Nat.le_of_ble_eq_true rfl⟩) hP hD hS hA [0] [] rfl (wr := []) rfl (by decide) (by decide) (fun zu => []) (fun _ => rfl) (fun zu H locs hφ hP hD hS => ?_)
  have hP : va_P (dC, dI) vwCl ([(h0, .inr (7, [v0, .int (nI n), .int (nI am)]))]) H := hP
  have hD : va_D A ([(h0, .inr (7, [v0, .int (nI n), .int (nI am)]))]) := hD
  refine lv_aload_n hx hb d_Ab_init_4 rfl (lv_at hl 0 rfl) ?_
  refine lv_iconst (v := (nI 0)) hx hb d_Ab_init_5 (by decide) ?_
  refine va_put (D := (dC, dI)) (ci := 7) (v := .int (nI 0)) (ty := .int) (C := R_Al) (T := F_Al) (N := 3) hx hb hts i_Al t_Al t_Al_ok n_Al hown hK hP hD hS 0 rfl rfl 2 (by decide) (hts _ wd_126) (fun _ h9 => h9) rfl (by decide +kernel) rfl rfl (Nat.le_of_ble_eq_true rfl) d_Ab_init_6 (fun H locs hP hD hS => ?_)
  have hP : va_P (dC, dI) vwCl ([(h0, .inr (7, [v0, .int (nI n), .int (nI 0)]))]) H := hP
  have hD : va_D A ([(h0, .inr (7, [v0, .int (nI n), .int (nI 0)]))]) := hD
  have hP9 := hP.sub (ws' := [(h0, .inr (7, [v0, .int (nI n), .int (nI 0)]))]) [0] rfl
  have hD9 := hD.sub (ws' := [(h0, .inr (7, [v0, .int (nI n), .int (nI 0)]))]) [0] (by decide) rfl
  exact W.vret hx hb hr (fun t ht hW => ⟨⟨(), trivial, rfl, by rw [ht]; exact hP9, hD9⟩, hS.F ht⟩) hS.2.2 d_Ab_init_9
set_option maxHeartbeats 4000000 in
set_option maxRecDepth 100000 in
theorem c_Al_init (l : Launch) (dC : Nat → ClassId) (dI : Nat → Nat → Nat) (cT : Nat → ClassId) (sz : Nat) (tE : Nat) (mi : Nat) (h0 : Nat) (n : Nat) (am : Nat) (v0 : Value) : Met l y_Al_init w_Al_init ({ frames := 3, cells := 0, slots := 0, locals := 60 } : Room) (zPreS (dC, dI) vwCl (zT cT) [.ref h0] ([(h0, .inr (7, [v0, .int (nI n), .int (nI am)]))]) sz tE mi) (zQ (dC, dI) vwCl (S := Unit) (fun zu => True) (fun zu => none) (fun zu => [(h0, zoAl tE n 0)]) (va_A ([(h0, .inr (7, [v0, .int (nI n), .int (nI am)]))]) sz)) 0 0 (va_A ([(h0, .inr (7, [v0, .int (nI n), .int (nI am)]))]) sz) := by
  refine Met.ofW (cc := b_Al_init) (maxL := 1) (ret := none) (by decide) rfl ?_
  intro p e s m args below meth c s₁ B hml hv
  obtain ⟨⟨rfl, hsz, hP, hK, hD0, hE⟩, hZ⟩ := hv
  have hx := B.exec
  have hb := B.bytes
  have hr := B.returns
  have hts := fun w h => atoms_spec (ws := w_Al_init) B.pre w (List.mem_cons_of_mem _ h)
  have hown : s.vm.findClass R_Al = some m.cls := findClass_of_methodNamed B.named
  have hlocks := B.notSynchronized
  have hin : meth.name = "<init>" := (name_of_methodNamed B.named B.method).1
  subst hsz
  have hD := hD0.self (sz := s.heap.size)
  generalize hAe : va_A ([(h0, .inr (7, [v0, .int (nI n), .int (nI am)]))]) s.heap.size = A at hD hZ ⊢
  have hA : ∀ q : Nat, s.heap.size ≤ q → A q := fun q h => by rw [← hAe]; exact Or.inr h
  have hS : va_S A s.heap s.heap [] := va_S.rf
  have hl := lv_entry ([.ref h0]) (n := 1) (Nat.le_of_ble_eq_true rfl)
  rw [lg_entry_eq]
  generalize (lg_sl ([.ref h0]) ++ List.replicate (1 - (lg_sl ([.ref h0])).length) Slot.unset).toArray = ls at hl ⊢
  have hl : lv_has ls 1 [(0, .ref h0)] := hl
  refine lv_aload_n hx hb d_Al_init_0 rfl (lv_at hl 0 rfl) ?_
  refine zw_Q (X := [(h0, .inr (7, [v0, .int (nI n), .int (nI am)]))]) (pl := []) (va_runI (As := []) (rest := []) ⟨hx, hb, hml, hown, hts⟩ (c_Ab_init l dC dI cT s.heap.size h0 n am v0) (cwI 0 hts (zgI wd_117) rfl rfl rfl (hts _ wd_9) (hts _ wd_115) (hts _ wd_116) rfl (by decide +kernel) ⟨Nat.le_of_ble_eq_true rfl, Nat.le_of_ble_eq_true rfl⟩) ⟨zPre_blind, zp_Q (X := [(h0, .inr (7, [v0, .int (nI n), .int (nI am)]))]) (pl := []) hK hE hP hD [0] (by decide) rfl⟩ rfl rfl hl.1 rfl (lv_room (Nat.le_of_ble_eq_true rfl)) d_Al_init_1 ⟨Nat.le_of_ble_eq_true rfl, Nat.le_of_ble_eq_true rfl⟩) hP hD hS hA [0] [] rfl (wr := []) rfl (by decide) (by decide) (fun zu => []) (fun _ => rfl) (fun zu H locs hφ hP hD hS => ?_)
  have hP : va_P (dC, dI) vwCl ([(h0, .inr (7, [v0, .int (nI n), .int (nI 0)]))]) H := hP
  have hD : va_D A ([(h0, .inr (7, [v0, .int (nI n), .int (nI 0)]))]) := hD
  refine lv_aload_n hx hb d_Al_init_4 rfl (lv_at hl 0 rfl) ?_
  refine va_gets hx hb hZ.1 hS hown (hts _ wd_122) (fun _ h9 => h9) d_Al_init_5 ?_
  refine va_put (D := (dC, dI)) (ci := 7) (v := .ref tE) (ty := (.array (.object "java/lang/Object"))) (C := R_Al) (T := F_Al) (N := 3) hx hb hts i_Al t_Al t_Al_ok n_Al hown hK hP hD hS 0 rfl rfl 0 (by decide) (hts _ wd_124) (fun _ h9 => h9) rfl (by decide +kernel) rfl rfl (Nat.le_of_ble_eq_true rfl) d_Al_init_8 (fun H locs hP hD hS => ?_)
  have hP : va_P (dC, dI) vwCl ([(h0, zoAl tE n 0)]) H := hP
  have hD : va_D A ([(h0, zoAl tE n 0)]) := hD
  have hP9 := hP.sub (ws' := [(h0, zoAl tE n 0)]) [0] rfl
  have hD9 := hD.sub (ws' := [(h0, zoAl tE n 0)]) [0] (by decide) rfl
  exact W.vret hx hb hr (fun t ht hW => ⟨⟨(), trivial, rfl, by rw [ht]; exact hP9, hD9⟩, hS.F ht⟩) hS.2.2 d_Al_init_11
set_option maxHeartbeats 4000000 in
set_option maxRecDepth 100000 in
theorem c_As_newLength (l : Launch) (dC : Nat → ClassId) (dI : Nat → Nat → Nat) (cT : Nat → ClassId) (i : Nat) (j : Nat) (k : Nat) (h1 : 0 < i + max j k) (h2 : i + max j k ≤ 100000) : Met l y_As_newLength w_As_newLength ({ frames := 1, cells := 0, slots := 0, locals := 21 } : Room) (zPreR (dC, dI) vwCl (zT cT) [.int (nI i), .int (nI j), .int (nI k)] ([])) (k2_QcV (.int (nI (i + max j k)))) 0 0 (fun _ => False) := by
  refine Met.ofW (cc := b_As_newLength) (maxL := 4) (ret := (some .int)) (by decide) rfl ?_
  intro p e s m args below meth c s₁ B hml hv
  obtain ⟨rfl, hP, hK, hE⟩ := hv
  have hx := B.exec
  have hb := B.bytes
  have hr := B.returns
  have hts := fun w h => atoms_spec (ws := w_As_newLength) B.pre w (List.mem_cons_of_mem _ h)
  have hown : s.vm.findClass R_As = some m.cls := findClass_of_methodNamed B.named
  have hlocks := B.notSynchronized
  have hl := lv_entry ([.int (nI i), .int (nI j), .int (nI k)]) (n := 4) (Nat.le_of_ble_eq_true rfl)
  rw [lg_entry_eq]
  generalize (lg_sl ([.int (nI i), .int (nI j), .int (nI k)]) ++ List.replicate (4 - (lg_sl ([.int (nI i), .int (nI j), .int (nI k)])).length) Slot.unset).toArray = ls at hl ⊢
  have hl : lv_has ls 4 [(0, .int (nI i)), (1, .int (nI j)), (2, .int (nI k))] := hl
  refine lv_iload_n hx hb d_As_newLength_0 rfl (lv_at hl 0 rfl) ?_
  refine lv_iload_n hx hb d_As_newLength_1 rfl (lv_at hl 1 rfl) ?_
  refine lv_iload_n hx hb d_As_newLength_2 rfl (lv_at hl 2 rfl) ?_
  refine zn_mmax hx hb (by rw [hml]; exact hl.1.symm) hown (hts _ wd_397) (hts _ wd_66) (hts _ wd_5) (hts _ wd_67) (Nat.le_of_ble_eq_true rfl) (Nat.le_of_ble_eq_true rfl) (Nat.le_of_ble_eq_true rfl) (Nat.le_of_ble_eq_true rfl) (a := j) (b := k) (by omega) (by omega) d_As_newLength_3 ?_
  refine zn_iadd hx hb d_As_newLength_6 ?_
  refine lv_istore_n (lv' := [(3, .int (nI (i + (max j k)))), (0, .int (nI i)), (1, .int (nI j)), (2, .int (nI k))]) hx hb d_As_newLength_7 rfl hl (by decide) rfl (fun ls hl => ?_)
  refine lv_iconst (v := (nI 0)) hx hb d_As_newLength_8 (by decide) ?_
  refine lv_iload_n hx hb d_As_newLength_9 rfl (lv_at hl 0 rfl) ?_
  refine zn_icmp_ge (tgt := 21) hx hb (a := 0) (b := i + (max j k)) (by omega) (by omega) d_As_newLength_10 (by decide) (fun c_10 => absurd c_10 (by omega)) (fun c_10 => ?_)
  refine lv_iload_n hx hb d_As_newLength_13 rfl (lv_at hl 0 rfl) ?_
  refine lv_ldc (v := nI 2147483639) hx hb hown (hts _ wd_398) d_As_newLength_14 ?_
  refine zn_icmp_gt (tgt := 21) hx hb (a := i + (max j k)) (b := 2147483639) (by omega) (by omega) d_As_newLength_16 (by decide) (fun c_16 => absurd c_16 (by omega)) (fun c_16 => ?_)
  refine lv_iload_n hx hb d_As_newLength_19 rfl (lv_at hl 0 rfl) ?_
  exact W.iret hx hb hr (fun t ht hW => ⟨rfl, ht⟩) (fun q h => by cases h) d_As_newLength_20
set_option maxHeartbeats 4000000 in
set_option maxRecDepth 100000 in
theorem c_Ar_copyOf_3 (l : Launch) (dC : Nat → ClassId) (dI : Nat → Nat → Nat) (cT : Nat → ClassId) (sz : Nat) (tE : Nat) (mi : Nat) (ae : Nat) (cap : Nat) (k : Nat) (ea : Nat → Option Nat) (pl : va_W) (hk : cap ≤ k) (hk4 : k ≤ 400) (hel : ∀ i, i < cap → ∃ (y : Nat) (fs : List Value), ea i = some y ∧ (y, Sum.inr (4, fs)) ∈ pl) : Met l y_Ar_copyOf_3 w_Ar_copyOf_3 ({ frames := 1, cells := 1, slots := 400, locals := 40 } : Room) (zPreS (dC, dI) vwCl (zT cT) [.ref ae, .int (nI k), .ref mi] ([(ae, zaQ (cT 3) cap ea)] ++ pl) sz tE mi) (zQ (dC, dI) vwCl (S := Nat) (fun zu => True) (fun zu => some (.ref zu)) (fun zu => [(ae, zaQ (cT 3) cap ea), (zu, zaQ (cT 3) k (va_cpy ea (fun _ => none) 0 0 (min cap k)))] ++ pl) (va_A ([(ae, zaQ (cT 3) cap ea)] ++ pl) sz)) 1 400 (va_A ([(ae, zaQ (cT 3) cap ea)] ++ pl) sz) := by
  refine Met.ofW (cc := b_Ar_copyOf_3) (maxL := 4) (ret := (some (.array (.object "java/lang/Object")))) (by decide) rfl ?_
  intro p e s m args below meth c s₁ B hml hv
  obtain ⟨⟨rfl, hsz, hP, hK, hD0, hE⟩, hZ⟩ := hv
  have hx := B.exec
  have hb := B.bytes
  have hr := B.returns
  have hts := fun w h => atoms_spec (ws := w_Ar_copyOf_3) B.pre w (List.mem_cons_of_mem _ h)
  have hown : s.vm.findClass R_Ar = some m.cls := findClass_of_methodNamed B.named
  have hlocks := B.notSynchronized
  subst hsz
  have hD := hD0.self (sz := s.heap.size)
  generalize hAe : va_A ([(ae, zaQ (cT 3) cap ea)] ++ pl) s.heap.size = A at hD hZ ⊢
  have hA : ∀ q : Nat, s.heap.size ≤ q → A q := fun q h => by rw [← hAe]; exact Or.inr h
  have hS : va_S A s.heap s.heap [] := va_S.rf
  have hl := lv_entry ([.ref ae, .int (nI k), .ref mi]) (n := 4) (Nat.le_of_ble_eq_true rfl)
  rw [lg_entry_eq]
  generalize (lg_sl ([.ref ae, .int (nI k), .ref mi]) ++ List.replicate (4 - (lg_sl ([.ref ae, .int (nI k), .ref mi])).length) Slot.unset).toArray = ls at hl ⊢
  have hl : lv_has ls 4 [(0, .ref ae), (1, .int (nI k)), (2, .ref mi)] := hl
  refine lv_aload_n hx hb d_Ar_copyOf_3_0 rfl (lv_at hl 2 rfl) ?_
  refine va_ldcM hx hb hown (hts _ wd_420) hZ.2.2 d_Ar_copyOf_3_1 ?_
  refine lv_acmp_ne (rx := some mi) (ry := some mi) (tgt := 13) hx hb d_Ar_copyOf_3_3 (by decide) (fun q => absurd rfl q) (fun _ => ?_)
  refine lv_iload_n hx hb d_Ar_copyOf_3_6 rfl (lv_at hl 1 rfl) ?_
  refine zn_newQ (N := k) hx hb hown (hts _ wd_422) hE.2.2.2.2.2.2 hK hP hD hS hA rfl (by omega) (Nat.le_of_ble_eq_true rfl) (by show 0 + _ ≤ 400; omega) d_Ar_copyOf_3_7 (fun q_1 H hP hD hS => ?_)
  have hP := hP.swap
  have hD := hD.swap
  refine W.widen (k := 1) (n := 400) (by omega) (by omega) ?_
  have hP : va_P (dC, dI) vwCl ([(ae, zaQ (cT 3) cap ea), (q_1, zaQ (cT 3) k (fun _ => none))] ++ pl) H := hP
  have hD : va_D A ([(ae, zaQ (cT 3) cap ea), (q_1, zaQ (cT 3) k (fun _ => none))] ++ pl) := hD
  refine lv_goto (tgt := 24) hx hb d_Ar_copyOf_3_10 (by decide) ?_
  refine lv_astore_n (lv' := [(3, .ref q_1), (0, .ref ae), (1, .int (nI k)), (2, .ref mi)]) hx hb d_Ar_copyOf_3_24 rfl hl (by decide) rfl (fun ls hl => ?_)
  refine lv_aload_n hx hb d_Ar_copyOf_3_25 rfl (lv_at hl 1 rfl) ?_
  refine lv_iconst (v := (nI 0)) hx hb d_Ar_copyOf_3_26 (by decide) ?_
  refine lv_aload_n hx hb d_Ar_copyOf_3_27 rfl (lv_at hl 0 rfl) ?_
  refine lv_iconst (v := (nI 0)) hx hb d_Ar_copyOf_3_28 (by decide) ?_
  refine lv_aload_n hx hb d_Ar_copyOf_3_29 rfl (lv_at hl 1 rfl) ?_
  refine va_alen (v := nI cap) hx hb hK hP 0 3 rfl rfl rfl d_Ar_copyOf_3_30 ?_
  refine lv_iload_n hx hb d_Ar_copyOf_3_31 rfl (lv_at hl 2 rfl) ?_
  refine zn_mmin hx hb (by rw [hml]; exact hl.1.symm) hown (hts _ wd_423) (hts _ wd_63) (hts _ wd_5) (hts _ wd_64) (Nat.le_of_ble_eq_true rfl) (Nat.le_of_ble_eq_true rfl) (Nat.le_of_ble_eq_true rfl) (Nat.le_of_ble_eq_true rfl) (a := cap) (b := k) (by omega) (by omega) d_Ar_copyOf_3_32 ?_
  refine zn_copyq hx hb (by rw [hml]; exact hl.1.symm) hown (hts _ wd_424) (hts _ wd_426) (hts _ wd_425) (hts _ wd_16) hE.2.2.2.1 hK hP hD hS 0 1 rfl rfl rfl rfl rfl (k := min cap k) (by omega) (by omega) (by omega) (by omega) (fun i hi => hel i (by omega)) (Nat.le_of_ble_eq_true rfl) (Nat.le_of_ble_eq_true rfl) d_Ar_copyOf_3_35 (fun H locs hP hD hS => ?_)
  have hP : va_P (dC, dI) vwCl ([(ae, zaQ (cT 3) cap ea), (q_1, zaQ (cT 3) k (va_cpy ea (fun _ => none) 0 0 (min cap k)))] ++ pl) H := hP
  have hD : va_D A ([(ae, zaQ (cT 3) cap ea), (q_1, zaQ (cT 3) k (va_cpy ea (fun _ => none) 0 0 (min cap k)))] ++ pl) := hD
  refine lv_aload_n hx hb d_Ar_copyOf_3_38 rfl (lv_at hl 0 rfl) ?_
  have hP9 := va_P.part (cx := [(ae, zaQ (cT 3) cap ea), (q_1, zaQ (cT 3) k (va_cpy ea (fun _ => none) 0 0 (min cap k)))]) hP [0, 1] rfl
  have hD9 := va_D.part (cx := [(ae, zaQ (cT 3) cap ea), (q_1, zaQ (cT 3) k (va_cpy ea (fun _ => none) 0 0 (min cap k)))]) hD [0, 1] (by decide) rfl
  exact W.aret hx hb hr (Or.inr ⟨_, rfl⟩) (Or.inr ⟨_, rfl⟩) (fun t ht hW => ⟨⟨q_1, trivial, rfl, by rw [ht]; exact hP9, hD9⟩, hS.F ht⟩) hS.2.2 d_Ar_copyOf_3_39
set_option maxHeartbeats 4000000 in
set_option maxRecDepth 100000 in
theorem c_Ar_copyOf_2 (l : Launch) (dC : Nat → ClassId) (dI : Nat → Nat → Nat) (cT : Nat → ClassId) (sz : Nat) (tE : Nat) (mi : Nat) (ae : Nat) (cap : Nat) (k : Nat) (ea : Nat → Option Nat) (pl : va_W) (hk : cap ≤ k) (hk4 : k ≤ 400) (hel : ∀ i, i < cap → ∃ (y : Nat) (fs : List Value), ea i = some y ∧ (y, Sum.inr (4, fs)) ∈ pl) : Met l y_Ar_copyOf_2 w_Ar_copyOf_2 ({ frames := 2, cells := 1, slots := 400, locals := 63 } : Room) (zPreS (dC, dI) vwCl (zT cT) [.ref ae, .int (nI k)] ([(ae, zaQ (cT 3) cap ea)] ++ pl) sz tE mi) (zQ (dC, dI) vwCl (S := Nat) (fun zu => True) (fun zu => some (.ref zu)) (fun zu => [(ae, zaQ (cT 3) cap ea), (zu, zaQ (cT 3) k (va_cpy ea (fun _ => none) 0 0 (min cap k)))] ++ pl) (va_A ([(ae, zaQ (cT 3) cap ea)] ++ pl) sz)) 1 400 (va_A ([(ae, zaQ (cT 3) cap ea)] ++ pl) sz) := by
  refine Met.ofW (cc := b_Ar_copyOf_2) (maxL := 2) (ret := (some (.array (.object "java/lang/Object")))) (by decide) rfl ?_
  intro p e s m args below meth c s₁ B hml hv
  obtain ⟨⟨rfl, hsz, hP, hK, hD0, hE⟩, hZ⟩ := hv
  have hx := B.exec
  have hb := B.bytes
  have hr := B.returns
  have hts := fun w h => atoms_spec (ws := w_Ar_copyOf_2) B.pre w (List.mem_cons_of_mem _ h)
  have hown : s.vm.findClass R_Ar = some m.cls := findClass_of_methodNamed B.named
  have hlocks := B.notSynchronized
  subst hsz
  have hD := hD0.self (sz := s.heap.size)
  generalize hAe : va_A ([(ae, zaQ (cT 3) cap ea)] ++ pl) s.heap.size = A at hD hZ ⊢
  have hA : ∀ q : Nat, s.heap.size ≤ q → A q := fun q h => by rw [← hAe]; exact Or.inr h
  have hS : va_S A s.heap s.heap [] := va_S.rf
  have hl := lv_entry ([.ref ae, .int (nI k)]) (n := 2) (Nat.le_of_ble_eq_true rfl)
  rw [lg_entry_eq]
  generalize (lg_sl ([.ref ae, .int (nI k)]) ++ List.replicate (2 - (lg_sl ([.ref ae, .int (nI k)])).length) Slot.unset).toArray = ls at hl ⊢
  have hl : lv_has ls 2 [(0, .ref ae), (1, .int (nI k))] := hl
  refine lv_aload_n hx hb d_Ar_copyOf_2_0 rfl (lv_at hl 0 rfl) ?_
  refine lv_iload_n hx hb d_Ar_copyOf_2_1 rfl (lv_at hl 1 rfl) ?_
  refine lv_aload_n hx hb d_Ar_copyOf_2_2 rfl (lv_at hl 0 rfl) ?_
  refine va_getC hx hb (by rw [hml]; exact hl.1.symm) hown (hts _ wd_405) (va_Dc.use hE.2.2.2.2.1) (hts _ wd_754) (hts _ wd_406) (hts _ wd_416) hZ.2.2 (zarec hK hP 0 rfl) (Nat.le_of_ble_eq_true rfl) (Nat.le_of_ble_eq_true rfl) d_Ar_copyOf_2_3 ?_
  refine zw_P (X := [(ae, zaQ (cT 3) cap ea)]) (pl := pl) (va_runS (As := [.ref ae, .int (nI k), .ref mi]) (rest := []) ⟨hx, hb, hml, hown, hts⟩ (c_Ar_copyOf_3 l dC dI cT s.heap.size tE mi ae cap k ea pl (by first | omega | assumption) (by first | omega | assumption) (by first | omega | assumption)) (va_cwS 3 hts (zgS wd_417 wd_418 wd_6 wd_419) rfl rfl rfl (by decide +kernel) ⟨Nat.le_of_ble_eq_true rfl, Nat.le_of_ble_eq_true rfl⟩) ⟨zPreS_blind, zp_PS (X := [(ae, zaQ (cT 3) cap ea)]) (pl := pl) hK hE hZ hS hA hP hD [0] (by decide) rfl⟩ rfl rfl hl.1 rfl (lv_room (Nat.le_of_ble_eq_true rfl)) d_Ar_copyOf_2_6 ⟨Nat.le_of_ble_eq_true rfl, Nat.le_of_ble_eq_true rfl⟩) hP hD hS hA [0] [] rfl (wr := []) rfl (by decide) (by decide) (fun zu => [.ref zu]) (fun _ => rfl) (fun zu H locs hφ hP hD hS => ?_)
  obtain ⟨qn_1, rfl⟩ : ∃ z, z = zu := ⟨_, rfl⟩
  have hP : va_P (dC, dI) vwCl ([(ae, zaQ (cT 3) cap ea), (qn_1, zaQ (cT 3) k (va_cpy ea (fun _ => none) 0 0 (min cap k)))] ++ pl) H := hP
  have hD : va_D A ([(ae, zaQ (cT 3) cap ea), (qn_1, zaQ (cT 3) k (va_cpy ea (fun _ => none) 0 0 (min cap k)))] ++ pl) := hD
  refine W.widen (k := 1) (n := 400) (by first | omega | exact Nat.le_of_ble_eq_true rfl) (by first | omega | exact Nat.le_of_ble_eq_true rfl) ?_
  have hP9 := va_P.part (cx := [(ae, zaQ (cT 3) cap ea), (qn_1, zaQ (cT 3) k (va_cpy ea (fun _ => none) 0 0 (min cap k)))]) hP [0, 1] rfl
  have hD9 := va_D.part (cx := [(ae, zaQ (cT 3) cap ea), (qn_1, zaQ (cT 3) k (va_cpy ea (fun _ => none) 0 0 (min cap k)))]) hD [0, 1] (by decide) rfl
  exact W.aret hx hb hr (Or.inr ⟨_, rfl⟩) (Or.inr ⟨_, rfl⟩) (fun t ht hW => ⟨⟨qn_1, trivial, rfl, by rw [ht]; exact hP9, hD9⟩, hS.F ht⟩) hS.2.2 d_Ar_copyOf_2_9
set_option maxHeartbeats 4000000 in
set_option maxRecDepth 100000 in
theorem c_Al_grow_1_grow (l : Launch) (dC : Nat → ClassId) (dI : Nat → Nat → Nat) (cT : Nat → ClassId) (sz : Nat) (tE : Nat) (mi : Nat) (h0 : Nat) (ae : Nat) (n : Nat) (am : Nat) (cap : Nat) (k : Nat) (ea : Nat → Option Nat) (pl : va_W) (hc1 : 1 ≤ cap) (hc2 : cap ≤ 256) (hk : cap < k) (hk2 : k ≤ cap + 1) (hel : ∀ i, i < cap → ∃ (y : Nat) (fs : List Value), ea i = some y ∧ (y, Sum.inr (4, fs)) ∈ pl) : Met l y_Al_grow_1 w_Al_grow_1 ({ frames := 3, cells := 1, slots := 400, locals := 84 } : Room) (zPreS (dC, dI) vwCl (zT cT) [.ref h0, .int (nI k)] ([(h0, zoAl ae n am), (ae, zaQ (cT 3) cap ea)] ++ pl) sz tE mi) (zQ (dC, dI) vwCl (S := Nat) (fun zu => True) (fun zu => some (.ref zu)) (fun zu => [(h0, zoAl zu n am), (ae, zaQ (cT 3) cap ea), (zu, zaQ (cT 3) (cap + max (k - cap) (cap / 2)) (va_cpy ea (fun _ => none) 0 0 (min cap (cap + max (k - cap) (cap / 2)))))] ++ pl) (va_A ([(h0, zoAl ae n am), (ae, zaQ (cT 3) cap ea)] ++ pl) sz)) 1 400 (va_A ([(h0, zoAl ae n am), (ae, zaQ (cT 3) cap ea)] ++ pl) sz) := by
  refine Met.ofW (cc := b_Al_grow_1) (maxL := 4) (ret := (some (.array (.object "java/lang/Object")))) (by decide) rfl ?_
  intro p e s m args below meth c s₁ B hml hv
  obtain ⟨⟨rfl, hsz, hP, hK, hD0, hE⟩, hZ⟩ := hv
  have hx := B.exec
  have hb := B.bytes
  have hr := B.returns
  have hts := fun w h => atoms_spec (ws := w_Al_grow_1) B.pre w (List.mem_cons_of_mem _ h)
  have hown : s.vm.findClass R_Al = some m.cls := findClass_of_methodNamed B.named
  have hlocks := B.notSynchronized
  subst hsz
  have hD := hD0.self (sz := s.heap.size)
  generalize hAe : va_A ([(h0, zoAl ae n am), (ae, zaQ (cT 3) cap ea)] ++ pl) s.heap.size = A at hD hZ ⊢
  have hA : ∀ q : Nat, s.heap.size ≤ q → A q := fun q h => by rw [← hAe]; exact Or.inr h
  have hS : va_S A s.heap s.heap [] := va_S.rf
  have hl := lv_entry ([.ref h0, .int (nI k)]) (n := 4) (Nat.le_of_ble_eq_true rfl)
  rw [lg_entry_eq]
  generalize (lg_sl ([.ref h0, .int (nI k)]) ++ List.replicate (4 - (lg_sl ([.ref h0, .int (nI k)])).length) Slot.unset).toArray = ls at hl ⊢
  have hl : lv_has ls 4 [(0, .ref h0), (1, .int (nI k))] := hl
  refine lv_aload_n hx hb d_Al_grow_1_0 rfl (lv_at hl 0 rfl) ?_
  refine va_get (D := (dC, dI)) (ci := 7) (v := .ref ae) (C := R_Al) (T := F_Al) (N := 3) hx hb hts i_Al hown hK hP 0 rfl rfl 0 (by decide) (hts _ wd_124) (fun _ h9 => h9) rfl d_Al_grow_1_1 ?_
  refine va_alen (v := nI cap) hx hb hK hP 1 3 rfl rfl rfl d_Al_grow_1_4 ?_
  refine lv_istore_n (lv' := [(2, .int (nI cap)), (0, .ref h0), (1, .int (nI k))]) hx hb d_Al_grow_1_5 rfl hl (by decide) rfl (fun ls hl => ?_)
  refine lv_iload_n hx hb d_Al_grow_1_6 rfl (lv_at hl 0 rfl) ?_
  refine zn_if_gt (tgt := 20) hx hb (a := cap) (by omega) d_Al_grow_1_7 (by decide) (fun c_7 => ?_) (fun c_7 => absurd c_7 (by omega))
  refine lv_iload_n hx hb d_Al_grow_1_20 rfl (lv_at hl 0 rfl) ?_
  refine lv_iload_n hx hb d_Al_grow_1_21 rfl (lv_at hl 2 rfl) ?_
  refine lv_iload_n hx hb d_Al_grow_1_22 rfl (lv_at hl 0 rfl) ?_
  refine zn_isub hx hb (by omega) d_Al_grow_1_23 ?_
  refine lv_iload_n hx hb d_Al_grow_1_24 rfl (lv_at hl 0 rfl) ?_
  refine lv_iconst (v := (nI 1)) hx hb d_Al_grow_1_25 (by decide) ?_
  refine zn_ishr1 hx hb (by omega) d_Al_grow_1_26 ?_
  refine zw_R (r := .int (nI (cap + max (k - cap) (cap / 2)))) (va_runS (As := [.int (nI cap), .int (nI (k - cap)), .int (nI (cap / 2))]) (rest := []) ⟨hx, hb, hml, hown, hts⟩ (c_As_newLength l dC dI cT cap (k - cap) (cap / 2) (by first | omega | assumption) (by first | omega | assumption)) (va_cwS 3 hts (zgS wd_394 wd_395 wd_15 wd_396) rfl rfl rfl (by decide +kernel) ⟨Nat.le_of_ble_eq_true rfl, Nat.le_of_ble_eq_true rfl⟩) ⟨zPreR_blind, zp_R hK hE (zSub (X := [(h0, zoAl ae n am), (ae, zaQ (cT 3) cap ea)]) (pl := pl) hP [] rfl)⟩ rfl rfl hl.1 rfl (lv_room (Nat.le_of_ble_eq_true rfl)) d_Al_grow_1_27 ⟨Nat.le_of_ble_eq_true rfl, Nat.le_of_ble_eq_true rfl⟩) ?_
  refine lv_istore_n (lv' := [(3, .int (nI (cap + max (k - cap) (cap / 2)))), (2, .int (nI cap)), (0, .ref h0), (1, .int (nI k))]) hx hb d_Al_grow_1_30 rfl hl (by decide) rfl (fun ls hl => ?_)
  refine lv_aload_n hx hb d_Al_grow_1_31 rfl (lv_at hl 2 rfl) ?_
  refine lv_aload_n hx hb d_Al_grow_1_32 rfl (lv_at hl 2 rfl) ?_
  refine va_get (D := (dC, dI)) (ci := 7) (v := .ref ae) (C := R_Al) (T := F_Al) (N := 3) hx hb hts i_Al hown hK hP 0 rfl rfl 0 (by decide) (hts _ wd_124) (fun _ h9 => h9) rfl d_Al_grow_1_33 ?_
  refine lv_iload_n hx hb d_Al_grow_1_36 rfl (lv_at hl 0 rfl) ?_
  refine zw_P (X := [(h0, zoAl ae n am), (ae, zaQ (cT 3) cap ea)]) (pl := pl) (va_runS (As := [.ref ae, .int (nI (cap + max (k - cap) (cap / 2)))]) (rest := [.ref h0]) ⟨hx, hb, hml, hown, hts⟩ (c_Ar_copyOf_2 l dC dI cT s.heap.size tE mi ae cap (cap + max (k - cap) (cap / 2)) ea pl (by first | omega | assumption) (by first | omega | assumption) (by first | omega | assumption)) (va_cwS 2 hts (zgS wd_402 wd_403 wd_6 wd_404) rfl rfl rfl (by decide +kernel) ⟨Nat.le_of_ble_eq_true rfl, Nat.le_of_ble_eq_true rfl⟩) ⟨zPreS_blind, zp_PS (X := [(h0, zoAl ae n am), (ae, zaQ (cT 3) cap ea)]) (pl := pl) hK hE hZ hS hA hP hD [1] (by decide) rfl⟩ rfl rfl hl.1 rfl (lv_room (Nat.le_of_ble_eq_true rfl)) d_Al_grow_1_37 ⟨Nat.le_of_ble_eq_true rfl, Nat.le_of_ble_eq_true rfl⟩) hP hD hS hA [1] [0] rfl (wr := [(h0, zoAl ae n am)]) rfl (by decide) (by decide) (fun zu => [.ref zu, .ref h0]) (fun _ => rfl) (fun zu H locs hφ hP hD hS => ?_)
  obtain ⟨qn_1, rfl⟩ : ∃ z, z = zu := ⟨_, rfl⟩
  have hP : va_P (dC, dI) vwCl ([(h0, zoAl ae n am), (ae, zaQ (cT 3) cap ea), (qn_1, zaQ (cT 3) (cap + max (k - cap) (cap / 2)) (va_cpy ea (fun _ => none) 0 0 (min cap (cap + max (k - cap) (cap / 2)))))] ++ pl) H := hP
  have hD : va_D A ([(h0, zoAl ae n am), (ae, zaQ (cT 3) cap ea), (qn_1, zaQ (cT 3) (cap + max (k - cap) (cap / 2)) (va_cpy ea (fun _ => none) 0 0 (min cap (cap + max (k - cap) (cap / 2)))))] ++ pl) := hD
  refine W.widen (k := 1) (n := 400) (by first | omega | exact Nat.le_of_ble_eq_true rfl) (by first | omega | exact Nat.le_of_ble_eq_true rfl) ?_
  refine lv_dup_x1 hx hb d_Al_grow_1_40 rfl rfl ?_
  refine va_put (D := (dC, dI)) (ci := 7) (v := .ref qn_1) (ty := (.array (.object "java/lang/Object"))) (C := R_Al) (T := F_Al) (N := 3) hx hb hts i_Al t_Al t_Al_ok n_Al hown hK hP hD hS 0 rfl rfl 0 (by decide) (hts _ wd_124) (fun _ h9 => h9) rfl (by decide +kernel) rfl rfl (Nat.le_of_ble_eq_true rfl) d_Al_grow_1_41 (fun H locs hP hD hS => ?_)
  have hP : va_P (dC, dI) vwCl ([(h0, zoAl qn_1 n am), (ae, zaQ (cT 3) cap ea), (qn_1, zaQ (cT 3) (cap + max (k - cap) (cap / 2)) (va_cpy ea (fun _ => none) 0 0 (min cap (cap + max (k - cap) (cap / 2)))))] ++ pl) H := hP
  have hD : va_D A ([(h0, zoAl qn_1 n am), (ae, zaQ (cT 3) cap ea), (qn_1, zaQ (cT 3) (cap + max (k - cap) (cap / 2)) (va_cpy ea (fun _ => none) 0 0 (min cap (cap + max (k - cap) (cap / 2)))))] ++ pl) := hD
  have hP9 := va_P.part (cx := [(h0, zoAl qn_1 n am), (ae, zaQ (cT 3) cap ea), (qn_1, zaQ (cT 3) (cap + max (k - cap) (cap / 2)) (va_cpy ea (fun _ => none) 0 0 (min cap (cap + max (k - cap) (cap / 2)))))]) hP [0, 1, 2] rfl
  have hD9 := va_D.part (cx := [(h0, zoAl qn_1 n am), (ae, zaQ (cT 3) cap ea), (qn_1, zaQ (cT 3) (cap + max (k - cap) (cap / 2)) (va_cpy ea (fun _ => none) 0 0 (min cap (cap + max (k - cap) (cap / 2)))))]) hD [0, 1, 2] (by decide) rfl
  exact W.aret hx hb hr (Or.inr ⟨_, rfl⟩) (Or.inr ⟨_, rfl⟩) (fun t ht hW => ⟨⟨qn_1, trivial, rfl, by rw [ht]; exact hP9, hD9⟩, hS.F ht⟩) hS.2.2 d_Al_grow_1_44
set_option maxHeartbeats 4000000 in
set_option maxRecDepth 100000 in
theorem c_Al_grow_1_first (l : Launch) (dC : Nat → ClassId) (dI : Nat → Nat → Nat) (cT : Nat → ClassId) (sz : Nat) (tE : Nat) (mi : Nat) (h0 : Nat) (n : Nat) (am : Nat) (k : Nat) (pl : va_W) (hk : k ≤ 100) : Met l y_Al_grow_1 w_Al_grow_1 ({ frames := 1, cells := 1, slots := 400, locals := 21 } : Room) (zPreS (dC, dI) vwCl (zT cT) [.ref h0, .int (nI k)] ([(h0, zoAl tE n am)] ++ pl) sz tE mi) (zQ (dC, dI) vwCl (S := Nat) (fun zu => True) (fun zu => some (.ref zu)) (fun zu => [(h0, zoAl zu n am), (zu, zaQ (cT 3) (max 10 k) (fun _ => none))] ++ pl) (va_A ([(h0, zoAl tE n am)] ++ pl) sz)) 1 400 (va_A ([(h0, zoAl tE n am)] ++ pl) sz) := by
  refine Met.ofW (cc := b_Al_grow_1) (maxL := 4) (ret := (some (.array (.object "java/lang/Object")))) (by decide) rfl ?_
  intro p e s m args below meth c s₁ B hml hv
  obtain ⟨⟨rfl, hsz, hP, hK, hD0, hE⟩, hZ⟩ := hv
  have hx := B.exec
  have hb := B.bytes
  have hr := B.returns
  have hts := fun w h => atoms_spec (ws := w_Al_grow_1) B.pre w (List.mem_cons_of_mem _ h)
  have hown : s.vm.findClass R_Al = some m.cls := findClass_of_methodNamed B.named
  have hlocks := B.notSynchronized
  subst hsz
  have hD := hD0.self (sz := s.heap.size)
  generalize hAe : va_A ([(h0, zoAl tE n am)] ++ pl) s.heap.size = A at hD hZ ⊢
  have hA : ∀ q : Nat, s.heap.size ≤ q → A q := fun q h => by rw [← hAe]; exact Or.inr h
  have hS : va_S A s.heap s.heap [] := va_S.rf
  have hl := lv_entry ([.ref h0, .int (nI k)]) (n := 4) (Nat.le_of_ble_eq_true rfl)
  rw [lg_entry_eq]
  generalize (lg_sl ([.ref h0, .int (nI k)]) ++ List.replicate (4 - (lg_sl ([.ref h0, .int (nI k)])).length) Slot.unset).toArray = ls at hl ⊢
  have hl : lv_has ls 4 [(0, .ref h0), (1, .int (nI k))] := hl
  refine lv_aload_n hx hb d_Al_grow_1_0 rfl (lv_at hl 0 rfl) ?_
  refine va_get (D := (dC, dI)) (ci := 7) (v := .ref tE) (C := R_Al) (T := F_Al) (N := 3) hx hb hts i_Al hown hK hP 0 rfl rfl 0 (by decide) (hts _ wd_124) (fun _ h9 => h9) rfl d_Al_grow_1_1 ?_
  refine va_tlen (v := nI 0) hx hb hZ.2.1 hS rfl d_Al_grow_1_4 ?_
  refine lv_istore_n (lv' := [(2, .int (nI 0)), (0, .ref h0), (1, .int (nI k))]) hx hb d_Al_grow_1_5 rfl hl (by decide) rfl (fun ls hl => ?_)
  refine lv_iload_n hx hb d_Al_grow_1_6 rfl (lv_at hl 0 rfl) ?_
  refine zn_if_gt (tgt := 20) hx hb (a := 0) (by omega) d_Al_grow_1_7 (by decide) (fun c_7 => absurd c_7 (by omega)) (fun c_7 => ?_)
  refine lv_aload_n hx hb d_Al_grow_1_10 rfl (lv_at hl 1 rfl) ?_
  refine va_get (D := (dC, dI)) (ci := 7) (v := .ref tE) (C := R_Al) (T := F_Al) (N := 3) hx hb hts i_Al hown hK hP 0 rfl rfl 0 (by decide) (hts _ wd_124) (fun _ h9 => h9) rfl d_Al_grow_1_11 ?_
  refine va_gets hx hb hZ.1 hS hown (hts _ wd_122) (fun _ h9 => h9) d_Al_grow_1_14 ?_
  refine lv_acmp_eq (rx := some tE) (ry := some tE) (tgt := 45) hx hb d_Al_grow_1_17 (by decide) (fun _ => ?_) (fun q => absurd rfl q)
  refine lv_aload_n hx hb d_Al_grow_1_45 rfl (lv_at hl 1 rfl) ?_
  refine lv_bipush (v := (nI 10)) hx hb d_Al_grow_1_46 (by decide) ?_
  refine lv_iload_n hx hb d_Al_grow_1_48 rfl (lv_at hl 2 rfl) ?_
  refine zn_mmax hx hb (by rw [hml]; exact hl.1.symm) hown (hts _ wd_427) (hts _ wd_66) (hts _ wd_5) (hts _ wd_67) (Nat.le_of_ble_eq_true rfl) (Nat.le_of_ble_eq_true rfl) (Nat.le_of_ble_eq_true rfl) (Nat.le_of_ble_eq_true rfl) (a := 10) (b := k) (by omega) (by omega) d_Al_grow_1_49 ?_
  refine zn_newQ (N := max 10 k) hx hb hown (hts _ wd_428) hE.2.2.2.2.2.2 hK hP hD hS hA rfl (by omega) (Nat.le_of_ble_eq_true rfl) (by show 0 + _ ≤ 400; omega) d_Al_grow_1_52 (fun q_1 H hP hD hS => ?_)
  have hP := hP.swap
  have hD := hD.swap
  refine W.widen (k := 1) (n := 400) (by omega) (by omega) ?_
  have hP : va_P (dC, dI) vwCl ([(h0, zoAl tE n am), (q_1, zaQ (cT 3) (max 10 k) (fun _ => none))] ++ pl) H := hP
  have hD : va_D A ([(h0, zoAl tE n am), (q_1, zaQ (cT 3) (max 10 k) (fun _ => none))] ++ pl) := hD
  refine lv_dup_x1 hx hb d_Al_grow_1_55 rfl rfl ?_
  refine va_put (D := (dC, dI)) (ci := 7) (v := .ref q_1) (ty := (.array (.object "java/lang/Object"))) (C := R_Al) (T := F_Al) (N := 3) hx hb hts i_Al t_Al t_Al_ok n_Al hown hK hP hD hS 0 rfl rfl 0 (by decide) (hts _ wd_124) (fun _ h9 => h9) rfl (by decide +kernel) rfl rfl (Nat.le_of_ble_eq_true rfl) d_Al_grow_1_56 (fun H locs hP hD hS => ?_)
  have hP : va_P (dC, dI) vwCl ([(h0, zoAl q_1 n am), (q_1, zaQ (cT 3) (max 10 k) (fun _ => none))] ++ pl) H := hP
  have hD : va_D A ([(h0, zoAl q_1 n am), (q_1, zaQ (cT 3) (max 10 k) (fun _ => none))] ++ pl) := hD
  have hP9 := va_P.part (cx := [(h0, zoAl q_1 n am), (q_1, zaQ (cT 3) (max 10 k) (fun _ => none))]) hP [0, 1] rfl
  have hD9 := va_D.part (cx := [(h0, zoAl q_1 n am), (q_1, zaQ (cT 3) (max 10 k) (fun _ => none))]) hD [0, 1] (by decide) rfl
  exact W.aret hx hb hr (Or.inr ⟨_, rfl⟩) (Or.inr ⟨_, rfl⟩) (fun t ht hW => ⟨⟨q_1, trivial, rfl, by rw [ht]; exact hP9, hD9⟩, hS.F ht⟩) hS.2.2 d_Al_grow_1_59
set_option maxHeartbeats 4000000 in
set_option maxRecDepth 100000 in
theorem c_Al_grow_0_grow (l : Launch) (dC : Nat → ClassId) (dI : Nat → Nat → Nat) (cT : Nat → ClassId) (sz : Nat) (tE : Nat) (mi : Nat) (h0 : Nat) (ae : Nat) (n : Nat) (am : Nat) (cap : Nat) (ea : Nat → Option Nat) (pl : va_W) (hc1 : 1 ≤ cap) (hc2 : cap ≤ 256) (hk : cap = n) (hel : ∀ i, i < cap → ∃ (y : Nat) (fs : List Value), ea i = some y ∧ (y, Sum.inr (4, fs)) ∈ pl) : Met l y_Al_grow_0 w_Al_grow_0 ({ frames := 4, cells := 1, slots := 400, locals := 107 } : Room) (zPreS (dC, dI) vwCl (zT cT) [.ref h0] ([(h0, zoAl ae n am), (ae, zaQ (cT 3) cap ea)] ++ pl) sz tE mi) (zQ (dC, dI) vwCl (S := Nat) (fun zu => True) (fun zu => some (.ref zu)) (fun zu => [(h0, zoAl zu n am), (ae, zaQ (cT 3) cap ea), (zu, zaQ (cT 3) (cap + max ((n + 1) - cap) (cap / 2)) (va_cpy ea (fun _ => none) 0 0 (min cap (cap + max ((n + 1) - cap) (cap / 2)))))] ++ pl) (va_A ([(h0, zoAl ae n am), (ae, zaQ (cT 3) cap ea)] ++ pl) sz)) 1 400 (va_A ([(h0, zoAl ae n am), (ae, zaQ (cT 3) cap ea)] ++ pl) sz) := by
  refine Met.ofW (cc := b_Al_grow_0) (maxL := 1) (ret := (some (.array (.object "java/lang/Object")))) (by decide) rfl ?_
  intro p e s m args below meth c s₁ B hml hv
  obtain ⟨⟨rfl, hsz, hP, hK, hD0, hE⟩, hZ⟩ := hv
  have hx := B.exec
  have hb := B.bytes
  have hr := B.returns
  have hts := fun w h => atoms_spec (ws := w_Al_grow_0) B.pre w (List.mem_cons_of_mem _ h)
  have hown : s.vm.findClass R_Al = some m.cls := findClass_of_methodNamed B.named
  have hlocks := B.notSynchronized
  subst hsz
  have hD := hD0.self (sz := s.heap.size)
  generalize hAe : va_A ([(h0, zoAl ae n am), (ae, zaQ (cT 3) cap ea)] ++ pl) s.heap.size = A at hD hZ ⊢
  have hA : ∀ q : Nat, s.heap.size ≤ q → A q := fun q h => by rw [← hAe]; exact Or.inr h
  have hS : va_S A s.heap s.heap [] := va_S.rf
  have hl := lv_entry ([.ref h0]) (n := 1) (Nat.le_of_ble_eq_true rfl)
  rw [lg_entry_eq]
  generalize (lg_sl ([.ref h0]) ++ List.replicate (1 - (lg_sl ([.ref h0])).length) Slot.unset).toArray = ls at hl ⊢
  have hl : lv_has ls 1 [(0, .ref h0)] := hl
  refine lv_aload_n hx hb d_Al_grow_0_0 rfl (lv_at hl 0 rfl) ?_
  refine lv_aload_n hx hb d_Al_grow_0_1 rfl (lv_at hl 0 rfl) ?_
  refine va_get (D := (dC, dI)) (ci := 7) (v := .int (nI n)) (C := R_Al) (T := F_Al) (N := 3) hx hb hts i_Al hown hK hP 0 rfl rfl 1 (by decide) (hts _ wd_125) (fun _ h9 => h9) rfl d_Al_grow_0_2 ?_
  refine lv_iconst (v := (nI 1)) hx hb d_Al_grow_0_5 (by decide) ?_
  refine zn_iadd hx hb d_Al_grow_0_6 ?_
  refine zw_P (X := [(h0, zoAl ae n am), (ae, zaQ (cT 3) cap ea)]) (pl := pl) (va_runV (As := [.int (nI (n + 1))]) (rest := []) ⟨hx, hb, hml, hown, hts⟩ (c_Al_grow_1_grow l dC dI cT s.heap.size tE mi h0 ae n am cap (n + 1) ea pl (by first | omega | assumption) (by first | omega | assumption) (by first | omega | assumption) (by first | omega | assumption) (by first | omega | assumption)) (cwV 1 hts (zgV wd_390 wd_392 wp_5 wd_10 wd_393) rfl rfl rfl (by decide +kernel) ⟨Nat.le_of_ble_eq_true rfl, Nat.le_of_ble_eq_true rfl⟩) ⟨zPreS_blind, va_recv hK hP (ci := 7) (q0 := 0) rfl rfl, zp_PS (X := [(h0, zoAl ae n am), (ae, zaQ (cT 3) cap ea)]) (pl := pl) hK hE hZ hS hA hP hD [0, 1] (by decide) rfl⟩ rfl rfl hl.1 rfl (lv_room (Nat.le_of_ble_eq_true rfl)) d_Al_grow_0_7 ⟨Nat.le_of_ble_eq_true rfl, Nat.le_of_ble_eq_true rfl⟩) hP hD hS hA [0, 1] [] rfl (wr := []) rfl (by decide) (by decide) (fun zu => [.ref zu]) (fun _ => rfl) (fun zu H locs hφ hP hD hS => ?_)
  obtain ⟨qn_1, rfl⟩ : ∃ z, z = zu := ⟨_, rfl⟩
  have hP : va_P (dC, dI) vwCl ([(h0, zoAl qn_1 n am), (ae, zaQ (cT 3) cap ea), (qn_1, zaQ (cT 3) (cap + max ((n + 1) - cap) (cap / 2)) (va_cpy ea (fun _ => none) 0 0 (min cap (cap + max ((n + 1) - cap) (cap / 2)))))] ++ pl) H := hP
  have hD : va_D A ([(h0, zoAl qn_1 n am), (ae, zaQ (cT 3) cap ea), (qn_1, zaQ (cT 3) (cap + max ((n + 1) - cap) (cap / 2)) (va_cpy ea (fun _ => none) 0 0 (min cap (cap + max ((n + 1) - cap) (cap / 2)))))] ++ pl) := hD
  refine W.widen (k := 1) (n := 400) (by first | omega | exact Nat.le_of_ble_eq_true rfl) (by first | omega | exact Nat.le_of_ble_eq_true rfl) ?_
  have hP9 := va_P.part (cx := [(h0, zoAl qn_1 n am), (ae, zaQ (cT 3) cap ea), (qn_1, zaQ (cT 3) (cap + max ((n + 1) - cap) (cap / 2)) (va_cpy ea (fun _ => none) 0 0 (min cap (cap + max ((n + 1) - cap) (cap / 2)))))]) hP [0, 1, 2] rfl
  have hD9 := va_D.part (cx := [(h0, zoAl qn_1 n am), (ae, zaQ (cT 3) cap ea), (qn_1, zaQ (cT 3) (cap + max ((n + 1) - cap) (cap / 2)) (va_cpy ea (fun _ => none) 0 0 (min cap (cap + max ((n + 1) - cap) (cap / 2)))))]) hD [0, 1, 2] (by decide) rfl
  exact W.aret hx hb hr (Or.inr ⟨_, rfl⟩) (Or.inr ⟨_, rfl⟩) (fun t ht hW => ⟨⟨qn_1, trivial, rfl, by rw [ht]; exact hP9, hD9⟩, hS.F ht⟩) hS.2.2 d_Al_grow_0_10
set_option maxHeartbeats 4000000 in
set_option maxRecDepth 100000 in
theorem c_Al_grow_0_first (l : Launch) (dC : Nat → ClassId) (dI : Nat → Nat → Nat) (cT : Nat → ClassId) (sz : Nat) (tE : Nat) (mi : Nat) (h0 : Nat) (n : Nat) (am : Nat) (pl : va_W) (hk : n = 0) : Met l y_Al_grow_0 w_Al_grow_0 ({ frames := 2, cells := 1, slots := 400, locals := 44 } : Room) (zPreS (dC, dI) vwCl (zT cT) [.ref h0] ([(h0, zoAl tE n am)] ++ pl) sz tE mi) (zQ (dC, dI) vwCl (S := Nat) (fun zu => True) (fun zu => some (.ref zu)) (fun zu => [(h0, zoAl zu n am), (zu, zaQ (cT 3) (max 10 (n + 1)) (fun _ => none))] ++ pl) (va_A ([(h0, zoAl tE n am)] ++ pl) sz)) 1 400 (va_A ([(h0, zoAl tE n am)] ++ pl) sz) := by
  refine Met.ofW (cc := b_Al_grow_0) (maxL := 1) (ret := (some (.array (.object "java/lang/Object")))) (by decide) rfl ?_
  intro p e s m args below meth c s₁ B hml hv
  obtain ⟨⟨rfl, hsz, hP, hK, hD0, hE⟩, hZ⟩ := hv
  have hx := B.exec
  have hb := B.bytes
  have hr := B.returns
  have hts := fun w h => atoms_spec (ws := w_Al_grow_0) B.pre w (List.mem_cons_of_mem _ h)
  have hown : s.vm.findClass R_Al = some m.cls := findClass_of_methodNamed B.named
  have hlocks := B.notSynchronized
  subst hsz
  have hD := hD0.self (sz := s.heap.size)
  generalize hAe : va_A ([(h0, zoAl tE n am)] ++ pl) s.heap.size = A at hD hZ ⊢
  have hA : ∀ q : Nat, s.heap.size ≤ q → A q := fun q h => by rw [← hAe]; exact Or.inr h
  have hS : va_S A s.heap s.heap [] := va_S.rf
  have hl := lv_entry ([.ref h0]) (n := 1) (Nat.le_of_ble_eq_true rfl)
  rw [lg_entry_eq]
  generalize (lg_sl ([.ref h0]) ++ List.replicate (1 - (lg_sl ([.ref h0])).length) Slot.unset).toArray = ls at hl ⊢
  have hl : lv_has ls 1 [(0, .ref h0)] := hl
  refine lv_aload_n hx hb d_Al_grow_0_0 rfl (lv_at hl 0 rfl) ?_
  refine lv_aload_n hx hb d_Al_grow_0_1 rfl (lv_at hl 0 rfl) ?_
  refine va_get (D := (dC, dI)) (ci := 7) (v := .int (nI n)) (C := R_Al) (T := F_Al) (N := 3) hx hb hts i_Al hown hK hP 0 rfl rfl 1 (by decide) (hts _ wd_125) (fun _ h9 => h9) rfl d_Al_grow_0_2 ?_
  refine lv_iconst (v := (nI 1)) hx hb d_Al_grow_0_5 (by decide) ?_
  refine zn_iadd hx hb d_Al_grow_0_6 ?_
  refine zw_P (X := [(h0, zoAl tE n am)]) (pl := pl) (va_runV (As := [.int (nI (n + 1))]) (rest := []) ⟨hx, hb, hml, hown, hts⟩ (c_Al_grow_1_first l dC dI cT s.heap.size tE mi h0 n am (n + 1) pl (by first | omega | assumption)) (cwV 1 hts (zgV wd_390 wd_392 wp_5 wd_10 wd_393) rfl rfl rfl (by decide +kernel) ⟨Nat.le_of_ble_eq_true rfl, Nat.le_of_ble_eq_true rfl⟩) ⟨zPreS_blind, va_recv hK hP (ci := 7) (q0 := 0) rfl rfl, zp_PS (X := [(h0, zoAl tE n am)]) (pl := pl) hK hE hZ hS hA hP hD [0] (by decide) rfl⟩ rfl rfl hl.1 rfl (lv_room (Nat.le_of_ble_eq_true rfl)) d_Al_grow_0_7 ⟨Nat.le_of_ble_eq_true rfl, Nat.le_of_ble_eq_true rfl⟩) hP hD hS hA [0] [] rfl (wr := []) rfl (by decide) (by decide) (fun zu => [.ref zu]) (fun _ => rfl) (fun zu H locs hφ hP hD hS => ?_)
  obtain ⟨qn_1, rfl⟩ : ∃ z, z = zu := ⟨_, rfl⟩
  have hP : va_P (dC, dI) vwCl ([(h0, zoAl qn_1 n am), (qn_1, zaQ (cT 3) (max 10 (n + 1)) (fun _ => none))] ++ pl) H := hP
  have hD : va_D A ([(h0, zoAl qn_1 n am), (qn_1, zaQ (cT 3) (max 10 (n + 1)) (fun _ => none))] ++ pl) := hD
  refine W.widen (k := 1) (n := 400) (by first | omega | exact Nat.le_of_ble_eq_true rfl) (by first | omega | exact Nat.le_of_ble_eq_true rfl) ?_
  have hP9 := va_P.part (cx := [(h0, zoAl qn_1 n am), (qn_1, zaQ (cT 3) (max 10 (n + 1)) (fun _ => none))]) hP [0, 1] rfl
  have hD9 := va_D.part (cx := [(h0, zoAl qn_1 n am), (qn_1, zaQ (cT 3) (max 10 (n + 1)) (fun _ => none))]) hD [0, 1] (by decide) rfl
  exact W.aret hx hb hr (Or.inr ⟨_, rfl⟩) (Or.inr ⟨_, rfl⟩) (fun t ht hW => ⟨⟨qn_1, trivial, rfl, by rw [ht]; exact hP9, hD9⟩, hS.F ht⟩) hS.2.2 d_Al_grow_0_10
set_option maxHeartbeats 4000000 in
set_option maxRecDepth 100000 in
theorem c_Al_add_3_in (l : Launch) (dC : Nat → ClassId) (dI : Nat → Nat → Nat) (cT : Nat → ClassId) (sz : Nat) (tE : Nat) (mi : Nat) (h0 : Nat) (ae : Nat) (n : Nat) (am : Nat) (cap : Nat) (ea : Nat → Option Nat) (rB : Nat) (cS : Nat) (bA : Nat) (cE : Nat) (cM : Nat) (cV : Nat) (cF : Bool) (pl : va_W) (hk : n < cap) (hc2 : cap ≤ 1000) : Met l y_Al_add_3 w_Al_add_3 ({ frames := 0, cells := 1, slots := 400, locals := 0 } : Room) (zPreS (dC, dI) vwCl (zT cT) [.ref h0, .ref rB, .ref ae, .int (nI n)] ([(h0, zoAl ae n am), (ae, zaQ (cT 3) cap ea), (rB, bkE cF cS bA cE cM cV)] ++ pl) sz tE mi) (zQ (dC, dI) vwCl (S := Unit) (fun zu => True) (fun zu => none) (fun zu => [(h0, zoAl ae (n + 1) am), (ae, zaQ (cT 3) cap (va_up ea n (some rB))), (rB, bkE cF cS bA cE cM cV)] ++ pl) (va_A ([(h0, zoAl ae n am), (ae, zaQ (cT 3) cap ea), (rB, bkE cF cS bA cE cM cV)] ++ pl) sz)) 1 400 (va_A ([(h0, zoAl ae n am), (ae, zaQ (cT 3) cap ea), (rB, bkE cF cS bA cE cM cV)] ++ pl) sz) := by
  refine Met.ofW (cc := b_Al_add_3) (maxL := 4) (ret := none) (by decide) rfl ?_
  intro p e s m args below meth c s₁ B hml hv
  obtain ⟨⟨rfl, hsz, hP, hK, hD0, hE⟩, hZ⟩ := hv
  have hx := B.exec
  have hb := B.bytes
  have hr := B.returns
  have hts := fun w h => atoms_spec (ws := w_Al_add_3) B.pre w (List.mem_cons_of_mem _ h)
  have hown : s.vm.findClass R_Al = some m.cls := findClass_of_methodNamed B.named
  have hlocks := B.notSynchronized
  subst hsz
  have hD := hD0.self (sz := s.heap.size)
  generalize hAe : va_A ([(h0, zoAl ae n am), (ae, zaQ (cT 3) cap ea), (rB, bkE cF cS bA cE cM cV)] ++ pl) s.heap.size = A at hD hZ ⊢
  have hA : ∀ q : Nat, s.heap.size ≤ q → A q := fun q h => by rw [← hAe]; exact Or.inr h
  have hS : va_S A s.heap s.heap [] := va_S.rf
  have hl := lv_entry ([.ref h0, .ref rB, .ref ae, .int (nI n)]) (n := 4) (Nat.le_of_ble_eq_true rfl)
  rw [lg_entry_eq]
  generalize (lg_sl ([.ref h0, .ref rB, .ref ae, .int (nI n)]) ++ List.replicate (4 - (lg_sl ([.ref h0, .ref rB, .ref ae, .int (nI n)])).length) Slot.unset).toArray = ls at hl ⊢
  have hl : lv_has ls 4 [(0, .ref h0), (1, .ref rB), (2, .ref ae), (3, .int (nI n))] := hl
  refine lv_iload_n hx hb d_Al_add_3_0 rfl (lv_at hl 3 rfl) ?_
  refine lv_aload_n hx hb d_Al_add_3_1 rfl (lv_at hl 2 rfl) ?_
  refine va_alen (v := nI cap) hx hb hK hP 1 3 rfl rfl rfl d_Al_add_3_2 ?_
  refine zn_icmp_ne (tgt := 11) hx hb (a := n) (b := cap) (by omega) (by omega) d_Al_add_3_3 (by decide) (fun c_3 => ?_) (fun c_3 => absurd c_3 (by omega))
  refine lv_aload_n hx hb d_Al_add_3_11 rfl (lv_at hl 2 rfl) ?_
  refine lv_iload_n hx hb d_Al_add_3_12 rfl (lv_at hl 3 rfl) ?_
  refine lv_aload_n hx hb d_Al_add_3_13 rfl (lv_at hl 1 rfl) ?_
  refine zn_aastO hx hb hK hP hD hS 1 3 2 4 rfl rfl hE.2.2.2.1 rfl rfl (i := n) (by omega) (by omega) d_Al_add_3_14 (fun H locs hP hD hS => ?_)
  have hP : va_P (dC, dI) vwCl ([(h0, zoAl ae n am), (ae, zaQ (cT 3) cap (va_up ea n (some rB))), (rB, bkE cF cS bA cE cM cV)] ++ pl) H := hP
  have hD : va_D A ([(h0, zoAl ae n am), (ae, zaQ (cT 3) cap (va_up ea n (some rB))), (rB, bkE cF cS bA cE cM cV)] ++ pl) := hD
  refine lv_aload_n hx hb d_Al_add_3_15 rfl (lv_at hl 0 rfl) ?_
  refine lv_iload_n hx hb d_Al_add_3_16 rfl (lv_at hl 3 rfl) ?_
  refine lv_iconst (v := (nI 1)) hx hb d_Al_add_3_17 (by decide) ?_
  refine zn_iadd hx hb d_Al_add_3_18 ?_
  refine va_put (D := (dC, dI)) (ci := 7) (v := .int (nI (n + 1))) (ty := .int) (C := R_Al) (T := F_Al) (N := 3) hx hb hts i_Al t_Al t_Al_ok n_Al hown hK hP hD hS 0 rfl rfl 1 (by decide) (hts _ wd_125) (fun _ h9 => h9) rfl (by decide +kernel) rfl rfl (Nat.le_of_ble_eq_true rfl) d_Al_add_3_19 (fun H locs hP hD hS => ?_)
  have hP : va_P (dC, dI) vwCl ([(h0, zoAl ae (n + 1) am), (ae, zaQ (cT 3) cap (va_up ea n (some rB))), (rB, bkE cF cS bA cE cM cV)] ++ pl) H := hP
  have hD : va_D A ([(h0, zoAl ae (n + 1) am), (ae, zaQ (cT 3) cap (va_up ea n (some rB))), (rB, bkE cF cS bA cE cM cV)] ++ pl) := hD
  have hP9 := va_P.part (cx := [(h0, zoAl ae (n + 1) am), (ae, zaQ (cT 3) cap (va_up ea n (some rB))), (rB, bkE cF cS bA cE cM cV)]) hP [0, 1, 2] rfl
  have hD9 := va_D.part (cx := [(h0, zoAl ae (n + 1) am), (ae, zaQ (cT 3) cap (va_up ea n (some rB))), (rB, bkE cF cS bA cE cM cV)]) hD [0, 1, 2] (by decide) rfl
  refine W.widen (k := 1) (n := 400) (Nat.le_of_ble_eq_true rfl) (Nat.le_of_ble_eq_true rfl) ?_
  exact W.vret hx hb hr (fun t ht hW => ⟨⟨(), trivial, rfl, by rw [ht]; exact hP9, hD9⟩, hS.F ht⟩) hS.2.2 d_Al_add_3_22
set_option maxHeartbeats 4000000 in
set_option maxRecDepth 100000 in
theorem c_Al_add_3_grow (l : Launch) (dC : Nat → ClassId) (dI : Nat → Nat → Nat) (cT : Nat → ClassId) (sz : Nat) (tE : Nat) (mi : Nat) (h0 : Nat) (ae : Nat) (n : Nat) (am : Nat) (cap : Nat) (ea : Nat → Option Nat) (rB : Nat) (cS : Nat) (bA : Nat) (cE : Nat) (cM : Nat) (cV : Nat) (cF : Bool) (pl : va_W) (hc1 : 1 ≤ cap) (hc2 : cap ≤ 256) (hk : cap = n) (hel : ∀ i, i < cap → ∃ (y : Nat) (fs : List Value), ea i = some y ∧ (y, Sum.inr (4, fs)) ∈ pl) : Met l y_Al_add_3 w_Al_add_3 ({ frames := 5, cells := 1, slots := 400, locals := 127 } : Room) (zPreS (dC, dI) vwCl (zT cT) [.ref h0, .ref rB, .ref ae, .int (nI n)] ([(h0, zoAl ae n am), (ae, zaQ (cT 3) cap ea), (rB, bkE cF cS bA cE cM cV)] ++ pl) sz tE mi) (zQ (dC, dI) vwCl (S := Nat) (fun zu => True) (fun zu => none) (fun zu => [(h0, zoAl zu (n + 1) am), (ae, zaQ (cT 3) cap ea), (zu, zaQ (cT 3) (cap + max ((n + 1) - cap) (cap / 2)) (va_up (va_cpy ea (fun _ => none) 0 0 (min cap (cap + max ((n + 1) - cap) (cap / 2)))) n (some rB))), (rB, bkE cF cS bA cE cM cV)] ++ pl) (va_A ([(h0, zoAl ae n am), (ae, zaQ (cT 3) cap ea), (rB, bkE cF cS bA cE cM cV)] ++ pl) sz)) 1 400 (va_A ([(h0, zoAl ae n am), (ae, zaQ (cT 3) cap ea), (rB, bkE cF cS bA cE cM cV)] ++ pl) sz) := by
  refine Met.ofW (cc := b_Al_add_3) (maxL := 4) (ret := none) (by decide) rfl ?_
  intro p e s m args below meth c s₁ B hml hv
  obtain ⟨⟨rfl, hsz, hP, hK, hD0, hE⟩, hZ⟩ := hv
  have hx := B.exec
  have hb := B.bytes
  have hr := B.returns
  have hts := fun w h => atoms_spec (ws := w_Al_add_3) B.pre w (List.mem_cons_of_mem _ h)
  have hown : s.vm.findClass R_Al = some m.cls := findClass_of_methodNamed B.named
  have hlocks := B.notSynchronized
  subst hsz
  have hD := hD0.self (sz := s.heap.size)
  generalize hAe : va_A ([(h0, zoAl ae n am), (ae, zaQ (cT 3) cap ea), (rB, bkE cF cS bA cE cM cV)] ++ pl) s.heap.size = A at hD hZ ⊢
  have hA : ∀ q : Nat, s.heap.size ≤ q → A q := fun q h => by rw [← hAe]; exact Or.inr h
  have hS : va_S A s.heap s.heap [] := va_S.rf
  have hl := lv_entry ([.ref h0, .ref rB, .ref ae, .int (nI n)]) (n := 4) (Nat.le_of_ble_eq_true rfl)
  rw [lg_entry_eq]
  generalize (lg_sl ([.ref h0, .ref rB, .ref ae, .int (nI n)]) ++ List.replicate (4 - (lg_sl ([.ref h0, .ref rB, .ref ae, .int (nI n)])).length) Slot.unset).toArray = ls at hl ⊢
  have hl : lv_has ls 4 [(0, .ref h0), (1, .ref rB), (2, .ref ae), (3, .int (nI n))] := hl
  refine lv_iload_n hx hb d_Al_add_3_0 rfl (lv_at hl 3 rfl) ?_
  refine lv_aload_n hx hb d_Al_add_3_1 rfl (lv_at hl 2 rfl) ?_
  refine va_alen (v := nI cap) hx hb hK hP 1 3 rfl rfl rfl d_Al_add_3_2 ?_
  refine zn_icmp_ne (tgt := 11) hx hb (a := n) (b := cap) (by omega) (by omega) d_Al_add_3_3 (by decide) (fun c_3 => absurd c_3 (by omega)) (fun c_3 => ?_)
  refine lv_aload_n hx hb d_Al_add_3_6 rfl (lv_at hl 0 rfl) ?_
  refine zw_P (X := [(h0, zoAl ae n am), (ae, zaQ (cT 3) cap ea), (rB, bkE cF cS bA cE cM cV)]) (pl := pl) (va_runV (As := []) (rest := []) ⟨hx, hb, hml, hown, hts⟩ (c_Al_grow_0_grow l dC dI cT s.heap.size tE mi h0 ae n am cap ea pl (by first | omega | assumption) (by first | omega | assumption) (by first | omega | assumption) (by first | omega | assumption)) (cwV 0 hts (zgV wd_386 wd_388 wp_4 wd_10 wd_389) rfl rfl rfl (by decide +kernel) ⟨Nat.le_of_ble_eq_true rfl, Nat.le_of_ble_eq_true rfl⟩) ⟨zPreS_blind, va_recv hK hP (ci := 7) (q0 := 0) rfl rfl, zp_PS (X := [(h0, zoAl ae n am), (ae, zaQ (cT 3) cap ea), (rB, bkE cF cS bA cE cM cV)]) (pl := pl) hK hE hZ hS hA hP hD [0, 1] (by decide) rfl⟩ rfl rfl hl.1 rfl (lv_room (Nat.le_of_ble_eq_true rfl)) d_Al_add_3_7 ⟨Nat.le_of_ble_eq_true rfl, Nat.le_of_ble_eq_true rfl⟩) hP hD hS hA [0, 1] [2] rfl (wr := [(rB, bkE cF cS bA cE cM cV)]) rfl (by decide) (by decide) (fun zu => [.ref zu]) (fun _ => rfl) (fun zu H locs hφ hP hD hS => ?_)
  obtain ⟨qn_1, rfl⟩ : ∃ z, z = zu := ⟨_, rfl⟩
  have hP : va_P (dC, dI) vwCl ([(rB, bkE cF cS bA cE cM cV), (h0, zoAl qn_1 n am), (ae, zaQ (cT 3) cap ea), (qn_1, zaQ (cT 3) (cap + max ((n + 1) - cap) (cap / 2)) (va_cpy ea (fun _ => none) 0 0 (min cap (cap + max ((n + 1) - cap) (cap / 2)))))] ++ pl) H := hP
  have hD : va_D A ([(rB, bkE cF cS bA cE cM cV), (h0, zoAl qn_1 n am), (ae, zaQ (cT 3) cap ea), (qn_1, zaQ (cT 3) (cap + max ((n + 1) - cap) (cap / 2)) (va_cpy ea (fun _ => none) 0 0 (min cap (cap + max ((n + 1) - cap) (cap / 2)))))] ++ pl) := hD
  refine W.widen (k := 1) (n := 400) (by first | omega | exact Nat.le_of_ble_eq_true rfl) (by first | omega | exact Nat.le_of_ble_eq_true rfl) ?_
  refine lv_astore_n (lv' := [(2, .ref qn_1), (0, .ref h0), (1, .ref rB), (3, .int (nI n))]) hx hb d_Al_add_3_10 rfl hl (by decide) rfl (fun ls hl => ?_)
  refine lv_aload_n hx hb d_Al_add_3_11 rfl (lv_at hl 0 rfl) ?_
  refine lv_iload_n hx hb d_Al_add_3_12 rfl (lv_at hl 3 rfl) ?_
  refine lv_aload_n hx hb d_Al_add_3_13 rfl (lv_at hl 2 rfl) ?_
  refine zn_aastO hx hb hK hP hD hS 3 3 0 4 rfl rfl hE.2.2.2.1 rfl rfl (i := n) (by omega) (by omega) d_Al_add_3_14 (fun H locs hP hD hS => ?_)
  have hP : va_P (dC, dI) vwCl ([(rB, bkE cF cS bA cE cM cV), (h0, zoAl qn_1 n am), (ae, zaQ (cT 3) cap ea), (qn_1, zaQ (cT 3) (cap + max ((n + 1) - cap) (cap / 2)) (va_up (va_cpy ea (fun _ => none) 0 0 (min cap (cap + max ((n + 1) - cap) (cap / 2)))) n (some rB)))] ++ pl) H := hP
  have hD : va_D A ([(rB, bkE cF cS bA cE cM cV), (h0, zoAl qn_1 n am), (ae, zaQ (cT 3) cap ea), (qn_1, zaQ (cT 3) (cap + max ((n + 1) - cap) (cap / 2)) (va_up (va_cpy ea (fun _ => none) 0 0 (min cap (cap + max ((n + 1) - cap) (cap / 2)))) n (some rB)))] ++ pl) := hD
  refine lv_aload_n hx hb d_Al_add_3_15 rfl (lv_at hl 1 rfl) ?_
  refine lv_iload_n hx hb d_Al_add_3_16 rfl (lv_at hl 3 rfl) ?_
  refine lv_iconst (v := (nI 1)) hx hb d_Al_add_3_17 (by decide) ?_
  refine zn_iadd hx hb d_Al_add_3_18 ?_
  refine va_put (D := (dC, dI)) (ci := 7) (v := .int (nI (n + 1))) (ty := .int) (C := R_Al) (T := F_Al) (N := 3) hx hb hts i_Al t_Al t_Al_ok n_Al hown hK hP hD hS 1 rfl rfl 1 (by decide) (hts _ wd_125) (fun _ h9 => h9) rfl (by decide +kernel) rfl rfl (Nat.le_of_ble_eq_true rfl) d_Al_add_3_19 (fun H locs hP hD hS => ?_)
  have hP : va_P (dC, dI) vwCl ([(rB, bkE cF cS bA cE cM cV), (h0, zoAl qn_1 (n + 1) am), (ae, zaQ (cT 3) cap ea), (qn_1, zaQ (cT 3) (cap + max ((n + 1) - cap) (cap / 2)) (va_up (va_cpy ea (fun _ => none) 0 0 (min cap (cap + max ((n + 1) - cap) (cap / 2)))) n (some rB)))] ++ pl) H := hP
  have hD : va_D A ([(rB, bkE cF cS bA cE cM cV), (h0, zoAl qn_1 (n + 1) am), (ae, zaQ (cT 3) cap ea), (qn_1, zaQ (cT 3) (cap + max ((n + 1) - cap) (cap / 2)) (va_up (va_cpy ea (fun _ => none) 0 0 (min cap (cap + max ((n + 1) - cap) (cap / 2)))) n (some rB)))] ++ pl) := hD
  have hP9 := va_P.part (cx := [(h0, zoAl qn_1 (n + 1) am), (ae, zaQ (cT 3) cap ea), (qn_1, zaQ (cT 3) (cap + max ((n + 1) - cap) (cap / 2)) (va_up (va_cpy ea (fun _ => none) 0 0 (min cap (cap + max ((n + 1) - cap) (cap / 2)))) n (some rB))), (rB, bkE cF cS bA cE cM cV)]) hP [1, 2, 3, 0] rfl
  have hD9 := va_D.part (cx := [(h0, zoAl qn_1 (n + 1) am), (ae, zaQ (cT 3) cap ea), (qn_1, zaQ (cT 3) (cap + max ((n + 1) - cap) (cap / 2)) (va_up (va_cpy ea (fun _ => none) 0 0 (min cap (cap + max ((n + 1) - cap) (cap / 2)))) n (some rB))), (rB, bkE cF cS bA cE cM cV)]) hD [1, 2, 3, 0] (by decide) rfl
  exact W.vret hx hb hr (fun t ht hW => ⟨⟨qn_1, trivial, rfl, by rw [ht]; exact hP9, hD9⟩, hS.F ht⟩) hS.2.2 d_Al_add_3_22
set_option maxHeartbeats 4000000 in
set_option maxRecDepth 100000 in
theorem c_Al_add_3_first (l : Launch) (dC : Nat → ClassId) (dI : Nat → Nat → Nat) (cT : Nat → ClassId) (sz : Nat) (tE : Nat) (mi : Nat) (h0 : Nat) (n : Nat) (am : Nat) (rB : Nat) (cS : Nat) (bA : Nat) (cE : Nat) (cM : Nat) (cV : Nat) (cF : Bool) (pl : va_W) (hk : n = 0) : Met l y_Al_add_3 w_Al_add_3 ({ frames := 3, cells := 1, slots := 400, locals := 64 } : Room) (zPreS (dC, dI) vwCl (zT cT) [.ref h0, .ref rB, .ref tE, .int (nI n)] ([(h0, zoAl tE n am), (rB, bkE cF cS bA cE cM cV)] ++ pl) sz tE mi) (zQ (dC, dI) vwCl (S := Nat) (fun zu => True) (fun zu => none) (fun zu => [(h0, zoAl zu (n + 1) am), (zu, zaQ (cT 3) (max 10 (n + 1)) (va_up (fun _ => none) n (some rB))), (rB, bkE cF cS bA cE cM cV)] ++ pl) (va_A ([(h0, zoAl tE n am), (rB, bkE cF cS bA cE cM cV)] ++ pl) sz)) 1 400 (va_A ([(h0, zoAl tE n am), (rB, bkE cF cS bA cE cM cV)] ++ pl) sz) := by
  refine Met.ofW (cc := b_Al_add_3) (maxL := 4) (ret := none) (by decide) rfl ?_
  intro p e s m args below meth c s₁ B hml hv
  obtain ⟨⟨rfl, hsz, hP, hK, hD0, hE⟩, hZ⟩ := hv
  have hx := B.exec
  have hb := B.bytes
  have hr := B.returns
  have hts := fun w h => atoms_spec (ws := w_Al_add_3) B.pre w (List.mem_cons_of_mem _ h)
  have hown : s.vm.findClass R_Al = some m.cls := findClass_of_methodNamed B.named
  have hlocks := B.notSynchronized
  subst hsz
  have hD := hD0.self (sz := s.heap.size)
  generalize hAe : va_A ([(h0, zoAl tE n am), (rB, bkE cF cS bA cE cM cV)] ++ pl) s.heap.size = A at hD hZ ⊢
  have hA : ∀ q : Nat, s.heap.size ≤ q → A q := fun q h => by rw [← hAe]; exact Or.inr h
  have hS : va_S A s.heap s.heap [] := va_S.rf
  have hl := lv_entry ([.ref h0, .ref rB, .ref tE, .int (nI n)]) (n := 4) (Nat.le_of_ble_eq_true rfl)
  rw [lg_entry_eq]
  generalize (lg_sl ([.ref h0, .ref rB, .ref tE, .int (nI n)]) ++ List.replicate (4 - (lg_sl ([.ref h0, .ref rB, .ref tE, .int (nI n)])).length) Slot.unset).toArray = ls at hl ⊢
  have hl : lv_has ls 4 [(0, .ref h0), (1, .ref rB), (2, .ref tE), (3, .int (nI n))] := hl
  refine lv_iload_n hx hb d_Al_add_3_0 rfl (lv_at hl 3 rfl) ?_
  refine lv_aload_n hx hb d_Al_add_3_1 rfl (lv_at hl 2 rfl) ?_
  refine va_tlen (v := nI 0) hx hb hZ.2.1 hS rfl d_Al_add_3_2 ?_
  refine zn_icmp_ne (tgt := 11) hx hb (a := n) (b := 0) (by omega) (by omega) d_Al_add_3_3 (by decide) (fun c_3 => absurd c_3 (by omega)) (fun c_3 => ?_)
  refine lv_aload_n hx hb d_Al_add_3_6 rfl (lv_at hl 0 rfl) ?_
  refine zw_P (X := [(h0, zoAl tE n am), (rB, bkE cF cS bA cE cM cV)]) (pl := pl) (va_runV (As := []) (rest := []) ⟨hx, hb, hml, hown, hts⟩ (c_Al_grow_0_first l dC dI cT s.heap.size tE mi h0 n am pl (by first | omega | assumption)) (cwV 0 hts (zgV wd_386 wd_388 wp_4 wd_10 wd_389) rfl rfl rfl (by decide +kernel) ⟨Nat.le_of_ble_eq_true rfl, Nat.le_of_ble_eq_true rfl⟩) ⟨zPreS_blind, va_recv hK hP (ci := 7) (q0 := 0) rfl rfl, zp_PS (X := [(h0, zoAl tE n am), (rB, bkE cF cS bA cE cM cV)]) (pl := pl) hK hE hZ hS hA hP hD [0] (by decide) rfl⟩ rfl rfl hl.1 rfl (lv_room (Nat.le_of_ble_eq_true rfl)) d_Al_add_3_7 ⟨Nat.le_of_ble_eq_true rfl, Nat.le_of_ble_eq_true rfl⟩) hP hD hS hA [0] [1] rfl (wr := [(rB, bkE cF cS bA cE cM cV)]) rfl (by decide) (by decide) (fun zu => [.ref zu]) (fun _ => rfl) (fun zu H locs hφ hP hD hS => ?_)
  obtain ⟨qn_1, rfl⟩ : ∃ z, z = zu := ⟨_, rfl⟩
  have hP : va_P (dC, dI) vwCl ([(rB, bkE cF cS bA cE cM cV), (h0, zoAl qn_1 n am), (qn_1, zaQ (cT 3) (max 10 (n + 1)) (fun _ => none))] ++ pl) H := hP
  have hD : va_D A ([(rB, bkE cF cS bA cE cM cV), (h0, zoAl qn_1 n am), (qn_1, zaQ (cT 3) (max 10 (n + 1)) (fun _ => none))] ++ pl) := hD
  refine W.widen (k := 1) (n := 400) (by first | omega | exact Nat.le_of_ble_eq_true rfl) (by first | omega | exact Nat.le_of_ble_eq_true rfl) ?_
  refine lv_astore_n (lv' := [(2, .ref qn_1), (0, .ref h0), (1, .ref rB), (3, .int (nI n))]) hx hb d_Al_add_3_10 rfl hl (by decide) rfl (fun ls hl => ?_)
  refine lv_aload_n hx hb d_Al_add_3_11 rfl (lv_at hl 0 rfl) ?_
  refine lv_iload_n hx hb d_Al_add_3_12 rfl (lv_at hl 3 rfl) ?_
  refine lv_aload_n hx hb d_Al_add_3_13 rfl (lv_at hl 2 rfl) ?_
  refine zn_aastO hx hb hK hP hD hS 2 3 0 4 rfl rfl hE.2.2.2.1 rfl rfl (i := n) (by omega) (by omega) d_Al_add_3_14 (fun H locs hP hD hS => ?_)
  have hP : va_P (dC, dI) vwCl ([(rB, bkE cF cS bA cE cM cV), (h0, zoAl qn_1 n am), (qn_1, zaQ (cT 3) (max 10 (n + 1)) (va_up (fun _ => none) n (some rB)))] ++ pl) H := hP
  have hD : va_D A ([(rB, bkE cF cS bA cE cM cV), (h0, zoAl qn_1 n am), (qn_1, zaQ (cT 3) (max 10 (n + 1)) (va_up (fun _ => none) n (some rB)))] ++ pl) := hD
  refine lv_aload_n hx hb d_Al_add_3_15 rfl (lv_at hl 1 rfl) ?_
  refine lv_iload_n hx hb d_Al_add_3_16 rfl (lv_at hl 3 rfl) ?_
  refine lv_iconst (v := (nI 1)) hx hb d_Al_add_3_17 (by decide) ?_
  refine zn_iadd hx hb d_Al_add_3_18 ?_
  refine va_put (D := (dC, dI)) (ci := 7) (v := .int (nI (n + 1))) (ty := .int) (C := R_Al) (T := F_Al) (N := 3) hx hb hts i_Al t_Al t_Al_ok n_Al hown hK hP hD hS 1 rfl rfl 1 (by decide) (hts _ wd_125) (fun _ h9 => h9) rfl (by decide +kernel) rfl rfl (Nat.le_of_ble_eq_true rfl) d_Al_add_3_19 (fun H locs hP hD hS => ?_)
  have hP : va_P (dC, dI) vwCl ([(rB, bkE cF cS bA cE cM cV), (h0, zoAl qn_1 (n + 1) am), (qn_1, zaQ (cT 3) (max 10 (n + 1)) (va_up (fun _ => none) n (some rB)))] ++ pl) H := hP
  have hD : va_D A ([(rB, bkE cF cS bA cE cM cV), (h0, zoAl qn_1 (n + 1) am), (qn_1, zaQ (cT 3) (max 10 (n + 1)) (va_up (fun _ => none) n (some rB)))] ++ pl) := hD
  have hP9 := va_P.part (cx := [(h0, zoAl qn_1 (n + 1) am), (qn_1, zaQ (cT 3) (max 10 (n + 1)) (va_up (fun _ => none) n (some rB))), (rB, bkE cF cS bA cE cM cV)]) hP [1, 2, 0] rfl
  have hD9 := va_D.part (cx := [(h0, zoAl qn_1 (n + 1) am), (qn_1, zaQ (cT 3) (max 10 (n + 1)) (va_up (fun _ => none) n (some rB))), (rB, bkE cF cS bA cE cM cV)]) hD [1, 2, 0] (by decide) rfl
  exact W.vret hx hb hr (fun t ht hW => ⟨⟨qn_1, trivial, rfl, by rw [ht]; exact hP9, hD9⟩, hS.F ht⟩) hS.2.2 d_Al_add_3_22
set_option maxHeartbeats 4000000 in
set_option maxRecDepth 100000 in
theorem c_Al_add_1_in (l : Launch) (dC : Nat → ClassId) (dI : Nat → Nat → Nat) (cT : Nat → ClassId) (sz : Nat) (tE : Nat) (mi : Nat) (h0 : Nat) (ae : Nat) (n : Nat) (am : Nat) (cap : Nat) (ea : Nat → Option Nat) (rB : Nat) (cS : Nat) (bA : Nat) (cE : Nat) (cM : Nat) (cV : Nat) (cF : Bool) (pl : va_W) (hk : n < cap) (hc2 : cap ≤ 1000) (ham : am < 2 ^ 30) : Met l y_Al_add_1 w_Al_add_1 ({ frames := 1, cells := 1, slots := 400, locals := 23 } : Room) (zPreS (dC, dI) vwCl (zT cT) [.ref h0, .ref rB] ([(h0, zoAl ae n am), (ae, zaQ (cT 3) cap ea), (rB, bkE cF cS bA cE cM cV)] ++ pl) sz tE mi) (zQ (dC, dI) vwCl (S := Unit) (fun zu => True) (fun zu => some (.int (zb true))) (fun zu => [(h0, zoAl ae (n + 1) (am + 1)), (ae, zaQ (cT 3) cap (va_up ea n (some rB))), (rB, bkE cF cS bA cE cM cV)] ++ pl) (va_A ([(h0, zoAl ae n am), (ae, zaQ (cT 3) cap ea), (rB, bkE cF cS bA cE cM cV)] ++ pl) sz)) 1 400 (va_A ([(h0, zoAl ae n am), (ae, zaQ (cT 3) cap ea), (rB, bkE cF cS bA cE cM cV)] ++ pl) sz) := by
  refine Met.ofW (cc := b_Al_add_1) (maxL := 2) (ret := (some .boolean)) (by decide) rfl ?_
  intro p e s m args below meth c s₁ B hml hv
  obtain ⟨⟨rfl, hsz, hP, hK, hD0, hE⟩, hZ⟩ := hv
  have hx := B.exec
  have hb := B.bytes
  have hr := B.returns
  have hts := fun w h => atoms_spec (ws := w_Al_add_1) B.pre w (List.mem_cons_of_mem _ h)
  have hown : s.vm.findClass R_Al = some m.cls := findClass_of_methodNamed B.named
  have hlocks := B.notSynchronized
  subst hsz
  have hD := hD0.self (sz := s.heap.size)
  generalize hAe : va_A ([(h0, zoAl ae n am), (ae, zaQ (cT 3) cap ea), (rB, bkE cF cS bA cE cM cV)] ++ pl) s.heap.size = A at hD hZ ⊢
  have hA : ∀ q : Nat, s.heap.size ≤ q → A q := fun q h => by rw [← hAe]; exact Or.inr h
  have hS : va_S A s.heap s.heap [] := va_S.rf
  have hl := lv_entry ([.ref h0, .ref rB]) (n := 2) (Nat.le_of_ble_eq_true rfl)
  rw [lg_entry_eq]
  generalize (lg_sl ([.ref h0, .ref rB]) ++ List.replicate (2 - (lg_sl ([.ref h0, .ref rB])).length) Slot.unset).toArray = ls at hl ⊢
  have hl : lv_has ls 2 [(0, .ref h0), (1, .ref rB)] := hl
  refine lv_aload_n hx hb d_Al_add_1_0 rfl (lv_at hl 0 rfl) ?_
  refine lv_dup hx hb d_Al_add_1_1 rfl ?_
  refine va_get (D := (dC, dI)) (ci := 7) (v := .int (nI am)) (C := R_Al) (T := F_Al) (N := 3) hx hb hts i_Al hown hK hP 0 rfl rfl 2 (by decide) (hts _ wd_127) (fun x9 h9 => u_same (hts _ wd_128) x9 h9) rfl d_Al_add_1_2 ?_
  refine lv_iconst (v := (nI 1)) hx hb d_Al_add_1_5 (by decide) ?_
  refine zn_iadd hx hb d_Al_add_1_6 ?_
  refine va_put (D := (dC, dI)) (ci := 7) (v := .int (nI (am + 1))) (ty := .int) (C := R_Al) (T := F_Al) (N := 3) hx hb hts i_Al t_Al t_Al_ok n_Al hown hK hP hD hS 0 rfl rfl 2 (by decide) (hts _ wd_127) (fun x9 h9 => u_same (hts _ wd_128) x9 h9) rfl (by decide +kernel) rfl rfl (Nat.le_of_ble_eq_true rfl) d_Al_add_1_7 (fun H locs hP hD hS => ?_)
  have hP : va_P (dC, dI) vwCl ([(h0, zoAl ae n (am + 1)), (ae, zaQ (cT 3) cap ea), (rB, bkE cF cS bA cE cM cV)] ++ pl) H := hP
  have hD : va_D A ([(h0, zoAl ae n (am + 1)), (ae, zaQ (cT 3) cap ea), (rB, bkE cF cS bA cE cM cV)] ++ pl) := hD
  refine lv_aload_n hx hb d_Al_add_1_10 rfl (lv_at hl 0 rfl) ?_
  refine lv_aload_n hx hb d_Al_add_1_11 rfl (lv_at hl 1 rfl) ?_
  refine lv_aload_n hx hb d_Al_add_1_12 rfl (lv_at hl 0 rfl) ?_
  refine va_get (D := (dC, dI)) (ci := 7) (v := .ref ae) (C := R_Al) (T := F_Al) (N := 3) hx hb hts i_Al hown hK hP 0 rfl rfl 0 (by decide) (hts _ wd_124) (fun _ h9 => h9) rfl d_Al_add_1_13 ?_
  refine lv_aload_n hx hb d_Al_add_1_16 rfl (lv_at hl 0 rfl) ?_
  refine va_get (D := (dC, dI)) (ci := 7) (v := .int (nI n)) (C := R_Al) (T := F_Al) (N := 3) hx hb hts i_Al hown hK hP 0 rfl rfl 1 (by decide) (hts _ wd_125) (fun _ h9 => h9) rfl d_Al_add_1_17 ?_
  refine zw_P (X := [(h0, zoAl ae n (am + 1)), (ae, zaQ (cT 3) cap ea), (rB, bkE cF cS bA cE cM cV)]) (pl := pl) (va_runV (As := [.ref rB, .ref ae, .int (nI n)]) (rest := []) ⟨hx, hb, hml, hown, hts⟩ (c_Al_add_3_in l dC dI cT H.size tE mi h0 ae n (am + 1) cap ea rB cS bA cE cM cV cF pl (by first | omega | assumption) (by first | omega | assumption)) (cwV 3 hts (zgV wd_382 wd_384 wp_3 wd_10 wd_385) rfl rfl rfl (by decide +kernel) ⟨Nat.le_of_ble_eq_true rfl, Nat.le_of_ble_eq_true rfl⟩) ⟨zPreS_blind, va_recv hK hP (ci := 7) (q0 := 0) rfl rfl, zp_PS (X := [(h0, zoAl ae n (am + 1)), (ae, zaQ (cT 3) cap ea), (rB, bkE cF cS bA cE cM cV)]) (pl := pl) hK hE hZ hS hA hP hD [0, 1, 2] (by decide) rfl⟩ rfl rfl hl.1 rfl (lv_room (Nat.le_of_ble_eq_true rfl)) d_Al_add_1_20 ⟨Nat.le_of_ble_eq_true rfl, Nat.le_of_ble_eq_true rfl⟩) hP hD hS hA [0, 1, 2] [] rfl (wr := []) rfl (by decide) (by decide) (fun zu => []) (fun _ => rfl) (fun zu H locs hφ hP hD hS => ?_)
  have hP : va_P (dC, dI) vwCl ([(h0, zoAl ae (n + 1) (am + 1)), (ae, zaQ (cT 3) cap (va_up ea n (some rB))), (rB, bkE cF cS bA cE cM cV)] ++ pl) H := hP
  have hD : va_D A ([(h0, zoAl ae (n + 1) (am + 1)), (ae, zaQ (cT 3) cap (va_up ea n (some rB))), (rB, bkE cF cS bA cE cM cV)] ++ pl) := hD
  refine W.widen (k := 1) (n := 400) (by first | omega | exact Nat.le_of_ble_eq_true rfl) (by first | omega | exact Nat.le_of_ble_eq_true rfl) ?_
  refine lv_iconst (v := (nI 1)) hx hb d_Al_add_1_23 (by decide) ?_
  refine W.eq (g2 := F0 m 24 ls [.int (zb true)]) rfl ?_
  have hP9 := va_P.part (cx := [(h0, zoAl ae (n + 1) (am + 1)), (ae, zaQ (cT 3) cap (va_up ea n (some rB))), (rB, bkE cF cS bA cE cM cV)]) hP [0, 1, 2] rfl
  have hD9 := va_D.part (cx := [(h0, zoAl ae (n + 1) (am + 1)), (ae, zaQ (cT 3) cap (va_up ea n (some rB))), (rB, bkE cF cS bA cE cM cV)]) hD [0, 1, 2] (by decide) rfl
  exact W.zret hx hb hr (zb_narrow _) (fun t ht hW => ⟨⟨(), trivial, rfl, by rw [ht]; exact hP9, hD9⟩, hS.F ht⟩) hS.2.2 d_Al_add_1_24
set_option maxHeartbeats 4000000 in
set_option maxRecDepth 100000 in
theorem c_Al_add_1_grow (l : Launch) (dC : Nat → ClassId) (dI : Nat → Nat → Nat) (cT : Nat → ClassId) (sz : Nat) (tE : Nat) (mi : Nat) (h0 : Nat) (ae : Nat) (n : Nat) (am : Nat) (cap : Nat) (ea : Nat → Option Nat) (rB : Nat) (cS : Nat) (bA : Nat) (cE : Nat) (cM : Nat) (cV : Nat) (cF : Bool) (pl : va_W) (hc1 : 1 ≤ cap) (hc2 : cap ≤ 256) (hk : cap = n) (hel : ∀ i, i < cap → ∃ (y : Nat) (fs : List Value), ea i = some y ∧ (y, Sum.inr (4, fs)) ∈ pl) (ham : am < 2 ^ 30) : Met l y_Al_add_1 w_Al_add_1 ({ frames := 6, cells := 1, slots := 400, locals := 150 } : Room) (zPreS (dC, dI) vwCl (zT cT) [.ref h0, .ref rB] ([(h0, zoAl ae n am), (ae, zaQ (cT 3) cap ea), (rB, bkE cF cS bA cE cM cV)] ++ pl) sz tE mi) (zQ (dC, dI) vwCl (S := Nat) (fun zu => True) (fun zu => some (.int (zb true))) (fun zu => [(h0, zoAl zu (n + 1) (am + 1)), (ae, zaQ (cT 3) cap ea), (zu, zaQ (cT 3) (cap + max ((n + 1) - cap) (cap / 2)) (va_up (va_cpy ea (fun _ => none) 0 0 (min cap (cap + max ((n + 1) - cap) (cap / 2)))) n (some rB))), (rB, bkE cF cS bA cE cM cV)] ++ pl) (va_A ([(h0, zoAl ae n am), (ae, zaQ (cT 3) cap ea), (rB, bkE cF cS bA cE cM cV)] ++ pl) sz)) 1 400 (va_A ([(h0, zoAl ae n am), (ae, zaQ (cT 3) cap ea), (rB, bkE cF cS bA cE cM cV)] ++ pl) sz) := by
  refine Met.ofW (cc := b_Al_add_1) (maxL := 2) (ret := (some .boolean)) (by decide) rfl ?_
  intro p e s m args below meth c s₁ B hml hv
  obtain ⟨⟨rfl, hsz, hP, hK, hD0, hE⟩, hZ⟩ := hv
  have hx := B.exec
  have hb := B.bytes
  have hr := B.returns
  have hts := fun w h => atoms_spec (ws := w_Al_add_1) B.pre w (List.mem_cons_of_mem _ h)
  have hown : s.vm.findClass R_Al = some m.cls := findClass_of_methodNamed B.named
  have hlocks := B.notSynchronized
  subst hsz
  have hD := hD0.self (sz := s.heap.size)
  generalize hAe : va_A ([(h0, zoAl ae n am), (ae, zaQ (cT 3) cap ea), (rB, bkE cF cS bA cE cM cV)] ++ pl) s.heap.size = A at hD hZ ⊢
  have hA : ∀ q : Nat, s.heap.size ≤ q → A q := fun q h => by rw [← hAe]; exact Or.inr h
  have hS : va_S A s.heap s.heap [] := va_S.rf
  have hl := lv_entry ([.ref h0, .ref rB]) (n := 2) (Nat.le_of_ble_eq_true rfl)
  rw [lg_entry_eq]
  generalize (lg_sl ([.ref h0, .ref rB]) ++ List.replicate (2 - (lg_sl ([.ref h0, .ref rB])).length) Slot.unset).toArray = ls at hl ⊢
  have hl : lv_has ls 2 [(0, .ref h0), (1, .ref rB)] := hl
  refine lv_aload_n hx hb d_Al_add_1_0 rfl (lv_at hl 0 rfl) ?_
  refine lv_dup hx hb d_Al_add_1_1 rfl ?_
  refine va_get (D := (dC, dI)) (ci := 7) (v := .int (nI am)) (C := R_Al) (T := F_Al) (N := 3) hx hb hts i_Al hown hK hP 0 rfl rfl 2 (by decide) (hts _ wd_127) (fun x9 h9 => u_same (hts _ wd_128) x9 h9) rfl d_Al_add_1_2 ?_
  refine lv_iconst (v := (nI 1)) hx hb d_Al_add_1_5 (by decide) ?_
  refine zn_iadd hx hb d_Al_add_1_6 ?_
  refine va_put (D := (dC, dI)) (ci := 7) (v := .int (nI (am + 1))) (ty := .int) (C := R_Al) (T := F_Al) (N := 3) hx hb hts i_Al t_Al t_Al_ok n_Al hown hK hP hD hS 0 rfl rfl 2 (by decide) (hts _ wd_127) (fun x9 h9 => u_same (hts _ wd_128) x9 h9) rfl (by decide +kernel) rfl rfl (Nat.le_of_ble_eq_true rfl) d_Al_add_1_7 (fun H locs hP hD hS => ?_)
  have hP : va_P (dC, dI) vwCl ([(h0, zoAl ae n (am + 1)), (ae, zaQ (cT 3) cap ea), (rB, bkE cF cS bA cE cM cV)] ++ pl) H := hP
  have hD : va_D A ([(h0, zoAl ae n (am + 1)), (ae, zaQ (cT 3) cap ea), (rB, bkE cF cS bA cE cM cV)] ++ pl) := hD
  refine lv_aload_n hx hb d_Al_add_1_10 rfl (lv_at hl 0 rfl) ?_
  refine lv_aload_n hx hb d_Al_add_1_11 rfl (lv_at hl 1 rfl) ?_
  refine lv_aload_n hx hb d_Al_add_1_12 rfl (lv_at hl 0 rfl) ?_
  refine va_get (D := (dC, dI)) (ci := 7) (v := .ref ae) (C := R_Al) (T := F_Al) (N := 3) hx hb hts i_Al hown hK hP 0 rfl rfl 0 (by decide) (hts _ wd_124) (fun _ h9 => h9) rfl d_Al_add_1_13 ?_
  refine lv_aload_n hx hb d_Al_add_1_16 rfl (lv_at hl 0 rfl) ?_
  refine va_get (D := (dC, dI)) (ci := 7) (v := .int (nI n)) (C := R_Al) (T := F_Al) (N := 3) hx hb hts i_Al hown hK hP 0 rfl rfl 1 (by decide) (hts _ wd_125) (fun _ h9 => h9) rfl d_Al_add_1_17 ?_
  refine zw_P (X := [(h0, zoAl ae n (am + 1)), (ae, zaQ (cT 3) cap ea), (rB, bkE cF cS bA cE cM cV)]) (pl := pl) (va_runV (As := [.ref rB, .ref ae, .int (nI n)]) (rest := []) ⟨hx, hb, hml, hown, hts⟩ (c_Al_add_3_grow l dC dI cT H.size tE mi h0 ae n (am + 1) cap ea rB cS bA cE cM cV cF pl (by first | omega | assumption) (by first | omega | assumption) (by first | omega | assumption) (by first | omega | assumption)) (cwV 3 hts (zgV wd_382 wd_384 wp_3 wd_10 wd_385) rfl rfl rfl (by decide +kernel) ⟨Nat.le_of_ble_eq_true rfl, Nat.le_of_ble_eq_true rfl⟩) ⟨zPreS_blind, va_recv hK hP (ci := 7) (q0 := 0) rfl rfl, zp_PS (X := [(h0, zoAl ae n (am + 1)), (ae, zaQ (cT 3) cap ea), (rB, bkE cF cS bA cE cM cV)]) (pl := pl) hK hE hZ hS hA hP hD [0, 1, 2] (by decide) rfl⟩ rfl rfl hl.1 rfl (lv_room (Nat.le_of_ble_eq_true rfl)) d_Al_add_1_20 ⟨Nat.le_of_ble_eq_true rfl, Nat.le_of_ble_eq_true rfl⟩) hP hD hS hA [0, 1, 2] [] rfl (wr := []) rfl (by decide) (by decide) (fun zu => []) (fun _ => rfl) (fun zu H locs hφ hP hD hS => ?_)
  obtain ⟨qn_1, rfl⟩ : ∃ z, z = zu := ⟨_, rfl⟩
  have hP : va_P (dC, dI) vwCl ([(h0, zoAl qn_1 (n + 1) (am + 1)), (ae, zaQ (cT 3) cap ea), (qn_1, zaQ (cT 3) (cap + max ((n + 1) - cap) (cap / 2)) (va_up (va_cpy ea (fun _ => none) 0 0 (min cap (cap + max ((n + 1) - cap) (cap / 2)))) n (some rB))), (rB, bkE cF cS bA cE cM cV)] ++ pl) H := hP
  have hD : va_D A ([(h0, zoAl qn_1 (n + 1) (am + 1)), (ae, zaQ (cT 3) cap ea), (qn_1, zaQ (cT 3) (cap + max ((n + 1) - cap) (cap / 2)) (va_up (va_cpy ea (fun _ => none) 0 0 (min cap (cap + max ((n + 1) - cap) (cap / 2)))) n (some rB))), (rB, bkE cF cS bA cE cM cV)] ++ pl) := hD
  refine W.widen (k := 1) (n := 400) (by first | omega | exact Nat.le_of_ble_eq_true rfl) (by first | omega | exact Nat.le_of_ble_eq_true rfl) ?_
  refine lv_iconst (v := (nI 1)) hx hb d_Al_add_1_23 (by decide) ?_
  refine W.eq (g2 := F0 m 24 ls [.int (zb true)]) rfl ?_
  have hP9 := va_P.part (cx := [(h0, zoAl qn_1 (n + 1) (am + 1)), (ae, zaQ (cT 3) cap ea), (qn_1, zaQ (cT 3) (cap + max ((n + 1) - cap) (cap / 2)) (va_up (va_cpy ea (fun _ => none) 0 0 (min cap (cap + max ((n + 1) - cap) (cap / 2)))) n (some rB))), (rB, bkE cF cS bA cE cM cV)]) hP [0, 1, 2, 3] rfl
  have hD9 := va_D.part (cx := [(h0, zoAl qn_1 (n + 1) (am + 1)), (ae, zaQ (cT 3) cap ea), (qn_1, zaQ (cT 3) (cap + max ((n + 1) - cap) (cap / 2)) (va_up (va_cpy ea (fun _ => none) 0 0 (min cap (cap + max ((n + 1) - cap) (cap / 2)))) n (some rB))), (rB, bkE cF cS bA cE cM cV)]) hD [0, 1, 2, 3] (by decide) rfl
  exact W.zret hx hb hr (zb_narrow _) (fun t ht hW => ⟨⟨qn_1, trivial, rfl, by rw [ht]; exact hP9, hD9⟩, hS.F ht⟩) hS.2.2 d_Al_add_1_24
set_option maxHeartbeats 4000000 in
set_option maxRecDepth 100000 in
theorem c_Al_add_1_first (l : Launch) (dC : Nat → ClassId) (dI : Nat → Nat → Nat) (cT : Nat → ClassId) (sz : Nat) (tE : Nat) (mi : Nat) (h0 : Nat) (n : Nat) (am : Nat) (rB : Nat) (cS : Nat) (bA : Nat) (cE : Nat) (cM : Nat) (cV : Nat) (cF : Bool) (pl : va_W) (hk : n = 0) (ham : am < 2 ^ 30) : Met l y_Al_add_1 w_Al_add_1 ({ frames := 4, cells := 1, slots := 400, locals := 87 } : Room) (zPreS (dC, dI) vwCl (zT cT) [.ref h0, .ref rB] ([(h0, zoAl tE n am), (rB, bkE cF cS bA cE cM cV)] ++ pl) sz tE mi) (zQ (dC, dI) vwCl (S := Nat) (fun zu => True) (fun zu => some (.int (zb true))) (fun zu => [(h0, zoAl zu (n + 1) (am + 1)), (zu, zaQ (cT 3) (max 10 (n + 1)) (va_up (fun _ => none) n (some rB))), (rB, bkE cF cS bA cE cM cV)] ++ pl) (va_A ([(h0, zoAl tE n am), (rB, bkE cF cS bA cE cM cV)] ++ pl) sz)) 1 400 (va_A ([(h0, zoAl tE n am), (rB, bkE cF cS bA cE cM cV)] ++ pl) sz) := by
  refine Met.ofW (cc := b_Al_add_1) (maxL := 2) (ret := (some .boolean)) (by decide) rfl ?_
  intro p e s m args below meth c s₁ B hml hv
  obtain ⟨⟨rfl, hsz, hP, hK, hD0, hE⟩, hZ⟩ := hv
  have hx := B.exec
  have hb := B.bytes
  have hr := B.returns
  have hts := fun w h => atoms_spec (ws := w_Al_add_1) B.pre w (List.mem_cons_of_mem _ h)
  have hown : s.vm.findClass R_Al = some m.cls := findClass_of_methodNamed B.named
  have hlocks := B.notSynchronized
  subst hsz
  have hD := hD0.self (sz := s.heap.size)
  generalize hAe : va_A ([(h0, zoAl tE n am), (rB, bkE cF cS bA cE cM cV)] ++ pl) s.heap.size = A at hD hZ ⊢
  have hA : ∀ q : Nat, s.heap.size ≤ q → A q := fun q h => by rw [← hAe]; exact Or.inr h
  have hS : va_S A s.heap s.heap [] := va_S.rf
  have hl := lv_entry ([.ref h0, .ref rB]) (n := 2) (Nat.le_of_ble_eq_true rfl)
  rw [lg_entry_eq]
  generalize (lg_sl ([.ref h0, .ref rB]) ++ List.replicate (2 - (lg_sl ([.ref h0, .ref rB])).length) Slot.unset).toArray = ls at hl ⊢
  have hl : lv_has ls 2 [(0, .ref h0), (1, .ref rB)] := hl
  refine lv_aload_n hx hb d_Al_add_1_0 rfl (lv_at hl 0 rfl) ?_
  refine lv_dup hx hb d_Al_add_1_1 rfl ?_
  refine va_get (D := (dC, dI)) (ci := 7) (v := .int (nI am)) (C := R_Al) (T := F_Al) (N := 3) hx hb hts i_Al hown hK hP 0 rfl rfl 2 (by decide) (hts _ wd_127) (fun x9 h9 => u_same (hts _ wd_128) x9 h9) rfl d_Al_add_1_2 ?_
  refine lv_iconst (v := (nI 1)) hx hb d_Al_add_1_5 (by decide) ?_
  refine zn_iadd hx hb d_Al_add_1_6 ?_
  refine va_put (D := (dC, dI)) (ci := 7) (v := .int (nI (am + 1))) (ty := .int) (C := R_Al) (T := F_Al) (N := 3) hx hb hts i_Al t_Al t_Al_ok n_Al hown hK hP hD hS 0 rfl rfl 2 (by decide) (hts _ wd_127) (fun x9 h9 => u_same (hts _ wd_128) x9 h9) rfl (by decide +kernel) rfl rfl (Nat.le_of_ble_eq_true rfl) d_Al_add_1_7 (fun H locs hP hD hS => ?_)
  have hP : va_P (dC, dI) vwCl ([(h0, zoAl tE n (am + 1)), (rB, bkE cF cS bA cE cM cV)] ++ pl) H := hP
  have hD : va_D A ([(h0, zoAl tE n (am + 1)), (rB, bkE cF cS bA cE cM cV)] ++ pl) := hD
  refine lv_aload_n hx hb d_Al_add_1_10 rfl (lv_at hl 0 rfl) ?_
  refine lv_aload_n hx hb d_Al_add_1_11 rfl (lv_at hl 1 rfl) ?_
  refine lv_aload_n hx hb d_Al_add_1_12 rfl (lv_at hl 0 rfl) ?_
  refine va_get (D := (dC, dI)) (ci := 7) (v := .ref tE) (C := R_Al) (T := F_Al) (N := 3) hx hb hts i_Al hown hK hP 0 rfl rfl 0 (by decide) (hts _ wd_124) (fun _ h9 => h9) rfl d_Al_add_1_13 ?_
  refine lv_aload_n hx hb d_Al_add_1_16 rfl (lv_at hl 0 rfl) ?_
  refine va_get (D := (dC, dI)) (ci := 7) (v := .int (nI n)) (C := R_Al) (T := F_Al) (N := 3) hx hb hts i_Al hown hK hP 0 rfl rfl 1 (by decide) (hts _ wd_125) (fun _ h9 => h9) rfl d_Al_add_1_17 ?_
  refine zw_P (X := [(h0, zoAl tE n (am + 1)), (rB, bkE cF cS bA cE cM cV)]) (pl := pl) (va_runV (As := [.ref rB, .ref tE, .int (nI n)]) (rest := []) ⟨hx, hb, hml, hown, hts⟩ (c_Al_add_3_first l dC dI cT H.size tE mi h0 n (am + 1) rB cS bA cE cM cV cF pl (by first | omega | assumption)) (cwV 3 hts (zgV wd_382 wd_384 wp_3 wd_10 wd_385) rfl rfl rfl (by decide +kernel) ⟨Nat.le_of_ble_eq_true rfl, Nat.le_of_ble_eq_true rfl⟩) ⟨zPreS_blind, va_recv hK hP (ci := 7) (q0 := 0) rfl rfl, zp_PS (X := [(h0, zoAl tE n (am + 1)), (rB, bkE cF cS bA cE cM cV)]) (pl := pl) hK hE hZ hS hA hP hD [0, 1] (by decide) rfl⟩ rfl rfl hl.1 rfl (lv_room (Nat.le_of_ble_eq_true rfl)) d_Al_add_1_20 ⟨Nat.le_of_ble_eq_true rfl, Nat.le_of_ble_eq_true rfl⟩) hP hD hS hA [0, 1] [] rfl (wr := []) rfl (by decide) (by decide) (fun zu => []) (fun _ => rfl) (fun zu H locs hφ hP hD hS => ?_)
  obtain ⟨qn_1, rfl⟩ : ∃ z, z = zu := ⟨_, rfl⟩
  have hP : va_P (dC, dI) vwCl ([(h0, zoAl qn_1 (n + 1) (am + 1)), (qn_1, zaQ (cT 3) (max 10 (n + 1)) (va_up (fun _ => none) n (some rB))), (rB, bkE cF cS bA cE cM cV)] ++ pl) H := hP
  have hD : va_D A ([(h0, zoAl qn_1 (n + 1) (am + 1)), (qn_1, zaQ (cT 3) (max 10 (n + 1)) (va_up (fun _ => none) n (some rB))), (rB, bkE cF cS bA cE cM cV)] ++ pl) := hD
  refine W.widen (k := 1) (n := 400) (by first | omega | exact Nat.le_of_ble_eq_true rfl) (by first | omega | exact Nat.le_of_ble_eq_true rfl) ?_
  refine lv_iconst (v := (nI 1)) hx hb d_Al_add_1_23 (by decide) ?_
  refine W.eq (g2 := F0 m 24 ls [.int (zb true)]) rfl ?_
  have hP9 := va_P.part (cx := [(h0, zoAl qn_1 (n + 1) (am + 1)), (qn_1, zaQ (cT 3) (max 10 (n + 1)) (va_up (fun _ => none) n (some rB))), (rB, bkE cF cS bA cE cM cV)]) hP [0, 1, 2] rfl
  have hD9 := va_D.part (cx := [(h0, zoAl qn_1 (n + 1) (am + 1)), (qn_1, zaQ (cT 3) (max 10 (n + 1)) (va_up (fun _ => none) n (some rB))), (rB, bkE cF cS bA cE cM cV)]) hD [0, 1, 2] (by decide) rfl
  exact W.zret hx hb hr (zb_narrow _) (fun t ht hW => ⟨⟨qn_1, trivial, rfl, by rw [ht]; exact hP9, hD9⟩, hS.F ht⟩) hS.2.2 d_Al_add_1_24
