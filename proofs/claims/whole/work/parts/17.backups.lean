set_option maxHeartbeats 4000000 in
set_option maxRecDepth 100000 in
theorem c_Bs_giveUp (l : Launch) (dC : Nat → ClassId) (dI : Nat → Nat → Nat) (cT : Nat → ClassId) (sz : Nat) (h0 : Nat) (bQ : Nat) (aL : Nat) (oK : Nat) (fK : Nat) (rv : Value) : Met l y_Bs_giveUp w_Bs_giveUp ({ frames := 0, cells := 0, slots := 0, locals := 0 } : Room) (zPre (dC, dI) vwCl (zT cT) [.ref h0] ([(h0, zoBs bQ aL rv oK fK)]) sz) (zQ (dC, dI) vwCl (S := Unit) (fun zu => True) (fun zu => none) (fun zu => [(h0, zoBs bQ aL .null oK fK)]) (va_A ([(h0, zoBs bQ aL rv oK fK)]) sz)) 0 0 (va_A ([(h0, zoBs bQ aL rv oK fK)]) sz) := by
  refine Met.ofW (cc := b_Bs_giveUp) (maxL := 1) (ret := none) (by decide) rfl ?_
  intro p e s m args below meth c s₁ B hml hv
  obtain ⟨rfl, hsz, hP, hK, hD0, hE⟩ := hv
  have hx := B.exec
  have hb := B.bytes
  have hr := B.returns
  have hts := fun w h => atoms_spec (ws := w_Bs_giveUp) B.pre w (List.mem_cons_of_mem _ h)
  have hown : s.vm.findClass R_Bs = some m.cls := findClass_of_methodNamed B.named
  have hlocks := B.notSynchronized
  subst hsz
  have hD := hD0.self (sz := s.heap.size)
  generalize hAe : va_A ([(h0, zoBs bQ aL rv oK fK)]) s.heap.size = A at hD ⊢
  have hA : ∀ q : Nat, s.heap.size ≤ q → A q := fun q h => by rw [← hAe]; exact Or.inr h
  have hS : va_S A s.heap s.heap [] := va_S.rf
  have hl := lv_entry ([.ref h0]) (n := 1) (Nat.le_of_ble_eq_true rfl)
  rw [lg_entry_eq]
  generalize (lg_sl ([.ref h0]) ++ List.replicate (1 - (lg_sl ([.ref h0])).length) Slot.unset).toArray = ls at hl ⊢
  have hl : lv_has ls 1 [(0, .ref h0)] := hl
  refine lv_aload_n hx hb d_Bs_giveUp_0 rfl (lv_at hl 0 rfl) ?_
  refine lv_null hx hb d_Bs_giveUp_1 ?_
  refine va_put (D := (dC, dI)) (ci := 5) (v := .null) (ty := (.object "PageRescue$Backup")) (C := R_Bs) (T := F_Bs) (N := 5) hx hb hts i_Bs t_Bs t_Bs_ok n_Bs hown hK hP hD hS 0 rfl rfl 2 (by decide) (hts _ wd_138) (fun _ h9 => h9) rfl (by decide +kernel) rfl rfl (Nat.le_of_ble_eq_true rfl) d_Bs_giveUp_2 (fun H locs hP hD hS => ?_)
  have hP : va_P (dC, dI) vwCl ([(h0, zoBs bQ aL .null oK fK)]) H := hP
  have hD : va_D A ([(h0, zoBs bQ aL .null oK fK)]) := hD
  have hP9 := hP.sub (ws' := [(h0, zoBs bQ aL .null oK fK)]) [0] rfl
  have hD9 := hD.sub (ws' := [(h0, zoBs bQ aL .null oK fK)]) [0] (by decide) rfl
  exact W.vret hx hb hr (fun t ht hW => ⟨⟨(), trivial, rfl, by rw [ht]; exact hP9, hD9⟩, hS.F ht⟩) hS.2.2 d_Bs_giveUp_5
set_option maxHeartbeats 4000000 in
set_option maxRecDepth 100000 in
theorem c_Bs_init (l : Launch) (dC : Nat → ClassId) (dI : Nat → Nat → Nat) (cT : Nat → ClassId) (sz : Nat) (tE : Nat) (mi : Nat) (h0 : Nat) (bQ : Nat) : Met l y_Bs_init w_Bs_init ({ frames := 4, cells := 1, slots := 3, locals := 80 } : Room) (zPreS (dC, dI) vwCl (zT cT) [.ref h0, .int (nI bQ)] ([(h0, .inr (5, [.int (nI 0), .null, .null, .int (nI 0), .int (nI 0)]))]) sz tE mi) (zQ (dC, dI) vwCl (S := Nat) (fun zu => True) (fun zu => none) (fun zu => [(h0, zoBs bQ zu .null 1 0), (zu, zoAl tE 0 0)]) (va_A ([(h0, .inr (5, [.int (nI 0), .null, .null, .int (nI 0), .int (nI 0)]))]) sz)) 1 3 (va_A ([(h0, .inr (5, [.int (nI 0), .null, .null, .int (nI 0), .int (nI 0)]))]) sz) := by
  refine Met.ofW (cc := b_Bs_init) (maxL := 2) (ret := none) (by decide) rfl ?_
  intro p e s m args below meth c s₁ B hml hv
  obtain ⟨⟨rfl, hsz, hP, hK, hD0, hE⟩, hZ⟩ := hv
  have hx := B.exec
  have hb := B.bytes
  have hr := B.returns
  have hts := fun w h => atoms_spec (ws := w_Bs_init) B.pre w (List.mem_cons_of_mem _ h)
  have hown : s.vm.findClass R_Bs = some m.cls := findClass_of_methodNamed B.named
  have hlocks := B.notSynchronized
  have hin : meth.name = "<init>" := (name_of_methodNamed B.named B.method).1
  subst hsz
  have hD := hD0.self (sz := s.heap.size)
  generalize hAe : va_A ([(h0, .inr (5, [.int (nI 0), .null, .null, .int (nI 0), .int (nI 0)]))]) s.heap.size = A at hD hZ ⊢
  have hA : ∀ q : Nat, s.heap.size ≤ q → A q := fun q h => by rw [← hAe]; exact Or.inr h
  have hS : va_S A s.heap s.heap [] := va_S.rf
  have hl := lv_entry ([.ref h0, .int (nI bQ)]) (n := 2) (Nat.le_of_ble_eq_true rfl)
  rw [lg_entry_eq]
  generalize (lg_sl ([.ref h0, .int (nI bQ)]) ++ List.replicate (2 - (lg_sl ([.ref h0, .int (nI bQ)])).length) Slot.unset).toArray = ls at hl ⊢
  have hl : lv_has ls 2 [(0, .ref h0), (1, .int (nI bQ))] := hl
  refine lv_aload_n hx hb d_Bs_init_0 rfl (lv_at hl 0 rfl) ?_
  refine W.objInit hx hb hown (hts _ wd_109) (hts _ wd_23) (hts _ wd_24) rfl (by rw [hml]; exact hl.1) rfl d_Bs_init_1 (Nat.le_of_ble_eq_true rfl) (Nat.le_of_ble_eq_true rfl) ?_
  refine W.eq (g2 := F0 m 4 ls []) rfl ?_
  refine lv_aload_n hx hb d_Bs_init_4 rfl (lv_at hl 0 rfl) ?_
  refine va_new (ci := 7) (fs := [.null, .int (nI 0), .int (nI 0)]) (C := R_Al) (T := F_Al) (N := 3) hx hb hts i_Al t_Al t_Al_ok hown (hts _ wd_110) (hts _ wd_111) (hts _ wd_10) hK hP hD hS hA rfl (fun j hj => by rcases (show j = 0 ∨ j = 1 ∨ j = 2 by omega) with rfl | rfl | rfl <;> rfl) (Nat.le_of_ble_eq_true rfl) (Nat.le_of_ble_eq_true rfl) d_Bs_init_5 (fun q_1 H hP hD hS => ?_)
  refine W.widen (k := 1) (n := 3) (by first | omega | exact Nat.le_of_ble_eq_true rfl) (by first | omega | exact Nat.le_of_ble_eq_true rfl) ?_
  have hP : va_P (dC, dI) vwCl ([(h0, .inr (5, [.int (nI 0), .null, .null, .int (nI 0), .int (nI 0)])), (q_1, .inr (7, [.null, .int (nI 0), .int (nI 0)]))]) H := hP
  have hD : va_D A ([(h0, .inr (5, [.int (nI 0), .null, .null, .int (nI 0), .int (nI 0)])), (q_1, .inr (7, [.null, .int (nI 0), .int (nI 0)]))]) := hD
  refine lv_dup hx hb d_Bs_init_8 rfl ?_
  refine zw_Q (X := [(h0, .inr (5, [.int (nI 0), .null, .null, .int (nI 0), .int (nI 0)])), (q_1, .inr (7, [.null, .int (nI 0), .int (nI 0)]))]) (pl := []) (va_runI (As := []) (rest := [.ref q_1, .ref h0]) ⟨hx, hb, hml, hown, hts⟩ (c_Al_init l dC dI cT H.size tE mi q_1 0 0 .null) (cwI 0 hts (zgI wd_114) rfl rfl rfl (hts _ wd_10) (hts _ wd_112) (hts _ wd_113) rfl (by decide +kernel) ⟨Nat.le_of_ble_eq_true rfl, Nat.le_of_ble_eq_true rfl⟩) ⟨zPreS_blind, zp_QS (X := [(h0, .inr (5, [.int (nI 0), .null, .null, .int (nI 0), .int (nI 0)])), (q_1, .inr (7, [.null, .int (nI 0), .int (nI 0)]))]) (pl := []) hK hE hZ hS hA hP hD [1] (by decide) rfl⟩ rfl rfl hl.1 rfl (lv_room (Nat.le_of_ble_eq_true rfl)) d_Bs_init_9 ⟨Nat.le_of_ble_eq_true rfl, Nat.le_of_ble_eq_true rfl⟩) hP hD hS hA [1] [0] rfl (wr := [(h0, .inr (5, [.int (nI 0), .null, .null, .int (nI 0), .int (nI 0)]))]) rfl (by decide) (by decide) (fun zu => [.ref q_1, .ref h0]) (fun _ => rfl) (fun zu H locs hφ hP hD hS => ?_)
  have hP : va_P (dC, dI) vwCl ([(h0, .inr (5, [.int (nI 0), .null, .null, .int (nI 0), .int (nI 0)])), (q_1, zoAl tE 0 0)]) H := hP
  have hD : va_D A ([(h0, .inr (5, [.int (nI 0), .null, .null, .int (nI 0), .int (nI 0)])), (q_1, zoAl tE 0 0)]) := hD
  refine va_putF (D := (dC, dI)) (ci := 5) (v := .ref q_1) (ty := (.object "java/util/ArrayList")) (C := R_Bs) (T := F_Bs) (N := 5) hx hb hts i_Bs t_Bs t_Bs_ok n_Bs hown hK hP hD hS 0 rfl rfl 1 (by decide) (hts _ wd_137) (fun _ h9 => h9) rfl hin rfl (by decide +kernel) rfl rfl (Nat.le_of_ble_eq_true rfl) d_Bs_init_12 (fun H locs hP hD hS => ?_)
  have hP : va_P (dC, dI) vwCl ([(h0, zoBs 0 q_1 .null 0 0), (q_1, zoAl tE 0 0)]) H := hP
  have hD : va_D A ([(h0, zoBs 0 q_1 .null 0 0), (q_1, zoAl tE 0 0)]) := hD
  refine lv_aload_n hx hb d_Bs_init_15 rfl (lv_at hl 0 rfl) ?_
  refine lv_null hx hb d_Bs_init_16 ?_
  refine va_put (D := (dC, dI)) (ci := 5) (v := .null) (ty := (.object "PageRescue$Backup")) (C := R_Bs) (T := F_Bs) (N := 5) hx hb hts i_Bs t_Bs t_Bs_ok n_Bs hown hK hP hD hS 0 rfl rfl 2 (by decide) (hts _ wd_138) (fun _ h9 => h9) rfl (by decide +kernel) rfl rfl (Nat.le_of_ble_eq_true rfl) d_Bs_init_17 (fun H locs hP hD hS => ?_)
  have hP : va_P (dC, dI) vwCl ([(h0, zoBs 0 q_1 .null 0 0), (q_1, zoAl tE 0 0)]) H := hP
  have hD : va_D A ([(h0, zoBs 0 q_1 .null 0 0), (q_1, zoAl tE 0 0)]) := hD
  refine lv_aload_n hx hb d_Bs_init_20 rfl (lv_at hl 0 rfl) ?_
  refine lv_iconst (v := (nI 1)) hx hb d_Bs_init_21 (by decide) ?_
  refine va_put (D := (dC, dI)) (ci := 5) (v := .int (nI 1)) (ty := .int) (C := R_Bs) (T := F_Bs) (N := 5) hx hb hts i_Bs t_Bs t_Bs_ok n_Bs hown hK hP hD hS 0 rfl rfl 3 (by decide) (hts _ wd_139) (fun _ h9 => h9) rfl (by decide +kernel) rfl rfl (Nat.le_of_ble_eq_true rfl) d_Bs_init_22 (fun H locs hP hD hS => ?_)
  have hP : va_P (dC, dI) vwCl ([(h0, zoBs 0 q_1 .null 1 0), (q_1, zoAl tE 0 0)]) H := hP
  have hD : va_D A ([(h0, zoBs 0 q_1 .null 1 0), (q_1, zoAl tE 0 0)]) := hD
  refine lv_aload_n hx hb d_Bs_init_25 rfl (lv_at hl 0 rfl) ?_
  refine lv_iconst (v := (nI 0)) hx hb d_Bs_init_26 (by decide) ?_
  refine va_put (D := (dC, dI)) (ci := 5) (v := .int (nI 0)) (ty := .int) (C := R_Bs) (T := F_Bs) (N := 5) hx hb hts i_Bs t_Bs t_Bs_ok n_Bs hown hK hP hD hS 0 rfl rfl 4 (by decide) (hts _ wd_140) (fun _ h9 => h9) rfl (by decide +kernel) rfl rfl (Nat.le_of_ble_eq_true rfl) d_Bs_init_27 (fun H locs hP hD hS => ?_)
  have hP : va_P (dC, dI) vwCl ([(h0, zoBs 0 q_1 .null 1 0), (q_1, zoAl tE 0 0)]) H := hP
  have hD : va_D A ([(h0, zoBs 0 q_1 .null 1 0), (q_1, zoAl tE 0 0)]) := hD
  refine lv_aload_n hx hb d_Bs_init_30 rfl (lv_at hl 0 rfl) ?_
  refine lv_iload_n hx hb d_Bs_init_31 rfl (lv_at hl 1 rfl) ?_
  refine va_putF (D := (dC, dI)) (ci := 5) (v := .int (nI bQ)) (ty := .int) (C := R_Bs) (T := F_Bs) (N := 5) hx hb hts i_Bs t_Bs t_Bs_ok n_Bs hown hK hP hD hS 0 rfl rfl 0 (by decide) (hts _ wd_136) (fun _ h9 => h9) rfl hin rfl (by decide +kernel) rfl rfl (Nat.le_of_ble_eq_true rfl) d_Bs_init_32 (fun H locs hP hD hS => ?_)
  have hP : va_P (dC, dI) vwCl ([(h0, zoBs bQ q_1 .null 1 0), (q_1, zoAl tE 0 0)]) H := hP
  have hD : va_D A ([(h0, zoBs bQ q_1 .null 1 0), (q_1, zoAl tE 0 0)]) := hD
  have hP9 := hP.sub (ws' := [(h0, zoBs bQ q_1 .null 1 0), (q_1, zoAl tE 0 0)]) [0, 1] rfl
  have hD9 := hD.sub (ws' := [(h0, zoBs bQ q_1 .null 1 0), (q_1, zoAl tE 0 0)]) [0, 1] (by decide) rfl
  exact W.vret hx hb hr (fun t ht hW => ⟨⟨q_1, trivial, rfl, by rw [ht]; exact hP9, hD9⟩, hS.F ht⟩) hS.2.2 d_Bs_init_35
set_option maxHeartbeats 4000000 in
set_option maxRecDepth 100000 in
theorem c_Bs_start_run (l : Launch) (dC : Nat → ClassId) (dI : Nat → Nat → Nat) (cT : Nat → ClassId) (sz : Nat) (h0 : Nat) (bQ : Nat) (aL : Nat) (oK : Nat) (fK : Nat) (rB : Nat) (k : Nat) (b : Bool) : Met l y_Bs_start w_Bs_start ({ frames := 0, cells := 0, slots := 0, locals := 0 } : Room) (zPre (dC, dI) vwCl (zT cT) [.ref h0, .int (zb b), .int (nI k)] ([(h0, zoBs bQ aL (.ref rB) oK fK)]) sz) (zQ (dC, dI) vwCl (S := Unit) (fun zu => True) (fun zu => some (.int (-1))) (fun zu => [(h0, zoBs bQ aL (.ref rB) oK fK)]) (va_A ([(h0, zoBs bQ aL (.ref rB) oK fK)]) sz)) 0 0 (va_A ([(h0, zoBs bQ aL (.ref rB) oK fK)]) sz) := by
  refine Met.ofW (cc := b_Bs_start) (maxL := 3) (ret := (some .int)) (by decide) rfl ?_
  intro p e s m args below meth c s₁ B hml hv
  obtain ⟨rfl, hsz, hP, hK, hD0, hE⟩ := hv
  have hx := B.exec
  have hb := B.bytes
  have hr := B.returns
  have hts := fun w h => atoms_spec (ws := w_Bs_start) B.pre w (List.mem_cons_of_mem _ h)
  have hown : s.vm.findClass R_Bs = some m.cls := findClass_of_methodNamed B.named
  have hlocks := B.notSynchronized
  subst hsz
  have hD := hD0.self (sz := s.heap.size)
  generalize hAe : va_A ([(h0, zoBs bQ aL (.ref rB) oK fK)]) s.heap.size = A at hD ⊢
  have hA : ∀ q : Nat, s.heap.size ≤ q → A q := fun q h => by rw [← hAe]; exact Or.inr h
  have hS : va_S A s.heap s.heap [] := va_S.rf
  have hl := lv_entry ([.ref h0, .int (zb b), .int (nI k)]) (n := 3) (Nat.le_of_ble_eq_true rfl)
  rw [lg_entry_eq]
  generalize (lg_sl ([.ref h0, .int (zb b), .int (nI k)]) ++ List.replicate (3 - (lg_sl ([.ref h0, .int (zb b), .int (nI k)])).length) Slot.unset).toArray = ls at hl ⊢
  have hl : lv_has ls 3 [(0, .ref h0), (1, .int (zb b)), (2, .int (nI k))] := hl
  refine lv_aload_n hx hb d_Bs_start_0 rfl (lv_at hl 0 rfl) ?_
  refine va_get (D := (dC, dI)) (ci := 5) (v := .ref rB) (C := R_Bs) (T := F_Bs) (N := 5) hx hb hts i_Bs hown hK hP 0 rfl rfl 2 (by decide) (hts _ wd_138) (fun _ h9 => h9) rfl d_Bs_start_1 ?_
  refine lv_ifnonnull (tgt := 28) hx hb d_Bs_start_4 (by decide) ?_
  refine lv_iconst (v := (-1)) hx hb d_Bs_start_28 (by decide) ?_
  have hP9 := hP.sub (ws' := [(h0, zoBs bQ aL (.ref rB) oK fK)]) [0] rfl
  have hD9 := hD.sub (ws' := [(h0, zoBs bQ aL (.ref rB) oK fK)]) [0] (by decide) rfl
  exact W.iret hx hb hr (fun t ht hW => ⟨⟨(), trivial, rfl, by rw [ht]; exact hP9, hD9⟩, hS.F ht⟩) hS.2.2 d_Bs_start_29
set_option maxHeartbeats 4000000 in
set_option maxRecDepth 100000 in
theorem c_Bs_start_ref (l : Launch) (dC : Nat → ClassId) (dI : Nat → Nat → Nat) (cT : Nat → ClassId) (sz : Nat) (h0 : Nat) (bQ : Nat) (aL : Nat) (oK : Nat) (fK : Nat) (k : Nat) (b : Bool) (hbf : b = false) (hz : fK = 0) : Met l y_Bs_start w_Bs_start ({ frames := 0, cells := 0, slots := 0, locals := 0 } : Room) (zPre (dC, dI) vwCl (zT cT) [.ref h0, .int (zb b), .int (nI k)] ([(h0, zoBs bQ aL .null oK fK)]) sz) (zQ (dC, dI) vwCl (S := Unit) (fun zu => True) (fun zu => some (.int (-1))) (fun zu => [(h0, zoBs bQ aL .null oK fK)]) (va_A ([(h0, zoBs bQ aL .null oK fK)]) sz)) 0 0 (va_A ([(h0, zoBs bQ aL .null oK fK)]) sz) := by
  refine Met.ofW (cc := b_Bs_start) (maxL := 3) (ret := (some .int)) (by decide) rfl ?_
  intro p e s m args below meth c s₁ B hml hv
  obtain ⟨rfl, hsz, hP, hK, hD0, hE⟩ := hv
  have hx := B.exec
  have hb := B.bytes
  have hr := B.returns
  have hts := fun w h => atoms_spec (ws := w_Bs_start) B.pre w (List.mem_cons_of_mem _ h)
  have hown : s.vm.findClass R_Bs = some m.cls := findClass_of_methodNamed B.named
  have hlocks := B.notSynchronized
  subst hsz
  have hD := hD0.self (sz := s.heap.size)
  generalize hAe : va_A ([(h0, zoBs bQ aL .null oK fK)]) s.heap.size = A at hD ⊢
  have hA : ∀ q : Nat, s.heap.size ≤ q → A q := fun q h => by rw [← hAe]; exact Or.inr h
  have hS : va_S A s.heap s.heap [] := va_S.rf
  have hl := lv_entry ([.ref h0, .int (zb b), .int (nI k)]) (n := 3) (Nat.le_of_ble_eq_true rfl)
  rw [lg_entry_eq]
  generalize (lg_sl ([.ref h0, .int (zb b), .int (nI k)]) ++ List.replicate (3 - (lg_sl ([.ref h0, .int (zb b), .int (nI k)])).length) Slot.unset).toArray = ls at hl ⊢
  have hl : lv_has ls 3 [(0, .ref h0), (1, .int (zb b)), (2, .int (nI k))] := hl
  refine lv_aload_n hx hb d_Bs_start_0 rfl (lv_at hl 0 rfl) ?_
  refine va_get (D := (dC, dI)) (ci := 5) (v := .null) (C := R_Bs) (T := F_Bs) (N := 5) hx hb hts i_Bs hown hK hP 0 rfl rfl 2 (by decide) (hts _ wd_138) (fun _ h9 => h9) rfl d_Bs_start_1 ?_
  refine lv_ifnonnullN hx hb d_Bs_start_4 ?_
  refine lv_iload_n hx hb d_Bs_start_7 rfl (lv_at hl 1 rfl) ?_
  refine zb_if_ne (tgt := 18) hx hb d_Bs_start_8 (by decide) (fun c_8 => absurd c_8 (by rw [hbf]; decide)) (fun c_8 => ?_)
  refine lv_aload_n hx hb d_Bs_start_11 rfl (lv_at hl 0 rfl) ?_
  refine va_get (D := (dC, dI)) (ci := 5) (v := .int (nI fK)) (C := R_Bs) (T := F_Bs) (N := 5) hx hb hts i_Bs hown hK hP 0 rfl rfl 4 (by decide) (hts _ wd_140) (fun _ h9 => h9) rfl d_Bs_start_12 ?_
  refine zn_if_eq (tgt := 28) hx hb (a := fK) (by omega) d_Bs_start_15 (by decide) (fun c_15 => ?_) (fun c_15 => absurd c_15 (by omega))
  refine lv_iconst (v := (-1)) hx hb d_Bs_start_28 (by decide) ?_
  have hP9 := hP.sub (ws' := [(h0, zoBs bQ aL .null oK fK)]) [0] rfl
  have hD9 := hD.sub (ws' := [(h0, zoBs bQ aL .null oK fK)]) [0] (by decide) rfl
  exact W.iret hx hb hr (fun t ht hW => ⟨⟨(), trivial, rfl, by rw [ht]; exact hP9, hD9⟩, hS.F ht⟩) hS.2.2 d_Bs_start_29
set_option maxHeartbeats 4000000 in
set_option maxRecDepth 100000 in
theorem c_Bs_start_ok (l : Launch) (dC : Nat → ClassId) (dI : Nat → Nat → Nat) (cT : Nat → ClassId) (sz : Nat) (h0 : Nat) (bQ : Nat) (aL : Nat) (oK : Nat) (fK : Nat) (ae : Nat) (n : Nat) (am : Nat) (k : Nat) (b : Bool) (hz : b = true ∨ ¬ fK = 0) (hn : n ≤ 255) (hf : fK < 2 ^ 30) : Met l y_Bs_start w_Bs_start ({ frames := 2, cells := 2, slots := 14, locals := 45 } : Room) (zPre (dC, dI) vwCl (zT cT) [.ref h0, .int (zb b), .int (nI k)] ([(h0, zoBs bQ aL .null oK fK), (aL, zoAl ae n am)]) sz) (zQ (dC, dI) vwCl (S := Nat × Nat) (fun zu => True) (fun zu => some (.int (nI 0))) (fun zu => [(h0, zoBs bQ aL (.ref zu.1) oK fK), (aL, zoAl ae n am), (zu.1, bkE b k zu.2 0 0 0), (zu.2, zaI (cT 0) 8 (zfill (fun _ => nI 0) (-1) 8))]) (va_A ([(h0, zoBs bQ aL .null oK fK), (aL, zoAl ae n am)]) sz)) 2 14 (va_A ([(h0, zoBs bQ aL .null oK fK), (aL, zoAl ae n am)]) sz) := by
  refine Met.ofW (cc := b_Bs_start) (maxL := 3) (ret := (some .int)) (by decide) rfl ?_
  intro p e s m args below meth c s₁ B hml hv
  obtain ⟨rfl, hsz, hP, hK, hD0, hE⟩ := hv
  have hx := B.exec
  have hb := B.bytes
  have hr := B.returns
  have hts := fun w h => atoms_spec (ws := w_Bs_start) B.pre w (List.mem_cons_of_mem _ h)
  have hown : s.vm.findClass R_Bs = some m.cls := findClass_of_methodNamed B.named
  have hlocks := B.notSynchronized
  subst hsz
  have hD := hD0.self (sz := s.heap.size)
  generalize hAe : va_A ([(h0, zoBs bQ aL .null oK fK), (aL, zoAl ae n am)]) s.heap.size = A at hD ⊢
  have hA : ∀ q : Nat, s.heap.size ≤ q → A q := fun q h => by rw [← hAe]; exact Or.inr h
  have hS : va_S A s.heap s.heap [] := va_S.rf
  have hl := lv_entry ([.ref h0, .int (zb b), .int (nI k)]) (n := 3) (Nat.le_of_ble_eq_true rfl)
  rw [lg_entry_eq]
  generalize (lg_sl ([.ref h0, .int (zb b), .int (nI k)]) ++ List.replicate (3 - (lg_sl ([.ref h0, .int (zb b), .int (nI k)])).length) Slot.unset).toArray = ls at hl ⊢
  have hl : lv_has ls 3 [(0, .ref h0), (1, .int (zb b)), (2, .int (nI k))] := hl
  refine lv_aload_n hx hb d_Bs_start_0 rfl (lv_at hl 0 rfl) ?_
  refine va_get (D := (dC, dI)) (ci := 5) (v := .null) (C := R_Bs) (T := F_Bs) (N := 5) hx hb hts i_Bs hown hK hP 0 rfl rfl 2 (by decide) (hts _ wd_138) (fun _ h9 => h9) rfl d_Bs_start_1 ?_
  refine lv_ifnonnullN hx hb d_Bs_start_4 ?_
  refine lv_iload_n hx hb d_Bs_start_7 rfl (lv_at hl 1 rfl) ?_
  refine zb_if_ne (tgt := 18) hx hb d_Bs_start_8 (by decide) (fun c_8 => ?_) (fun c_8 => ?_)
  · refine lv_aload_n hx hb d_Bs_start_18 rfl (lv_at hl 0 rfl) ?_
    refine zw_R (r := .int (nI n)) (va_runV (As := []) (rest := []) ⟨hx, hb, hml, hown, hts⟩ (c_Bs_howMany l dC dI cT h0 bQ aL oK fK .null ae n am) (cwV 0 hts (zgV wd_289 wd_290 wd_291 wd_7 wd_292) rfl rfl rfl (by decide +kernel) ⟨Nat.le_of_ble_eq_true rfl, Nat.le_of_ble_eq_true rfl⟩) ⟨zPreR_blind, va_recv hK hP (ci := 5) (q0 := 0) rfl rfl, zp_R hK hE (zSub (X := [(h0, zoBs bQ aL .null oK fK), (aL, zoAl ae n am)]) (pl := []) hP [0, 1] rfl)⟩ rfl rfl hl.1 rfl (lv_room (Nat.le_of_ble_eq_true rfl)) d_Bs_start_19 ⟨Nat.le_of_ble_eq_true rfl, Nat.le_of_ble_eq_true rfl⟩) ?_
    refine lv_sipush (v := (nI 256)) hx hb d_Bs_start_22 (by decide) ?_
    refine zn_icmp_ne (tgt := 30) hx hb (a := n) (b := 256) (by omega) (by omega) d_Bs_start_25 (by decide) (fun c_25 => ?_) (fun c_25 => absurd c_25 (by omega))
    refine lv_aload_n hx hb d_Bs_start_30 rfl (lv_at hl 0 rfl) ?_
    refine va_new (ci := 4) (fs := [.int (zb false), .int (nI 0), .null, .int (nI 0), .int (nI 0), .int (nI 0)]) (C := R_Bk) (T := F_Bk) (N := 6) hx hb hts i_Bk t_Bk t_Bk_ok hown (hts _ wd_297) (hts _ wd_298) (hts _ wd_12) hK hP hD hS hA rfl (fun j hj => by rcases (show j = 0 ∨ j = 1 ∨ j = 2 ∨ j = 3 ∨ j = 4 ∨ j = 5 by omega) with rfl | rfl | rfl | rfl | rfl | rfl <;> rfl) (Nat.le_of_ble_eq_true rfl) (Nat.le_of_ble_eq_true rfl) d_Bs_start_31 (fun q_1 H hP hD hS => ?_)
    refine W.widen (k := 1) (n := 6) (by first | omega | exact Nat.le_of_ble_eq_true rfl) (by first | omega | exact Nat.le_of_ble_eq_true rfl) ?_
    have hP : va_P (dC, dI) vwCl ([(h0, zoBs bQ aL .null oK fK), (aL, zoAl ae n am), (q_1, .inr (4, [.int (zb false), .int (nI 0), .null, .int (nI 0), .int (nI 0), .int (nI 0)]))]) H := hP
    have hD : va_D A ([(h0, zoBs bQ aL .null oK fK), (aL, zoAl ae n am), (q_1, .inr (4, [.int (zb false), .int (nI 0), .null, .int (nI 0), .int (nI 0), .int (nI 0)]))]) := hD
    refine lv_dup hx hb d_Bs_start_34 rfl ?_
    refine lv_iload_n hx hb d_Bs_start_35 rfl (lv_at hl 1 rfl) ?_
    refine lv_iload_n hx hb d_Bs_start_36 rfl (lv_at hl 2 rfl) ?_
    refine zw_Q (X := [(h0, zoBs bQ aL .null oK fK), (aL, zoAl ae n am), (q_1, .inr (4, [.int (zb false), .int (nI 0), .null, .int (nI 0), .int (nI 0), .int (nI 0)]))]) (pl := []) (va_runI (As := [.int (zb b), .int (nI k)]) (rest := [.ref q_1, .ref h0]) ⟨hx, hb, hml, hown, hts⟩ (c_Bk_init l dC dI cT H.size q_1 k b) (cwI 2 hts (zgI wd_301) rfl rfl rfl (hts _ wd_12) (hts _ wd_299) (hts _ wd_300) rfl (by decide +kernel) ⟨Nat.le_of_ble_eq_true rfl, Nat.le_of_ble_eq_true rfl⟩) ⟨zPre_blind, zp_Q (X := [(h0, zoBs bQ aL .null oK fK), (aL, zoAl ae n am), (q_1, .inr (4, [.int (zb false), .int (nI 0), .null, .int (nI 0), .int (nI 0), .int (nI 0)]))]) (pl := []) hK hE hP hD [2] (by decide) rfl⟩ rfl rfl hl.1 rfl (lv_room (Nat.le_of_ble_eq_true rfl)) d_Bs_start_37 ⟨Nat.le_of_ble_eq_true rfl, Nat.le_of_ble_eq_true rfl⟩) hP hD hS hA [2] [0, 1] rfl (wr := [(h0, zoBs bQ aL .null oK fK), (aL, zoAl ae n am)]) rfl (by decide) (by decide) (fun zu => [.ref q_1, .ref h0]) (fun _ => rfl) (fun zu H locs hφ hP hD hS => ?_)
    obtain ⟨bA_2, rfl⟩ : ∃ z, z = zu := ⟨_, rfl⟩
    have hP : va_P (dC, dI) vwCl ([(h0, zoBs bQ aL .null oK fK), (aL, zoAl ae n am), (q_1, bkE b k bA_2 0 0 0), (bA_2, zaI (cT 0) 8 (zfill (fun _ => nI 0) (-1) 8))]) H := hP
    have hD : va_D A ([(h0, zoBs bQ aL .null oK fK), (aL, zoAl ae n am), (q_1, bkE b k bA_2 0 0 0), (bA_2, zaI (cT 0) 8 (zfill (fun _ => nI 0) (-1) 8))]) := hD
    refine W.widen (k := 2) (n := 14) (by first | omega | exact Nat.le_of_ble_eq_true rfl) (by first | omega | exact Nat.le_of_ble_eq_true rfl) ?_
    refine va_put (D := (dC, dI)) (ci := 5) (v := .ref q_1) (ty := (.object "PageRescue$Backup")) (C := R_Bs) (T := F_Bs) (N := 5) hx hb hts i_Bs t_Bs t_Bs_ok n_Bs hown hK hP hD hS 0 rfl rfl 2 (by decide) (hts _ wd_138) (fun _ h9 => h9) rfl (by decide +kernel) rfl rfl (Nat.le_of_ble_eq_true rfl) d_Bs_start_40 (fun H locs hP hD hS => ?_)
    have hP : va_P (dC, dI) vwCl ([(h0, zoBs bQ aL (.ref q_1) oK fK), (aL, zoAl ae n am), (q_1, bkE b k bA_2 0 0 0), (bA_2, zaI (cT 0) 8 (zfill (fun _ => nI 0) (-1) 8))]) H := hP
    have hD : va_D A ([(h0, zoBs bQ aL (.ref q_1) oK fK), (aL, zoAl ae n am), (q_1, bkE b k bA_2 0 0 0), (bA_2, zaI (cT 0) 8 (zfill (fun _ => nI 0) (-1) 8))]) := hD
    refine lv_iconst (v := (nI 0)) hx hb d_Bs_start_43 (by decide) ?_
    have hP9 := hP.sub (ws' := [(h0, zoBs bQ aL (.ref q_1) oK fK), (aL, zoAl ae n am), (q_1, bkE b k bA_2 0 0 0), (bA_2, zaI (cT 0) 8 (zfill (fun _ => nI 0) (-1) 8))]) [0, 1, 2, 3] rfl
    have hD9 := hD.sub (ws' := [(h0, zoBs bQ aL (.ref q_1) oK fK), (aL, zoAl ae n am), (q_1, bkE b k bA_2 0 0 0), (bA_2, zaI (cT 0) 8 (zfill (fun _ => nI 0) (-1) 8))]) [0, 1, 2, 3] (by decide) rfl
    exact W.iret hx hb hr (fun t ht hW => ⟨⟨(q_1, bA_2), trivial, rfl, by rw [ht]; exact hP9, hD9⟩, hS.F ht⟩) hS.2.2 d_Bs_start_44
  · refine lv_aload_n hx hb d_Bs_start_11 rfl (lv_at hl 0 rfl) ?_
    refine va_get (D := (dC, dI)) (ci := 5) (v := .int (nI fK)) (C := R_Bs) (T := F_Bs) (N := 5) hx hb hts i_Bs hown hK hP 0 rfl rfl 4 (by decide) (hts _ wd_140) (fun _ h9 => h9) rfl d_Bs_start_12 ?_
    refine zn_if_eq (tgt := 28) hx hb (a := fK) (by omega) d_Bs_start_15 (by decide) (fun c_15 => ?_) (fun c_15 => ?_)
    · exact absurd hz (fun q => q.elim (fun q1 => by rw [c_8] at q1; exact absurd q1 (by decide)) (fun q2 => q2 c_15))
    · refine lv_aload_n hx hb d_Bs_start_18 rfl (lv_at hl 0 rfl) ?_
      refine zw_R (r := .int (nI n)) (va_runV (As := []) (rest := []) ⟨hx, hb, hml, hown, hts⟩ (c_Bs_howMany l dC dI cT h0 bQ aL oK fK .null ae n am) (cwV 0 hts (zgV wd_289 wd_290 wd_291 wd_7 wd_292) rfl rfl rfl (by decide +kernel) ⟨Nat.le_of_ble_eq_true rfl, Nat.le_of_ble_eq_true rfl⟩) ⟨zPreR_blind, va_recv hK hP (ci := 5) (q0 := 0) rfl rfl, zp_R hK hE (zSub (X := [(h0, zoBs bQ aL .null oK fK), (aL, zoAl ae n am)]) (pl := []) hP [0, 1] rfl)⟩ rfl rfl hl.1 rfl (lv_room (Nat.le_of_ble_eq_true rfl)) d_Bs_start_19 ⟨Nat.le_of_ble_eq_true rfl, Nat.le_of_ble_eq_true rfl⟩) ?_
      refine lv_sipush (v := (nI 256)) hx hb d_Bs_start_22 (by decide) ?_
      refine zn_icmp_ne (tgt := 30) hx hb (a := n) (b := 256) (by omega) (by omega) d_Bs_start_25 (by decide) (fun c_25 => ?_) (fun c_25 => absurd c_25 (by omega))
      refine lv_aload_n hx hb d_Bs_start_30 rfl (lv_at hl 0 rfl) ?_
      refine va_new (ci := 4) (fs := [.int (zb false), .int (nI 0), .null, .int (nI 0), .int (nI 0), .int (nI 0)]) (C := R_Bk) (T := F_Bk) (N := 6) hx hb hts i_Bk t_Bk t_Bk_ok hown (hts _ wd_297) (hts _ wd_298) (hts _ wd_12) hK hP hD hS hA rfl (fun j hj => by rcases (show j = 0 ∨ j = 1 ∨ j = 2 ∨ j = 3 ∨ j = 4 ∨ j = 5 by omega) with rfl | rfl | rfl | rfl | rfl | rfl <;> rfl) (Nat.le_of_ble_eq_true rfl) (Nat.le_of_ble_eq_true rfl) d_Bs_start_31 (fun q_3 H hP hD hS => ?_)
      refine W.widen (k := 1) (n := 6) (by first | omega | exact Nat.le_of_ble_eq_true rfl) (by first | omega | exact Nat.le_of_ble_eq_true rfl) ?_
      have hP : va_P (dC, dI) vwCl ([(h0, zoBs bQ aL .null oK fK), (aL, zoAl ae n am), (q_3, .inr (4, [.int (zb false), .int (nI 0), .null, .int (nI 0), .int (nI 0), .int (nI 0)]))]) H := hP
      have hD : va_D A ([(h0, zoBs bQ aL .null oK fK), (aL, zoAl ae n am), (q_3, .inr (4, [.int (zb false), .int (nI 0), .null, .int (nI 0), .int (nI 0), .int (nI 0)]))]) := hD
      refine lv_dup hx hb d_Bs_start_34 rfl ?_
      refine lv_iload_n hx hb d_Bs_start_35 rfl (lv_at hl 1 rfl) ?_
      refine lv_iload_n hx hb d_Bs_start_36 rfl (lv_at hl 2 rfl) ?_
      refine zw_Q (X := [(h0, zoBs bQ aL .null oK fK), (aL, zoAl ae n am), (q_3, .inr (4, [.int (zb false), .int (nI 0), .null, .int (nI 0), .int (nI 0), .int (nI 0)]))]) (pl := []) (va_runI (As := [.int (zb b), .int (nI k)]) (rest := [.ref q_3, .ref h0]) ⟨hx, hb, hml, hown, hts⟩ (c_Bk_init l dC dI cT H.size q_3 k b) (cwI 2 hts (zgI wd_301) rfl rfl rfl (hts _ wd_12) (hts _ wd_299) (hts _ wd_300) rfl (by decide +kernel) ⟨Nat.le_of_ble_eq_true rfl, Nat.le_of_ble_eq_true rfl⟩) ⟨zPre_blind, zp_Q (X := [(h0, zoBs bQ aL .null oK fK), (aL, zoAl ae n am), (q_3, .inr (4, [.int (zb false), .int (nI 0), .null, .int (nI 0), .int (nI 0), .int (nI 0)]))]) (pl := []) hK hE hP hD [2] (by decide) rfl⟩ rfl rfl hl.1 rfl (lv_room (Nat.le_of_ble_eq_true rfl)) d_Bs_start_37 ⟨Nat.le_of_ble_eq_true rfl, Nat.le_of_ble_eq_true rfl⟩) hP hD hS hA [2] [0, 1] rfl (wr := [(h0, zoBs bQ aL .null oK fK), (aL, zoAl ae n am)]) rfl (by decide) (by decide) (fun zu => [.ref q_3, .ref h0]) (fun _ => rfl) (fun zu H locs hφ hP hD hS => ?_)
      obtain ⟨bA_4, rfl⟩ : ∃ z, z = zu := ⟨_, rfl⟩
      have hP : va_P (dC, dI) vwCl ([(h0, zoBs bQ aL .null oK fK), (aL, zoAl ae n am), (q_3, bkE b k bA_4 0 0 0), (bA_4, zaI (cT 0) 8 (zfill (fun _ => nI 0) (-1) 8))]) H := hP
      have hD : va_D A ([(h0, zoBs bQ aL .null oK fK), (aL, zoAl ae n am), (q_3, bkE b k bA_4 0 0 0), (bA_4, zaI (cT 0) 8 (zfill (fun _ => nI 0) (-1) 8))]) := hD
      refine W.widen (k := 2) (n := 14) (by first | omega | exact Nat.le_of_ble_eq_true rfl) (by first | omega | exact Nat.le_of_ble_eq_true rfl) ?_
      refine va_put (D := (dC, dI)) (ci := 5) (v := .ref q_3) (ty := (.object "PageRescue$Backup")) (C := R_Bs) (T := F_Bs) (N := 5) hx hb hts i_Bs t_Bs t_Bs_ok n_Bs hown hK hP hD hS 0 rfl rfl 2 (by decide) (hts _ wd_138) (fun _ h9 => h9) rfl (by decide +kernel) rfl rfl (Nat.le_of_ble_eq_true rfl) d_Bs_start_40 (fun H locs hP hD hS => ?_)
      have hP : va_P (dC, dI) vwCl ([(h0, zoBs bQ aL (.ref q_3) oK fK), (aL, zoAl ae n am), (q_3, bkE b k bA_4 0 0 0), (bA_4, zaI (cT 0) 8 (zfill (fun _ => nI 0) (-1) 8))]) H := hP
      have hD : va_D A ([(h0, zoBs bQ aL (.ref q_3) oK fK), (aL, zoAl ae n am), (q_3, bkE b k bA_4 0 0 0), (bA_4, zaI (cT 0) 8 (zfill (fun _ => nI 0) (-1) 8))]) := hD
      refine lv_iconst (v := (nI 0)) hx hb d_Bs_start_43 (by decide) ?_
      have hP9 := hP.sub (ws' := [(h0, zoBs bQ aL (.ref q_3) oK fK), (aL, zoAl ae n am), (q_3, bkE b k bA_4 0 0 0), (bA_4, zaI (cT 0) 8 (zfill (fun _ => nI 0) (-1) 8))]) [0, 1, 2, 3] rfl
      have hD9 := hD.sub (ws' := [(h0, zoBs bQ aL (.ref q_3) oK fK), (aL, zoAl ae n am), (q_3, bkE b k bA_4 0 0 0), (bA_4, zaI (cT 0) 8 (zfill (fun _ => nI 0) (-1) 8))]) [0, 1, 2, 3] (by decide) rfl
      exact W.iret hx hb hr (fun t ht hW => ⟨⟨(q_3, bA_4), trivial, rfl, by rw [ht]; exact hP9, hD9⟩, hS.F ht⟩) hS.2.2 d_Bs_start_44
set_option maxHeartbeats 4000000 in
set_option maxRecDepth 100000 in
theorem c_Bs_dropOldest (l : Launch) (dC : Nat → ClassId) (dI : Nat → Nat → Nat) (cT : Nat → ClassId) (sz : Nat) (h0 : Nat) (bQ : Nat) (aL : Nat) (oK : Nat) (fK : Nat) (rv : Value) (ae : Nat) (n : Nat) (am : Nat) (cap : Nat) (pl : va_W) (ea : Nat → Option Nat) (ba : Nat → Nat) (ia : Nat → Nat) (bF : Nat → Bool) (bS : Nat → Nat) (bE : Nat → Nat) (bM : Nat → Nat) (bV : Nat → Nat) (im : Nat → Nat → Int32) (r : Nat) (hpo : zPo cT pl n ae cap ea ba ia bF bS bE bM bV im) (hn : n ≤ 257) (hf1 : 1 ≤ fK) (hf2 : fK < 2 ^ 30) (ho1 : 1 ≤ oK) (hr1 : oK + 1 ≤ r) (hr2 : r ≤ n) (hr3 : ∀ b, oK + 1 ≤ b → b < r → bF (b - 1) = false) (hr4 : r < n → bF (r - 1) = true) : Met l y_Bs_dropOldest w_Bs_dropOldest ({ frames := 4, cells := 0, slots := 0, locals := 85 } : Room) (zPre (dC, dI) vwCl (zT cT) [.ref h0] ([(h0, zoBs bQ aL rv oK fK), (aL, zoAl ae n am)] ++ pl) sz) (zQ (dC, dI) vwCl (S := Unit) (fun zu => True) (fun zu => none) (fun zu => [(h0, zoBs bQ aL rv r (fK - 1)), (aL, zoAl ae n am)] ++ pl) (va_A ([(h0, zoBs bQ aL rv oK fK), (aL, zoAl ae n am)] ++ pl) sz)) 0 0 (va_A ([(h0, zoBs bQ aL rv oK fK), (aL, zoAl ae n am)] ++ pl) sz) := by
  refine Met.ofW (cc := b_Bs_dropOldest) (maxL := 1) (ret := none) (by decide) rfl ?_
  intro p e s m args below meth c s₁ B hml hv
  obtain ⟨rfl, hsz, hP, hK, hD0, hE⟩ := hv
  have hx := B.exec
  have hb := B.bytes
  have hr := B.returns
  have hts := fun w h => atoms_spec (ws := w_Bs_dropOldest) B.pre w (List.mem_cons_of_mem _ h)
  have hown : s.vm.findClass R_Bs = some m.cls := findClass_of_methodNamed B.named
  have hlocks := B.notSynchronized
  subst hsz
  have hD := hD0.self (sz := s.heap.size)
  generalize hAe : va_A ([(h0, zoBs bQ aL rv oK fK), (aL, zoAl ae n am)] ++ pl) s.heap.size = A at hD ⊢
  have hA : ∀ q : Nat, s.heap.size ≤ q → A q := fun q h => by rw [← hAe]; exact Or.inr h
  have hS : va_S A s.heap s.heap [] := va_S.rf
  have hl := lv_entry ([.ref h0]) (n := 1) (Nat.le_of_ble_eq_true rfl)
  rw [lg_entry_eq]
  generalize (lg_sl ([.ref h0]) ++ List.replicate (1 - (lg_sl ([.ref h0])).length) Slot.unset).toArray = ls at hl ⊢
  have hl : lv_has ls 1 [(0, .ref h0)] := hl
  refine lv_aload_n hx hb d_Bs_dropOldest_0 rfl (lv_at hl 0 rfl) ?_
  refine lv_dup hx hb d_Bs_dropOldest_1 rfl ?_
  refine va_get (D := (dC, dI)) (ci := 5) (v := .int (nI fK)) (C := R_Bs) (T := F_Bs) (N := 5) hx hb hts i_Bs hown hK hP 0 rfl rfl 4 (by decide) (hts _ wd_140) (fun _ h9 => h9) rfl d_Bs_dropOldest_2 ?_
  refine lv_iconst (v := (nI 1)) hx hb d_Bs_dropOldest_5 (by decide) ?_
  refine zn_isub hx hb (by omega) d_Bs_dropOldest_6 ?_
  refine va_put (D := (dC, dI)) (ci := 5) (v := .int (nI (fK - 1))) (ty := .int) (C := R_Bs) (T := F_Bs) (N := 5) hx hb hts i_Bs t_Bs t_Bs_ok n_Bs hown hK hP hD hS 0 rfl rfl 4 (by decide) (hts _ wd_140) (fun _ h9 => h9) rfl (by decide +kernel) rfl rfl (Nat.le_of_ble_eq_true rfl) d_Bs_dropOldest_7 (fun H locs hP hD hS => ?_)
  have hP : va_P (dC, dI) vwCl ([(h0, zoBs bQ aL rv oK (fK - 1)), (aL, zoAl ae n am)] ++ pl) H := hP
  have hD : va_D A ([(h0, zoBs bQ aL rv oK (fK - 1)), (aL, zoAl ae n am)] ++ pl) := hD
  refine lv_aload_n hx hb d_Bs_dropOldest_10 rfl (lv_at hl 0 rfl) ?_
  refine lv_dup hx hb d_Bs_dropOldest_11 rfl ?_
  refine va_get (D := (dC, dI)) (ci := 5) (v := .int (nI oK)) (C := R_Bs) (T := F_Bs) (N := 5) hx hb hts i_Bs hown hK hP 0 rfl rfl 3 (by decide) (hts _ wd_139) (fun _ h9 => h9) rfl d_Bs_dropOldest_12 ?_
  refine lv_iconst (v := (nI 1)) hx hb d_Bs_dropOldest_15 (by decide) ?_
  refine zn_iadd hx hb d_Bs_dropOldest_16 ?_
  refine va_put (D := (dC, dI)) (ci := 5) (v := .int (nI (oK + 1))) (ty := .int) (C := R_Bs) (T := F_Bs) (N := 5) hx hb hts i_Bs t_Bs t_Bs_ok n_Bs hown hK hP hD hS 0 rfl rfl 3 (by decide) (hts _ wd_139) (fun _ h9 => h9) rfl (by decide +kernel) rfl rfl (Nat.le_of_ble_eq_true rfl) d_Bs_dropOldest_17 (fun H locs hP hD hS => ?_)
  have hP : va_P (dC, dI) vwCl ([(h0, zoBs bQ aL rv (oK + 1) (fK - 1)), (aL, zoAl ae n am)] ++ pl) H := hP
  have hD : va_D A ([(h0, zoBs bQ aL rv (oK + 1) (fK - 1)), (aL, zoAl ae n am)] ++ pl) := hD
  have loop_20 : ∀ (fu : Nat) (i : Nat), r - i < fu → (oK + 1 ≤ i) → (i ≤ r) → ∀ (H : Heap) (locs : List Loc), va_P (dC, dI) vwCl ([(h0, zoBs bQ aL rv i (fK - 1)), (aL, zoAl ae n am)] ++ pl) H → va_D A ([(h0, zoBs bQ aL rv i (fK - 1)), (aL, zoAl ae n am)] ++ pl) → va_S A s.heap H locs → ∀ (ls : Array Slot), lv_has ls 1 [(0, .ref h0)] → W p l e (headSpec w_Bs_dropOldest ({ frames := 4, cells := 0, slots := 0, locals := 85 } : Room)).room s m ([.ref h0] : List Value).toArray below meth c H locs 0 0 (MQ below (zQ (dC, dI) vwCl (S := Unit) (fun zu => True) (fun zu => none) (fun zu => [(h0, zoBs bQ aL rv r (fK - 1)), (aL, zoAl ae n am)] ++ pl) A) ([.ref h0] : List Value).toArray s 0 0 A) (F0 m 20 ls []) := by
    intro fu
    induction fu with
    | zero => intro _ hm; exact absurd hm (Nat.not_lt_zero _)
    | succ fu ih_20 =>
      intro i hm_20 h1 h2 H locs hP hD hS ls hl
      refine lv_aload_n hx hb d_Bs_dropOldest_20 rfl (lv_at hl 0 rfl) ?_
      refine va_get (D := (dC, dI)) (ci := 5) (v := .int (nI i)) (C := R_Bs) (T := F_Bs) (N := 5) hx hb hts i_Bs hown hK hP 0 rfl rfl 3 (by decide) (hts _ wd_139) (fun _ h9 => h9) rfl d_Bs_dropOldest_21 ?_
      refine lv_aload_n hx hb d_Bs_dropOldest_24 rfl (lv_at hl 0 rfl) ?_
      refine zw_R (r := .int (nI n)) (va_runV (As := []) (rest := [.int (nI i)]) ⟨hx, hb, hml, hown, hts⟩ (c_Bs_howMany l dC dI cT h0 bQ aL i (fK - 1) rv ae n am) (cwV 0 hts (zgV wd_289 wd_290 wd_291 wd_7 wd_292) rfl rfl rfl (by decide +kernel) ⟨Nat.le_of_ble_eq_true rfl, Nat.le_of_ble_eq_true rfl⟩) ⟨zPreR_blind, va_recv hK hP (ci := 5) (q0 := 0) rfl rfl, zp_R hK hE (zSub (X := [(h0, zoBs bQ aL rv i (fK - 1)), (aL, zoAl ae n am)]) (pl := pl) hP [0, 1] rfl)⟩ rfl rfl hl.1 rfl (lv_room (Nat.le_of_ble_eq_true rfl)) d_Bs_dropOldest_25 ⟨Nat.le_of_ble_eq_true rfl, Nat.le_of_ble_eq_true rfl⟩) ?_
      refine zn_icmp_ge (tgt := 58) hx hb (a := i) (b := n) (by omega) (by omega) d_Bs_dropOldest_28 (by decide) (fun c_28 => ?_) (fun c_28 => ?_)
      · have hP9 := va_P.part (cx := [(h0, zoBs bQ aL rv i (fK - 1)), (aL, zoAl ae n am)]) hP [0, 1] rfl
        have hD9 := va_D.part (cx := [(h0, zoBs bQ aL rv i (fK - 1)), (aL, zoAl ae n am)]) hD [0, 1] (by decide) rfl
        have h7 : i = r := by omega
        rw [h7] at hP9 hD9
        exact W.vret hx hb hr (fun t ht hW => ⟨⟨(), trivial, rfl, by rw [ht]; exact hP9, hD9⟩, hS.F ht⟩) hS.2.2 d_Bs_dropOldest_58
      · refine lv_aload_n hx hb d_Bs_dropOldest_31 rfl (lv_at hl 0 rfl) ?_
        refine lv_aload_n hx hb d_Bs_dropOldest_32 rfl (lv_at hl 0 rfl) ?_
        refine va_get (D := (dC, dI)) (ci := 5) (v := .int (nI i)) (C := R_Bs) (T := F_Bs) (N := 5) hx hb hts i_Bs hown hK hP 0 rfl rfl 3 (by decide) (hts _ wd_139) (fun _ h9 => h9) rfl d_Bs_dropOldest_33 ?_
        refine zw_R (r := .ref (ba (i - 1))) (va_runV (As := [.int (nI i)]) (rest := []) ⟨hx, hb, hml, hown, hts⟩ (c_Bs_numbered l dC dI cT h0 bQ aL i (fK - 1) rv ae n am cap pl ea ba ia bF bS bE bM bV im i (by first | omega | assumption) (by first | omega | assumption) (by first | omega | assumption) (by first | omega | assumption)) (cwV 1 hts (zgV wd_351 wd_352 wd_353 wd_7 wd_354) rfl rfl rfl (by decide +kernel) ⟨Nat.le_of_ble_eq_true rfl, Nat.le_of_ble_eq_true rfl⟩) ⟨zPreR_blind, va_recv hK hP (ci := 5) (q0 := 0) rfl rfl, zp_R hK hE hP⟩ rfl rfl hl.1 rfl (lv_room (Nat.le_of_ble_eq_true rfl)) d_Bs_dropOldest_36 ⟨Nat.le_of_ble_eq_true rfl, Nat.le_of_ble_eq_true rfl⟩) ?_
        have hu_1 := hpo.1 (i - 1) (by omega)
        have hr_2 : va_P (dC, dI) vwCl [(ba (i - 1), bkE (bF (i - 1)) (bS (i - 1)) (ia (i - 1)) (bE (i - 1)) (bM (i - 1)) (bV (i - 1)))] H := zmem hP hu_1.1
        refine va_get (D := (dC, dI)) (ci := 4) (v := .int (zb (bF (i - 1)))) (C := R_Bk) (T := F_Bk) (N := 6) hx hb hts i_Bk hown hK hr_2 0 rfl rfl 0 (by decide) (hts _ wd_307) (fun _ h9 => h9) rfl d_Bs_dropOldest_39 ?_
        refine zb_if_ne (tgt := 58) hx hb d_Bs_dropOldest_42 (by decide) (fun c_42 => ?_) (fun c_42 => ?_)
        · have hP9 := va_P.part (cx := [(h0, zoBs bQ aL rv i (fK - 1)), (aL, zoAl ae n am)]) hP [0, 1] rfl
          have hD9 := va_D.part (cx := [(h0, zoBs bQ aL rv i (fK - 1)), (aL, zoAl ae n am)]) hD [0, 1] (by decide) rfl
          have h7 : i = r := by rcases Nat.lt_or_ge i r with q | q; exact absurd (hr3 i h1 q) (by rw [c_42]; decide); omega
          rw [h7] at hP9 hD9
          exact W.vret hx hb hr (fun t ht hW => ⟨⟨(), trivial, rfl, by rw [ht]; exact hP9, hD9⟩, hS.F ht⟩) hS.2.2 d_Bs_dropOldest_58
        · have h6 : i < r := by rcases Nat.lt_or_ge i r with q | q; exact q; exact absurd (hr4 (by omega)) (by rw [show r = i by omega, c_42]; decide)
          refine lv_aload_n hx hb d_Bs_dropOldest_45 rfl (lv_at hl 0 rfl) ?_
          refine lv_dup hx hb d_Bs_dropOldest_46 rfl ?_
          refine va_get (D := (dC, dI)) (ci := 5) (v := .int (nI i)) (C := R_Bs) (T := F_Bs) (N := 5) hx hb hts i_Bs hown hK hP 0 rfl rfl 3 (by decide) (hts _ wd_139) (fun _ h9 => h9) rfl d_Bs_dropOldest_47 ?_
          refine lv_iconst (v := (nI 1)) hx hb d_Bs_dropOldest_50 (by decide) ?_
          refine zn_iadd hx hb d_Bs_dropOldest_51 ?_
          refine va_put (D := (dC, dI)) (ci := 5) (v := .int (nI (i + 1))) (ty := .int) (C := R_Bs) (T := F_Bs) (N := 5) hx hb hts i_Bs t_Bs t_Bs_ok n_Bs hown hK hP hD hS 0 rfl rfl 3 (by decide) (hts _ wd_139) (fun _ h9 => h9) rfl (by decide +kernel) rfl rfl (Nat.le_of_ble_eq_true rfl) d_Bs_dropOldest_52 (fun H locs hP hD hS => ?_)
          have hP : va_P (dC, dI) vwCl ([(h0, zoBs bQ aL rv (i + 1) (fK - 1)), (aL, zoAl ae n am)] ++ pl) H := hP
          have hD : va_D A ([(h0, zoBs bQ aL rv (i + 1) (fK - 1)), (aL, zoAl ae n am)] ++ pl) := hD
          refine lv_goto (tgt := 20) hx hb d_Bs_dropOldest_55 (by decide) ?_
          exact ih_20 (i + 1) (by omega) (by first | omega | assumption) (by first | omega | assumption) H locs (va_P.part hP [0, 1] rfl) (va_D.part hD [0, 1] (by decide) rfl) hS ls (lv_sub hl [0] rfl)
  exact loop_20 (r - (oK + 1) + 1) (oK + 1) (by omega) (by first | omega | assumption) (by first | omega | assumption) H locs (va_P.part hP [0, 1] rfl) (va_D.part hD [0, 1] (by decide) rfl) hS ls (lv_sub hl [0] rfl)
