theorem nI_ne_m1 {n : Nat} (h : n < 2 ^ 31) : ¬ nI n = -1 := fun q => by
  have h1 := nI_toInt h
  rw [q, show (-1 : Int32).toInt = -1 from by decide] at h1
  omega
def zrd (f b : Nat → Nat) (n : Nat) : Nat → Nat := fun p => if p < n then b p else f p
theorem zrd_0 (f b : Nat → Nat) : zrd f b 0 = f := by
  funext p
  simp [zrd]
theorem zrd_s (f b : Nat → Nat) (i : Nat) : va_up (zrd f b i) i (b i) = zrd f b (i + 1) := by
  funext p
  simp only [va_up, zrd]
  by_cases h : p = i
  · subst h; simp
  · by_cases h2 : p < i
    · simp [h, h2, Nat.lt_succ_of_lt h2]
    · have h3 : ¬ p < i + 1 := by omega
      simp [h, h2, h3]
theorem zrd_lt {f b : Nat → Nat} {n p : Nat} (h : p < n) : zrd f b n p = b p := by simp [zrd, h]
set_option maxHeartbeats 4000000 in
set_option maxRecDepth 100000 in
theorem c_Pr_backup_run (l : Launch) (dC : Nat → ClassId) (dI : Nat → Nat → Nat) (cT : Nat → ClassId) (sz : Nat) (h0 : Nat) (pL : Nat) (pT : Nat) (pD : Nat) (pB : Nat) (pS : Nat) (pR : Nat) (so : Bool) (bQ : Nat) (aL : Nat) (oK : Nat) (fK : Nat) (lS : Nat) (aK : Nat) (aC : Nat) (aT : Nat) (aP : Nat) (lL : Nat) (lC : Nat) (lA : Nat) (lP : Nat) (rB : Nat) (b : Bool) : Met l y_Pr_backup w_Pr_backup ({ frames := 1, cells := 0, slots := 0, locals := 22 } : Room) (zPre (dC, dI) vwCl (zT cT) [.ref h0, .int (zb b)] ([(h0, zoPr pL pT pD pB pS so pR), (pB, zoBs bQ aL (.ref rB) oK fK), (pL, zoLg lS aK aC aT aP lL lC lA lP)]) sz) (zQ (dC, dI) vwCl (S := Unit) (fun zu => True) (fun zu => some (.int (-1))) (fun zu => [(h0, zoPr pL pT pD pB pS so pR), (pB, zoBs bQ aL (.ref rB) oK fK), (pL, zoLg lS aK aC aT aP lL lC lA lP)]) (va_A ([(h0, zoPr pL pT pD pB pS so pR), (pB, zoBs bQ aL (.ref rB) oK fK), (pL, zoLg lS aK aC aT aP lL lC lA lP)]) sz)) 0 0 (va_A ([(h0, zoPr pL pT pD pB pS so pR), (pB, zoBs bQ aL (.ref rB) oK fK), (pL, zoLg lS aK aC aT aP lL lC lA lP)]) sz) := by
  refine Met.ofW (cc := b_Pr_backup) (maxL := 2) (ret := (some .int)) (by decide) rfl ?_
  intro p e s m args below meth c s₁ B hml hv
  obtain ⟨rfl, hsz, hP, hK, hD0, hE⟩ := hv
  have hx := B.exec
  have hb := B.bytes
  have hr := B.returns
  have hts := fun w h => atoms_spec (ws := w_Pr_backup) B.pre w (List.mem_cons_of_mem _ h)
  have hown : s.vm.findClass R_Pr = some m.cls := findClass_of_methodNamed B.named
  have hlocks := B.notSynchronized
  subst hsz
  have hD := hD0.self (sz := s.heap.size)
  generalize hAe : va_A ([(h0, zoPr pL pT pD pB pS so pR), (pB, zoBs bQ aL (.ref rB) oK fK), (pL, zoLg lS aK aC aT aP lL lC lA lP)]) s.heap.size = A at hD ⊢
  have hA : ∀ q : Nat, s.heap.size ≤ q → A q := fun q h => by rw [← hAe]; exact Or.inr h
  have hS : va_S A s.heap s.heap [] := va_S.rf
  have hl := lv_entry ([.ref h0, .int (zb b)]) (n := 2) (Nat.le_of_ble_eq_true rfl)
  rw [lg_entry_eq]
  generalize (lg_sl ([.ref h0, .int (zb b)]) ++ List.replicate (2 - (lg_sl ([.ref h0, .int (zb b)])).length) Slot.unset).toArray = ls at hl ⊢
  have hl : lv_has ls 2 [(0, .ref h0), (1, .int (zb b))] := hl
  refine lv_aload_n hx hb d_Pr_backup_0 rfl (lv_at hl 0 rfl) ?_
  refine va_get (D := (dC, dI)) (ci := 0) (v := .ref pB) (C := R_Pr) (T := F_Pr) (N := 7) hx hb hts i_Pr hown hK hP 0 rfl rfl 3 (by decide) (hts _ wd_155) (fun _ h9 => h9) rfl d_Pr_backup_1 ?_
  refine lv_iload_n hx hb d_Pr_backup_4 rfl (lv_at hl 1 rfl) ?_
  refine lv_aload_n hx hb d_Pr_backup_5 rfl (lv_at hl 0 rfl) ?_
  refine va_get (D := (dC, dI)) (ci := 0) (v := .ref pL) (C := R_Pr) (T := F_Pr) (N := 7) hx hb hts i_Pr hown hK hP 0 rfl rfl 0 (by decide) (hts _ wd_152) (fun _ h9 => h9) rfl d_Pr_backup_6 ?_
  refine zw_R (r := .int (nI lL)) (va_runV (As := []) (rest := [.int (zb b), .ref pB]) ⟨hx, hb, hml, hown, hts⟩ (c_Lg_latest l dC dI cT pL lS aK aC aT aP lL lC lA lP) (cwV 0 hts (zgV wd_281 wd_282 wd_283 wd_4 wd_284) rfl rfl rfl (by decide +kernel) ⟨Nat.le_of_ble_eq_true rfl, Nat.le_of_ble_eq_true rfl⟩) ⟨zPreR_blind, va_recv hK hP (ci := 1) (q0 := 2) rfl rfl, zp_R hK hE (zSub (X := [(h0, zoPr pL pT pD pB pS so pR), (pB, zoBs bQ aL (.ref rB) oK fK), (pL, zoLg lS aK aC aT aP lL lC lA lP)]) (pl := []) hP [2] rfl)⟩ rfl rfl hl.1 rfl (lv_room (Nat.le_of_ble_eq_true rfl)) d_Pr_backup_9 ⟨Nat.le_of_ble_eq_true rfl, Nat.le_of_ble_eq_true rfl⟩) ?_
  refine zw_Q (X := [(h0, zoPr pL pT pD pB pS so pR), (pB, zoBs bQ aL (.ref rB) oK fK), (pL, zoLg lS aK aC aT aP lL lC lA lP)]) (pl := []) (va_runV (As := [.int (zb b), .int (nI lL)]) (rest := []) ⟨hx, hb, hml, hown, hts⟩ (c_Bs_start_run l dC dI cT s.heap.size pB bQ aL oK fK rB lL b) (cwV 2 hts (zgV wd_285 wd_286 wd_287 wd_7 wd_288) rfl rfl rfl (by decide +kernel) ⟨Nat.le_of_ble_eq_true rfl, Nat.le_of_ble_eq_true rfl⟩) ⟨zPre_blind, va_recv hK hP (ci := 5) (q0 := 1) rfl rfl, zp_Q (X := [(h0, zoPr pL pT pD pB pS so pR), (pB, zoBs bQ aL (.ref rB) oK fK), (pL, zoLg lS aK aC aT aP lL lC lA lP)]) (pl := []) hK hE hP hD [1] (by decide) rfl⟩ rfl rfl hl.1 rfl (lv_room (Nat.le_of_ble_eq_true rfl)) d_Pr_backup_12 ⟨Nat.le_of_ble_eq_true rfl, Nat.le_of_ble_eq_true rfl⟩) hP hD hS hA [1] [0, 2] rfl (wr := [(h0, zoPr pL pT pD pB pS so pR), (pL, zoLg lS aK aC aT aP lL lC lA lP)]) rfl (by decide) (by decide) (fun zu => [.int (-1)]) (fun _ => rfl) (fun zu H locs hφ hP hD hS => ?_)
  have hP : va_P (dC, dI) vwCl ([(h0, zoPr pL pT pD pB pS so pR), (pL, zoLg lS aK aC aT aP lL lC lA lP), (pB, zoBs bQ aL (.ref rB) oK fK)]) H := hP
  have hD : va_D A ([(h0, zoPr pL pT pD pB pS so pR), (pL, zoLg lS aK aC aT aP lL lC lA lP), (pB, zoBs bQ aL (.ref rB) oK fK)]) := hD
  have hP9 := hP.sub (ws' := [(h0, zoPr pL pT pD pB pS so pR), (pB, zoBs bQ aL (.ref rB) oK fK), (pL, zoLg lS aK aC aT aP lL lC lA lP)]) [0, 2, 1] rfl
  have hD9 := hD.sub (ws' := [(h0, zoPr pL pT pD pB pS so pR), (pB, zoBs bQ aL (.ref rB) oK fK), (pL, zoLg lS aK aC aT aP lL lC lA lP)]) [0, 2, 1] (by decide) rfl
  exact W.iret hx hb hr (fun t ht hW => ⟨⟨(), trivial, rfl, by rw [ht]; exact hP9, hD9⟩, hS.F ht⟩) hS.2.2 d_Pr_backup_15
set_option maxHeartbeats 4000000 in
set_option maxRecDepth 100000 in
theorem c_Pr_backup_ref (l : Launch) (dC : Nat → ClassId) (dI : Nat → Nat → Nat) (cT : Nat → ClassId) (sz : Nat) (h0 : Nat) (pL : Nat) (pT : Nat) (pD : Nat) (pB : Nat) (pS : Nat) (pR : Nat) (so : Bool) (bQ : Nat) (aL : Nat) (oK : Nat) (fK : Nat) (lS : Nat) (aK : Nat) (aC : Nat) (aT : Nat) (aP : Nat) (lL : Nat) (lC : Nat) (lA : Nat) (lP : Nat) (b : Bool) (hbf : b = false) (hz : fK = 0) : Met l y_Pr_backup w_Pr_backup ({ frames := 1, cells := 0, slots := 0, locals := 22 } : Room) (zPre (dC, dI) vwCl (zT cT) [.ref h0, .int (zb b)] ([(h0, zoPr pL pT pD pB pS so pR), (pB, zoBs bQ aL .null oK fK), (pL, zoLg lS aK aC aT aP lL lC lA lP)]) sz) (zQ (dC, dI) vwCl (S := Unit) (fun zu => True) (fun zu => some (.int (-1))) (fun zu => [(h0, zoPr pL pT pD pB pS so pR), (pB, zoBs bQ aL .null oK fK), (pL, zoLg lS aK aC aT aP lL lC lA lP)]) (va_A ([(h0, zoPr pL pT pD pB pS so pR), (pB, zoBs bQ aL .null oK fK), (pL, zoLg lS aK aC aT aP lL lC lA lP)]) sz)) 0 0 (va_A ([(h0, zoPr pL pT pD pB pS so pR), (pB, zoBs bQ aL .null oK fK), (pL, zoLg lS aK aC aT aP lL lC lA lP)]) sz) := by
  refine Met.ofW (cc := b_Pr_backup) (maxL := 2) (ret := (some .int)) (by decide) rfl ?_
  intro p e s m args below meth c s₁ B hml hv
  obtain ⟨rfl, hsz, hP, hK, hD0, hE⟩ := hv
  have hx := B.exec
  have hb := B.bytes
  have hr := B.returns
  have hts := fun w h => atoms_spec (ws := w_Pr_backup) B.pre w (List.mem_cons_of_mem _ h)
  have hown : s.vm.findClass R_Pr = some m.cls := findClass_of_methodNamed B.named
  have hlocks := B.notSynchronized
  subst hsz
  have hD := hD0.self (sz := s.heap.size)
  generalize hAe : va_A ([(h0, zoPr pL pT pD pB pS so pR), (pB, zoBs bQ aL .null oK fK), (pL, zoLg lS aK aC aT aP lL lC lA lP)]) s.heap.size = A at hD ⊢
  have hA : ∀ q : Nat, s.heap.size ≤ q → A q := fun q h => by rw [← hAe]; exact Or.inr h
  have hS : va_S A s.heap s.heap [] := va_S.rf
  have hl := lv_entry ([.ref h0, .int (zb b)]) (n := 2) (Nat.le_of_ble_eq_true rfl)
  rw [lg_entry_eq]
  generalize (lg_sl ([.ref h0, .int (zb b)]) ++ List.replicate (2 - (lg_sl ([.ref h0, .int (zb b)])).length) Slot.unset).toArray = ls at hl ⊢
  have hl : lv_has ls 2 [(0, .ref h0), (1, .int (zb b))] := hl
  refine lv_aload_n hx hb d_Pr_backup_0 rfl (lv_at hl 0 rfl) ?_
  refine va_get (D := (dC, dI)) (ci := 0) (v := .ref pB) (C := R_Pr) (T := F_Pr) (N := 7) hx hb hts i_Pr hown hK hP 0 rfl rfl 3 (by decide) (hts _ wd_155) (fun _ h9 => h9) rfl d_Pr_backup_1 ?_
  refine lv_iload_n hx hb d_Pr_backup_4 rfl (lv_at hl 1 rfl) ?_
  refine lv_aload_n hx hb d_Pr_backup_5 rfl (lv_at hl 0 rfl) ?_
  refine va_get (D := (dC, dI)) (ci := 0) (v := .ref pL) (C := R_Pr) (T := F_Pr) (N := 7) hx hb hts i_Pr hown hK hP 0 rfl rfl 0 (by decide) (hts _ wd_152) (fun _ h9 => h9) rfl d_Pr_backup_6 ?_
  refine zw_R (r := .int (nI lL)) (va_runV (As := []) (rest := [.int (zb b), .ref pB]) ⟨hx, hb, hml, hown, hts⟩ (c_Lg_latest l dC dI cT pL lS aK aC aT aP lL lC lA lP) (cwV 0 hts (zgV wd_281 wd_282 wd_283 wd_4 wd_284) rfl rfl rfl (by decide +kernel) ⟨Nat.le_of_ble_eq_true rfl, Nat.le_of_ble_eq_true rfl⟩) ⟨zPreR_blind, va_recv hK hP (ci := 1) (q0 := 2) rfl rfl, zp_R hK hE (zSub (X := [(h0, zoPr pL pT pD pB pS so pR), (pB, zoBs bQ aL .null oK fK), (pL, zoLg lS aK aC aT aP lL lC lA lP)]) (pl := []) hP [2] rfl)⟩ rfl rfl hl.1 rfl (lv_room (Nat.le_of_ble_eq_true rfl)) d_Pr_backup_9 ⟨Nat.le_of_ble_eq_true rfl, Nat.le_of_ble_eq_true rfl⟩) ?_
  refine zw_Q (X := [(h0, zoPr pL pT pD pB pS so pR), (pB, zoBs bQ aL .null oK fK), (pL, zoLg lS aK aC aT aP lL lC lA lP)]) (pl := []) (va_runV (As := [.int (zb b), .int (nI lL)]) (rest := []) ⟨hx, hb, hml, hown, hts⟩ (c_Bs_start_ref l dC dI cT s.heap.size pB bQ aL oK fK lL b (by first | omega | assumption) (by first | omega | assumption)) (cwV 2 hts (zgV wd_285 wd_286 wd_287 wd_7 wd_288) rfl rfl rfl (by decide +kernel) ⟨Nat.le_of_ble_eq_true rfl, Nat.le_of_ble_eq_true rfl⟩) ⟨zPre_blind, va_recv hK hP (ci := 5) (q0 := 1) rfl rfl, zp_Q (X := [(h0, zoPr pL pT pD pB pS so pR), (pB, zoBs bQ aL .null oK fK), (pL, zoLg lS aK aC aT aP lL lC lA lP)]) (pl := []) hK hE hP hD [1] (by decide) rfl⟩ rfl rfl hl.1 rfl (lv_room (Nat.le_of_ble_eq_true rfl)) d_Pr_backup_12 ⟨Nat.le_of_ble_eq_true rfl, Nat.le_of_ble_eq_true rfl⟩) hP hD hS hA [1] [0, 2] rfl (wr := [(h0, zoPr pL pT pD pB pS so pR), (pL, zoLg lS aK aC aT aP lL lC lA lP)]) rfl (by decide) (by decide) (fun zu => [.int (-1)]) (fun _ => rfl) (fun zu H locs hφ hP hD hS => ?_)
  have hP : va_P (dC, dI) vwCl ([(h0, zoPr pL pT pD pB pS so pR), (pL, zoLg lS aK aC aT aP lL lC lA lP), (pB, zoBs bQ aL .null oK fK)]) H := hP
  have hD : va_D A ([(h0, zoPr pL pT pD pB pS so pR), (pL, zoLg lS aK aC aT aP lL lC lA lP), (pB, zoBs bQ aL .null oK fK)]) := hD
  have hP9 := hP.sub (ws' := [(h0, zoPr pL pT pD pB pS so pR), (pB, zoBs bQ aL .null oK fK), (pL, zoLg lS aK aC aT aP lL lC lA lP)]) [0, 2, 1] rfl
  have hD9 := hD.sub (ws' := [(h0, zoPr pL pT pD pB pS so pR), (pB, zoBs bQ aL .null oK fK), (pL, zoLg lS aK aC aT aP lL lC lA lP)]) [0, 2, 1] (by decide) rfl
  exact W.iret hx hb hr (fun t ht hW => ⟨⟨(), trivial, rfl, by rw [ht]; exact hP9, hD9⟩, hS.F ht⟩) hS.2.2 d_Pr_backup_15
set_option maxHeartbeats 4000000 in
set_option maxRecDepth 100000 in
theorem c_Pr_backup_ok (l : Launch) (dC : Nat → ClassId) (dI : Nat → Nat → Nat) (cT : Nat → ClassId) (sz : Nat) (h0 : Nat) (pL : Nat) (pT : Nat) (pD : Nat) (pB : Nat) (pS : Nat) (pR : Nat) (so : Bool) (bQ : Nat) (aL : Nat) (oK : Nat) (fK : Nat) (lS : Nat) (aK : Nat) (aC : Nat) (aT : Nat) (aP : Nat) (lL : Nat) (lC : Nat) (lA : Nat) (lP : Nat) (ae : Nat) (n : Nat) (am : Nat) (b : Bool) (hz : b = true ∨ ¬ fK = 0) (hn : n ≤ 255) (hf : fK < 2 ^ 30) : Met l y_Pr_backup w_Pr_backup ({ frames := 3, cells := 2, slots := 14, locals := 67 } : Room) (zPre (dC, dI) vwCl (zT cT) [.ref h0, .int (zb b)] ([(h0, zoPr pL pT pD pB pS so pR), (pB, zoBs bQ aL .null oK fK), (aL, zoAl ae n am), (pL, zoLg lS aK aC aT aP lL lC lA lP)]) sz) (zQ (dC, dI) vwCl (S := Nat × Nat) (fun zu => True) (fun zu => some (.int (nI 0))) (fun zu => [(h0, zoPr pL pT pD pB pS so pR), (pB, zoBs bQ aL (.ref zu.1) oK fK), (aL, zoAl ae n am), (pL, zoLg lS aK aC aT aP lL lC lA lP), (zu.1, bkE b lL zu.2 0 0 0), (zu.2, zaI (cT 0) 8 (zfill (fun _ => nI 0) (-1) 8))]) (va_A ([(h0, zoPr pL pT pD pB pS so pR), (pB, zoBs bQ aL .null oK fK), (aL, zoAl ae n am), (pL, zoLg lS aK aC aT aP lL lC lA lP)]) sz)) 2 14 (va_A ([(h0, zoPr pL pT pD pB pS so pR), (pB, zoBs bQ aL .null oK fK), (aL, zoAl ae n am), (pL, zoLg lS aK aC aT aP lL lC lA lP)]) sz) := by
  refine Met.ofW (cc := b_Pr_backup) (maxL := 2) (ret := (some .int)) (by decide) rfl ?_
  intro p e s m args below meth c s₁ B hml hv
  obtain ⟨rfl, hsz, hP, hK, hD0, hE⟩ := hv
  have hx := B.exec
  have hb := B.bytes
  have hr := B.returns
  have hts := fun w h => atoms_spec (ws := w_Pr_backup) B.pre w (List.mem_cons_of_mem _ h)
  have hown : s.vm.findClass R_Pr = some m.cls := findClass_of_methodNamed B.named
  have hlocks := B.notSynchronized
  subst hsz
  have hD := hD0.self (sz := s.heap.size)
  generalize hAe : va_A ([(h0, zoPr pL pT pD pB pS so pR), (pB, zoBs bQ aL .null oK fK), (aL, zoAl ae n am), (pL, zoLg lS aK aC aT aP lL lC lA lP)]) s.heap.size = A at hD ⊢
  have hA : ∀ q : Nat, s.heap.size ≤ q → A q := fun q h => by rw [← hAe]; exact Or.inr h
  have hS : va_S A s.heap s.heap [] := va_S.rf
  have hl := lv_entry ([.ref h0, .int (zb b)]) (n := 2) (Nat.le_of_ble_eq_true rfl)
  rw [lg_entry_eq]
  generalize (lg_sl ([.ref h0, .int (zb b)]) ++ List.replicate (2 - (lg_sl ([.ref h0, .int (zb b)])).length) Slot.unset).toArray = ls at hl ⊢
  have hl : lv_has ls 2 [(0, .ref h0), (1, .int (zb b))] := hl
  refine lv_aload_n hx hb d_Pr_backup_0 rfl (lv_at hl 0 rfl) ?_
  refine va_get (D := (dC, dI)) (ci := 0) (v := .ref pB) (C := R_Pr) (T := F_Pr) (N := 7) hx hb hts i_Pr hown hK hP 0 rfl rfl 3 (by decide) (hts _ wd_155) (fun _ h9 => h9) rfl d_Pr_backup_1 ?_
  refine lv_iload_n hx hb d_Pr_backup_4 rfl (lv_at hl 1 rfl) ?_
  refine lv_aload_n hx hb d_Pr_backup_5 rfl (lv_at hl 0 rfl) ?_
  refine va_get (D := (dC, dI)) (ci := 0) (v := .ref pL) (C := R_Pr) (T := F_Pr) (N := 7) hx hb hts i_Pr hown hK hP 0 rfl rfl 0 (by decide) (hts _ wd_152) (fun _ h9 => h9) rfl d_Pr_backup_6 ?_
  refine zw_R (r := .int (nI lL)) (va_runV (As := []) (rest := [.int (zb b), .ref pB]) ⟨hx, hb, hml, hown, hts⟩ (c_Lg_latest l dC dI cT pL lS aK aC aT aP lL lC lA lP) (cwV 0 hts (zgV wd_281 wd_282 wd_283 wd_4 wd_284) rfl rfl rfl (by decide +kernel) ⟨Nat.le_of_ble_eq_true rfl, Nat.le_of_ble_eq_true rfl⟩) ⟨zPreR_blind, va_recv hK hP (ci := 1) (q0 := 3) rfl rfl, zp_R hK hE (zSub (X := [(h0, zoPr pL pT pD pB pS so pR), (pB, zoBs bQ aL .null oK fK), (aL, zoAl ae n am), (pL, zoLg lS aK aC aT aP lL lC lA lP)]) (pl := []) hP [3] rfl)⟩ rfl rfl hl.1 rfl (lv_room (Nat.le_of_ble_eq_true rfl)) d_Pr_backup_9 ⟨Nat.le_of_ble_eq_true rfl, Nat.le_of_ble_eq_true rfl⟩) ?_
  refine zw_Q (X := [(h0, zoPr pL pT pD pB pS so pR), (pB, zoBs bQ aL .null oK fK), (aL, zoAl ae n am), (pL, zoLg lS aK aC aT aP lL lC lA lP)]) (pl := []) (va_runV (As := [.int (zb b), .int (nI lL)]) (rest := []) ⟨hx, hb, hml, hown, hts⟩ (c_Bs_start_ok l dC dI cT s.heap.size pB bQ aL oK fK ae n am lL b (by first | omega | assumption) (by first | omega | assumption) (by first | omega | assumption)) (cwV 2 hts (zgV wd_285 wd_286 wd_287 wd_7 wd_288) rfl rfl rfl (by decide +kernel) ⟨Nat.le_of_ble_eq_true rfl, Nat.le_of_ble_eq_true rfl⟩) ⟨zPre_blind, va_recv hK hP (ci := 5) (q0 := 1) rfl rfl, zp_Q (X := [(h0, zoPr pL pT pD pB pS so pR), (pB, zoBs bQ aL .null oK fK), (aL, zoAl ae n am), (pL, zoLg lS aK aC aT aP lL lC lA lP)]) (pl := []) hK hE hP hD [1, 2] (by decide) rfl⟩ rfl rfl hl.1 rfl (lv_room (Nat.le_of_ble_eq_true rfl)) d_Pr_backup_12 ⟨Nat.le_of_ble_eq_true rfl, Nat.le_of_ble_eq_true rfl⟩) hP hD hS hA [1, 2] [0, 3] rfl (wr := [(h0, zoPr pL pT pD pB pS so pR), (pL, zoLg lS aK aC aT aP lL lC lA lP)]) rfl (by decide) (by decide) (fun zu => [.int (nI 0)]) (fun _ => rfl) (fun zu H locs hφ hP hD hS => ?_)
  obtain ⟨rB_1, rA_2⟩ := zu
  have hP : va_P (dC, dI) vwCl ([(h0, zoPr pL pT pD pB pS so pR), (pL, zoLg lS aK aC aT aP lL lC lA lP), (pB, zoBs bQ aL (.ref rB_1) oK fK), (aL, zoAl ae n am), (rB_1, bkE b lL rA_2 0 0 0), (rA_2, zaI (cT 0) 8 (zfill (fun _ => nI 0) (-1) 8))]) H := hP
  have hD : va_D A ([(h0, zoPr pL pT pD pB pS so pR), (pL, zoLg lS aK aC aT aP lL lC lA lP), (pB, zoBs bQ aL (.ref rB_1) oK fK), (aL, zoAl ae n am), (rB_1, bkE b lL rA_2 0 0 0), (rA_2, zaI (cT 0) 8 (zfill (fun _ => nI 0) (-1) 8))]) := hD
  refine W.widen (k := 2) (n := 14) (by first | omega | exact Nat.le_of_ble_eq_true rfl) (by first | omega | exact Nat.le_of_ble_eq_true rfl) ?_
  have hP9 := hP.sub (ws' := [(h0, zoPr pL pT pD pB pS so pR), (pB, zoBs bQ aL (.ref rB_1) oK fK), (aL, zoAl ae n am), (pL, zoLg lS aK aC aT aP lL lC lA lP), (rB_1, bkE b lL rA_2 0 0 0), (rA_2, zaI (cT 0) 8 (zfill (fun _ => nI 0) (-1) 8))]) [0, 2, 3, 1, 4, 5] rfl
  have hD9 := hD.sub (ws' := [(h0, zoPr pL pT pD pB pS so pR), (pB, zoBs bQ aL (.ref rB_1) oK fK), (aL, zoAl ae n am), (pL, zoLg lS aK aC aT aP lL lC lA lP), (rB_1, bkE b lL rA_2 0 0 0), (rA_2, zaI (cT 0) 8 (zfill (fun _ => nI 0) (-1) 8))]) [0, 2, 3, 1, 4, 5] (by decide) rfl
  exact W.iret hx hb hr (fun t ht hW => ⟨⟨(rB_1, rA_2), trivial, rfl, by rw [ht]; exact hP9, hD9⟩, hS.F ht⟩) hS.2.2 d_Pr_backup_15
set_option maxHeartbeats 4000000 in
set_option maxRecDepth 100000 in
theorem c_Pr_page_3 (l : Launch) (dC : Nat → ClassId) (dI : Nat → Nat → Nat) (cT : Nat → ClassId) (h0 : Nat) (pL : Nat) (pT : Nat) (pD : Nat) (pB : Nat) (pS : Nat) (pR : Nat) (so : Bool) (bQ : Nat) (aL : Nat) (oK : Nat) (fK : Nat) (rv : Value) (ae : Nat) (n : Nat) (am : Nat) (cap : Nat) (pl : va_W) (ea : Nat → Option Nat) (ba : Nat → Nat) (ia : Nat → Nat) (bF : Nat → Bool) (bS : Nat → Nat) (bE : Nat → Nat) (bM : Nat → Nat) (bV : Nat → Nat) (im : Nat → Nat → Int32) (pg : Nat) (hp : pg < 8) (hpo : zPo cT pl n ae cap ea ba ia bF bS bE bM bV im) (hn : n ≤ 257) (hok1 : 1 ≤ oK) (hok2 : oK ≤ n + 1) : Met l y_Pr_page w_Pr_page ({ frames := 5, cells := 0, slots := 0, locals := 108 } : Room) (zPreR (dC, dI) vwCl (zT cT) [.ref h0, .int (nI pg), .int (nI 3)] ([(h0, zoPr pL pT pD pB pS so pR), (pB, zoBs bQ aL rv oK fK), (aL, zoAl ae n am)] ++ pl)) (k2_QcV (.int (nI (zkim im pg oK n)))) 0 0 (fun _ => False) := by
  refine Met.ofW (cc := b_Pr_page) (maxL := 3) (ret := (some .int)) (by decide) rfl ?_
  intro p e s m args below meth c s₁ B hml hv
  obtain ⟨rfl, hP, hK, hE⟩ := hv
  have hx := B.exec
  have hb := B.bytes
  have hr := B.returns
  have hts := fun w h => atoms_spec (ws := w_Pr_page) B.pre w (List.mem_cons_of_mem _ h)
  have hown : s.vm.findClass R_Pr = some m.cls := findClass_of_methodNamed B.named
  have hlocks := B.notSynchronized
  have hl := lv_entry ([.ref h0, .int (nI pg), .int (nI 3)]) (n := 3) (Nat.le_of_ble_eq_true rfl)
  rw [lg_entry_eq]
  generalize (lg_sl ([.ref h0, .int (nI pg), .int (nI 3)]) ++ List.replicate (3 - (lg_sl ([.ref h0, .int (nI pg), .int (nI 3)])).length) Slot.unset).toArray = ls at hl ⊢
  have hl : lv_has ls 3 [(0, .ref h0), (1, .int (nI pg)), (2, .int (nI 3))] := hl
  refine lv_iload_n hx hb d_Pr_page_0 rfl (lv_at hl 1 rfl) ?_
  refine zw_R (r := .int (zb (isIn (nI pg) 8))) (va_runS (As := [.int (nI pg)]) (rest := []) ⟨hx, hb, hml, hown, hts⟩ (c_Pr_isPage l dC dI cT (nI pg)) (va_cwS 1 hts (zgS wd_258 wd_259 wd_1 wd_260) rfl rfl rfl (by decide +kernel) ⟨Nat.le_of_ble_eq_true rfl, Nat.le_of_ble_eq_true rfl⟩) ⟨zPreR_blind, zp_R hK hE (zSub (X := [(h0, zoPr pL pT pD pB pS so pR), (pB, zoBs bQ aL rv oK fK), (aL, zoAl ae n am)]) (pl := pl) hP [] rfl)⟩ rfl rfl hl.1 rfl (lv_room (Nat.le_of_ble_eq_true rfl)) d_Pr_page_1 ⟨Nat.le_of_ble_eq_true rfl, Nat.le_of_ble_eq_true rfl⟩) ?_
  refine zb_if_ne (tgt := 9) hx hb d_Pr_page_4 (by decide) (fun c_4 => ?_) (fun c_4 => absurd c_4 (by rw [isIn_nI (by decide) hp]; decide))
  refine lv_iload_n hx hb d_Pr_page_9 rfl (lv_at hl 2 rfl) ?_
  refine lv_tableIn (tgt := 75) hx hb d_Pr_page_10 (by decide) (by decide) rfl (by decide) ?_
  refine lv_aload_n hx hb d_Pr_page_75 rfl (lv_at hl 0 rfl) ?_
  refine va_get (D := (dC, dI)) (ci := 0) (v := .ref pB) (C := R_Pr) (T := F_Pr) (N := 7) hx hb hts i_Pr hown hK hP 0 rfl rfl 3 (by decide) (hts _ wd_155) (fun _ h9 => h9) rfl d_Pr_page_76 ?_
  refine lv_iload_n hx hb d_Pr_page_79 rfl (lv_at hl 1 rfl) ?_
  refine zw_R (r := .int (nI (zkim im pg oK n))) (va_runV (As := [.int (nI pg)]) (rest := []) ⟨hx, hb, hml, hown, hts⟩ (c_Bs_keptImagesOf l dC dI cT pB bQ aL oK fK rv ae n am cap pl ea ba ia bF bS bE bM bV im pg (by first | omega | assumption) (by first | omega | assumption) (by first | omega | assumption) (by first | omega | assumption) (by first | omega | assumption)) (cwV 1 hts (zgV wd_524 wd_525 wd_526 wd_7 wd_527) rfl rfl rfl (by decide +kernel) ⟨Nat.le_of_ble_eq_true rfl, Nat.le_of_ble_eq_true rfl⟩) ⟨zPreR_blind, va_recv hK hP (ci := 5) (q0 := 1) rfl rfl, zp_R hK hE (va_P.part (X := [(h0, zoPr pL pT pD pB pS so pR), (pB, zoBs bQ aL rv oK fK), (aL, zoAl ae n am)]) (pl := pl) hP [1, 2] rfl)⟩ rfl rfl hl.1 rfl (lv_room (Nat.le_of_ble_eq_true rfl)) d_Pr_page_80 ⟨Nat.le_of_ble_eq_true rfl, Nat.le_of_ble_eq_true rfl⟩) ?_
  exact W.iret hx hb hr (fun t ht hW => ⟨rfl, ht⟩) (fun q h => by cases h) d_Pr_page_83
set_option maxHeartbeats 4000000 in
set_option maxRecDepth 100000 in
theorem c_Pr_count_2 (l : Launch) (dC : Nat → ClassId) (dI : Nat → Nat → Nat) (cT : Nat → ClassId) (h0 : Nat) (pL : Nat) (pT : Nat) (pD : Nat) (pB : Nat) (pS : Nat) (pR : Nat) (so : Bool) (bQ : Nat) (aL : Nat) (oK : Nat) (fK : Nat) (rv : Value) (ae : Nat) (n : Nat) (am : Nat) : Met l y_Pr_count w_Pr_count ({ frames := 2, cells := 0, slots := 0, locals := 40 } : Room) (zPreR (dC, dI) vwCl (zT cT) [.ref h0, .int (nI 2)] ([(h0, zoPr pL pT pD pB pS so pR), (pB, zoBs bQ aL rv oK fK), (aL, zoAl ae n am)])) (k2_QcV (.int (nI n))) 0 0 (fun _ => False) := by
  refine Met.ofW (cc := b_Pr_count) (maxL := 2) (ret := (some .int)) (by decide) rfl ?_
  intro p e s m args below meth c s₁ B hml hv
  obtain ⟨rfl, hP, hK, hE⟩ := hv
  have hx := B.exec
  have hb := B.bytes
  have hr := B.returns
  have hts := fun w h => atoms_spec (ws := w_Pr_count) B.pre w (List.mem_cons_of_mem _ h)
  have hown : s.vm.findClass R_Pr = some m.cls := findClass_of_methodNamed B.named
  have hlocks := B.notSynchronized
  have hl := lv_entry ([.ref h0, .int (nI 2)]) (n := 2) (Nat.le_of_ble_eq_true rfl)
  rw [lg_entry_eq]
  generalize (lg_sl ([.ref h0, .int (nI 2)]) ++ List.replicate (2 - (lg_sl ([.ref h0, .int (nI 2)])).length) Slot.unset).toArray = ls at hl ⊢
  have hl : lv_has ls 2 [(0, .ref h0), (1, .int (nI 2))] := hl
  refine lv_iload_n hx hb d_Pr_count_0 rfl (lv_at hl 1 rfl) ?_
  refine lv_tableIn (tgt := 68) hx hb d_Pr_count_1 (by decide) (by decide) rfl (by decide) ?_
  refine lv_aload_n hx hb d_Pr_count_68 rfl (lv_at hl 0 rfl) ?_
  refine va_get (D := (dC, dI)) (ci := 0) (v := .ref pB) (C := R_Pr) (T := F_Pr) (N := 7) hx hb hts i_Pr hown hK hP 0 rfl rfl 3 (by decide) (hts _ wd_155) (fun _ h9 => h9) rfl d_Pr_count_69 ?_
  refine zw_R (r := .int (nI n)) (va_runV (As := []) (rest := []) ⟨hx, hb, hml, hown, hts⟩ (c_Bs_howMany l dC dI cT pB bQ aL oK fK rv ae n am) (cwV 0 hts (zgV wd_532 wd_290 wd_291 wd_7 wd_292) rfl rfl rfl (by decide +kernel) ⟨Nat.le_of_ble_eq_true rfl, Nat.le_of_ble_eq_true rfl⟩) ⟨zPreR_blind, va_recv hK hP (ci := 5) (q0 := 1) rfl rfl, zp_R hK hE (zSub (X := [(h0, zoPr pL pT pD pB pS so pR), (pB, zoBs bQ aL rv oK fK), (aL, zoAl ae n am)]) (pl := []) hP [1, 2] rfl)⟩ rfl rfl hl.1 rfl (lv_room (Nat.le_of_ble_eq_true rfl)) d_Pr_count_72 ⟨Nat.le_of_ble_eq_true rfl, Nat.le_of_ble_eq_true rfl⟩) ?_
  exact W.iret hx hb hr (fun t ht hW => ⟨rfl, ht⟩) (fun q h => by cases h) d_Pr_count_75
set_option maxHeartbeats 4000000 in
set_option maxRecDepth 100000 in
theorem c_Pr_count_7n (l : Launch) (dC : Nat → ClassId) (dI : Nat → Nat → Nat) (cT : Nat → ClassId) (h0 : Nat) (pL : Nat) (pT : Nat) (pD : Nat) (pB : Nat) (pS : Nat) (pR : Nat) (so : Bool) (bQ : Nat) (aL : Nat) (oK : Nat) (fK : Nat) : Met l y_Pr_count w_Pr_count ({ frames := 1, cells := 0, slots := 0, locals := 20 } : Room) (zPreR (dC, dI) vwCl (zT cT) [.ref h0, .int (nI 7)] ([(h0, zoPr pL pT pD pB pS so pR), (pB, zoBs bQ aL .null oK fK)])) (k2_QcV (.int (-2))) 0 0 (fun _ => False) := by
  refine Met.ofW (cc := b_Pr_count) (maxL := 2) (ret := (some .int)) (by decide) rfl ?_
  intro p e s m args below meth c s₁ B hml hv
  obtain ⟨rfl, hP, hK, hE⟩ := hv
  have hx := B.exec
  have hb := B.bytes
  have hr := B.returns
  have hts := fun w h => atoms_spec (ws := w_Pr_count) B.pre w (List.mem_cons_of_mem _ h)
  have hown : s.vm.findClass R_Pr = some m.cls := findClass_of_methodNamed B.named
  have hlocks := B.notSynchronized
  have hl := lv_entry ([.ref h0, .int (nI 7)]) (n := 2) (Nat.le_of_ble_eq_true rfl)
  rw [lg_entry_eq]
  generalize (lg_sl ([.ref h0, .int (nI 7)]) ++ List.replicate (2 - (lg_sl ([.ref h0, .int (nI 7)])).length) Slot.unset).toArray = ls at hl ⊢
  have hl : lv_has ls 2 [(0, .ref h0), (1, .int (nI 7))] := hl
  refine lv_iload_n hx hb d_Pr_count_0 rfl (lv_at hl 1 rfl) ?_
  refine lv_tableIn (tgt := 124) hx hb d_Pr_count_1 (by decide) (by decide) rfl (by decide) ?_
  refine lv_aload_n hx hb d_Pr_count_124 rfl (lv_at hl 0 rfl) ?_
  refine va_get (D := (dC, dI)) (ci := 0) (v := .ref pB) (C := R_Pr) (T := F_Pr) (N := 7) hx hb hts i_Pr hown hK hP 0 rfl rfl 3 (by decide) (hts _ wd_155) (fun _ h9 => h9) rfl d_Pr_count_125 ?_
  refine zw_R (r := .int (-2)) (va_runV (As := []) (rest := []) ⟨hx, hb, hml, hown, hts⟩ (c_Bs_stillToVisit_none l dC dI cT pB bQ aL oK fK) (cwV 0 hts (zgV wd_550 wd_551 wd_552 wd_7 wd_553) rfl rfl rfl (by decide +kernel) ⟨Nat.le_of_ble_eq_true rfl, Nat.le_of_ble_eq_true rfl⟩) ⟨zPreR_blind, va_recv hK hP (ci := 5) (q0 := 1) rfl rfl, zp_R hK hE (zSub (X := [(h0, zoPr pL pT pD pB pS so pR), (pB, zoBs bQ aL .null oK fK)]) (pl := []) hP [1] rfl)⟩ rfl rfl hl.1 rfl (lv_room (Nat.le_of_ble_eq_true rfl)) d_Pr_count_128 ⟨Nat.le_of_ble_eq_true rfl, Nat.le_of_ble_eq_true rfl⟩) ?_
  exact W.iret hx hb hr (fun t ht hW => ⟨rfl, ht⟩) (fun q h => by cases h) d_Pr_count_131
set_option maxHeartbeats 4000000 in
set_option maxRecDepth 100000 in
theorem c_Pr_count_7r (l : Launch) (dC : Nat → ClassId) (dI : Nat → Nat → Nat) (cT : Nat → ClassId) (h0 : Nat) (pL : Nat) (pT : Nat) (pD : Nat) (pB : Nat) (pS : Nat) (pR : Nat) (so : Bool) (bQ : Nat) (aL : Nat) (oK : Nat) (fK : Nat) (rB : Nat) (cS : Nat) (bA : Nat) (cE : Nat) (cM : Nat) (cV : Nat) (cF : Bool) (hv : cV ≤ 8) : Met l y_Pr_count w_Pr_count ({ frames := 1, cells := 0, slots := 0, locals := 20 } : Room) (zPreR (dC, dI) vwCl (zT cT) [.ref h0, .int (nI 7)] ([(h0, zoPr pL pT pD pB pS so pR), (pB, zoBs bQ aL (.ref rB) oK fK), (rB, bkE cF cS bA cE cM cV)])) (k2_QcV (.int (nI (8 - cV)))) 0 0 (fun _ => False) := by
  refine Met.ofW (cc := b_Pr_count) (maxL := 2) (ret := (some .int)) (by decide) rfl ?_
  intro p e s m args below meth c s₁ B hml hv
  obtain ⟨rfl, hP, hK, hE⟩ := hv
  have hx := B.exec
  have hb := B.bytes
  have hr := B.returns
  have hts := fun w h => atoms_spec (ws := w_Pr_count) B.pre w (List.mem_cons_of_mem _ h)
  have hown : s.vm.findClass R_Pr = some m.cls := findClass_of_methodNamed B.named
  have hlocks := B.notSynchronized
  have hl := lv_entry ([.ref h0, .int (nI 7)]) (n := 2) (Nat.le_of_ble_eq_true rfl)
  rw [lg_entry_eq]
  generalize (lg_sl ([.ref h0, .int (nI 7)]) ++ List.replicate (2 - (lg_sl ([.ref h0, .int (nI 7)])).length) Slot.unset).toArray = ls at hl ⊢
  have hl : lv_has ls 2 [(0, .ref h0), (1, .int (nI 7))] := hl
  refine lv_iload_n hx hb d_Pr_count_0 rfl (lv_at hl 1 rfl) ?_
  refine lv_tableIn (tgt := 124) hx hb d_Pr_count_1 (by decide) (by decide) rfl (by decide) ?_
  refine lv_aload_n hx hb d_Pr_count_124 rfl (lv_at hl 0 rfl) ?_
  refine va_get (D := (dC, dI)) (ci := 0) (v := .ref pB) (C := R_Pr) (T := F_Pr) (N := 7) hx hb hts i_Pr hown hK hP 0 rfl rfl 3 (by decide) (hts _ wd_155) (fun _ h9 => h9) rfl d_Pr_count_125 ?_
  refine zw_R (r := .int (nI (8 - cV))) (va_runV (As := []) (rest := []) ⟨hx, hb, hml, hown, hts⟩ (c_Bs_stillToVisit_run l dC dI cT pB bQ aL oK fK rB cS bA cE cM cV cF (by first | omega | assumption)) (cwV 0 hts (zgV wd_550 wd_551 wd_552 wd_7 wd_553) rfl rfl rfl (by decide +kernel) ⟨Nat.le_of_ble_eq_true rfl, Nat.le_of_ble_eq_true rfl⟩) ⟨zPreR_blind, va_recv hK hP (ci := 5) (q0 := 1) rfl rfl, zp_R hK hE (zSub (X := [(h0, zoPr pL pT pD pB pS so pR), (pB, zoBs bQ aL (.ref rB) oK fK), (rB, bkE cF cS bA cE cM cV)]) (pl := []) hP [1, 2] rfl)⟩ rfl rfl hl.1 rfl (lv_room (Nat.le_of_ble_eq_true rfl)) d_Pr_count_128 ⟨Nat.le_of_ble_eq_true rfl, Nat.le_of_ble_eq_true rfl⟩) ?_
  exact W.iret hx hb hr (fun t ht hW => ⟨rfl, ht⟩) (fun q h => by cases h) d_Pr_count_131
set_option maxHeartbeats 4000000 in
set_option maxRecDepth 100000 in
theorem c_Pr_ofBackup_ref (l : Launch) (dC : Nat → ClassId) (dI : Nat → Nat → Nat) (cT : Nat → ClassId) (h0 : Nat) (pL : Nat) (pT : Nat) (pD : Nat) (pB : Nat) (pS : Nat) (pR : Nat) (so : Bool) (bQ : Nat) (aL : Nat) (oK : Nat) (fK : Nat) (rv : Value) (ae : Nat) (n : Nat) (am : Nat) (k : Int32) (w : Int32) (hno : k < nI 1 ∨ nI n < k) : Met l y_Pr_ofBackup w_Pr_ofBackup ({ frames := 2, cells := 0, slots := 0, locals := 40 } : Room) (zPreR (dC, dI) vwCl (zT cT) [.ref h0, .int k, .int w] ([(h0, zoPr pL pT pD pB pS so pR), (pB, zoBs bQ aL rv oK fK), (aL, zoAl ae n am)])) (k2_QcV (.int (-1))) 0 0 (fun _ => False) := by
  refine Met.ofW (cc := b_Pr_ofBackup) (maxL := 4) (ret := (some .int)) (by decide) rfl ?_
  intro p e s m args below meth c s₁ B hml hv
  obtain ⟨rfl, hP, hK, hE⟩ := hv
  have hx := B.exec
  have hb := B.bytes
  have hr := B.returns
  have hts := fun w h => atoms_spec (ws := w_Pr_ofBackup) B.pre w (List.mem_cons_of_mem _ h)
  have hown : s.vm.findClass R_Pr = some m.cls := findClass_of_methodNamed B.named
  have hlocks := B.notSynchronized
  have hl := lv_entry ([.ref h0, .int k, .int w]) (n := 4) (Nat.le_of_ble_eq_true rfl)
  rw [lg_entry_eq]
  generalize (lg_sl ([.ref h0, .int k, .int w]) ++ List.replicate (4 - (lg_sl ([.ref h0, .int k, .int w])).length) Slot.unset).toArray = ls at hl ⊢
  have hl : lv_has ls 4 [(0, .ref h0), (1, .int k), (2, .int w)] := hl
  refine lv_iload_n hx hb d_Pr_ofBackup_0 rfl (lv_at hl 1 rfl) ?_
  refine lv_iconst (v := (nI 1)) hx hb d_Pr_ofBackup_1 (by decide) ?_
  refine lv_icmp_lt (tgt := 16) hx hb d_Pr_ofBackup_2 (by decide) (fun c_2 => ?_) (fun c_2 => ?_)
  · refine lv_iconst (v := (-1)) hx hb d_Pr_ofBackup_16 (by decide) ?_
    exact W.iret hx hb hr (fun t ht hW => ⟨rfl, ht⟩) (fun q h => by cases h) d_Pr_ofBackup_17
  · refine lv_iload_n hx hb d_Pr_ofBackup_5 rfl (lv_at hl 1 rfl) ?_
    refine lv_aload_n hx hb d_Pr_ofBackup_6 rfl (lv_at hl 0 rfl) ?_
    refine va_get (D := (dC, dI)) (ci := 0) (v := .ref pB) (C := R_Pr) (T := F_Pr) (N := 7) hx hb hts i_Pr hown hK hP 0 rfl rfl 3 (by decide) (hts _ wd_155) (fun _ h9 => h9) rfl d_Pr_ofBackup_7 ?_
    refine zw_R (r := .int (nI n)) (va_runV (As := []) (rest := [.int k]) ⟨hx, hb, hml, hown, hts⟩ (c_Bs_howMany l dC dI cT pB bQ aL oK fK rv ae n am) (cwV 0 hts (zgV wd_532 wd_290 wd_291 wd_7 wd_292) rfl rfl rfl (by decide +kernel) ⟨Nat.le_of_ble_eq_true rfl, Nat.le_of_ble_eq_true rfl⟩) ⟨zPreR_blind, va_recv hK hP (ci := 5) (q0 := 1) rfl rfl, zp_R hK hE (zSub (X := [(h0, zoPr pL pT pD pB pS so pR), (pB, zoBs bQ aL rv oK fK), (aL, zoAl ae n am)]) (pl := []) hP [1, 2] rfl)⟩ rfl rfl hl.1 rfl (lv_room (Nat.le_of_ble_eq_true rfl)) d_Pr_ofBackup_10 ⟨Nat.le_of_ble_eq_true rfl, Nat.le_of_ble_eq_true rfl⟩) ?_
    refine lv_icmp_le (tgt := 18) hx hb d_Pr_ofBackup_13 (by decide) (fun c_13 => ?_) (fun c_13 => ?_)
    · exact absurd hno (fun q => q.elim c_2 (fun q2 => absurd c_13 (Int32.not_le.mpr q2)))
    · refine lv_iconst (v := (-1)) hx hb d_Pr_ofBackup_16 (by decide) ?_
      exact W.iret hx hb hr (fun t ht hW => ⟨rfl, ht⟩) (fun q h => by cases h) d_Pr_ofBackup_17
set_option maxHeartbeats 4000000 in
set_option maxRecDepth 100000 in
theorem c_Pr_ofBackup_refw (l : Launch) (dC : Nat → ClassId) (dI : Nat → Nat → Nat) (cT : Nat → ClassId) (h0 : Nat) (pL : Nat) (pT : Nat) (pD : Nat) (pB : Nat) (pS : Nat) (pR : Nat) (so : Bool) (bQ : Nat) (aL : Nat) (oK : Nat) (fK : Nat) (rv : Value) (ae : Nat) (n : Nat) (am : Nat) (cap : Nat) (pl : va_W) (ea : Nat → Option Nat) (ba : Nat → Nat) (ia : Nat → Nat) (bF : Nat → Bool) (bS : Nat → Nat) (bE : Nat → Nat) (bM : Nat → Nat) (bV : Nat → Nat) (im : Nat → Nat → Int32) (b : Nat) (w : Int32) (hpo : zPo cT pl n ae cap ea ba ia bF bS bE bM bV im) (hn : n ≤ 257) (hb1 : 1 ≤ b) (hb2 : b ≤ n) (hno : isIn w 5 = false) : Met l y_Pr_ofBackup w_Pr_ofBackup ({ frames := 4, cells := 0, slots := 0, locals := 85 } : Room) (zPreR (dC, dI) vwCl (zT cT) [.ref h0, .int (nI b), .int w] ([(h0, zoPr pL pT pD pB pS so pR), (pB, zoBs bQ aL rv oK fK), (aL, zoAl ae n am)] ++ pl)) (k2_QcV (.int (-1))) 0 0 (fun _ => False) := by
  refine Met.ofW (cc := b_Pr_ofBackup) (maxL := 4) (ret := (some .int)) (by decide) rfl ?_
  intro p e s m args below meth c s₁ B hml hv
  obtain ⟨rfl, hP, hK, hE⟩ := hv
  have hx := B.exec
  have hb := B.bytes
  have hr := B.returns
  have hts := fun w h => atoms_spec (ws := w_Pr_ofBackup) B.pre w (List.mem_cons_of_mem _ h)
  have hown : s.vm.findClass R_Pr = some m.cls := findClass_of_methodNamed B.named
  have hlocks := B.notSynchronized
  have hl := lv_entry ([.ref h0, .int (nI b), .int w]) (n := 4) (Nat.le_of_ble_eq_true rfl)
  rw [lg_entry_eq]
  generalize (lg_sl ([.ref h0, .int (nI b), .int w]) ++ List.replicate (4 - (lg_sl ([.ref h0, .int (nI b), .int w])).length) Slot.unset).toArray = ls at hl ⊢
  have hl : lv_has ls 4 [(0, .ref h0), (1, .int (nI b)), (2, .int w)] := hl
  refine lv_iload_n hx hb d_Pr_ofBackup_0 rfl (lv_at hl 1 rfl) ?_
  refine lv_iconst (v := (nI 1)) hx hb d_Pr_ofBackup_1 (by decide) ?_
  refine zn_icmp_lt (tgt := 16) hx hb (a := b) (b := 1) (by omega) (by omega) d_Pr_ofBackup_2 (by decide) (fun c_2 => absurd c_2 (by omega)) (fun c_2 => ?_)
  refine lv_iload_n hx hb d_Pr_ofBackup_5 rfl (lv_at hl 1 rfl) ?_
  refine lv_aload_n hx hb d_Pr_ofBackup_6 rfl (lv_at hl 0 rfl) ?_
  refine va_get (D := (dC, dI)) (ci := 0) (v := .ref pB) (C := R_Pr) (T := F_Pr) (N := 7) hx hb hts i_Pr hown hK hP 0 rfl rfl 3 (by decide) (hts _ wd_155) (fun _ h9 => h9) rfl d_Pr_ofBackup_7 ?_
  refine zw_R (r := .int (nI n)) (va_runV (As := []) (rest := [.int (nI b)]) ⟨hx, hb, hml, hown, hts⟩ (c_Bs_howMany l dC dI cT pB bQ aL oK fK rv ae n am) (cwV 0 hts (zgV wd_532 wd_290 wd_291 wd_7 wd_292) rfl rfl rfl (by decide +kernel) ⟨Nat.le_of_ble_eq_true rfl, Nat.le_of_ble_eq_true rfl⟩) ⟨zPreR_blind, va_recv hK hP (ci := 5) (q0 := 1) rfl rfl, zp_R hK hE (zSub (X := [(h0, zoPr pL pT pD pB pS so pR), (pB, zoBs bQ aL rv oK fK), (aL, zoAl ae n am)]) (pl := pl) hP [1, 2] rfl)⟩ rfl rfl hl.1 rfl (lv_room (Nat.le_of_ble_eq_true rfl)) d_Pr_ofBackup_10 ⟨Nat.le_of_ble_eq_true rfl, Nat.le_of_ble_eq_true rfl⟩) ?_
  refine zn_icmp_le (tgt := 18) hx hb (a := b) (b := n) (by omega) (by omega) d_Pr_ofBackup_13 (by decide) (fun c_13 => ?_) (fun c_13 => absurd c_13 (by omega))
  refine lv_aload_n hx hb d_Pr_ofBackup_18 rfl (lv_at hl 0 rfl) ?_
  refine va_get (D := (dC, dI)) (ci := 0) (v := .ref pB) (C := R_Pr) (T := F_Pr) (N := 7) hx hb hts i_Pr hown hK hP 0 rfl rfl 3 (by decide) (hts _ wd_155) (fun _ h9 => h9) rfl d_Pr_ofBackup_19 ?_
  refine lv_iload_n hx hb d_Pr_ofBackup_22 rfl (lv_at hl 1 rfl) ?_
  refine zw_R (r := .ref (ba (b - 1))) (va_runV (As := [.int (nI b)]) (rest := []) ⟨hx, hb, hml, hown, hts⟩ (c_Bs_numbered l dC dI cT pB bQ aL oK fK rv ae n am cap pl ea ba ia bF bS bE bM bV im b (by first | omega | assumption) (by first | omega | assumption) (by first | omega | assumption) (by first | omega | assumption)) (cwV 1 hts (zgV wd_533 wd_352 wd_353 wd_7 wd_354) rfl rfl rfl (by decide +kernel) ⟨Nat.le_of_ble_eq_true rfl, Nat.le_of_ble_eq_true rfl⟩) ⟨zPreR_blind, va_recv hK hP (ci := 5) (q0 := 1) rfl rfl, zp_R hK hE (va_P.part (X := [(h0, zoPr pL pT pD pB pS so pR), (pB, zoBs bQ aL rv oK fK), (aL, zoAl ae n am)]) (pl := pl) hP [1, 2] rfl)⟩ rfl rfl hl.1 rfl (lv_room (Nat.le_of_ble_eq_true rfl)) d_Pr_ofBackup_23 ⟨Nat.le_of_ble_eq_true rfl, Nat.le_of_ble_eq_true rfl⟩) ?_
  refine lv_astore_n (lv' := [(3, .ref (ba (b - 1))), (0, .ref h0), (1, .int (nI b)), (2, .int w)]) hx hb d_Pr_ofBackup_26 rfl hl (by decide) rfl (fun ls hl => ?_)
  refine lv_iload_n hx hb d_Pr_ofBackup_27 rfl (lv_at hl 3 rfl) ?_
  refine lv_tableOut (tgt := 109) hx hb d_Pr_ofBackup_28 (isIn_out (by decide) hno) (by decide) ?_
  refine lv_iconst (v := (-1)) hx hb d_Pr_ofBackup_109 (by decide) ?_
  exact W.iret hx hb hr (fun t ht hW => ⟨rfl, ht⟩) (fun q h => by cases h) d_Pr_ofBackup_110
set_option maxHeartbeats 4000000 in
set_option maxRecDepth 100000 in
theorem c_Pr_ofBackup_0 (l : Launch) (dC : Nat → ClassId) (dI : Nat → Nat → Nat) (cT : Nat → ClassId) (h0 : Nat) (pL : Nat) (pT : Nat) (pD : Nat) (pB : Nat) (pS : Nat) (pR : Nat) (so : Bool) (bQ : Nat) (aL : Nat) (oK : Nat) (fK : Nat) (rv : Value) (ae : Nat) (n : Nat) (am : Nat) (cap : Nat) (pl : va_W) (ea : Nat → Option Nat) (ba : Nat → Nat) (ia : Nat → Nat) (bF : Nat → Bool) (bS : Nat → Nat) (bE : Nat → Nat) (bM : Nat → Nat) (bV : Nat → Nat) (im : Nat → Nat → Int32) (b : Nat) (hpo : zPo cT pl n ae cap ea ba ia bF bS bE bM bV im) (hn : n ≤ 257) (hb1 : 1 ≤ b) (hb2 : b ≤ n) (hok3 : oK < 2 ^ 30) : Met l y_Pr_ofBackup w_Pr_ofBackup ({ frames := 4, cells := 0, slots := 0, locals := 85 } : Room) (zPreR (dC, dI) vwCl (zT cT) [.ref h0, .int (nI b), .int (nI 0)] ([(h0, zoPr pL pT pD pB pS so pR), (pB, zoBs bQ aL rv oK fK), (aL, zoAl ae n am)] ++ pl)) (k2_QcV (.int (zb (decide (oK ≤ b))))) 0 0 (fun _ => False) := by
  refine Met.ofW (cc := b_Pr_ofBackup) (maxL := 4) (ret := (some .int)) (by decide) rfl ?_
  intro p e s m args below meth c s₁ B hml hv
  obtain ⟨rfl, hP, hK, hE⟩ := hv
  have hx := B.exec
  have hb := B.bytes
  have hr := B.returns
  have hts := fun w h => atoms_spec (ws := w_Pr_ofBackup) B.pre w (List.mem_cons_of_mem _ h)
  have hown : s.vm.findClass R_Pr = some m.cls := findClass_of_methodNamed B.named
  have hlocks := B.notSynchronized
  have hl := lv_entry ([.ref h0, .int (nI b), .int (nI 0)]) (n := 4) (Nat.le_of_ble_eq_true rfl)
  rw [lg_entry_eq]
  generalize (lg_sl ([.ref h0, .int (nI b), .int (nI 0)]) ++ List.replicate (4 - (lg_sl ([.ref h0, .int (nI b), .int (nI 0)])).length) Slot.unset).toArray = ls at hl ⊢
  have hl : lv_has ls 4 [(0, .ref h0), (1, .int (nI b)), (2, .int (nI 0))] := hl
  refine lv_iload_n hx hb d_Pr_ofBackup_0 rfl (lv_at hl 1 rfl) ?_
  refine lv_iconst (v := (nI 1)) hx hb d_Pr_ofBackup_1 (by decide) ?_
  refine zn_icmp_lt (tgt := 16) hx hb (a := b) (b := 1) (by omega) (by omega) d_Pr_ofBackup_2 (by decide) (fun c_2 => absurd c_2 (by omega)) (fun c_2 => ?_)
  refine lv_iload_n hx hb d_Pr_ofBackup_5 rfl (lv_at hl 1 rfl) ?_
  refine lv_aload_n hx hb d_Pr_ofBackup_6 rfl (lv_at hl 0 rfl) ?_
  refine va_get (D := (dC, dI)) (ci := 0) (v := .ref pB) (C := R_Pr) (T := F_Pr) (N := 7) hx hb hts i_Pr hown hK hP 0 rfl rfl 3 (by decide) (hts _ wd_155) (fun _ h9 => h9) rfl d_Pr_ofBackup_7 ?_
  refine zw_R (r := .int (nI n)) (va_runV (As := []) (rest := [.int (nI b)]) ⟨hx, hb, hml, hown, hts⟩ (c_Bs_howMany l dC dI cT pB bQ aL oK fK rv ae n am) (cwV 0 hts (zgV wd_532 wd_290 wd_291 wd_7 wd_292) rfl rfl rfl (by decide +kernel) ⟨Nat.le_of_ble_eq_true rfl, Nat.le_of_ble_eq_true rfl⟩) ⟨zPreR_blind, va_recv hK hP (ci := 5) (q0 := 1) rfl rfl, zp_R hK hE (zSub (X := [(h0, zoPr pL pT pD pB pS so pR), (pB, zoBs bQ aL rv oK fK), (aL, zoAl ae n am)]) (pl := pl) hP [1, 2] rfl)⟩ rfl rfl hl.1 rfl (lv_room (Nat.le_of_ble_eq_true rfl)) d_Pr_ofBackup_10 ⟨Nat.le_of_ble_eq_true rfl, Nat.le_of_ble_eq_true rfl⟩) ?_
  refine zn_icmp_le (tgt := 18) hx hb (a := b) (b := n) (by omega) (by omega) d_Pr_ofBackup_13 (by decide) (fun c_13 => ?_) (fun c_13 => absurd c_13 (by omega))
  refine lv_aload_n hx hb d_Pr_ofBackup_18 rfl (lv_at hl 0 rfl) ?_
  refine va_get (D := (dC, dI)) (ci := 0) (v := .ref pB) (C := R_Pr) (T := F_Pr) (N := 7) hx hb hts i_Pr hown hK hP 0 rfl rfl 3 (by decide) (hts _ wd_155) (fun _ h9 => h9) rfl d_Pr_ofBackup_19 ?_
  refine lv_iload_n hx hb d_Pr_ofBackup_22 rfl (lv_at hl 1 rfl) ?_
  refine zw_R (r := .ref (ba (b - 1))) (va_runV (As := [.int (nI b)]) (rest := []) ⟨hx, hb, hml, hown, hts⟩ (c_Bs_numbered l dC dI cT pB bQ aL oK fK rv ae n am cap pl ea ba ia bF bS bE bM bV im b (by first | omega | assumption) (by first | omega | assumption) (by first | omega | assumption) (by first | omega | assumption)) (cwV 1 hts (zgV wd_533 wd_352 wd_353 wd_7 wd_354) rfl rfl rfl (by decide +kernel) ⟨Nat.le_of_ble_eq_true rfl, Nat.le_of_ble_eq_true rfl⟩) ⟨zPreR_blind, va_recv hK hP (ci := 5) (q0 := 1) rfl rfl, zp_R hK hE (va_P.part (X := [(h0, zoPr pL pT pD pB pS so pR), (pB, zoBs bQ aL rv oK fK), (aL, zoAl ae n am)]) (pl := pl) hP [1, 2] rfl)⟩ rfl rfl hl.1 rfl (lv_room (Nat.le_of_ble_eq_true rfl)) d_Pr_ofBackup_23 ⟨Nat.le_of_ble_eq_true rfl, Nat.le_of_ble_eq_true rfl⟩) ?_
  refine lv_astore_n (lv' := [(3, .ref (ba (b - 1))), (0, .ref h0), (1, .int (nI b)), (2, .int (nI 0))]) hx hb d_Pr_ofBackup_26 rfl hl (by decide) rfl (fun ls hl => ?_)
  refine lv_iload_n hx hb d_Pr_ofBackup_27 rfl (lv_at hl 3 rfl) ?_
  refine lv_tableIn (tgt := 64) hx hb d_Pr_ofBackup_28 (by decide) (by decide) rfl (by decide) ?_
  refine lv_aload_n hx hb d_Pr_ofBackup_64 rfl (lv_at hl 1 rfl) ?_
  refine va_get (D := (dC, dI)) (ci := 0) (v := .ref pB) (C := R_Pr) (T := F_Pr) (N := 7) hx hb hts i_Pr hown hK hP 0 rfl rfl 3 (by decide) (hts _ wd_155) (fun _ h9 => h9) rfl d_Pr_ofBackup_65 ?_
  refine lv_iload_n hx hb d_Pr_ofBackup_68 rfl (lv_at hl 2 rfl) ?_
  refine zw_R (r := .int (zb (decide (oK ≤ b)))) (va_runV (As := [.int (nI b)]) (rest := []) ⟨hx, hb, hml, hown, hts⟩ (c_Bs_isKept l dC dI cT pB bQ aL oK fK rv b (by first | omega | assumption) (by first | omega | assumption)) (cwV 1 hts (zgV wd_534 wd_535 wd_536 wd_7 wd_537) rfl rfl rfl (by decide +kernel) ⟨Nat.le_of_ble_eq_true rfl, Nat.le_of_ble_eq_true rfl⟩) ⟨zPreR_blind, va_recv hK hP (ci := 5) (q0 := 1) rfl rfl, zp_R hK hE (zSub (X := [(h0, zoPr pL pT pD pB pS so pR), (pB, zoBs bQ aL rv oK fK), (aL, zoAl ae n am)]) (pl := pl) hP [1] rfl)⟩ rfl rfl hl.1 rfl (lv_room (Nat.le_of_ble_eq_true rfl)) d_Pr_ofBackup_69 ⟨Nat.le_of_ble_eq_true rfl, Nat.le_of_ble_eq_true rfl⟩) ?_
  refine zb_if_eq (tgt := 79) hx hb d_Pr_ofBackup_72 (by decide) (fun c_72 => ?_) (fun c_72 => ?_)
  · refine lv_iconst (v := (nI 0)) hx hb d_Pr_ofBackup_79 (by decide) ?_
    exact W.iret hx hb hr (fun t ht hW => ⟨by rw [c_72]; rfl, ht⟩) (fun q h => by cases h) d_Pr_ofBackup_80
  · refine lv_iconst (v := (nI 1)) hx hb d_Pr_ofBackup_75 (by decide) ?_
    refine lv_goto (tgt := 80) hx hb d_Pr_ofBackup_76 (by decide) ?_
    exact W.iret hx hb hr (fun t ht hW => ⟨by rw [c_72]; rfl, ht⟩) (fun q h => by cases h) d_Pr_ofBackup_80
set_option maxHeartbeats 4000000 in
set_option maxRecDepth 100000 in
theorem c_Pr_ofBackup_1 (l : Launch) (dC : Nat → ClassId) (dI : Nat → Nat → Nat) (cT : Nat → ClassId) (h0 : Nat) (pL : Nat) (pT : Nat) (pD : Nat) (pB : Nat) (pS : Nat) (pR : Nat) (so : Bool) (bQ : Nat) (aL : Nat) (oK : Nat) (fK : Nat) (rv : Value) (ae : Nat) (n : Nat) (am : Nat) (cap : Nat) (pl : va_W) (ea : Nat → Option Nat) (ba : Nat → Nat) (ia : Nat → Nat) (bF : Nat → Bool) (bS : Nat → Nat) (bE : Nat → Nat) (bM : Nat → Nat) (bV : Nat → Nat) (im : Nat → Nat → Int32) (b : Nat) (hpo : zPo cT pl n ae cap ea ba ia bF bS bE bM bV im) (hn : n ≤ 257) (hb1 : 1 ≤ b) (hb2 : b ≤ n) : Met l y_Pr_ofBackup w_Pr_ofBackup ({ frames := 4, cells := 0, slots := 0, locals := 85 } : Room) (zPreR (dC, dI) vwCl (zT cT) [.ref h0, .int (nI b), .int (nI 1)] ([(h0, zoPr pL pT pD pB pS so pR), (pB, zoBs bQ aL rv oK fK), (aL, zoAl ae n am)] ++ pl)) (k2_QcV (.int (zb (bF (b - 1))))) 0 0 (fun _ => False) := by
  refine Met.ofW (cc := b_Pr_ofBackup) (maxL := 4) (ret := (some .int)) (by decide) rfl ?_
  intro p e s m args below meth c s₁ B hml hv
  obtain ⟨rfl, hP, hK, hE⟩ := hv
  have hx := B.exec
  have hb := B.bytes
  have hr := B.returns
  have hts := fun w h => atoms_spec (ws := w_Pr_ofBackup) B.pre w (List.mem_cons_of_mem _ h)
  have hown : s.vm.findClass R_Pr = some m.cls := findClass_of_methodNamed B.named
  have hlocks := B.notSynchronized
  have hl := lv_entry ([.ref h0, .int (nI b), .int (nI 1)]) (n := 4) (Nat.le_of_ble_eq_true rfl)
  rw [lg_entry_eq]
  generalize (lg_sl ([.ref h0, .int (nI b), .int (nI 1)]) ++ List.replicate (4 - (lg_sl ([.ref h0, .int (nI b), .int (nI 1)])).length) Slot.unset).toArray = ls at hl ⊢
  have hl : lv_has ls 4 [(0, .ref h0), (1, .int (nI b)), (2, .int (nI 1))] := hl
  refine lv_iload_n hx hb d_Pr_ofBackup_0 rfl (lv_at hl 1 rfl) ?_
  refine lv_iconst (v := (nI 1)) hx hb d_Pr_ofBackup_1 (by decide) ?_
  refine zn_icmp_lt (tgt := 16) hx hb (a := b) (b := 1) (by omega) (by omega) d_Pr_ofBackup_2 (by decide) (fun c_2 => absurd c_2 (by omega)) (fun c_2 => ?_)
  refine lv_iload_n hx hb d_Pr_ofBackup_5 rfl (lv_at hl 1 rfl) ?_
  refine lv_aload_n hx hb d_Pr_ofBackup_6 rfl (lv_at hl 0 rfl) ?_
  refine va_get (D := (dC, dI)) (ci := 0) (v := .ref pB) (C := R_Pr) (T := F_Pr) (N := 7) hx hb hts i_Pr hown hK hP 0 rfl rfl 3 (by decide) (hts _ wd_155) (fun _ h9 => h9) rfl d_Pr_ofBackup_7 ?_
  refine zw_R (r := .int (nI n)) (va_runV (As := []) (rest := [.int (nI b)]) ⟨hx, hb, hml, hown, hts⟩ (c_Bs_howMany l dC dI cT pB bQ aL oK fK rv ae n am) (cwV 0 hts (zgV wd_532 wd_290 wd_291 wd_7 wd_292) rfl rfl rfl (by decide +kernel) ⟨Nat.le_of_ble_eq_true rfl, Nat.le_of_ble_eq_true rfl⟩) ⟨zPreR_blind, va_recv hK hP (ci := 5) (q0 := 1) rfl rfl, zp_R hK hE (zSub (X := [(h0, zoPr pL pT pD pB pS so pR), (pB, zoBs bQ aL rv oK fK), (aL, zoAl ae n am)]) (pl := pl) hP [1, 2] rfl)⟩ rfl rfl hl.1 rfl (lv_room (Nat.le_of_ble_eq_true rfl)) d_Pr_ofBackup_10 ⟨Nat.le_of_ble_eq_true rfl, Nat.le_of_ble_eq_true rfl⟩) ?_
  refine zn_icmp_le (tgt := 18) hx hb (a := b) (b := n) (by omega) (by omega) d_Pr_ofBackup_13 (by decide) (fun c_13 => ?_) (fun c_13 => absurd c_13 (by omega))
  refine lv_aload_n hx hb d_Pr_ofBackup_18 rfl (lv_at hl 0 rfl) ?_
  refine va_get (D := (dC, dI)) (ci := 0) (v := .ref pB) (C := R_Pr) (T := F_Pr) (N := 7) hx hb hts i_Pr hown hK hP 0 rfl rfl 3 (by decide) (hts _ wd_155) (fun _ h9 => h9) rfl d_Pr_ofBackup_19 ?_
  refine lv_iload_n hx hb d_Pr_ofBackup_22 rfl (lv_at hl 1 rfl) ?_
  refine zw_R (r := .ref (ba (b - 1))) (va_runV (As := [.int (nI b)]) (rest := []) ⟨hx, hb, hml, hown, hts⟩ (c_Bs_numbered l dC dI cT pB bQ aL oK fK rv ae n am cap pl ea ba ia bF bS bE bM bV im b (by first | omega | assumption) (by first | omega | assumption) (by first | omega | assumption) (by first | omega | assumption)) (cwV 1 hts (zgV wd_533 wd_352 wd_353 wd_7 wd_354) rfl rfl rfl (by decide +kernel) ⟨Nat.le_of_ble_eq_true rfl, Nat.le_of_ble_eq_true rfl⟩) ⟨zPreR_blind, va_recv hK hP (ci := 5) (q0 := 1) rfl rfl, zp_R hK hE (va_P.part (X := [(h0, zoPr pL pT pD pB pS so pR), (pB, zoBs bQ aL rv oK fK), (aL, zoAl ae n am)]) (pl := pl) hP [1, 2] rfl)⟩ rfl rfl hl.1 rfl (lv_room (Nat.le_of_ble_eq_true rfl)) d_Pr_ofBackup_23 ⟨Nat.le_of_ble_eq_true rfl, Nat.le_of_ble_eq_true rfl⟩) ?_
  refine lv_astore_n (lv' := [(3, .ref (ba (b - 1))), (0, .ref h0), (1, .int (nI b)), (2, .int (nI 1))]) hx hb d_Pr_ofBackup_26 rfl hl (by decide) rfl (fun ls hl => ?_)
  refine lv_iload_n hx hb d_Pr_ofBackup_27 rfl (lv_at hl 3 rfl) ?_
  refine lv_tableIn (tgt := 81) hx hb d_Pr_ofBackup_28 (by decide) (by decide) rfl (by decide) ?_
  have hu_1 := hpo.1 (b - 1) (by omega)
  have hr_2 : va_P (dC, dI) vwCl [(ba (b - 1), bkE (bF (b - 1)) (bS (b - 1)) (ia (b - 1)) (bE (b - 1)) (bM (b - 1)) (bV (b - 1)))] s.heap := zmem hP hu_1.1
  refine lv_aload_n hx hb d_Pr_ofBackup_81 rfl (lv_at hl 0 rfl) ?_
  refine va_get (D := (dC, dI)) (ci := 4) (v := .int (zb (bF (b - 1)))) (C := R_Bk) (T := F_Bk) (N := 6) hx hb hts i_Bk hown hK hr_2 0 rfl rfl 0 (by decide) (hts _ wd_308) (fun _ h9 => h9) rfl d_Pr_ofBackup_82 ?_
  refine zb_if_eq (tgt := 92) hx hb d_Pr_ofBackup_85 (by decide) (fun c_85 => ?_) (fun c_85 => ?_)
  · refine lv_iconst (v := (nI 0)) hx hb d_Pr_ofBackup_92 (by decide) ?_
    exact W.iret hx hb hr (fun t ht hW => ⟨by rw [c_85]; rfl, ht⟩) (fun q h => by cases h) d_Pr_ofBackup_93
  · refine lv_iconst (v := (nI 1)) hx hb d_Pr_ofBackup_88 (by decide) ?_
    refine lv_goto (tgt := 93) hx hb d_Pr_ofBackup_89 (by decide) ?_
    exact W.iret hx hb hr (fun t ht hW => ⟨by rw [c_85]; rfl, ht⟩) (fun q h => by cases h) d_Pr_ofBackup_93
set_option maxHeartbeats 4000000 in
set_option maxRecDepth 100000 in
theorem c_Pr_ofBackup_2 (l : Launch) (dC : Nat → ClassId) (dI : Nat → Nat → Nat) (cT : Nat → ClassId) (h0 : Nat) (pL : Nat) (pT : Nat) (pD : Nat) (pB : Nat) (pS : Nat) (pR : Nat) (so : Bool) (bQ : Nat) (aL : Nat) (oK : Nat) (fK : Nat) (rv : Value) (ae : Nat) (n : Nat) (am : Nat) (cap : Nat) (pl : va_W) (ea : Nat → Option Nat) (ba : Nat → Nat) (ia : Nat → Nat) (bF : Nat → Bool) (bS : Nat → Nat) (bE : Nat → Nat) (bM : Nat → Nat) (bV : Nat → Nat) (im : Nat → Nat → Int32) (b : Nat) (hpo : zPo cT pl n ae cap ea ba ia bF bS bE bM bV im) (hn : n ≤ 257) (hb1 : 1 ≤ b) (hb2 : b ≤ n) : Met l y_Pr_ofBackup w_Pr_ofBackup ({ frames := 4, cells := 0, slots := 0, locals := 85 } : Room) (zPreR (dC, dI) vwCl (zT cT) [.ref h0, .int (nI b), .int (nI 2)] ([(h0, zoPr pL pT pD pB pS so pR), (pB, zoBs bQ aL rv oK fK), (aL, zoAl ae n am)] ++ pl)) (k2_QcV (.int (nI (bS (b - 1))))) 0 0 (fun _ => False) := by
  refine Met.ofW (cc := b_Pr_ofBackup) (maxL := 4) (ret := (some .int)) (by decide) rfl ?_
  intro p e s m args below meth c s₁ B hml hv
  obtain ⟨rfl, hP, hK, hE⟩ := hv
  have hx := B.exec
  have hb := B.bytes
  have hr := B.returns
  have hts := fun w h => atoms_spec (ws := w_Pr_ofBackup) B.pre w (List.mem_cons_of_mem _ h)
  have hown : s.vm.findClass R_Pr = some m.cls := findClass_of_methodNamed B.named
  have hlocks := B.notSynchronized
  have hl := lv_entry ([.ref h0, .int (nI b), .int (nI 2)]) (n := 4) (Nat.le_of_ble_eq_true rfl)
  rw [lg_entry_eq]
  generalize (lg_sl ([.ref h0, .int (nI b), .int (nI 2)]) ++ List.replicate (4 - (lg_sl ([.ref h0, .int (nI b), .int (nI 2)])).length) Slot.unset).toArray = ls at hl ⊢
  have hl : lv_has ls 4 [(0, .ref h0), (1, .int (nI b)), (2, .int (nI 2))] := hl
  refine lv_iload_n hx hb d_Pr_ofBackup_0 rfl (lv_at hl 1 rfl) ?_
  refine lv_iconst (v := (nI 1)) hx hb d_Pr_ofBackup_1 (by decide) ?_
  refine zn_icmp_lt (tgt := 16) hx hb (a := b) (b := 1) (by omega) (by omega) d_Pr_ofBackup_2 (by decide) (fun c_2 => absurd c_2 (by omega)) (fun c_2 => ?_)
  refine lv_iload_n hx hb d_Pr_ofBackup_5 rfl (lv_at hl 1 rfl) ?_
  refine lv_aload_n hx hb d_Pr_ofBackup_6 rfl (lv_at hl 0 rfl) ?_
  refine va_get (D := (dC, dI)) (ci := 0) (v := .ref pB) (C := R_Pr) (T := F_Pr) (N := 7) hx hb hts i_Pr hown hK hP 0 rfl rfl 3 (by decide) (hts _ wd_155) (fun _ h9 => h9) rfl d_Pr_ofBackup_7 ?_
  refine zw_R (r := .int (nI n)) (va_runV (As := []) (rest := [.int (nI b)]) ⟨hx, hb, hml, hown, hts⟩ (c_Bs_howMany l dC dI cT pB bQ aL oK fK rv ae n am) (cwV 0 hts (zgV wd_532 wd_290 wd_291 wd_7 wd_292) rfl rfl rfl (by decide +kernel) ⟨Nat.le_of_ble_eq_true rfl, Nat.le_of_ble_eq_true rfl⟩) ⟨zPreR_blind, va_recv hK hP (ci := 5) (q0 := 1) rfl rfl, zp_R hK hE (zSub (X := [(h0, zoPr pL pT pD pB pS so pR), (pB, zoBs bQ aL rv oK fK), (aL, zoAl ae n am)]) (pl := pl) hP [1, 2] rfl)⟩ rfl rfl hl.1 rfl (lv_room (Nat.le_of_ble_eq_true rfl)) d_Pr_ofBackup_10 ⟨Nat.le_of_ble_eq_true rfl, Nat.le_of_ble_eq_true rfl⟩) ?_
  refine zn_icmp_le (tgt := 18) hx hb (a := b) (b := n) (by omega) (by omega) d_Pr_ofBackup_13 (by decide) (fun c_13 => ?_) (fun c_13 => absurd c_13 (by omega))
  refine lv_aload_n hx hb d_Pr_ofBackup_18 rfl (lv_at hl 0 rfl) ?_
  refine va_get (D := (dC, dI)) (ci := 0) (v := .ref pB) (C := R_Pr) (T := F_Pr) (N := 7) hx hb hts i_Pr hown hK hP 0 rfl rfl 3 (by decide) (hts _ wd_155) (fun _ h9 => h9) rfl d_Pr_ofBackup_19 ?_
  refine lv_iload_n hx hb d_Pr_ofBackup_22 rfl (lv_at hl 1 rfl) ?_
  refine zw_R (r := .ref (ba (b - 1))) (va_runV (As := [.int (nI b)]) (rest := []) ⟨hx, hb, hml, hown, hts⟩ (c_Bs_numbered l dC dI cT pB bQ aL oK fK rv ae n am cap pl ea ba ia bF bS bE bM bV im b (by first | omega | assumption) (by first | omega | assumption) (by first | omega | assumption) (by first | omega | assumption)) (cwV 1 hts (zgV wd_533 wd_352 wd_353 wd_7 wd_354) rfl rfl rfl (by decide +kernel) ⟨Nat.le_of_ble_eq_true rfl, Nat.le_of_ble_eq_true rfl⟩) ⟨zPreR_blind, va_recv hK hP (ci := 5) (q0 := 1) rfl rfl, zp_R hK hE (va_P.part (X := [(h0, zoPr pL pT pD pB pS so pR), (pB, zoBs bQ aL rv oK fK), (aL, zoAl ae n am)]) (pl := pl) hP [1, 2] rfl)⟩ rfl rfl hl.1 rfl (lv_room (Nat.le_of_ble_eq_true rfl)) d_Pr_ofBackup_23 ⟨Nat.le_of_ble_eq_true rfl, Nat.le_of_ble_eq_true rfl⟩) ?_
  refine lv_astore_n (lv' := [(3, .ref (ba (b - 1))), (0, .ref h0), (1, .int (nI b)), (2, .int (nI 2))]) hx hb d_Pr_ofBackup_26 rfl hl (by decide) rfl (fun ls hl => ?_)
  refine lv_iload_n hx hb d_Pr_ofBackup_27 rfl (lv_at hl 3 rfl) ?_
  refine lv_tableIn (tgt := 94) hx hb d_Pr_ofBackup_28 (by decide) (by decide) rfl (by decide) ?_
  have hu_1 := hpo.1 (b - 1) (by omega)
  have hr_2 : va_P (dC, dI) vwCl [(ba (b - 1), bkE (bF (b - 1)) (bS (b - 1)) (ia (b - 1)) (bE (b - 1)) (bM (b - 1)) (bV (b - 1)))] s.heap := zmem hP hu_1.1
  refine lv_aload_n hx hb d_Pr_ofBackup_94 rfl (lv_at hl 0 rfl) ?_
  refine va_get (D := (dC, dI)) (ci := 4) (v := .int (nI (bS (b - 1)))) (C := R_Bk) (T := F_Bk) (N := 6) hx hb hts i_Bk hown hK hr_2 0 rfl rfl 1 (by decide) (hts _ wd_311) (fun _ h9 => h9) rfl d_Pr_ofBackup_95 ?_
  exact W.iret hx hb hr (fun t ht hW => ⟨rfl, ht⟩) (fun q h => by cases h) d_Pr_ofBackup_98
set_option maxHeartbeats 4000000 in
set_option maxRecDepth 100000 in
theorem c_Pr_ofBackup_3 (l : Launch) (dC : Nat → ClassId) (dI : Nat → Nat → Nat) (cT : Nat → ClassId) (h0 : Nat) (pL : Nat) (pT : Nat) (pD : Nat) (pB : Nat) (pS : Nat) (pR : Nat) (so : Bool) (bQ : Nat) (aL : Nat) (oK : Nat) (fK : Nat) (rv : Value) (ae : Nat) (n : Nat) (am : Nat) (cap : Nat) (pl : va_W) (ea : Nat → Option Nat) (ba : Nat → Nat) (ia : Nat → Nat) (bF : Nat → Bool) (bS : Nat → Nat) (bE : Nat → Nat) (bM : Nat → Nat) (bV : Nat → Nat) (im : Nat → Nat → Int32) (b : Nat) (hpo : zPo cT pl n ae cap ea ba ia bF bS bE bM bV im) (hn : n ≤ 257) (hb1 : 1 ≤ b) (hb2 : b ≤ n) : Met l y_Pr_ofBackup w_Pr_ofBackup ({ frames := 4, cells := 0, slots := 0, locals := 85 } : Room) (zPreR (dC, dI) vwCl (zT cT) [.ref h0, .int (nI b), .int (nI 3)] ([(h0, zoPr pL pT pD pB pS so pR), (pB, zoBs bQ aL rv oK fK), (aL, zoAl ae n am)] ++ pl)) (k2_QcV (.int (nI (bE (b - 1))))) 0 0 (fun _ => False) := by
  refine Met.ofW (cc := b_Pr_ofBackup) (maxL := 4) (ret := (some .int)) (by decide) rfl ?_
  intro p e s m args below meth c s₁ B hml hv
  obtain ⟨rfl, hP, hK, hE⟩ := hv
  have hx := B.exec
  have hb := B.bytes
  have hr := B.returns
  have hts := fun w h => atoms_spec (ws := w_Pr_ofBackup) B.pre w (List.mem_cons_of_mem _ h)
  have hown : s.vm.findClass R_Pr = some m.cls := findClass_of_methodNamed B.named
  have hlocks := B.notSynchronized
  have hl := lv_entry ([.ref h0, .int (nI b), .int (nI 3)]) (n := 4) (Nat.le_of_ble_eq_true rfl)
  rw [lg_entry_eq]
  generalize (lg_sl ([.ref h0, .int (nI b), .int (nI 3)]) ++ List.replicate (4 - (lg_sl ([.ref h0, .int (nI b), .int (nI 3)])).length) Slot.unset).toArray = ls at hl ⊢
  have hl : lv_has ls 4 [(0, .ref h0), (1, .int (nI b)), (2, .int (nI 3))] := hl
  refine lv_iload_n hx hb d_Pr_ofBackup_0 rfl (lv_at hl 1 rfl) ?_
  refine lv_iconst (v := (nI 1)) hx hb d_Pr_ofBackup_1 (by decide) ?_
  refine zn_icmp_lt (tgt := 16) hx hb (a := b) (b := 1) (by omega) (by omega) d_Pr_ofBackup_2 (by decide) (fun c_2 => absurd c_2 (by omega)) (fun c_2 => ?_)
  refine lv_iload_n hx hb d_Pr_ofBackup_5 rfl (lv_at hl 1 rfl) ?_
  refine lv_aload_n hx hb d_Pr_ofBackup_6 rfl (lv_at hl 0 rfl) ?_
  refine va_get (D := (dC, dI)) (ci := 0) (v := .ref pB) (C := R_Pr) (T := F_Pr) (N := 7) hx hb hts i_Pr hown hK hP 0 rfl rfl 3 (by decide) (hts _ wd_155) (fun _ h9 => h9) rfl d_Pr_ofBackup_7 ?_
  refine zw_R (r := .int (nI n)) (va_runV (As := []) (rest := [.int (nI b)]) ⟨hx, hb, hml, hown, hts⟩ (c_Bs_howMany l dC dI cT pB bQ aL oK fK rv ae n am) (cwV 0 hts (zgV wd_532 wd_290 wd_291 wd_7 wd_292) rfl rfl rfl (by decide +kernel) ⟨Nat.le_of_ble_eq_true rfl, Nat.le_of_ble_eq_true rfl⟩) ⟨zPreR_blind, va_recv hK hP (ci := 5) (q0 := 1) rfl rfl, zp_R hK hE (zSub (X := [(h0, zoPr pL pT pD pB pS so pR), (pB, zoBs bQ aL rv oK fK), (aL, zoAl ae n am)]) (pl := pl) hP [1, 2] rfl)⟩ rfl rfl hl.1 rfl (lv_room (Nat.le_of_ble_eq_true rfl)) d_Pr_ofBackup_10 ⟨Nat.le_of_ble_eq_true rfl, Nat.le_of_ble_eq_true rfl⟩) ?_
  refine zn_icmp_le (tgt := 18) hx hb (a := b) (b := n) (by omega) (by omega) d_Pr_ofBackup_13 (by decide) (fun c_13 => ?_) (fun c_13 => absurd c_13 (by omega))
  refine lv_aload_n hx hb d_Pr_ofBackup_18 rfl (lv_at hl 0 rfl) ?_
  refine va_get (D := (dC, dI)) (ci := 0) (v := .ref pB) (C := R_Pr) (T := F_Pr) (N := 7) hx hb hts i_Pr hown hK hP 0 rfl rfl 3 (by decide) (hts _ wd_155) (fun _ h9 => h9) rfl d_Pr_ofBackup_19 ?_
  refine lv_iload_n hx hb d_Pr_ofBackup_22 rfl (lv_at hl 1 rfl) ?_
  refine zw_R (r := .ref (ba (b - 1))) (va_runV (As := [.int (nI b)]) (rest := []) ⟨hx, hb, hml, hown, hts⟩ (c_Bs_numbered l dC dI cT pB bQ aL oK fK rv ae n am cap pl ea ba ia bF bS bE bM bV im b (by first | omega | assumption) (by first | omega | assumption) (by first | omega | assumption) (by first | omega | assumption)) (cwV 1 hts (zgV wd_533 wd_352 wd_353 wd_7 wd_354) rfl rfl rfl (by decide +kernel) ⟨Nat.le_of_ble_eq_true rfl, Nat.le_of_ble_eq_true rfl⟩) ⟨zPreR_blind, va_recv hK hP (ci := 5) (q0 := 1) rfl rfl, zp_R hK hE (va_P.part (X := [(h0, zoPr pL pT pD pB pS so pR), (pB, zoBs bQ aL rv oK fK), (aL, zoAl ae n am)]) (pl := pl) hP [1, 2] rfl)⟩ rfl rfl hl.1 rfl (lv_room (Nat.le_of_ble_eq_true rfl)) d_Pr_ofBackup_23 ⟨Nat.le_of_ble_eq_true rfl, Nat.le_of_ble_eq_true rfl⟩) ?_
  refine lv_astore_n (lv' := [(3, .ref (ba (b - 1))), (0, .ref h0), (1, .int (nI b)), (2, .int (nI 3))]) hx hb d_Pr_ofBackup_26 rfl hl (by decide) rfl (fun ls hl => ?_)
  refine lv_iload_n hx hb d_Pr_ofBackup_27 rfl (lv_at hl 3 rfl) ?_
  refine lv_tableIn (tgt := 99) hx hb d_Pr_ofBackup_28 (by decide) (by decide) rfl (by decide) ?_
  have hu_1 := hpo.1 (b - 1) (by omega)
  have hr_2 : va_P (dC, dI) vwCl [(ba (b - 1), bkE (bF (b - 1)) (bS (b - 1)) (ia (b - 1)) (bE (b - 1)) (bM (b - 1)) (bV (b - 1)))] s.heap := zmem hP hu_1.1
  refine lv_aload_n hx hb d_Pr_ofBackup_99 rfl (lv_at hl 0 rfl) ?_
  refine va_get (D := (dC, dI)) (ci := 4) (v := .int (nI (bE (b - 1)))) (C := R_Bk) (T := F_Bk) (N := 6) hx hb hts i_Bk hown hK hr_2 0 rfl rfl 3 (by decide) (hts _ wd_315) (fun _ h9 => h9) rfl d_Pr_ofBackup_100 ?_
  exact W.iret hx hb hr (fun t ht hW => ⟨rfl, ht⟩) (fun q h => by cases h) d_Pr_ofBackup_103
set_option maxHeartbeats 4000000 in
set_option maxRecDepth 100000 in
theorem c_Pr_ofBackup_4 (l : Launch) (dC : Nat → ClassId) (dI : Nat → Nat → Nat) (cT : Nat → ClassId) (h0 : Nat) (pL : Nat) (pT : Nat) (pD : Nat) (pB : Nat) (pS : Nat) (pR : Nat) (so : Bool) (bQ : Nat) (aL : Nat) (oK : Nat) (fK : Nat) (rv : Value) (ae : Nat) (n : Nat) (am : Nat) (cap : Nat) (pl : va_W) (ea : Nat → Option Nat) (ba : Nat → Nat) (ia : Nat → Nat) (bF : Nat → Bool) (bS : Nat → Nat) (bE : Nat → Nat) (bM : Nat → Nat) (bV : Nat → Nat) (im : Nat → Nat → Int32) (b : Nat) (hpo : zPo cT pl n ae cap ea ba ia bF bS bE bM bV im) (hn : n ≤ 257) (hb1 : 1 ≤ b) (hb2 : b ≤ n) : Met l y_Pr_ofBackup w_Pr_ofBackup ({ frames := 4, cells := 0, slots := 0, locals := 85 } : Room) (zPreR (dC, dI) vwCl (zT cT) [.ref h0, .int (nI b), .int (nI 4)] ([(h0, zoPr pL pT pD pB pS so pR), (pB, zoBs bQ aL rv oK fK), (aL, zoAl ae n am)] ++ pl)) (k2_QcV (.int (nI (bM (b - 1))))) 0 0 (fun _ => False) := by
  refine Met.ofW (cc := b_Pr_ofBackup) (maxL := 4) (ret := (some .int)) (by decide) rfl ?_
  intro p e s m args below meth c s₁ B hml hv
  obtain ⟨rfl, hP, hK, hE⟩ := hv
  have hx := B.exec
  have hb := B.bytes
  have hr := B.returns
  have hts := fun w h => atoms_spec (ws := w_Pr_ofBackup) B.pre w (List.mem_cons_of_mem _ h)
  have hown : s.vm.findClass R_Pr = some m.cls := findClass_of_methodNamed B.named
  have hlocks := B.notSynchronized
  have hl := lv_entry ([.ref h0, .int (nI b), .int (nI 4)]) (n := 4) (Nat.le_of_ble_eq_true rfl)
  rw [lg_entry_eq]
  generalize (lg_sl ([.ref h0, .int (nI b), .int (nI 4)]) ++ List.replicate (4 - (lg_sl ([.ref h0, .int (nI b), .int (nI 4)])).length) Slot.unset).toArray = ls at hl ⊢
  have hl : lv_has ls 4 [(0, .ref h0), (1, .int (nI b)), (2, .int (nI 4))] := hl
  refine lv_iload_n hx hb d_Pr_ofBackup_0 rfl (lv_at hl 1 rfl) ?_
  refine lv_iconst (v := (nI 1)) hx hb d_Pr_ofBackup_1 (by decide) ?_
  refine zn_icmp_lt (tgt := 16) hx hb (a := b) (b := 1) (by omega) (by omega) d_Pr_ofBackup_2 (by decide) (fun c_2 => absurd c_2 (by omega)) (fun c_2 => ?_)
  refine lv_iload_n hx hb d_Pr_ofBackup_5 rfl (lv_at hl 1 rfl) ?_
  refine lv_aload_n hx hb d_Pr_ofBackup_6 rfl (lv_at hl 0 rfl) ?_
  refine va_get (D := (dC, dI)) (ci := 0) (v := .ref pB) (C := R_Pr) (T := F_Pr) (N := 7) hx hb hts i_Pr hown hK hP 0 rfl rfl 3 (by decide) (hts _ wd_155) (fun _ h9 => h9) rfl d_Pr_ofBackup_7 ?_
  refine zw_R (r := .int (nI n)) (va_runV (As := []) (rest := [.int (nI b)]) ⟨hx, hb, hml, hown, hts⟩ (c_Bs_howMany l dC dI cT pB bQ aL oK fK rv ae n am) (cwV 0 hts (zgV wd_532 wd_290 wd_291 wd_7 wd_292) rfl rfl rfl (by decide +kernel) ⟨Nat.le_of_ble_eq_true rfl, Nat.le_of_ble_eq_true rfl⟩) ⟨zPreR_blind, va_recv hK hP (ci := 5) (q0 := 1) rfl rfl, zp_R hK hE (zSub (X := [(h0, zoPr pL pT pD pB pS so pR), (pB, zoBs bQ aL rv oK fK), (aL, zoAl ae n am)]) (pl := pl) hP [1, 2] rfl)⟩ rfl rfl hl.1 rfl (lv_room (Nat.le_of_ble_eq_true rfl)) d_Pr_ofBackup_10 ⟨Nat.le_of_ble_eq_true rfl, Nat.le_of_ble_eq_true rfl⟩) ?_
  refine zn_icmp_le (tgt := 18) hx hb (a := b) (b := n) (by omega) (by omega) d_Pr_ofBackup_13 (by decide) (fun c_13 => ?_) (fun c_13 => absurd c_13 (by omega))
  refine lv_aload_n hx hb d_Pr_ofBackup_18 rfl (lv_at hl 0 rfl) ?_
  refine va_get (D := (dC, dI)) (ci := 0) (v := .ref pB) (C := R_Pr) (T := F_Pr) (N := 7) hx hb hts i_Pr hown hK hP 0 rfl rfl 3 (by decide) (hts _ wd_155) (fun _ h9 => h9) rfl d_Pr_ofBackup_19 ?_
  refine lv_iload_n hx hb d_Pr_ofBackup_22 rfl (lv_at hl 1 rfl) ?_
  refine zw_R (r := .ref (ba (b - 1))) (va_runV (As := [.int (nI b)]) (rest := []) ⟨hx, hb, hml, hown, hts⟩ (c_Bs_numbered l dC dI cT pB bQ aL oK fK rv ae n am cap pl ea ba ia bF bS bE bM bV im b (by first | omega | assumption) (by first | omega | assumption) (by first | omega | assumption) (by first | omega | assumption)) (cwV 1 hts (zgV wd_533 wd_352 wd_353 wd_7 wd_354) rfl rfl rfl (by decide +kernel) ⟨Nat.le_of_ble_eq_true rfl, Nat.le_of_ble_eq_true rfl⟩) ⟨zPreR_blind, va_recv hK hP (ci := 5) (q0 := 1) rfl rfl, zp_R hK hE (va_P.part (X := [(h0, zoPr pL pT pD pB pS so pR), (pB, zoBs bQ aL rv oK fK), (aL, zoAl ae n am)]) (pl := pl) hP [1, 2] rfl)⟩ rfl rfl hl.1 rfl (lv_room (Nat.le_of_ble_eq_true rfl)) d_Pr_ofBackup_23 ⟨Nat.le_of_ble_eq_true rfl, Nat.le_of_ble_eq_true rfl⟩) ?_
  refine lv_astore_n (lv' := [(3, .ref (ba (b - 1))), (0, .ref h0), (1, .int (nI b)), (2, .int (nI 4))]) hx hb d_Pr_ofBackup_26 rfl hl (by decide) rfl (fun ls hl => ?_)
  refine lv_iload_n hx hb d_Pr_ofBackup_27 rfl (lv_at hl 3 rfl) ?_
  refine lv_tableIn (tgt := 104) hx hb d_Pr_ofBackup_28 (by decide) (by decide) rfl (by decide) ?_
  have hu_1 := hpo.1 (b - 1) (by omega)
  have hr_2 : va_P (dC, dI) vwCl [(ba (b - 1), bkE (bF (b - 1)) (bS (b - 1)) (ia (b - 1)) (bE (b - 1)) (bM (b - 1)) (bV (b - 1)))] s.heap := zmem hP hu_1.1
  refine lv_aload_n hx hb d_Pr_ofBackup_104 rfl (lv_at hl 0 rfl) ?_
  refine va_get (D := (dC, dI)) (ci := 4) (v := .int (nI (bM (b - 1)))) (C := R_Bk) (T := F_Bk) (N := 6) hx hb hts i_Bk hown hK hr_2 0 rfl rfl 4 (by decide) (hts _ wd_317) (fun _ h9 => h9) rfl d_Pr_ofBackup_105 ?_
  exact W.iret hx hb hr (fun t ht hW => ⟨rfl, ht⟩) (fun q h => by cases h) d_Pr_ofBackup_108
