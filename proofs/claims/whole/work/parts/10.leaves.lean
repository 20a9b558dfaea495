/-! words of mathematics for the states -/
def zfill {α : Type} (f : Nat → α) (x : α) (n : Nat) : Nat → α := fun j => if j < n then x else f j
theorem zfill_0 {α : Type} (f : Nat → α) (x : α) : zfill f x 0 = f := by
  funext j
  simp [zfill]
theorem zfill_s {α : Type} (f : Nat → α) (x : α) (i : Nat) : va_up (zfill f x i) i x = zfill f x (i + 1) := by
  funext j
  simp only [va_up, zfill]
  by_cases h : j = i
  · subst h; simp
  · by_cases h2 : j < i
    · simp [h, h2, Nat.lt_succ_of_lt h2]
    · have h3 : ¬ j < i + 1 := by omega
      simp [h, h2, h3]
/-- a number that names one of n things -/
def isIn (x : Int32) (n : Nat) : Bool := decide (¬ x < 0) && decide (¬ nI n ≤ x)
def kN (x : Int32) : Nat := x.toNatClampNeg
theorem isIn_of {x : Int32} {n : Nat} (hn : n < 2 ^ 31) (h : isIn x n = true) : x = nI (kN x) ∧ kN x < n := by
  simp only [isIn, Bool.and_eq_true, decide_eq_true_eq] at h
  rcases pk_ix x hn with q | q | ⟨j, hj, rfl⟩
  · exact absurd q h.1
  · exact absurd q h.2
  · have e : kN (nI j) = j := nI_clamp (by omega)
    rw [e]
    exact ⟨rfl, hj⟩
theorem isIn_nI {k n : Nat} (hn : n < 2 ^ 31) (h : k < n) : isIn (nI k) n = true := by
  simp only [isIn, Bool.and_eq_true, decide_eq_true_eq]
  exact ⟨nI_pos (by omega), fun q => by have := (nI_leI (by omega) (by omega)).mp q; omega⟩
theorem kN_nI {k : Nat} (h : k < 2 ^ 31) : kN (nI k) = k := nI_clamp h
theorem isIn_f1 {x : Int32} {n : Nat} (h : x < 0) : isIn x n = false := by simp [isIn, h]
theorem isIn_f2 {x : Int32} {n : Nat} (h : nI n ≤ x) : isIn x n = false := by simp [isIn, h]
theorem isIn_t {x : Int32} {n : Nat} (h : ¬ x < 0) (h2 : ¬ nI n ≤ x) : isIn x n = true := by simp [isIn, h, h2]
/-- how many CHANGES there are up to a record, that lie above their page's number -/
def zchg (ks : Nat → Int32) (nm : Nat → Nat) : Nat → Nat
  | 0 => 0
  | n + 1 => zchg ks nm n + (if isIn (ks (n + 1)) 32 = true ∧ nm (kN (ks (n + 1)) / 4) < n + 1 then 1 else 0)
theorem zchg_le (ks : Nat → Int32) (nm : Nat → Nat) : ∀ n, zchg ks nm n ≤ n
  | 0 => Nat.le_refl _
  | n + 1 => by
    have := zchg_le ks nm n
    simp only [zchg]
    split <;> omega
/-- the table as the CHANGES up to a record say -/
def ztab (ks : Nat → Int32) (cs : Nat → Int64) (f : Nat → Int64) : Nat → Nat → Int64
  | 0 => f
  | n + 1 => if isIn (ks (n + 1)) 32 = true then va_up (ztab ks cs f n) (kN (ks (n + 1))) (cs (n + 1)) else ztab ks cs f n
/-- how many COMMITS there are up to a record -/
def zcom (ks : Nat → Int32) : Nat → Nat
  | 0 => 0
  | n + 1 => zcom ks n + (if ks (n + 1) = -1 then 1 else 0)
/-- the log behind d steps of an UNDO: keys, contents, table, pages' numbers -/
def zuK (ks : Nat → Int32) (tk : Nat → Nat) (L ch : Nat) : Nat → Nat → Int32
  | 0 => ks
  | d + 1 => va_up (zuK ks tk L ch d) (L + d + 1) (nI (tk (ch - (d + 1))))
def zuC (cs : Nat → Int64) (tr : Nat → Int64) (L ch : Nat) : Nat → Nat → Int64
  | 0 => cs
  | d + 1 => va_up (zuC cs tr L ch d) (L + d + 1) (tr (ch - (d + 1)))
def zuT (tb : Nat → Int64) (tk : Nat → Nat) (tr : Nat → Int64) (ch : Nat) : Nat → Nat → Int64
  | 0 => tb
  | d + 1 => va_up (zuT tb tk tr ch d) (tk (ch - (d + 1))) (tr (ch - (d + 1)))
def zuP (pn : Nat → Nat) (tk : Nat → Nat) (L ch : Nat) : Nat → Nat → Nat
  | 0 => pn
  | d + 1 => va_up (zuP pn tk L ch d) (tk (ch - (d + 1)) / 4) (L + d + 1)
/-- and its end -/
def zuL (L ch : Nat) : Nat := if ch = 0 then L else L + ch + 1
def zuKe (ks : Nat → Int32) (tk : Nat → Nat) (L ch : Nat) : Nat → Int32 := if ch = 0 then ks else va_up (zuK ks tk L ch ch) (L + ch + 1) (-2)
def zuCe (cs : Nat → Int64) (tr : Nat → Int64) (L ch : Nat) : Nat → Int64 := if ch = 0 then cs else va_up (zuC cs tr L ch ch) (L + ch + 1) 1000000000000
theorem zcom_le (ks : Nat → Int32) : ∀ n, zcom ks n ≤ n
  | 0 => Nat.le_refl _
  | n + 1 => by
    have := zcom_le ks n
    simp only [zcom]
    split <;> omega
theorem zm1 (x : Int32) : x + Int32.ofInt (-1) = x - 1 := by
  rw [Int32.sub_eq_add_neg]
  rfl
set_option maxHeartbeats 4000000 in
set_option maxRecDepth 100000 in
/-- Arrays.fill(int[], int) -/
theorem c_Ar_fill_2I (l : Launch) (dC : Nat → ClassId) (dI : Nat → Nat → Nat) (cT : Nat → ClassId) (sz : Nat) (h0 : Nat) (n : Nat) (f : Nat → Int32) (x : Int32) (hn : n < 2 ^ 30) : Met l y_Ar_fill_2I w_Ar_fill_2I ({ frames := 0, cells := 0, slots := 0, locals := 0 } : Room) (zPre (dC, dI) vwCl (zT cT) [.ref h0, .int x] ([(h0, zaI (cT 0) n f)]) sz) (zQ (dC, dI) vwCl (S := Unit) (fun zu => True) (fun zu => none) (fun zu => [(h0, zaI (cT 0) n (zfill f x n))]) (va_A ([(h0, zaI (cT 0) n f)]) sz)) 0 0 (va_A ([(h0, zaI (cT 0) n f)]) sz) := by
  refine Met.ofW (cc := b_Ar_fill_2I) (maxL := 4) (ret := none) (by decide) rfl ?_
  intro p e s m args below meth c s₁ B hml hv
  obtain ⟨rfl, hsz, hP, hK, hD0, hE⟩ := hv
  have hx := B.exec
  have hb := B.bytes
  have hr := B.returns
  have hts := fun w h => atoms_spec (ws := w_Ar_fill_2I) B.pre w (List.mem_cons_of_mem _ h)
  have hown : s.vm.findClass R_Ar = some m.cls := findClass_of_methodNamed B.named
  have hlocks := B.notSynchronized
  subst hsz
  have hD := hD0.self (sz := s.heap.size)
  generalize hAe : va_A ([(h0, zaI (cT 0) n f)]) s.heap.size = A at hD ⊢
  have hA : ∀ q : Nat, s.heap.size ≤ q → A q := fun q h => by rw [← hAe]; exact Or.inr h
  have hS : va_S A s.heap s.heap [] := va_S.rf
  have hl := lv_entry ([.ref h0, .int x]) (n := 4) (Nat.le_of_ble_eq_true rfl)
  rw [lg_entry_eq]
  generalize (lg_sl ([.ref h0, .int x]) ++ List.replicate (4 - (lg_sl ([.ref h0, .int x])).length) Slot.unset).toArray = ls at hl ⊢
  have hl : lv_has ls 4 [(0, .ref h0), (1, .int x)] := hl
  refine lv_iconst (v := (nI 0)) hx hb d_Ar_fill_2I_0 (by decide) ?_
  refine lv_istore_n (lv' := [(2, .int (nI 0)), (0, .ref h0), (1, .int x)]) hx hb d_Ar_fill_2I_1 rfl hl (by decide) rfl (fun ls hl => ?_)
  refine lv_aload_n hx hb d_Ar_fill_2I_2 rfl (lv_at hl 1 rfl) ?_
  refine va_alen (v := nI n) hx hb hK hP 0 0 rfl rfl rfl d_Ar_fill_2I_3 ?_
  refine lv_istore_n (lv' := [(3, .int (nI n)), (2, .int (nI 0)), (0, .ref h0), (1, .int x)]) hx hb d_Ar_fill_2I_4 rfl hl (by decide) rfl (fun ls hl => ?_)
  have loop_5 : ∀ (fu : Nat) (i : Nat) (g : Nat → Int32), n - i < fu → (i ≤ n) → (g = zfill f x i) → ∀ (H : Heap) (locs : List Loc), va_P (dC, dI) vwCl ([(h0, zaI (cT 0) n g)]) H → va_D A ([(h0, zaI (cT 0) n g)]) → va_S A s.heap H locs → ∀ (ls : Array Slot), lv_has ls 4 [(0, .ref h0), (1, .int x), (2, .int (nI i)), (3, .int (nI n))] → W p l e (headSpec w_Ar_fill_2I ({ frames := 0, cells := 0, slots := 0, locals := 0 } : Room)).room s m ([.ref h0, .int x] : List Value).toArray below meth c H locs 0 0 (MQ below (zQ (dC, dI) vwCl (S := Unit) (fun zu => True) (fun zu => none) (fun zu => [(h0, zaI (cT 0) n (zfill f x n))]) A) ([.ref h0, .int x] : List Value).toArray s 0 0 A) (F0 m 5 ls []) := by
    intro fu
    induction fu with
    | zero => intro _ _ hm; exact absurd hm (Nat.not_lt_zero _)
    | succ fu ih_5 =>
      intro i g hm_5 h1 h2 H locs hP hD hS ls hl
      refine lv_iload_n hx hb d_Ar_fill_2I_5 rfl (lv_at hl 2 rfl) ?_
      refine lv_iload_n hx hb d_Ar_fill_2I_6 rfl (lv_at hl 3 rfl) ?_
      refine zn_icmp_ge (tgt := 20) hx hb (a := i) (b := n) (by omega) (by omega) d_Ar_fill_2I_7 (by decide) (fun c_7 => ?_) (fun c_7 => ?_)
      · have hP9 := hP.sub (ws' := [(h0, zaI (cT 0) n g)]) [0] rfl
        have hD9 := hD.sub (ws' := [(h0, zaI (cT 0) n g)]) [0] (by decide) rfl
        have hg : g = zfill f x n := by rw [h2, show i = n by omega]
        rw [hg] at hP9 hD9
        exact W.vret hx hb hr (fun t ht hW => ⟨⟨(), trivial, rfl, by rw [ht]; exact hP9, hD9⟩, hS.F ht⟩) hS.2.2 d_Ar_fill_2I_20
      · refine lv_aload_n hx hb d_Ar_fill_2I_10 rfl (lv_at hl 0 rfl) ?_
        refine lv_iload_n hx hb d_Ar_fill_2I_11 rfl (lv_at hl 2 rfl) ?_
        refine lv_iload_n hx hb d_Ar_fill_2I_12 rfl (lv_at hl 1 rfl) ?_
        refine zn_iast hx hb hK hP hD hS 0 0 rfl rfl (i := i) (x := x) (by omega) (by omega) d_Ar_fill_2I_13 (fun H locs hP hD hS => ?_)
        have hP : va_P (dC, dI) vwCl ([(h0, zaI (cT 0) n (va_up g i x))]) H := hP
        have hD : va_D A ([(h0, zaI (cT 0) n (va_up g i x))]) := hD
        refine lv_iinc (v := (nI (i + 1))) (lv' := [(2, .int (nI (i + 1))), (0, .ref h0), (1, .int x), (3, .int (nI n))]) hx hb d_Ar_fill_2I_14 hl (k := 2) rfl (nI_1 _) (by decide) rfl (fun ls hl => ?_)
        refine lv_goto (tgt := 5) hx hb d_Ar_fill_2I_17 (by decide) ?_
        exact ih_5 (i + 1) (va_up g i x) (by omega) (by first | omega | assumption) (by rw [h2, zfill_s]) H locs (hP.sub [0] rfl) (hD.sub [0] (by decide) rfl) hS ls (lv_sub hl [1, 2, 0, 3] rfl)
  exact loop_5 (n - 0 + 1) 0 f (by omega) (by first | omega | assumption) (by rw [zfill_0]) s.heap [] (hP.sub [0] rfl) (hD.sub [0] (by decide) rfl) hS ls (lv_sub hl [2, 3, 1, 0] rfl)
set_option maxHeartbeats 4000000 in
set_option maxRecDepth 100000 in
/-- Arrays.fill(long[], long) -/
theorem c_Ar_fill_2J (l : Launch) (dC : Nat → ClassId) (dI : Nat → Nat → Nat) (cT : Nat → ClassId) (sz : Nat) (h0 : Nat) (n : Nat) (f : Nat → Int64) (x : Int64) (hn : n < 2 ^ 30) : Met l y_Ar_fill_2J w_Ar_fill_2J ({ frames := 0, cells := 0, slots := 0, locals := 0 } : Room) (zPre (dC, dI) vwCl (zT cT) [.ref h0, .long x] ([(h0, zaJ (cT 1) n f)]) sz) (zQ (dC, dI) vwCl (S := Unit) (fun zu => True) (fun zu => none) (fun zu => [(h0, zaJ (cT 1) n (zfill f x n))]) (va_A ([(h0, zaJ (cT 1) n f)]) sz)) 0 0 (va_A ([(h0, zaJ (cT 1) n f)]) sz) := by
  refine Met.ofW (cc := b_Ar_fill_2J) (maxL := 5) (ret := none) (by decide) rfl ?_
  intro p e s m args below meth c s₁ B hml hv
  obtain ⟨rfl, hsz, hP, hK, hD0, hE⟩ := hv
  have hx := B.exec
  have hb := B.bytes
  have hr := B.returns
  have hts := fun w h => atoms_spec (ws := w_Ar_fill_2J) B.pre w (List.mem_cons_of_mem _ h)
  have hown : s.vm.findClass R_Ar = some m.cls := findClass_of_methodNamed B.named
  have hlocks := B.notSynchronized
  subst hsz
  have hD := hD0.self (sz := s.heap.size)
  generalize hAe : va_A ([(h0, zaJ (cT 1) n f)]) s.heap.size = A at hD ⊢
  have hA : ∀ q : Nat, s.heap.size ≤ q → A q := fun q h => by rw [← hAe]; exact Or.inr h
  have hS : va_S A s.heap s.heap [] := va_S.rf
  have hl := lv_entry ([.ref h0, .long x]) (n := 5) (Nat.le_of_ble_eq_true rfl)
  rw [lg_entry_eq]
  generalize (lg_sl ([.ref h0, .long x]) ++ List.replicate (5 - (lg_sl ([.ref h0, .long x])).length) Slot.unset).toArray = ls at hl ⊢
  have hl : lv_has ls 5 [(0, .ref h0), (1, .long x)] := hl
  refine lv_iconst (v := (nI 0)) hx hb d_Ar_fill_2J_0 (by decide) ?_
  refine lv_istore_n (lv' := [(3, .int (nI 0)), (0, .ref h0), (1, .long x)]) hx hb d_Ar_fill_2J_1 rfl hl (by decide) rfl (fun ls hl => ?_)
  refine lv_aload_n hx hb d_Ar_fill_2J_2 rfl (lv_at hl 1 rfl) ?_
  refine va_alen (v := nI n) hx hb hK hP 0 1 rfl rfl rfl d_Ar_fill_2J_3 ?_
  refine lv_istore (lv' := [(4, .int (nI n)), (3, .int (nI 0)), (0, .ref h0), (1, .long x)]) hx hb d_Ar_fill_2J_4 hl (by decide) rfl (fun ls hl => ?_)
  have loop_6 : ∀ (fu : Nat) (i : Nat) (g : Nat → Int64), n - i < fu → (i ≤ n) → (g = zfill f x i) → ∀ (H : Heap) (locs : List Loc), va_P (dC, dI) vwCl ([(h0, zaJ (cT 1) n g)]) H → va_D A ([(h0, zaJ (cT 1) n g)]) → va_S A s.heap H locs → ∀ (ls : Array Slot), lv_has ls 5 [(0, .ref h0), (1, .long x), (3, .int (nI i)), (4, .int (nI n))] → W p l e (headSpec w_Ar_fill_2J ({ frames := 0, cells := 0, slots := 0, locals := 0 } : Room)).room s m ([.ref h0, .long x] : List Value).toArray below meth c H locs 0 0 (MQ below (zQ (dC, dI) vwCl (S := Unit) (fun zu => True) (fun zu => none) (fun zu => [(h0, zaJ (cT 1) n (zfill f x n))]) A) ([.ref h0, .long x] : List Value).toArray s 0 0 A) (F0 m 6 ls []) := by
    intro fu
    induction fu with
    | zero => intro _ _ hm; exact absurd hm (Nat.not_lt_zero _)
    | succ fu ih_6 =>
      intro i g hm_6 h1 h2 H locs hP hD hS ls hl
      refine lv_iload_n hx hb d_Ar_fill_2J_6 rfl (lv_at hl 2 rfl) ?_
      refine lv_iload hx hb d_Ar_fill_2J_7 (lv_at hl 3 rfl) ?_
      refine zn_icmp_ge (tgt := 22) hx hb (a := i) (b := n) (by omega) (by omega) d_Ar_fill_2J_9 (by decide) (fun c_9 => ?_) (fun c_9 => ?_)
      · have hP9 := hP.sub (ws' := [(h0, zaJ (cT 1) n g)]) [0] rfl
        have hD9 := hD.sub (ws' := [(h0, zaJ (cT 1) n g)]) [0] (by decide) rfl
        have hg : g = zfill f x n := by rw [h2, show i = n by omega]
        rw [hg] at hP9 hD9
        exact W.vret hx hb hr (fun t ht hW => ⟨⟨(), trivial, rfl, by rw [ht]; exact hP9, hD9⟩, hS.F ht⟩) hS.2.2 d_Ar_fill_2J_22
      · refine lv_aload_n hx hb d_Ar_fill_2J_12 rfl (lv_at hl 0 rfl) ?_
        refine lv_iload_n hx hb d_Ar_fill_2J_13 rfl (lv_at hl 2 rfl) ?_
        refine lv_lload_n hx hb d_Ar_fill_2J_14 rfl (lv_at hl 1 rfl) ?_
        refine zn_last hx hb hK hP hD hS 0 1 rfl rfl (i := i) (x := x) (by omega) (by omega) d_Ar_fill_2J_15 (fun H locs hP hD hS => ?_)
        have hP : va_P (dC, dI) vwCl ([(h0, zaJ (cT 1) n (va_up g i x))]) H := hP
        have hD : va_D A ([(h0, zaJ (cT 1) n (va_up g i x))]) := hD
        refine lv_iinc (v := (nI (i + 1))) (lv' := [(3, .int (nI (i + 1))), (0, .ref h0), (1, .long x), (4, .int (nI n))]) hx hb d_Ar_fill_2J_16 hl (k := 2) rfl (nI_1 _) (by decide) rfl (fun ls hl => ?_)
        refine lv_goto (tgt := 6) hx hb d_Ar_fill_2J_19 (by decide) ?_
        exact ih_6 (i + 1) (va_up g i x) (by omega) (by first | omega | assumption) (by rw [h2, zfill_s]) H locs (hP.sub [0] rfl) (hD.sub [0] (by decide) rfl) hS ls (lv_sub hl [1, 2, 0, 3] rfl)
  exact loop_6 (n - 0 + 1) 0 f (by omega) (by first | omega | assumption) (by rw [zfill_0]) s.heap [] (hP.sub [0] rfl) (hD.sub [0] (by decide) rfl) hS ls (lv_sub hl [2, 3, 1, 0] rfl)
set_option maxHeartbeats 4000000 in
set_option maxRecDepth 100000 in
theorem c_Lg_latest (l : Launch) (dC : Nat → ClassId) (dI : Nat → Nat → Nat) (cT : Nat → ClassId) (h0 : Nat) (lS : Nat) (aK : Nat) (aC : Nat) (aT : Nat) (aP : Nat) (lL : Nat) (lC : Nat) (lA : Nat) (lP : Nat) : Met l y_Lg_latest w_Lg_latest ({ frames := 0, cells := 0, slots := 0, locals := 0 } : Room) (zPreR (dC, dI) vwCl (zT cT) [.ref h0] ([(h0, zoLg lS aK aC aT aP lL lC lA lP)])) (k2_QcV (.int (nI lL))) 0 0 (fun _ => False) := by
  refine Met.ofW (cc := b_Lg_latest) (maxL := 1) (ret := (some .int)) (by decide) rfl ?_
  intro p e s m args below meth c s₁ B hml hv
  obtain ⟨rfl, hP, hK, hE⟩ := hv
  have hx := B.exec
  have hb := B.bytes
  have hr := B.returns
  have hts := fun w h => atoms_spec (ws := w_Lg_latest) B.pre w (List.mem_cons_of_mem _ h)
  have hown : s.vm.findClass R_Lg = some m.cls := findClass_of_methodNamed B.named
  have hlocks := B.notSynchronized
  have hl := lv_entry ([.ref h0]) (n := 1) (Nat.le_of_ble_eq_true rfl)
  rw [lg_entry_eq]
  generalize (lg_sl ([.ref h0]) ++ List.replicate (1 - (lg_sl ([.ref h0])).length) Slot.unset).toArray = ls at hl ⊢
  have hl : lv_has ls 1 [(0, .ref h0)] := hl
  refine lv_aload_n hx hb d_Lg_latest_0 rfl (lv_at hl 0 rfl) ?_
  refine va_get (D := (dC, dI)) (ci := 1) (v := .int (nI lL)) (C := R_Lg) (T := F_Lg) (N := 9) hx hb hts i_Lg hown hK hP 0 rfl rfl 5 (by decide) (hts _ wd_81) (fun _ h9 => h9) rfl d_Lg_latest_1 ?_
  exact W.iret hx hb hr (fun t ht hW => ⟨rfl, ht⟩) (fun q h => by cases h) d_Lg_latest_4
set_option maxHeartbeats 4000000 in
set_option maxRecDepth 100000 in
theorem c_Lg_commits (l : Launch) (dC : Nat → ClassId) (dI : Nat → Nat → Nat) (cT : Nat → ClassId) (h0 : Nat) (lS : Nat) (aK : Nat) (aC : Nat) (aT : Nat) (aP : Nat) (lL : Nat) (lC : Nat) (lA : Nat) (lP : Nat) : Met l y_Lg_commits w_Lg_commits ({ frames := 0, cells := 0, slots := 0, locals := 0 } : Room) (zPreR (dC, dI) vwCl (zT cT) [.ref h0] ([(h0, zoLg lS aK aC aT aP lL lC lA lP)])) (k2_QcV (.int (nI lC))) 0 0 (fun _ => False) := by
  refine Met.ofW (cc := b_Lg_commits) (maxL := 1) (ret := (some .int)) (by decide) rfl ?_
  intro p e s m args below meth c s₁ B hml hv
  obtain ⟨rfl, hP, hK, hE⟩ := hv
  have hx := B.exec
  have hb := B.bytes
  have hr := B.returns
  have hts := fun w h => atoms_spec (ws := w_Lg_commits) B.pre w (List.mem_cons_of_mem _ h)
  have hown : s.vm.findClass R_Lg = some m.cls := findClass_of_methodNamed B.named
  have hlocks := B.notSynchronized
  have hl := lv_entry ([.ref h0]) (n := 1) (Nat.le_of_ble_eq_true rfl)
  rw [lg_entry_eq]
  generalize (lg_sl ([.ref h0]) ++ List.replicate (1 - (lg_sl ([.ref h0])).length) Slot.unset).toArray = ls at hl ⊢
  have hl : lv_has ls 1 [(0, .ref h0)] := hl
  refine lv_aload_n hx hb d_Lg_commits_0 rfl (lv_at hl 0 rfl) ?_
  refine va_get (D := (dC, dI)) (ci := 1) (v := .int (nI lC)) (C := R_Lg) (T := F_Lg) (N := 9) hx hb hts i_Lg hown hK hP 0 rfl rfl 6 (by decide) (hts _ wd_82) (fun _ h9 => h9) rfl d_Lg_commits_1 ?_
  exact W.iret hx hb hr (fun t ht hW => ⟨rfl, ht⟩) (fun q h => by cases h) d_Lg_commits_4
set_option maxHeartbeats 4000000 in
set_option maxRecDepth 100000 in
theorem c_Lg_archived (l : Launch) (dC : Nat → ClassId) (dI : Nat → Nat → Nat) (cT : Nat → ClassId) (h0 : Nat) (lS : Nat) (aK : Nat) (aC : Nat) (aT : Nat) (aP : Nat) (lL : Nat) (lC : Nat) (lA : Nat) (lP : Nat) : Met l y_Lg_archived w_Lg_archived ({ frames := 0, cells := 0, slots := 0, locals := 0 } : Room) (zPreR (dC, dI) vwCl (zT cT) [.ref h0] ([(h0, zoLg lS aK aC aT aP lL lC lA lP)])) (k2_QcV (.int (nI lA))) 0 0 (fun _ => False) := by
  refine Met.ofW (cc := b_Lg_archived) (maxL := 1) (ret := (some .int)) (by decide) rfl ?_
  intro p e s m args below meth c s₁ B hml hv
  obtain ⟨rfl, hP, hK, hE⟩ := hv
  have hx := B.exec
  have hb := B.bytes
  have hr := B.returns
  have hts := fun w h => atoms_spec (ws := w_Lg_archived) B.pre w (List.mem_cons_of_mem _ h)
  have hown : s.vm.findClass R_Lg = some m.cls := findClass_of_methodNamed B.named
  have hlocks := B.notSynchronized
  have hl := lv_entry ([.ref h0]) (n := 1) (Nat.le_of_ble_eq_true rfl)
  rw [lg_entry_eq]
  generalize (lg_sl ([.ref h0]) ++ List.replicate (1 - (lg_sl ([.ref h0])).length) Slot.unset).toArray = ls at hl ⊢
  have hl : lv_has ls 1 [(0, .ref h0)] := hl
  refine lv_aload_n hx hb d_Lg_archived_0 rfl (lv_at hl 0 rfl) ?_
  refine va_get (D := (dC, dI)) (ci := 1) (v := .int (nI lA)) (C := R_Lg) (T := F_Lg) (N := 9) hx hb hts i_Lg hown hK hP 0 rfl rfl 7 (by decide) (hts _ wd_83) (fun _ h9 => h9) rfl d_Lg_archived_1 ?_
  exact W.iret hx hb hr (fun t ht hW => ⟨rfl, ht⟩) (fun q h => by cases h) d_Lg_archived_4
set_option maxHeartbeats 4000000 in
set_option maxRecDepth 100000 in
theorem c_Lg_purged (l : Launch) (dC : Nat → ClassId) (dI : Nat → Nat → Nat) (cT : Nat → ClassId) (h0 : Nat) (lS : Nat) (aK : Nat) (aC : Nat) (aT : Nat) (aP : Nat) (lL : Nat) (lC : Nat) (lA : Nat) (lP : Nat) : Met l y_Lg_purged w_Lg_purged ({ frames := 0, cells := 0, slots := 0, locals := 0 } : Room) (zPreR (dC, dI) vwCl (zT cT) [.ref h0] ([(h0, zoLg lS aK aC aT aP lL lC lA lP)])) (k2_QcV (.int (nI lP))) 0 0 (fun _ => False) := by
  refine Met.ofW (cc := b_Lg_purged) (maxL := 1) (ret := (some .int)) (by decide) rfl ?_
  intro p e s m args below meth c s₁ B hml hv
  obtain ⟨rfl, hP, hK, hE⟩ := hv
  have hx := B.exec
  have hb := B.bytes
  have hr := B.returns
  have hts := fun w h => atoms_spec (ws := w_Lg_purged) B.pre w (List.mem_cons_of_mem _ h)
  have hown : s.vm.findClass R_Lg = some m.cls := findClass_of_methodNamed B.named
  have hlocks := B.notSynchronized
  have hl := lv_entry ([.ref h0]) (n := 1) (Nat.le_of_ble_eq_true rfl)
  rw [lg_entry_eq]
  generalize (lg_sl ([.ref h0]) ++ List.replicate (1 - (lg_sl ([.ref h0])).length) Slot.unset).toArray = ls at hl ⊢
  have hl : lv_has ls 1 [(0, .ref h0)] := hl
  refine lv_aload_n hx hb d_Lg_purged_0 rfl (lv_at hl 0 rfl) ?_
  refine va_get (D := (dC, dI)) (ci := 1) (v := .int (nI lP)) (C := R_Lg) (T := F_Lg) (N := 9) hx hb hts i_Lg hown hK hP 0 rfl rfl 8 (by decide) (hts _ wd_84) (fun _ h9 => h9) rfl d_Lg_purged_1 ?_
  exact W.iret hx hb hr (fun t ht hW => ⟨rfl, ht⟩) (fun q h => by cases h) d_Lg_purged_4
set_option maxHeartbeats 4000000 in
set_option maxRecDepth 100000 in
theorem c_Lg_contentOf (l : Launch) (dC : Nat → ClassId) (dI : Nat → Nat → Nat) (cT : Nat → ClassId) (h0 : Nat) (lS : Nat) (aK : Nat) (aC : Nat) (aT : Nat) (aP : Nat) (lL : Nat) (lC : Nat) (lA : Nat) (lP : Nat) (k : Nat) (tb : Nat → Int64) (hk : k < 32) : Met l y_Lg_contentOf w_Lg_contentOf ({ frames := 0, cells := 0, slots := 0, locals := 0 } : Room) (zPreR (dC, dI) vwCl (zT cT) [.ref h0, .int (nI k)] ([(h0, zoLg lS aK aC aT aP lL lC lA lP), (aT, zaJ (cT 1) 32 tb)])) (k2_QcV (.long (tb k))) 0 0 (fun _ => False) := by
  refine Met.ofW (cc := b_Lg_contentOf) (maxL := 2) (ret := (some .long)) (by decide) rfl ?_
  intro p e s m args below meth c s₁ B hml hv
  obtain ⟨rfl, hP, hK, hE⟩ := hv
  have hx := B.exec
  have hb := B.bytes
  have hr := B.returns
  have hts := fun w h => atoms_spec (ws := w_Lg_contentOf) B.pre w (List.mem_cons_of_mem _ h)
  have hown : s.vm.findClass R_Lg = some m.cls := findClass_of_methodNamed B.named
  have hlocks := B.notSynchronized
  have hl := lv_entry ([.ref h0, .int (nI k)]) (n := 2) (Nat.le_of_ble_eq_true rfl)
  rw [lg_entry_eq]
  generalize (lg_sl ([.ref h0, .int (nI k)]) ++ List.replicate (2 - (lg_sl ([.ref h0, .int (nI k)])).length) Slot.unset).toArray = ls at hl ⊢
  have hl : lv_has ls 2 [(0, .ref h0), (1, .int (nI k))] := hl
  refine lv_aload_n hx hb d_Lg_contentOf_0 rfl (lv_at hl 0 rfl) ?_
  refine va_get (D := (dC, dI)) (ci := 1) (v := .ref aT) (C := R_Lg) (T := F_Lg) (N := 9) hx hb hts i_Lg hown hK hP 0 rfl rfl 3 (by decide) (hts _ wd_79) (fun _ h9 => h9) rfl d_Lg_contentOf_1 ?_
  refine lv_iload_n hx hb d_Lg_contentOf_4 rfl (lv_at hl 1 rfl) ?_
  refine zn_lald hx hb hK hP 1 1 rfl rfl (i := k) (by omega) (by omega) d_Lg_contentOf_5 ?_
  exact W.lret hx hb hr (fun t ht hW => ⟨rfl, ht⟩) (fun q h => by cases h) d_Lg_contentOf_6
set_option maxHeartbeats 4000000 in
set_option maxRecDepth 100000 in
theorem c_Lg_numberOfPage (l : Launch) (dC : Nat → ClassId) (dI : Nat → Nat → Nat) (cT : Nat → ClassId) (h0 : Nat) (lS : Nat) (aK : Nat) (aC : Nat) (aT : Nat) (aP : Nat) (lL : Nat) (lC : Nat) (lA : Nat) (lP : Nat) (k : Nat) (pn : Nat → Nat) (hk : k < 8) : Met l y_Lg_numberOfPage w_Lg_numberOfPage ({ frames := 0, cells := 0, slots := 0, locals := 0 } : Room) (zPreR (dC, dI) vwCl (zT cT) [.ref h0, .int (nI k)] ([(h0, zoLg lS aK aC aT aP lL lC lA lP), (aP, zaN (cT 0) 8 pn)])) (k2_QcV (.int (nI (pn k)))) 0 0 (fun _ => False) := by
  refine Met.ofW (cc := b_Lg_numberOfPage) (maxL := 2) (ret := (some .int)) (by decide) rfl ?_
  intro p e s m args below meth c s₁ B hml hv
  obtain ⟨rfl, hP, hK, hE⟩ := hv
  have hx := B.exec
  have hb := B.bytes
  have hr := B.returns
  have hts := fun w h => atoms_spec (ws := w_Lg_numberOfPage) B.pre w (List.mem_cons_of_mem _ h)
  have hown : s.vm.findClass R_Lg = some m.cls := findClass_of_methodNamed B.named
  have hlocks := B.notSynchronized
  have hl := lv_entry ([.ref h0, .int (nI k)]) (n := 2) (Nat.le_of_ble_eq_true rfl)
  rw [lg_entry_eq]
  generalize (lg_sl ([.ref h0, .int (nI k)]) ++ List.replicate (2 - (lg_sl ([.ref h0, .int (nI k)])).length) Slot.unset).toArray = ls at hl ⊢
  have hl : lv_has ls 2 [(0, .ref h0), (1, .int (nI k))] := hl
  refine lv_aload_n hx hb d_Lg_numberOfPage_0 rfl (lv_at hl 0 rfl) ?_
  refine va_get (D := (dC, dI)) (ci := 1) (v := .ref aP) (C := R_Lg) (T := F_Lg) (N := 9) hx hb hts i_Lg hown hK hP 0 rfl rfl 4 (by decide) (hts _ wd_80) (fun _ h9 => h9) rfl d_Lg_numberOfPage_1 ?_
  refine lv_iload_n hx hb d_Lg_numberOfPage_4 rfl (lv_at hl 1 rfl) ?_
  refine zn_iald hx hb hK hP 1 0 rfl rfl (i := k) (by omega) (by omega) d_Lg_numberOfPage_5 ?_
  exact W.iret hx hb hr (fun t ht hW => ⟨rfl, ht⟩) (fun q h => by cases h) d_Lg_numberOfPage_6
set_option maxHeartbeats 4000000 in
set_option maxRecDepth 100000 in
theorem c_Lg_left (l : Launch) (dC : Nat → ClassId) (dI : Nat → Nat → Nat) (cT : Nat → ClassId) (h0 : Nat) (lS : Nat) (aK : Nat) (aC : Nat) (aT : Nat) (aP : Nat) (lL : Nat) (lC : Nat) (lA : Nat) (lP : Nat) (hm : (lA + 4) * lS < 2 ^ 31) (hl0 : lL ≤ min ((lA + 4) * lS) 800) : Met l y_Lg_left w_Lg_left ({ frames := 1, cells := 0, slots := 0, locals := 21 } : Room) (zPreR (dC, dI) vwCl (zT cT) [.ref h0] ([(h0, zoLg lS aK aC aT aP lL lC lA lP)])) (k2_QcV (.int (nI (min ((lA + 4) * lS) 800 - lL)))) 0 0 (fun _ => False) := by
  refine Met.ofW (cc := b_Lg_left) (maxL := 1) (ret := (some .int)) (by decide) rfl ?_
  intro p e s m args below meth c s₁ B hml hv
  obtain ⟨rfl, hP, hK, hE⟩ := hv
  have hx := B.exec
  have hb := B.bytes
  have hr := B.returns
  have hts := fun w h => atoms_spec (ws := w_Lg_left) B.pre w (List.mem_cons_of_mem _ h)
  have hown : s.vm.findClass R_Lg = some m.cls := findClass_of_methodNamed B.named
  have hlocks := B.notSynchronized
  have hl := lv_entry ([.ref h0]) (n := 1) (Nat.le_of_ble_eq_true rfl)
  rw [lg_entry_eq]
  generalize (lg_sl ([.ref h0]) ++ List.replicate (1 - (lg_sl ([.ref h0])).length) Slot.unset).toArray = ls at hl ⊢
  have hl : lv_has ls 1 [(0, .ref h0)] := hl
  refine lv_aload_n hx hb d_Lg_left_0 rfl (lv_at hl 0 rfl) ?_
  refine va_get (D := (dC, dI)) (ci := 1) (v := .int (nI lA)) (C := R_Lg) (T := F_Lg) (N := 9) hx hb hts i_Lg hown hK hP 0 rfl rfl 7 (by decide) (hts _ wd_83) (fun _ h9 => h9) rfl d_Lg_left_1 ?_
  refine lv_iconst (v := (nI 4)) hx hb d_Lg_left_4 (by decide) ?_
  refine zn_iadd hx hb d_Lg_left_5 ?_
  refine lv_aload_n hx hb d_Lg_left_6 rfl (lv_at hl 0 rfl) ?_
  refine va_get (D := (dC, dI)) (ci := 1) (v := .int (nI lS)) (C := R_Lg) (T := F_Lg) (N := 9) hx hb hts i_Lg hown hK hP 0 rfl rfl 0 (by decide) (hts _ wd_76) (fun _ h9 => h9) rfl d_Lg_left_7 ?_
  refine zn_imul hx hb d_Lg_left_10 ?_
  refine lv_sipush (v := (nI 800)) hx hb d_Lg_left_11 (by decide) ?_
  refine zn_mmin hx hb (by rw [hml]; exact hl.1.symm) hown (hts _ wd_205) (hts _ wd_63) (hts _ wd_5) (hts _ wd_64) (Nat.le_of_ble_eq_true rfl) (Nat.le_of_ble_eq_true rfl) (Nat.le_of_ble_eq_true rfl) (Nat.le_of_ble_eq_true rfl) (a := (lA + 4) * lS) (b := 800) (by omega) (by omega) d_Lg_left_14 ?_
  refine lv_aload_n hx hb d_Lg_left_17 rfl (lv_at hl 0 rfl) ?_
  refine va_get (D := (dC, dI)) (ci := 1) (v := .int (nI lL)) (C := R_Lg) (T := F_Lg) (N := 9) hx hb hts i_Lg hown hK hP 0 rfl rfl 5 (by decide) (hts _ wd_81) (fun _ h9 => h9) rfl d_Lg_left_18 ?_
  refine zn_isub hx hb (by omega) d_Lg_left_21 ?_
  exact W.iret hx hb hr (fun t ht hW => ⟨rfl, ht⟩) (fun q h => by cases h) d_Lg_left_22
set_option maxHeartbeats 4000000 in
set_option maxRecDepth 100000 in
theorem c_Lg_online (l : Launch) (dC : Nat → ClassId) (dI : Nat → Nat → Nat) (cT : Nat → ClassId) (h0 : Nat) (lS : Nat) (aK : Nat) (aC : Nat) (aT : Nat) (aP : Nat) (lL : Nat) (lC : Nat) (lA : Nat) (lP : Nat) (h0s : 0 < lS) (hs : lS ≤ 8) (hL : lL ≤ 800) (hA0 : lA ≤ (lL + lS - 1) / lS) (hA1 : (lL + lS - 1) / lS < 2 ^ 31) : Met l y_Lg_online w_Lg_online ({ frames := 0, cells := 0, slots := 0, locals := 0 } : Room) (zPreR (dC, dI) vwCl (zT cT) [.ref h0] ([(h0, zoLg lS aK aC aT aP lL lC lA lP)])) (k2_QcV (.int (nI ((lL + lS - 1) / lS - lA)))) 0 0 (fun _ => False) := by
  refine Met.ofW (cc := b_Lg_online) (maxL := 2) (ret := (some .int)) (by decide) rfl ?_
  intro p e s m args below meth c s₁ B hml hv
  obtain ⟨rfl, hP, hK, hE⟩ := hv
  have hx := B.exec
  have hb := B.bytes
  have hr := B.returns
  have hts := fun w h => atoms_spec (ws := w_Lg_online) B.pre w (List.mem_cons_of_mem _ h)
  have hown : s.vm.findClass R_Lg = some m.cls := findClass_of_methodNamed B.named
  have hlocks := B.notSynchronized
  have hl := lv_entry ([.ref h0]) (n := 2) (Nat.le_of_ble_eq_true rfl)
  rw [lg_entry_eq]
  generalize (lg_sl ([.ref h0]) ++ List.replicate (2 - (lg_sl ([.ref h0])).length) Slot.unset).toArray = ls at hl ⊢
  have hl : lv_has ls 2 [(0, .ref h0)] := hl
  refine lv_aload_n hx hb d_Lg_online_0 rfl (lv_at hl 0 rfl) ?_
  refine va_get (D := (dC, dI)) (ci := 1) (v := .int (nI lL)) (C := R_Lg) (T := F_Lg) (N := 9) hx hb hts i_Lg hown hK hP 0 rfl rfl 5 (by decide) (hts _ wd_81) (fun _ h9 => h9) rfl d_Lg_online_1 ?_
  refine lv_aload_n hx hb d_Lg_online_4 rfl (lv_at hl 0 rfl) ?_
  refine va_get (D := (dC, dI)) (ci := 1) (v := .int (nI lS)) (C := R_Lg) (T := F_Lg) (N := 9) hx hb hts i_Lg hown hK hP 0 rfl rfl 0 (by decide) (hts _ wd_76) (fun _ h9 => h9) rfl d_Lg_online_5 ?_
  refine zn_iadd hx hb d_Lg_online_8 ?_
  refine lv_iconst (v := (nI 1)) hx hb d_Lg_online_9 (by decide) ?_
  refine zn_isub hx hb (by omega) d_Lg_online_10 ?_
  refine lv_aload_n hx hb d_Lg_online_11 rfl (lv_at hl 0 rfl) ?_
  refine va_get (D := (dC, dI)) (ci := 1) (v := .int (nI lS)) (C := R_Lg) (T := F_Lg) (N := 9) hx hb hts i_Lg hown hK hP 0 rfl rfl 0 (by decide) (hts _ wd_76) (fun _ h9 => h9) rfl d_Lg_online_12 ?_
  refine zn_idiv hx hb (by omega) (by omega) (by omega) d_Lg_online_15 ?_
  refine lv_istore_n (lv' := [(1, .int (nI (((lL + lS) - 1) / lS))), (0, .ref h0)]) hx hb d_Lg_online_16 rfl hl (by decide) rfl (fun ls hl => ?_)
  refine lv_iload_n hx hb d_Lg_online_17 rfl (lv_at hl 0 rfl) ?_
  refine lv_aload_n hx hb d_Lg_online_18 rfl (lv_at hl 1 rfl) ?_
  refine va_get (D := (dC, dI)) (ci := 1) (v := .int (nI lA)) (C := R_Lg) (T := F_Lg) (N := 9) hx hb hts i_Lg hown hK hP 0 rfl rfl 7 (by decide) (hts _ wd_83) (fun _ h9 => h9) rfl d_Lg_online_19 ?_
  refine zn_isub hx hb (by omega) d_Lg_online_22 ?_
  exact W.iret hx hb hr (fun t ht hW => ⟨rfl, ht⟩) (fun q h => by cases h) d_Lg_online_23
set_option maxHeartbeats 4000000 in
set_option maxRecDepth 100000 in
theorem c_Lg_addRecord (l : Launch) (dC : Nat → ClassId) (dI : Nat → Nat → Nat) (cT : Nat → ClassId) (sz : Nat) (h0 : Nat) (lS : Nat) (aK : Nat) (aC : Nat) (aT : Nat) (aP : Nat) (lL : Nat) (lC : Nat) (lA : Nat) (lP : Nat) (key : Int32) (ct : Int64) (ks : Nat → Int32) (cs : Nat → Int64) (hL : lL < 800) : Met l y_Lg_addRecord w_Lg_addRecord ({ frames := 0, cells := 0, slots := 0, locals := 0 } : Room) (zPre (dC, dI) vwCl (zT cT) [.ref h0, .int key, .long ct] ([(h0, zoLg lS aK aC aT aP lL lC lA lP), (aK, zaI (cT 0) 801 ks), (aC, zaJ (cT 1) 801 cs)]) sz) (zQ (dC, dI) vwCl (S := Unit) (fun zu => True) (fun zu => none) (fun zu => [(h0, zoLg lS aK aC aT aP (lL + 1) lC lA lP), (aK, zaI (cT 0) 801 (va_up ks (lL + 1) key)), (aC, zaJ (cT 1) 801 (va_up cs (lL + 1) ct))]) (va_A ([(h0, zoLg lS aK aC aT aP lL lC lA lP), (aK, zaI (cT 0) 801 ks), (aC, zaJ (cT 1) 801 cs)]) sz)) 0 0 (va_A ([(h0, zoLg lS aK aC aT aP lL lC lA lP), (aK, zaI (cT 0) 801 ks), (aC, zaJ (cT 1) 801 cs)]) sz) := by
  refine Met.ofW (cc := b_Lg_addRecord) (maxL := 4) (ret := none) (by decide) rfl ?_
  intro p e s m args below meth c s₁ B hml hv
  obtain ⟨rfl, hsz, hP, hK, hD0, hE⟩ := hv
  have hx := B.exec
  have hb := B.bytes
  have hr := B.returns
  have hts := fun w h => atoms_spec (ws := w_Lg_addRecord) B.pre w (List.mem_cons_of_mem _ h)
  have hown : s.vm.findClass R_Lg = some m.cls := findClass_of_methodNamed B.named
  have hlocks := B.notSynchronized
  subst hsz
  have hD := hD0.self (sz := s.heap.size)
  generalize hAe : va_A ([(h0, zoLg lS aK aC aT aP lL lC lA lP), (aK, zaI (cT 0) 801 ks), (aC, zaJ (cT 1) 801 cs)]) s.heap.size = A at hD ⊢
  have hA : ∀ q : Nat, s.heap.size ≤ q → A q := fun q h => by rw [← hAe]; exact Or.inr h
  have hS : va_S A s.heap s.heap [] := va_S.rf
  have hl := lv_entry ([.ref h0, .int key, .long ct]) (n := 4) (Nat.le_of_ble_eq_true rfl)
  rw [lg_entry_eq]
  generalize (lg_sl ([.ref h0, .int key, .long ct]) ++ List.replicate (4 - (lg_sl ([.ref h0, .int key, .long ct])).length) Slot.unset).toArray = ls at hl ⊢
  have hl : lv_has ls 4 [(0, .ref h0), (1, .int key), (2, .long ct)] := hl
  refine lv_aload_n hx hb d_Lg_addRecord_0 rfl (lv_at hl 0 rfl) ?_
  refine lv_dup hx hb d_Lg_addRecord_1 rfl ?_
  refine va_get (D := (dC, dI)) (ci := 1) (v := .int (nI lL)) (C := R_Lg) (T := F_Lg) (N := 9) hx hb hts i_Lg hown hK hP 0 rfl rfl 5 (by decide) (hts _ wd_81) (fun _ h9 => h9) rfl d_Lg_addRecord_2 ?_
  refine lv_iconst (v := (nI 1)) hx hb d_Lg_addRecord_5 (by decide) ?_
  refine zn_iadd hx hb d_Lg_addRecord_6 ?_
  refine va_put (D := (dC, dI)) (ci := 1) (v := .int (nI (lL + 1))) (ty := .int) (C := R_Lg) (T := F_Lg) (N := 9) hx hb hts i_Lg t_Lg t_Lg_ok n_Lg hown hK hP hD hS 0 rfl rfl 5 (by decide) (hts _ wd_81) (fun _ h9 => h9) rfl (by decide +kernel) rfl rfl (Nat.le_of_ble_eq_true rfl) d_Lg_addRecord_7 (fun H locs hP hD hS => ?_)
  have hP : va_P (dC, dI) vwCl ([(h0, zoLg lS aK aC aT aP (lL + 1) lC lA lP), (aK, zaI (cT 0) 801 ks), (aC, zaJ (cT 1) 801 cs)]) H := hP
  have hD : va_D A ([(h0, zoLg lS aK aC aT aP (lL + 1) lC lA lP), (aK, zaI (cT 0) 801 ks), (aC, zaJ (cT 1) 801 cs)]) := hD
  refine lv_aload_n hx hb d_Lg_addRecord_10 rfl (lv_at hl 0 rfl) ?_
  refine va_get (D := (dC, dI)) (ci := 1) (v := .ref aK) (C := R_Lg) (T := F_Lg) (N := 9) hx hb hts i_Lg hown hK hP 0 rfl rfl 1 (by decide) (hts _ wd_77) (fun _ h9 => h9) rfl d_Lg_addRecord_11 ?_
  refine lv_aload_n hx hb d_Lg_addRecord_14 rfl (lv_at hl 0 rfl) ?_
  refine va_get (D := (dC, dI)) (ci := 1) (v := .int (nI (lL + 1))) (C := R_Lg) (T := F_Lg) (N := 9) hx hb hts i_Lg hown hK hP 0 rfl rfl 5 (by decide) (hts _ wd_81) (fun _ h9 => h9) rfl d_Lg_addRecord_15 ?_
  refine lv_iload_n hx hb d_Lg_addRecord_18 rfl (lv_at hl 1 rfl) ?_
  refine zn_iast hx hb hK hP hD hS 1 0 rfl rfl (i := lL + 1) (x := key) (by omega) (by omega) d_Lg_addRecord_19 (fun H locs hP hD hS => ?_)
  have hP : va_P (dC, dI) vwCl ([(h0, zoLg lS aK aC aT aP (lL + 1) lC lA lP), (aK, zaI (cT 0) 801 (va_up ks (lL + 1) key)), (aC, zaJ (cT 1) 801 cs)]) H := hP
  have hD : va_D A ([(h0, zoLg lS aK aC aT aP (lL + 1) lC lA lP), (aK, zaI (cT 0) 801 (va_up ks (lL + 1) key)), (aC, zaJ (cT 1) 801 cs)]) := hD
  refine lv_aload_n hx hb d_Lg_addRecord_20 rfl (lv_at hl 0 rfl) ?_
  refine va_get (D := (dC, dI)) (ci := 1) (v := .ref aC) (C := R_Lg) (T := F_Lg) (N := 9) hx hb hts i_Lg hown hK hP 0 rfl rfl 2 (by decide) (hts _ wd_78) (fun _ h9 => h9) rfl d_Lg_addRecord_21 ?_
  refine lv_aload_n hx hb d_Lg_addRecord_24 rfl (lv_at hl 0 rfl) ?_
  refine va_get (D := (dC, dI)) (ci := 1) (v := .int (nI (lL + 1))) (C := R_Lg) (T := F_Lg) (N := 9) hx hb hts i_Lg hown hK hP 0 rfl rfl 5 (by decide) (hts _ wd_81) (fun _ h9 => h9) rfl d_Lg_addRecord_25 ?_
  refine lv_lload_n hx hb d_Lg_addRecord_28 rfl (lv_at hl 2 rfl) ?_
  refine zn_last hx hb hK hP hD hS 2 1 rfl rfl (i := lL + 1) (x := ct) (by omega) (by omega) d_Lg_addRecord_29 (fun H locs hP hD hS => ?_)
  have hP : va_P (dC, dI) vwCl ([(h0, zoLg lS aK aC aT aP (lL + 1) lC lA lP), (aK, zaI (cT 0) 801 (va_up ks (lL + 1) key)), (aC, zaJ (cT 1) 801 (va_up cs (lL + 1) ct))]) H := hP
  have hD : va_D A ([(h0, zoLg lS aK aC aT aP (lL + 1) lC lA lP), (aK, zaI (cT 0) 801 (va_up ks (lL + 1) key)), (aC, zaJ (cT 1) 801 (va_up cs (lL + 1) ct))]) := hD
  have hP9 := hP.sub (ws' := [(h0, zoLg lS aK aC aT aP (lL + 1) lC lA lP), (aK, zaI (cT 0) 801 (va_up ks (lL + 1) key)), (aC, zaJ (cT 1) 801 (va_up cs (lL + 1) ct))]) [0, 1, 2] rfl
  have hD9 := hD.sub (ws' := [(h0, zoLg lS aK aC aT aP (lL + 1) lC lA lP), (aK, zaI (cT 0) 801 (va_up ks (lL + 1) key)), (aC, zaJ (cT 1) 801 (va_up cs (lL + 1) ct))]) [0, 1, 2] (by decide) rfl
  exact W.vret hx hb hr (fun t ht hW => ⟨⟨(), trivial, rfl, by rw [ht]; exact hP9, hD9⟩, hS.F ht⟩) hS.2.2 d_Lg_addRecord_30
set_option maxHeartbeats 4000000 in
set_option maxRecDepth 100000 in
theorem c_Lg_addChange (l : Launch) (dC : Nat → ClassId) (dI : Nat → Nat → Nat) (cT : Nat → ClassId) (sz : Nat) (h0 : Nat) (lS : Nat) (aK : Nat) (aC : Nat) (aT : Nat) (aP : Nat) (lL : Nat) (lC : Nat) (lA : Nat) (lP : Nat) (k : Nat) (ct : Int64) (ks : Nat → Int32) (cs : Nat → Int64) (tb : Nat → Int64) (pn : Nat → Nat) (hL : lL < 800) (hk : k < 32) : Met l y_Lg_addChange w_Lg_addChange ({ frames := 1, cells := 0, slots := 0, locals := 23 } : Room) (zPre (dC, dI) vwCl (zT cT) [.ref h0, .int (nI k), .long ct] ([(h0, zoLg lS aK aC aT aP lL lC lA lP), (aK, zaI (cT 0) 801 ks), (aC, zaJ (cT 1) 801 cs), (aT, zaJ (cT 1) 32 tb), (aP, zaN (cT 0) 8 pn)]) sz) (zQ (dC, dI) vwCl (S := Unit) (fun zu => True) (fun zu => some (.int (nI (lL + 1)))) (fun zu => [(h0, zoLg lS aK aC aT aP (lL + 1) lC lA lP), (aK, zaI (cT 0) 801 (va_up ks (lL + 1) (nI k))), (aC, zaJ (cT 1) 801 (va_up cs (lL + 1) ct)), (aT, zaJ (cT 1) 32 (va_up tb k ct)), (aP, zaN (cT 0) 8 (va_up pn (k / 4) (lL + 1)))]) (va_A ([(h0, zoLg lS aK aC aT aP lL lC lA lP), (aK, zaI (cT 0) 801 ks), (aC, zaJ (cT 1) 801 cs), (aT, zaJ (cT 1) 32 tb), (aP, zaN (cT 0) 8 pn)]) sz)) 0 0 (va_A ([(h0, zoLg lS aK aC aT aP lL lC lA lP), (aK, zaI (cT 0) 801 ks), (aC, zaJ (cT 1) 801 cs), (aT, zaJ (cT 1) 32 tb), (aP, zaN (cT 0) 8 pn)]) sz) := by
  refine Met.ofW (cc := b_Lg_addChange) (maxL := 4) (ret := (some .int)) (by decide) rfl ?_
  intro p e s m args below meth c s₁ B hml hv
  obtain ⟨rfl, hsz, hP, hK, hD0, hE⟩ := hv
  have hx := B.exec
  have hb := B.bytes
  have hr := B.returns
  have hts := fun w h => atoms_spec (ws := w_Lg_addChange) B.pre w (List.mem_cons_of_mem _ h)
  have hown : s.vm.findClass R_Lg = some m.cls := findClass_of_methodNamed B.named
  have hlocks := B.notSynchronized
  subst hsz
  have hD := hD0.self (sz := s.heap.size)
  generalize hAe : va_A ([(h0, zoLg lS aK aC aT aP lL lC lA lP), (aK, zaI (cT 0) 801 ks), (aC, zaJ (cT 1) 801 cs), (aT, zaJ (cT 1) 32 tb), (aP, zaN (cT 0) 8 pn)]) s.heap.size = A at hD ⊢
  have hA : ∀ q : Nat, s.heap.size ≤ q → A q := fun q h => by rw [← hAe]; exact Or.inr h
  have hS : va_S A s.heap s.heap [] := va_S.rf
  have hl := lv_entry ([.ref h0, .int (nI k), .long ct]) (n := 4) (Nat.le_of_ble_eq_true rfl)
  rw [lg_entry_eq]
  generalize (lg_sl ([.ref h0, .int (nI k), .long ct]) ++ List.replicate (4 - (lg_sl ([.ref h0, .int (nI k), .long ct])).length) Slot.unset).toArray = ls at hl ⊢
  have hl : lv_has ls 4 [(0, .ref h0), (1, .int (nI k)), (2, .long ct)] := hl
  refine lv_aload_n hx hb d_Lg_addChange_0 rfl (lv_at hl 0 rfl) ?_
  refine lv_iload_n hx hb d_Lg_addChange_1 rfl (lv_at hl 1 rfl) ?_
  refine lv_lload_n hx hb d_Lg_addChange_2 rfl (lv_at hl 2 rfl) ?_
  refine zw_Q (X := [(h0, zoLg lS aK aC aT aP lL lC lA lP), (aK, zaI (cT 0) 801 ks), (aC, zaJ (cT 1) 801 cs), (aT, zaJ (cT 1) 32 tb), (aP, zaN (cT 0) 8 pn)]) (pl := []) (va_runV (As := [.int (nI k), .long ct]) (rest := []) ⟨hx, hb, hml, hown, hts⟩ (c_Lg_addRecord l dC dI cT s.heap.size h0 lS aK aC aT aP lL lC lA lP (nI k) ct ks cs (by first | omega | assumption)) (cwV 2 hts (zgV wd_219 wd_221 wp_0 wd_4 wd_222) rfl rfl rfl (by decide +kernel) ⟨Nat.le_of_ble_eq_true rfl, Nat.le_of_ble_eq_true rfl⟩) ⟨zPre_blind, va_recv hK hP (ci := 1) (q0 := 0) rfl rfl, zp_Q (X := [(h0, zoLg lS aK aC aT aP lL lC lA lP), (aK, zaI (cT 0) 801 ks), (aC, zaJ (cT 1) 801 cs), (aT, zaJ (cT 1) 32 tb), (aP, zaN (cT 0) 8 pn)]) (pl := []) hK hE hP hD [0, 1, 2] (by decide) rfl⟩ rfl rfl hl.1 rfl (lv_room (Nat.le_of_ble_eq_true rfl)) d_Lg_addChange_3 ⟨Nat.le_of_ble_eq_true rfl, Nat.le_of_ble_eq_true rfl⟩) hP hD hS hA [0, 1, 2] [3, 4] rfl (wr := [(aT, zaJ (cT 1) 32 tb), (aP, zaN (cT 0) 8 pn)]) rfl (by decide) (by decide) (fun zu => []) (fun _ => rfl) (fun zu H locs hφ hP hD hS => ?_)
  have hP : va_P (dC, dI) vwCl ([(aT, zaJ (cT 1) 32 tb), (aP, zaN (cT 0) 8 pn), (h0, zoLg lS aK aC aT aP (lL + 1) lC lA lP), (aK, zaI (cT 0) 801 (va_up ks (lL + 1) (nI k))), (aC, zaJ (cT 1) 801 (va_up cs (lL + 1) ct))]) H := hP
  have hD : va_D A ([(aT, zaJ (cT 1) 32 tb), (aP, zaN (cT 0) 8 pn), (h0, zoLg lS aK aC aT aP (lL + 1) lC lA lP), (aK, zaI (cT 0) 801 (va_up ks (lL + 1) (nI k))), (aC, zaJ (cT 1) 801 (va_up cs (lL + 1) ct))]) := hD
  refine lv_aload_n hx hb d_Lg_addChange_6 rfl (lv_at hl 0 rfl) ?_
  refine va_get (D := (dC, dI)) (ci := 1) (v := .ref aT) (C := R_Lg) (T := F_Lg) (N := 9) hx hb hts i_Lg hown hK hP 2 rfl rfl 3 (by decide) (hts _ wd_79) (fun _ h9 => h9) rfl d_Lg_addChange_7 ?_
  refine lv_iload_n hx hb d_Lg_addChange_10 rfl (lv_at hl 1 rfl) ?_
  refine lv_lload_n hx hb d_Lg_addChange_11 rfl (lv_at hl 2 rfl) ?_
  refine zn_last hx hb hK hP hD hS 0 1 rfl rfl (i := k) (x := ct) (by omega) (by omega) d_Lg_addChange_12 (fun H locs hP hD hS => ?_)
  have hP : va_P (dC, dI) vwCl ([(aT, zaJ (cT 1) 32 (va_up tb k ct)), (aP, zaN (cT 0) 8 pn), (h0, zoLg lS aK aC aT aP (lL + 1) lC lA lP), (aK, zaI (cT 0) 801 (va_up ks (lL + 1) (nI k))), (aC, zaJ (cT 1) 801 (va_up cs (lL + 1) ct))]) H := hP
  have hD : va_D A ([(aT, zaJ (cT 1) 32 (va_up tb k ct)), (aP, zaN (cT 0) 8 pn), (h0, zoLg lS aK aC aT aP (lL + 1) lC lA lP), (aK, zaI (cT 0) 801 (va_up ks (lL + 1) (nI k))), (aC, zaJ (cT 1) 801 (va_up cs (lL + 1) ct))]) := hD
  refine lv_aload_n hx hb d_Lg_addChange_13 rfl (lv_at hl 0 rfl) ?_
  refine va_get (D := (dC, dI)) (ci := 1) (v := .ref aP) (C := R_Lg) (T := F_Lg) (N := 9) hx hb hts i_Lg hown hK hP 2 rfl rfl 4 (by decide) (hts _ wd_80) (fun _ h9 => h9) rfl d_Lg_addChange_14 ?_
  refine lv_iload_n hx hb d_Lg_addChange_17 rfl (lv_at hl 1 rfl) ?_
  refine lv_iconst (v := (nI 4)) hx hb d_Lg_addChange_18 (by decide) ?_
  refine zn_idiv hx hb (by omega) (by omega) (by omega) d_Lg_addChange_19 ?_
  refine lv_aload_n hx hb d_Lg_addChange_20 rfl (lv_at hl 0 rfl) ?_
  refine va_get (D := (dC, dI)) (ci := 1) (v := .int (nI (lL + 1))) (C := R_Lg) (T := F_Lg) (N := 9) hx hb hts i_Lg hown hK hP 2 rfl rfl 5 (by decide) (hts _ wd_81) (fun _ h9 => h9) rfl d_Lg_addChange_21 ?_
  refine zn_iastN hx hb hK hP hD hS 1 0 rfl rfl (i := k / 4) (x := lL + 1) (by omega) (by omega) d_Lg_addChange_24 (fun H locs hP hD hS => ?_)
  have hP : va_P (dC, dI) vwCl ([(aT, zaJ (cT 1) 32 (va_up tb k ct)), (aP, zaN (cT 0) 8 (va_up pn (k / 4) (lL + 1))), (h0, zoLg lS aK aC aT aP (lL + 1) lC lA lP), (aK, zaI (cT 0) 801 (va_up ks (lL + 1) (nI k))), (aC, zaJ (cT 1) 801 (va_up cs (lL + 1) ct))]) H := hP
  have hD : va_D A ([(aT, zaJ (cT 1) 32 (va_up tb k ct)), (aP, zaN (cT 0) 8 (va_up pn (k / 4) (lL + 1))), (h0, zoLg lS aK aC aT aP (lL + 1) lC lA lP), (aK, zaI (cT 0) 801 (va_up ks (lL + 1) (nI k))), (aC, zaJ (cT 1) 801 (va_up cs (lL + 1) ct))]) := hD
  refine lv_aload_n hx hb d_Lg_addChange_25 rfl (lv_at hl 0 rfl) ?_
  refine va_get (D := (dC, dI)) (ci := 1) (v := .int (nI (lL + 1))) (C := R_Lg) (T := F_Lg) (N := 9) hx hb hts i_Lg hown hK hP 2 rfl rfl 5 (by decide) (hts _ wd_81) (fun _ h9 => h9) rfl d_Lg_addChange_26 ?_
  have hP9 := hP.sub (ws' := [(h0, zoLg lS aK aC aT aP (lL + 1) lC lA lP), (aK, zaI (cT 0) 801 (va_up ks (lL + 1) (nI k))), (aC, zaJ (cT 1) 801 (va_up cs (lL + 1) ct)), (aT, zaJ (cT 1) 32 (va_up tb k ct)), (aP, zaN (cT 0) 8 (va_up pn (k / 4) (lL + 1)))]) [2, 3, 4, 0, 1] rfl
  have hD9 := hD.sub (ws' := [(h0, zoLg lS aK aC aT aP (lL + 1) lC lA lP), (aK, zaI (cT 0) 801 (va_up ks (lL + 1) (nI k))), (aC, zaJ (cT 1) 801 (va_up cs (lL + 1) ct)), (aT, zaJ (cT 1) 32 (va_up tb k ct)), (aP, zaN (cT 0) 8 (va_up pn (k / 4) (lL + 1)))]) [2, 3, 4, 0, 1] (by decide) rfl
  exact W.iret hx hb hr (fun t ht hW => ⟨⟨(), trivial, rfl, by rw [ht]; exact hP9, hD9⟩, hS.F ht⟩) hS.2.2 d_Lg_addChange_29
set_option maxHeartbeats 4000000 in
set_option maxRecDepth 100000 in
theorem c_Lg_addCommit (l : Launch) (dC : Nat → ClassId) (dI : Nat → Nat → Nat) (cT : Nat → ClassId) (sz : Nat) (h0 : Nat) (lS : Nat) (aK : Nat) (aC : Nat) (aT : Nat) (aP : Nat) (lL : Nat) (lC : Nat) (lA : Nat) (lP : Nat) (ks : Nat → Int32) (cs : Nat → Int64) (hL : lL < 800) (hC : lC < 2 ^ 30) : Met l y_Lg_addCommit w_Lg_addCommit ({ frames := 1, cells := 0, slots := 0, locals := 23 } : Room) (zPre (dC, dI) vwCl (zT cT) [.ref h0] ([(h0, zoLg lS aK aC aT aP lL lC lA lP), (aK, zaI (cT 0) 801 ks), (aC, zaJ (cT 1) 801 cs)]) sz) (zQ (dC, dI) vwCl (S := Unit) (fun zu => True) (fun zu => some (.int (nI (lC + 1)))) (fun zu => [(h0, zoLg lS aK aC aT aP (lL + 1) (lC + 1) lA lP), (aK, zaI (cT 0) 801 (va_up ks (lL + 1) (-1))), (aC, zaJ (cT 1) 801 (va_up cs (lL + 1) 1000000000000))]) (va_A ([(h0, zoLg lS aK aC aT aP lL lC lA lP), (aK, zaI (cT 0) 801 ks), (aC, zaJ (cT 1) 801 cs)]) sz)) 0 0 (va_A ([(h0, zoLg lS aK aC aT aP lL lC lA lP), (aK, zaI (cT 0) 801 ks), (aC, zaJ (cT 1) 801 cs)]) sz) := by
  refine Met.ofW (cc := b_Lg_addCommit) (maxL := 1) (ret := (some .int)) (by decide) rfl ?_
  intro p e s m args below meth c s₁ B hml hv
  obtain ⟨rfl, hsz, hP, hK, hD0, hE⟩ := hv
  have hx := B.exec
  have hb := B.bytes
  have hr := B.returns
  have hts := fun w h => atoms_spec (ws := w_Lg_addCommit) B.pre w (List.mem_cons_of_mem _ h)
  have hown : s.vm.findClass R_Lg = some m.cls := findClass_of_methodNamed B.named
  have hlocks := B.notSynchronized
  subst hsz
  have hD := hD0.self (sz := s.heap.size)
  generalize hAe : va_A ([(h0, zoLg lS aK aC aT aP lL lC lA lP), (aK, zaI (cT 0) 801 ks), (aC, zaJ (cT 1) 801 cs)]) s.heap.size = A at hD ⊢
  have hA : ∀ q : Nat, s.heap.size ≤ q → A q := fun q h => by rw [← hAe]; exact Or.inr h
  have hS : va_S A s.heap s.heap [] := va_S.rf
  have hl := lv_entry ([.ref h0]) (n := 1) (Nat.le_of_ble_eq_true rfl)
  rw [lg_entry_eq]
  generalize (lg_sl ([.ref h0]) ++ List.replicate (1 - (lg_sl ([.ref h0])).length) Slot.unset).toArray = ls at hl ⊢
  have hl : lv_has ls 1 [(0, .ref h0)] := hl
  refine lv_aload_n hx hb d_Lg_addCommit_0 rfl (lv_at hl 0 rfl) ?_
  refine lv_iconst (v := (-1)) hx hb d_Lg_addCommit_1 (by decide) ?_
  refine lv_ldc2 (v := 1000000000000) hx hb hown (hts _ wd_72) d_Lg_addCommit_2 ?_
  refine zw_Q (X := [(h0, zoLg lS aK aC aT aP lL lC lA lP), (aK, zaI (cT 0) 801 ks), (aC, zaJ (cT 1) 801 cs)]) (pl := []) (va_runV (As := [.int (-1), .long 1000000000000]) (rest := []) ⟨hx, hb, hml, hown, hts⟩ (c_Lg_addRecord l dC dI cT s.heap.size h0 lS aK aC aT aP lL lC lA lP (-1) 1000000000000 ks cs (by first | omega | assumption)) (cwV 2 hts (zgV wd_219 wd_221 wp_0 wd_4 wd_222) rfl rfl rfl (by decide +kernel) ⟨Nat.le_of_ble_eq_true rfl, Nat.le_of_ble_eq_true rfl⟩) ⟨zPre_blind, va_recv hK hP (ci := 1) (q0 := 0) rfl rfl, zp_Q (X := [(h0, zoLg lS aK aC aT aP lL lC lA lP), (aK, zaI (cT 0) 801 ks), (aC, zaJ (cT 1) 801 cs)]) (pl := []) hK hE hP hD [0, 1, 2] (by decide) rfl⟩ rfl rfl hl.1 rfl (lv_room (Nat.le_of_ble_eq_true rfl)) d_Lg_addCommit_5 ⟨Nat.le_of_ble_eq_true rfl, Nat.le_of_ble_eq_true rfl⟩) hP hD hS hA [0, 1, 2] [] rfl (wr := []) rfl (by decide) (by decide) (fun zu => []) (fun _ => rfl) (fun zu H locs hφ hP hD hS => ?_)
  have hP : va_P (dC, dI) vwCl ([(h0, zoLg lS aK aC aT aP (lL + 1) lC lA lP), (aK, zaI (cT 0) 801 (va_up ks (lL + 1) (-1))), (aC, zaJ (cT 1) 801 (va_up cs (lL + 1) 1000000000000))]) H := hP
  have hD : va_D A ([(h0, zoLg lS aK aC aT aP (lL + 1) lC lA lP), (aK, zaI (cT 0) 801 (va_up ks (lL + 1) (-1))), (aC, zaJ (cT 1) 801 (va_up cs (lL + 1) 1000000000000))]) := hD
  refine lv_aload_n hx hb d_Lg_addCommit_8 rfl (lv_at hl 0 rfl) ?_
  refine lv_dup hx hb d_Lg_addCommit_9 rfl ?_
  refine va_get (D := (dC, dI)) (ci := 1) (v := .int (nI lC)) (C := R_Lg) (T := F_Lg) (N := 9) hx hb hts i_Lg hown hK hP 0 rfl rfl 6 (by decide) (hts _ wd_82) (fun _ h9 => h9) rfl d_Lg_addCommit_10 ?_
  refine lv_iconst (v := (nI 1)) hx hb d_Lg_addCommit_13 (by decide) ?_
  refine zn_iadd hx hb d_Lg_addCommit_14 ?_
  refine va_put (D := (dC, dI)) (ci := 1) (v := .int (nI (lC + 1))) (ty := .int) (C := R_Lg) (T := F_Lg) (N := 9) hx hb hts i_Lg t_Lg t_Lg_ok n_Lg hown hK hP hD hS 0 rfl rfl 6 (by decide) (hts _ wd_82) (fun _ h9 => h9) rfl (by decide +kernel) rfl rfl (Nat.le_of_ble_eq_true rfl) d_Lg_addCommit_15 (fun H locs hP hD hS => ?_)
  have hP : va_P (dC, dI) vwCl ([(h0, zoLg lS aK aC aT aP (lL + 1) (lC + 1) lA lP), (aK, zaI (cT 0) 801 (va_up ks (lL + 1) (-1))), (aC, zaJ (cT 1) 801 (va_up cs (lL + 1) 1000000000000))]) H := hP
  have hD : va_D A ([(h0, zoLg lS aK aC aT aP (lL + 1) (lC + 1) lA lP), (aK, zaI (cT 0) 801 (va_up ks (lL + 1) (-1))), (aC, zaJ (cT 1) 801 (va_up cs (lL + 1) 1000000000000))]) := hD
  refine lv_aload_n hx hb d_Lg_addCommit_18 rfl (lv_at hl 0 rfl) ?_
  refine va_get (D := (dC, dI)) (ci := 1) (v := .int (nI (lC + 1))) (C := R_Lg) (T := F_Lg) (N := 9) hx hb hts i_Lg hown hK hP 0 rfl rfl 6 (by decide) (hts _ wd_82) (fun _ h9 => h9) rfl d_Lg_addCommit_19 ?_
  have hP9 := hP.sub (ws' := [(h0, zoLg lS aK aC aT aP (lL + 1) (lC + 1) lA lP), (aK, zaI (cT 0) 801 (va_up ks (lL + 1) (-1))), (aC, zaJ (cT 1) 801 (va_up cs (lL + 1) 1000000000000))]) [0, 1, 2] rfl
  have hD9 := hD.sub (ws' := [(h0, zoLg lS aK aC aT aP (lL + 1) (lC + 1) lA lP), (aK, zaI (cT 0) 801 (va_up ks (lL + 1) (-1))), (aC, zaJ (cT 1) 801 (va_up cs (lL + 1) 1000000000000))]) [0, 1, 2] (by decide) rfl
  exact W.iret hx hb hr (fun t ht hW => ⟨⟨(), trivial, rfl, by rw [ht]; exact hP9, hD9⟩, hS.F ht⟩) hS.2.2 d_Lg_addCommit_22
set_option maxHeartbeats 4000000 in
set_option maxRecDepth 100000 in
theorem c_Lg_addEnd (l : Launch) (dC : Nat → ClassId) (dI : Nat → Nat → Nat) (cT : Nat → ClassId) (sz : Nat) (h0 : Nat) (lS : Nat) (aK : Nat) (aC : Nat) (aT : Nat) (aP : Nat) (lL : Nat) (lC : Nat) (lA : Nat) (lP : Nat) (ks : Nat → Int32) (cs : Nat → Int64) (hL : lL < 800) : Met l y_Lg_addEnd w_Lg_addEnd ({ frames := 1, cells := 0, slots := 0, locals := 23 } : Room) (zPre (dC, dI) vwCl (zT cT) [.ref h0] ([(h0, zoLg lS aK aC aT aP lL lC lA lP), (aK, zaI (cT 0) 801 ks), (aC, zaJ (cT 1) 801 cs)]) sz) (zQ (dC, dI) vwCl (S := Unit) (fun zu => True) (fun zu => none) (fun zu => [(h0, zoLg lS aK aC aT aP (lL + 1) lC lA lP), (aK, zaI (cT 0) 801 (va_up ks (lL + 1) (-2))), (aC, zaJ (cT 1) 801 (va_up cs (lL + 1) 1000000000000))]) (va_A ([(h0, zoLg lS aK aC aT aP lL lC lA lP), (aK, zaI (cT 0) 801 ks), (aC, zaJ (cT 1) 801 cs)]) sz)) 0 0 (va_A ([(h0, zoLg lS aK aC aT aP lL lC lA lP), (aK, zaI (cT 0) 801 ks), (aC, zaJ (cT 1) 801 cs)]) sz) := by
  refine Met.ofW (cc := b_Lg_addEnd) (maxL := 1) (ret := none) (by decide) rfl ?_
  intro p e s m args below meth c s₁ B hml hv
  obtain ⟨rfl, hsz, hP, hK, hD0, hE⟩ := hv
  have hx := B.exec
  have hb := B.bytes
  have hr := B.returns
  have hts := fun w h => atoms_spec (ws := w_Lg_addEnd) B.pre w (List.mem_cons_of_mem _ h)
  have hown : s.vm.findClass R_Lg = some m.cls := findClass_of_methodNamed B.named
  have hlocks := B.notSynchronized
  subst hsz
  have hD := hD0.self (sz := s.heap.size)
  generalize hAe : va_A ([(h0, zoLg lS aK aC aT aP lL lC lA lP), (aK, zaI (cT 0) 801 ks), (aC, zaJ (cT 1) 801 cs)]) s.heap.size = A at hD ⊢
  have hA : ∀ q : Nat, s.heap.size ≤ q → A q := fun q h => by rw [← hAe]; exact Or.inr h
  have hS : va_S A s.heap s.heap [] := va_S.rf
  have hl := lv_entry ([.ref h0]) (n := 1) (Nat.le_of_ble_eq_true rfl)
  rw [lg_entry_eq]
  generalize (lg_sl ([.ref h0]) ++ List.replicate (1 - (lg_sl ([.ref h0])).length) Slot.unset).toArray = ls at hl ⊢
  have hl : lv_has ls 1 [(0, .ref h0)] := hl
  refine lv_aload_n hx hb d_Lg_addEnd_0 rfl (lv_at hl 0 rfl) ?_
  refine lv_bipush (v := (-2)) hx hb d_Lg_addEnd_1 (by decide) ?_
  refine lv_ldc2 (v := 1000000000000) hx hb hown (hts _ wd_72) d_Lg_addEnd_3 ?_
  refine zw_Q (X := [(h0, zoLg lS aK aC aT aP lL lC lA lP), (aK, zaI (cT 0) 801 ks), (aC, zaJ (cT 1) 801 cs)]) (pl := []) (va_runV (As := [.int (-2), .long 1000000000000]) (rest := []) ⟨hx, hb, hml, hown, hts⟩ (c_Lg_addRecord l dC dI cT s.heap.size h0 lS aK aC aT aP lL lC lA lP (-2) 1000000000000 ks cs (by first | omega | assumption)) (cwV 2 hts (zgV wd_219 wd_221 wp_0 wd_4 wd_222) rfl rfl rfl (by decide +kernel) ⟨Nat.le_of_ble_eq_true rfl, Nat.le_of_ble_eq_true rfl⟩) ⟨zPre_blind, va_recv hK hP (ci := 1) (q0 := 0) rfl rfl, zp_Q (X := [(h0, zoLg lS aK aC aT aP lL lC lA lP), (aK, zaI (cT 0) 801 ks), (aC, zaJ (cT 1) 801 cs)]) (pl := []) hK hE hP hD [0, 1, 2] (by decide) rfl⟩ rfl rfl hl.1 rfl (lv_room (Nat.le_of_ble_eq_true rfl)) d_Lg_addEnd_6 ⟨Nat.le_of_ble_eq_true rfl, Nat.le_of_ble_eq_true rfl⟩) hP hD hS hA [0, 1, 2] [] rfl (wr := []) rfl (by decide) (by decide) (fun zu => []) (fun _ => rfl) (fun zu H locs hφ hP hD hS => ?_)
  have hP : va_P (dC, dI) vwCl ([(h0, zoLg lS aK aC aT aP (lL + 1) lC lA lP), (aK, zaI (cT 0) 801 (va_up ks (lL + 1) (-2))), (aC, zaJ (cT 1) 801 (va_up cs (lL + 1) 1000000000000))]) H := hP
  have hD : va_D A ([(h0, zoLg lS aK aC aT aP (lL + 1) lC lA lP), (aK, zaI (cT 0) 801 (va_up ks (lL + 1) (-2))), (aC, zaJ (cT 1) 801 (va_up cs (lL + 1) 1000000000000))]) := hD
  have hP9 := hP.sub (ws' := [(h0, zoLg lS aK aC aT aP (lL + 1) lC lA lP), (aK, zaI (cT 0) 801 (va_up ks (lL + 1) (-2))), (aC, zaJ (cT 1) 801 (va_up cs (lL + 1) 1000000000000))]) [0, 1, 2] rfl
  have hD9 := hD.sub (ws' := [(h0, zoLg lS aK aC aT aP (lL + 1) lC lA lP), (aK, zaI (cT 0) 801 (va_up ks (lL + 1) (-2))), (aC, zaJ (cT 1) 801 (va_up cs (lL + 1) 1000000000000))]) [0, 1, 2] (by decide) rfl
  exact W.vret hx hb hr (fun t ht hW => ⟨⟨(), trivial, rfl, by rw [ht]; exact hP9, hD9⟩, hS.F ht⟩) hS.2.2 d_Lg_addEnd_9
set_option maxHeartbeats 4000000 in
set_option maxRecDepth 100000 in
theorem c_Pr_isKey (l : Launch) (dC : Nat → ClassId) (dI : Nat → Nat → Nat) (cT : Nat → ClassId) (x : Int32) : Met l y_Pr_isKey w_Pr_isKey ({ frames := 0, cells := 0, slots := 0, locals := 0 } : Room) (zPreR (dC, dI) vwCl (zT cT) [.int x] ([])) (k2_QcV (.int (zb (isIn x 32)))) 0 0 (fun _ => False) := by
  refine Met.ofW (cc := b_Pr_isKey) (maxL := 1) (ret := (some .boolean)) (by decide) rfl ?_
  intro p e s m args below meth c s₁ B hml hv
  obtain ⟨rfl, hP, hK, hE⟩ := hv
  have hx := B.exec
  have hb := B.bytes
  have hr := B.returns
  have hts := fun w h => atoms_spec (ws := w_Pr_isKey) B.pre w (List.mem_cons_of_mem _ h)
  have hown : s.vm.findClass R_Pr = some m.cls := findClass_of_methodNamed B.named
  have hlocks := B.notSynchronized
  have hl := lv_entry ([.int x]) (n := 1) (Nat.le_of_ble_eq_true rfl)
  rw [lg_entry_eq]
  generalize (lg_sl ([.int x]) ++ List.replicate (1 - (lg_sl ([.int x])).length) Slot.unset).toArray = ls at hl ⊢
  have hl : lv_has ls 1 [(0, .int x)] := hl
  refine lv_iload_n hx hb d_Pr_isKey_0 rfl (lv_at hl 0 rfl) ?_
  refine lv_if_lt (tgt := 14) hx hb d_Pr_isKey_1 (by decide) (fun c_1 => ?_) (fun c_1 => ?_)
  · refine lv_iconst (v := (nI 0)) hx hb d_Pr_isKey_14 (by decide) ?_
    refine W.eq (g2 := F0 m 15 ls [.int (zb false)]) rfl ?_
    exact W.zret hx hb hr (zb_narrow _) (fun t ht hW => ⟨by rw [isIn_f1 c_1], ht⟩) (fun q h => by cases h) d_Pr_isKey_15
  · refine lv_iload_n hx hb d_Pr_isKey_4 rfl (lv_at hl 0 rfl) ?_
    refine lv_bipush (v := (nI 32)) hx hb d_Pr_isKey_5 (by decide) ?_
    refine lv_icmp_ge (tgt := 14) hx hb d_Pr_isKey_7 (by decide) (fun c_7 => ?_) (fun c_7 => ?_)
    · refine lv_iconst (v := (nI 0)) hx hb d_Pr_isKey_14 (by decide) ?_
      refine W.eq (g2 := F0 m 15 ls [.int (zb false)]) rfl ?_
      exact W.zret hx hb hr (zb_narrow _) (fun t ht hW => ⟨by rw [isIn_f2 c_7], ht⟩) (fun q h => by cases h) d_Pr_isKey_15
    · refine lv_iconst (v := (nI 1)) hx hb d_Pr_isKey_10 (by decide) ?_
      refine lv_goto (tgt := 15) hx hb d_Pr_isKey_11 (by decide) ?_
      refine W.eq (g2 := F0 m 15 ls [.int (zb true)]) rfl ?_
      exact W.zret hx hb hr (zb_narrow _) (fun t ht hW => ⟨by rw [isIn_t c_1 c_7], ht⟩) (fun q h => by cases h) d_Pr_isKey_15
set_option maxHeartbeats 4000000 in
set_option maxRecDepth 100000 in
theorem c_Pr_isPage (l : Launch) (dC : Nat → ClassId) (dI : Nat → Nat → Nat) (cT : Nat → ClassId) (x : Int32) : Met l y_Pr_isPage w_Pr_isPage ({ frames := 0, cells := 0, slots := 0, locals := 0 } : Room) (zPreR (dC, dI) vwCl (zT cT) [.int x] ([])) (k2_QcV (.int (zb (isIn x 8)))) 0 0 (fun _ => False) := by
  refine Met.ofW (cc := b_Pr_isPage) (maxL := 1) (ret := (some .boolean)) (by decide) rfl ?_
  intro p e s m args below meth c s₁ B hml hv
  obtain ⟨rfl, hP, hK, hE⟩ := hv
  have hx := B.exec
  have hb := B.bytes
  have hr := B.returns
  have hts := fun w h => atoms_spec (ws := w_Pr_isPage) B.pre w (List.mem_cons_of_mem _ h)
  have hown : s.vm.findClass R_Pr = some m.cls := findClass_of_methodNamed B.named
  have hlocks := B.notSynchronized
  have hl := lv_entry ([.int x]) (n := 1) (Nat.le_of_ble_eq_true rfl)
  rw [lg_entry_eq]
  generalize (lg_sl ([.int x]) ++ List.replicate (1 - (lg_sl ([.int x])).length) Slot.unset).toArray = ls at hl ⊢
  have hl : lv_has ls 1 [(0, .int x)] := hl
  refine lv_iload_n hx hb d_Pr_isPage_0 rfl (lv_at hl 0 rfl) ?_
  refine lv_if_lt (tgt := 14) hx hb d_Pr_isPage_1 (by decide) (fun c_1 => ?_) (fun c_1 => ?_)
  · refine lv_iconst (v := (nI 0)) hx hb d_Pr_isPage_14 (by decide) ?_
    refine W.eq (g2 := F0 m 15 ls [.int (zb false)]) rfl ?_
    exact W.zret hx hb hr (zb_narrow _) (fun t ht hW => ⟨by rw [isIn_f1 c_1], ht⟩) (fun q h => by cases h) d_Pr_isPage_15
  · refine lv_iload_n hx hb d_Pr_isPage_4 rfl (lv_at hl 0 rfl) ?_
    refine lv_bipush (v := (nI 8)) hx hb d_Pr_isPage_5 (by decide) ?_
    refine lv_icmp_ge (tgt := 14) hx hb d_Pr_isPage_7 (by decide) (fun c_7 => ?_) (fun c_7 => ?_)
    · refine lv_iconst (v := (nI 0)) hx hb d_Pr_isPage_14 (by decide) ?_
      refine W.eq (g2 := F0 m 15 ls [.int (zb false)]) rfl ?_
      exact W.zret hx hb hr (zb_narrow _) (fun t ht hW => ⟨by rw [isIn_f2 c_7], ht⟩) (fun q h => by cases h) d_Pr_isPage_15
    · refine lv_iconst (v := (nI 1)) hx hb d_Pr_isPage_10 (by decide) ?_
      refine lv_goto (tgt := 15) hx hb d_Pr_isPage_11 (by decide) ?_
      refine W.eq (g2 := F0 m 15 ls [.int (zb true)]) rfl ?_
      exact W.zret hx hb hr (zb_narrow _) (fun t ht hW => ⟨by rw [isIn_t c_1 c_7], ht⟩) (fun q h => by cases h) d_Pr_isPage_15
set_option maxHeartbeats 4000000 in
set_option maxRecDepth 100000 in
theorem c_Lg_archiveOldest_no (l : Launch) (dC : Nat → ClassId) (dI : Nat → Nat → Nat) (cT : Nat → ClassId) (sz : Nat) (h0 : Nat) (lS : Nat) (aK : Nat) (aC : Nat) (aT : Nat) (aP : Nat) (lL : Nat) (lC : Nat) (lA : Nat) (lP : Nat) (hm : (lA + 1) * lS < 2 ^ 31) (hL : lL ≤ 800) (hno : lL < (lA + 1) * lS) : Met l y_Lg_archiveOldest w_Lg_archiveOldest ({ frames := 0, cells := 0, slots := 0, locals := 0 } : Room) (zPre (dC, dI) vwCl (zT cT) [.ref h0] ([(h0, zoLg lS aK aC aT aP lL lC lA lP)]) sz) (zQ (dC, dI) vwCl (S := Unit) (fun zu => True) (fun zu => some (.int (-1))) (fun zu => [(h0, zoLg lS aK aC aT aP lL lC lA lP)]) (va_A ([(h0, zoLg lS aK aC aT aP lL lC lA lP)]) sz)) 0 0 (va_A ([(h0, zoLg lS aK aC aT aP lL lC lA lP)]) sz) := by
  refine Met.ofW (cc := b_Lg_archiveOldest) (maxL := 1) (ret := (some .int)) (by decide) rfl ?_
  intro p e s m args below meth c s₁ B hml hv
  obtain ⟨rfl, hsz, hP, hK, hD0, hE⟩ := hv
  have hx := B.exec
  have hb := B.bytes
  have hr := B.returns
  have hts := fun w h => atoms_spec (ws := w_Lg_archiveOldest) B.pre w (List.mem_cons_of_mem _ h)
  have hown : s.vm.findClass R_Lg = some m.cls := findClass_of_methodNamed B.named
  have hlocks := B.notSynchronized
  subst hsz
  have hD := hD0.self (sz := s.heap.size)
  generalize hAe : va_A ([(h0, zoLg lS aK aC aT aP lL lC lA lP)]) s.heap.size = A at hD ⊢
  have hA : ∀ q : Nat, s.heap.size ≤ q → A q := fun q h => by rw [← hAe]; exact Or.inr h
  have hS : va_S A s.heap s.heap [] := va_S.rf
  have hl := lv_entry ([.ref h0]) (n := 1) (Nat.le_of_ble_eq_true rfl)
  rw [lg_entry_eq]
  generalize (lg_sl ([.ref h0]) ++ List.replicate (1 - (lg_sl ([.ref h0])).length) Slot.unset).toArray = ls at hl ⊢
  have hl : lv_has ls 1 [(0, .ref h0)] := hl
  refine lv_aload_n hx hb d_Lg_archiveOldest_0 rfl (lv_at hl 0 rfl) ?_
  refine va_get (D := (dC, dI)) (ci := 1) (v := .int (nI lL)) (C := R_Lg) (T := F_Lg) (N := 9) hx hb hts i_Lg hown hK hP 0 rfl rfl 5 (by decide) (hts _ wd_81) (fun _ h9 => h9) rfl d_Lg_archiveOldest_1 ?_
  refine lv_aload_n hx hb d_Lg_archiveOldest_4 rfl (lv_at hl 0 rfl) ?_
  refine va_get (D := (dC, dI)) (ci := 1) (v := .int (nI lA)) (C := R_Lg) (T := F_Lg) (N := 9) hx hb hts i_Lg hown hK hP 0 rfl rfl 7 (by decide) (hts _ wd_83) (fun _ h9 => h9) rfl d_Lg_archiveOldest_5 ?_
  refine lv_iconst (v := (nI 1)) hx hb d_Lg_archiveOldest_8 (by decide) ?_
  refine zn_iadd hx hb d_Lg_archiveOldest_9 ?_
  refine lv_aload_n hx hb d_Lg_archiveOldest_10 rfl (lv_at hl 0 rfl) ?_
  refine va_get (D := (dC, dI)) (ci := 1) (v := .int (nI lS)) (C := R_Lg) (T := F_Lg) (N := 9) hx hb hts i_Lg hown hK hP 0 rfl rfl 0 (by decide) (hts _ wd_76) (fun _ h9 => h9) rfl d_Lg_archiveOldest_11 ?_
  refine zn_imul hx hb d_Lg_archiveOldest_14 ?_
  refine zn_icmp_ge (tgt := 20) hx hb (a := lL) (b := (lA + 1) * lS) (by omega) (by omega) d_Lg_archiveOldest_15 (by decide) (fun c_15 => absurd c_15 (by omega)) (fun c_15 => ?_)
  refine lv_iconst (v := (-1)) hx hb d_Lg_archiveOldest_18 (by decide) ?_
  have hP9 := hP.sub (ws' := [(h0, zoLg lS aK aC aT aP lL lC lA lP)]) [0] rfl
  have hD9 := hD.sub (ws' := [(h0, zoLg lS aK aC aT aP lL lC lA lP)]) [0] (by decide) rfl
  exact W.iret hx hb hr (fun t ht hW => ⟨⟨(), trivial, rfl, by rw [ht]; exact hP9, hD9⟩, hS.F ht⟩) hS.2.2 d_Lg_archiveOldest_19
set_option maxHeartbeats 4000000 in
set_option maxRecDepth 100000 in
theorem c_Lg_archiveOldest_yes (l : Launch) (dC : Nat → ClassId) (dI : Nat → Nat → Nat) (cT : Nat → ClassId) (sz : Nat) (h0 : Nat) (lS : Nat) (aK : Nat) (aC : Nat) (aT : Nat) (aP : Nat) (lL : Nat) (lC : Nat) (lA : Nat) (lP : Nat) (hm : (lA + 1) * lS < 2 ^ 31) (hL : lL ≤ 800) (hyes : (lA + 1) * lS ≤ lL) (hA : lA < 2 ^ 30) : Met l y_Lg_archiveOldest w_Lg_archiveOldest ({ frames := 0, cells := 0, slots := 0, locals := 0 } : Room) (zPre (dC, dI) vwCl (zT cT) [.ref h0] ([(h0, zoLg lS aK aC aT aP lL lC lA lP)]) sz) (zQ (dC, dI) vwCl (S := Unit) (fun zu => True) (fun zu => some (.int (nI (lA + 1)))) (fun zu => [(h0, zoLg lS aK aC aT aP lL lC (lA + 1) lP)]) (va_A ([(h0, zoLg lS aK aC aT aP lL lC lA lP)]) sz)) 0 0 (va_A ([(h0, zoLg lS aK aC aT aP lL lC lA lP)]) sz) := by
  refine Met.ofW (cc := b_Lg_archiveOldest) (maxL := 1) (ret := (some .int)) (by decide) rfl ?_
  intro p e s m args below meth c s₁ B hml hv
  obtain ⟨rfl, hsz, hP, hK, hD0, hE⟩ := hv
  have hx := B.exec
  have hb := B.bytes
  have hr := B.returns
  have hts := fun w h => atoms_spec (ws := w_Lg_archiveOldest) B.pre w (List.mem_cons_of_mem _ h)
  have hown : s.vm.findClass R_Lg = some m.cls := findClass_of_methodNamed B.named
  have hlocks := B.notSynchronized
  subst hsz
  have hD := hD0.self (sz := s.heap.size)
  generalize hAe : va_A ([(h0, zoLg lS aK aC aT aP lL lC lA lP)]) s.heap.size = A at hD ⊢
  have hA : ∀ q : Nat, s.heap.size ≤ q → A q := fun q h => by rw [← hAe]; exact Or.inr h
  have hS : va_S A s.heap s.heap [] := va_S.rf
  have hl := lv_entry ([.ref h0]) (n := 1) (Nat.le_of_ble_eq_true rfl)
  rw [lg_entry_eq]
  generalize (lg_sl ([.ref h0]) ++ List.replicate (1 - (lg_sl ([.ref h0])).length) Slot.unset).toArray = ls at hl ⊢
  have hl : lv_has ls 1 [(0, .ref h0)] := hl
  refine lv_aload_n hx hb d_Lg_archiveOldest_0 rfl (lv_at hl 0 rfl) ?_
  refine va_get (D := (dC, dI)) (ci := 1) (v := .int (nI lL)) (C := R_Lg) (T := F_Lg) (N := 9) hx hb hts i_Lg hown hK hP 0 rfl rfl 5 (by decide) (hts _ wd_81) (fun _ h9 => h9) rfl d_Lg_archiveOldest_1 ?_
  refine lv_aload_n hx hb d_Lg_archiveOldest_4 rfl (lv_at hl 0 rfl) ?_
  refine va_get (D := (dC, dI)) (ci := 1) (v := .int (nI lA)) (C := R_Lg) (T := F_Lg) (N := 9) hx hb hts i_Lg hown hK hP 0 rfl rfl 7 (by decide) (hts _ wd_83) (fun _ h9 => h9) rfl d_Lg_archiveOldest_5 ?_
  refine lv_iconst (v := (nI 1)) hx hb d_Lg_archiveOldest_8 (by decide) ?_
  refine zn_iadd hx hb d_Lg_archiveOldest_9 ?_
  refine lv_aload_n hx hb d_Lg_archiveOldest_10 rfl (lv_at hl 0 rfl) ?_
  refine va_get (D := (dC, dI)) (ci := 1) (v := .int (nI lS)) (C := R_Lg) (T := F_Lg) (N := 9) hx hb hts i_Lg hown hK hP 0 rfl rfl 0 (by decide) (hts _ wd_76) (fun _ h9 => h9) rfl d_Lg_archiveOldest_11 ?_
  refine zn_imul hx hb d_Lg_archiveOldest_14 ?_
  refine zn_icmp_ge (tgt := 20) hx hb (a := lL) (b := (lA + 1) * lS) (by omega) (by omega) d_Lg_archiveOldest_15 (by decide) (fun c_15 => ?_) (fun c_15 => absurd c_15 (by omega))
  refine lv_aload_n hx hb d_Lg_archiveOldest_20 rfl (lv_at hl 0 rfl) ?_
  refine lv_dup hx hb d_Lg_archiveOldest_21 rfl ?_
  refine va_get (D := (dC, dI)) (ci := 1) (v := .int (nI lA)) (C := R_Lg) (T := F_Lg) (N := 9) hx hb hts i_Lg hown hK hP 0 rfl rfl 7 (by decide) (hts _ wd_83) (fun _ h9 => h9) rfl d_Lg_archiveOldest_22 ?_
  refine lv_iconst (v := (nI 1)) hx hb d_Lg_archiveOldest_25 (by decide) ?_
  refine zn_iadd hx hb d_Lg_archiveOldest_26 ?_
  refine va_put (D := (dC, dI)) (ci := 1) (v := .int (nI (lA + 1))) (ty := .int) (C := R_Lg) (T := F_Lg) (N := 9) hx hb hts i_Lg t_Lg t_Lg_ok n_Lg hown hK hP hD hS 0 rfl rfl 7 (by decide) (hts _ wd_83) (fun _ h9 => h9) rfl (by decide +kernel) rfl rfl (Nat.le_of_ble_eq_true rfl) d_Lg_archiveOldest_27 (fun H locs hP hD hS => ?_)
  have hP : va_P (dC, dI) vwCl ([(h0, zoLg lS aK aC aT aP lL lC (lA + 1) lP)]) H := hP
  have hD : va_D A ([(h0, zoLg lS aK aC aT aP lL lC (lA + 1) lP)]) := hD
  refine lv_aload_n hx hb d_Lg_archiveOldest_30 rfl (lv_at hl 0 rfl) ?_
  refine va_get (D := (dC, dI)) (ci := 1) (v := .int (nI (lA + 1))) (C := R_Lg) (T := F_Lg) (N := 9) hx hb hts i_Lg hown hK hP 0 rfl rfl 7 (by decide) (hts _ wd_83) (fun _ h9 => h9) rfl d_Lg_archiveOldest_31 ?_
  have hP9 := hP.sub (ws' := [(h0, zoLg lS aK aC aT aP lL lC (lA + 1) lP)]) [0] rfl
  have hD9 := hD.sub (ws' := [(h0, zoLg lS aK aC aT aP lL lC (lA + 1) lP)]) [0] (by decide) rfl
  exact W.iret hx hb hr (fun t ht hW => ⟨⟨(), trivial, rfl, by rw [ht]; exact hP9, hD9⟩, hS.F ht⟩) hS.2.2 d_Lg_archiveOldest_34
set_option maxHeartbeats 4000000 in
set_option maxRecDepth 100000 in
theorem c_Lg_purgeUpTo (l : Launch) (dC : Nat → ClassId) (dI : Nat → Nat → Nat) (cT : Nat → ClassId) (sz : Nat) (h0 : Nat) (lS : Nat) (aK : Nat) (aC : Nat) (aT : Nat) (aP : Nat) (lL : Nat) (lC : Nat) (lA : Nat) (lP : Nat) (r : Nat) (h0s : 0 < lS) (hs : lS ≤ 8) (hr0 : r < 2 ^ 30) (hA : lA < 2 ^ 30) (hPu : lP < 2 ^ 30) (hq : r / lS < 2 ^ 30) : Met l y_Lg_purgeUpTo w_Lg_purgeUpTo ({ frames := 1, cells := 0, slots := 0, locals := 21 } : Room) (zPre (dC, dI) vwCl (zT cT) [.ref h0, .int (nI r)] ([(h0, zoLg lS aK aC aT aP lL lC lA lP)]) sz) (zQ (dC, dI) vwCl (S := Unit) (fun zu => True) (fun zu => none) (fun zu => [(h0, zoLg lS aK aC aT aP lL lC lA (max lP (min lA (r / lS))))]) (va_A ([(h0, zoLg lS aK aC aT aP lL lC lA lP)]) sz)) 0 0 (va_A ([(h0, zoLg lS aK aC aT aP lL lC lA lP)]) sz) := by
  refine Met.ofW (cc := b_Lg_purgeUpTo) (maxL := 2) (ret := none) (by decide) rfl ?_
  intro p e s m args below meth c s₁ B hml hv
  obtain ⟨rfl, hsz, hP, hK, hD0, hE⟩ := hv
  have hx := B.exec
  have hb := B.bytes
  have hr := B.returns
  have hts := fun w h => atoms_spec (ws := w_Lg_purgeUpTo) B.pre w (List.mem_cons_of_mem _ h)
  have hown : s.vm.findClass R_Lg = some m.cls := findClass_of_methodNamed B.named
  have hlocks := B.notSynchronized
  subst hsz
  have hD := hD0.self (sz := s.heap.size)
  generalize hAe : va_A ([(h0, zoLg lS aK aC aT aP lL lC lA lP)]) s.heap.size = A at hD ⊢
  have hA : ∀ q : Nat, s.heap.size ≤ q → A q := fun q h => by rw [← hAe]; exact Or.inr h
  have hS : va_S A s.heap s.heap [] := va_S.rf
  have hl := lv_entry ([.ref h0, .int (nI r)]) (n := 2) (Nat.le_of_ble_eq_true rfl)
  rw [lg_entry_eq]
  generalize (lg_sl ([.ref h0, .int (nI r)]) ++ List.replicate (2 - (lg_sl ([.ref h0, .int (nI r)])).length) Slot.unset).toArray = ls at hl ⊢
  have hl : lv_has ls 2 [(0, .ref h0), (1, .int (nI r))] := hl
  refine lv_aload_n hx hb d_Lg_purgeUpTo_0 rfl (lv_at hl 0 rfl) ?_
  refine lv_aload_n hx hb d_Lg_purgeUpTo_1 rfl (lv_at hl 0 rfl) ?_
  refine va_get (D := (dC, dI)) (ci := 1) (v := .int (nI lP)) (C := R_Lg) (T := F_Lg) (N := 9) hx hb hts i_Lg hown hK hP 0 rfl rfl 8 (by decide) (hts _ wd_84) (fun _ h9 => h9) rfl d_Lg_purgeUpTo_2 ?_
  refine lv_aload_n hx hb d_Lg_purgeUpTo_5 rfl (lv_at hl 0 rfl) ?_
  refine va_get (D := (dC, dI)) (ci := 1) (v := .int (nI lA)) (C := R_Lg) (T := F_Lg) (N := 9) hx hb hts i_Lg hown hK hP 0 rfl rfl 7 (by decide) (hts _ wd_83) (fun _ h9 => h9) rfl d_Lg_purgeUpTo_6 ?_
  refine lv_iload_n hx hb d_Lg_purgeUpTo_9 rfl (lv_at hl 1 rfl) ?_
  refine lv_aload_n hx hb d_Lg_purgeUpTo_10 rfl (lv_at hl 0 rfl) ?_
  refine va_get (D := (dC, dI)) (ci := 1) (v := .int (nI lS)) (C := R_Lg) (T := F_Lg) (N := 9) hx hb hts i_Lg hown hK hP 0 rfl rfl 0 (by decide) (hts _ wd_76) (fun _ h9 => h9) rfl d_Lg_purgeUpTo_11 ?_
  refine zn_idiv hx hb (by omega) (by omega) (by omega) d_Lg_purgeUpTo_14 ?_
  refine zn_mmin hx hb (by rw [hml]; exact hl.1.symm) hown (hts _ wd_205) (hts _ wd_63) (hts _ wd_5) (hts _ wd_64) (Nat.le_of_ble_eq_true rfl) (Nat.le_of_ble_eq_true rfl) (Nat.le_of_ble_eq_true rfl) (Nat.le_of_ble_eq_true rfl) (a := lA) (b := r / lS) (by omega) (by omega) d_Lg_purgeUpTo_15 ?_
  refine zn_mmax hx hb (by rw [hml]; exact hl.1.symm) hown (hts _ wd_437) (hts _ wd_66) (hts _ wd_5) (hts _ wd_67) (Nat.le_of_ble_eq_true rfl) (Nat.le_of_ble_eq_true rfl) (Nat.le_of_ble_eq_true rfl) (Nat.le_of_ble_eq_true rfl) (a := lP) (b := min lA (r / lS)) (by omega) (by omega) d_Lg_purgeUpTo_18 ?_
  refine va_put (D := (dC, dI)) (ci := 1) (v := .int (nI (max lP (min lA (r / lS))))) (ty := .int) (C := R_Lg) (T := F_Lg) (N := 9) hx hb hts i_Lg t_Lg t_Lg_ok n_Lg hown hK hP hD hS 0 rfl rfl 8 (by decide) (hts _ wd_84) (fun _ h9 => h9) rfl (by decide +kernel) rfl rfl (Nat.le_of_ble_eq_true rfl) d_Lg_purgeUpTo_21 (fun H locs hP hD hS => ?_)
  have hP : va_P (dC, dI) vwCl ([(h0, zoLg lS aK aC aT aP lL lC lA (max lP (min lA (r / lS))))]) H := hP
  have hD : va_D A ([(h0, zoLg lS aK aC aT aP lL lC lA (max lP (min lA (r / lS))))]) := hD
  have hP9 := hP.sub (ws' := [(h0, zoLg lS aK aC aT aP lL lC lA (max lP (min lA (r / lS))))]) [0] rfl
  have hD9 := hD.sub (ws' := [(h0, zoLg lS aK aC aT aP lL lC lA (max lP (min lA (r / lS))))]) [0] (by decide) rfl
  exact W.vret hx hb hr (fun t ht hW => ⟨⟨(), trivial, rfl, by rw [ht]; exact hP9, hD9⟩, hS.F ht⟩) hS.2.2 d_Lg_purgeUpTo_24
set_option maxHeartbeats 4000000 in
set_option maxRecDepth 100000 in
theorem c_Lg_recordOfCommit (l : Launch) (dC : Nat → ClassId) (dI : Nat → Nat → Nat) (cT : Nat → ClassId) (h0 : Nat) (lS : Nat) (aK : Nat) (aC : Nat) (aT : Nat) (aP : Nat) (lL : Nat) (lC : Nat) (lA : Nat) (lP : Nat) (k : Nat) (r : Nat) (ks : Nat → Int32) (hL : lL ≤ 800) (h1r : 1 ≤ r) (hrL : r ≤ lL) (hk0 : 0 < k) (hkr : zcom ks r = k) (hlt : ∀ j, j < r → zcom ks j < k) : Met l y_Lg_recordOfCommit w_Lg_recordOfCommit ({ frames := 0, cells := 0, slots := 0, locals := 0 } : Room) (zPreR (dC, dI) vwCl (zT cT) [.ref h0, .int (nI k)] ([(h0, zoLg lS aK aC aT aP lL lC lA lP), (aK, zaI (cT 0) 801 ks)])) (k2_QcV (.int (nI r))) 0 0 (fun _ => False) := by
  refine Met.ofW (cc := b_Lg_recordOfCommit) (maxL := 4) (ret := (some .int)) (by decide) rfl ?_
  intro p e s m args below meth c s₁ B hml hv
  obtain ⟨rfl, hP, hK, hE⟩ := hv
  have hx := B.exec
  have hb := B.bytes
  have hr := B.returns
  have hts := fun w h => atoms_spec (ws := w_Lg_recordOfCommit) B.pre w (List.mem_cons_of_mem _ h)
  have hown : s.vm.findClass R_Lg = some m.cls := findClass_of_methodNamed B.named
  have hlocks := B.notSynchronized
  have hl := lv_entry ([.ref h0, .int (nI k)]) (n := 4) (Nat.le_of_ble_eq_true rfl)
  rw [lg_entry_eq]
  generalize (lg_sl ([.ref h0, .int (nI k)]) ++ List.replicate (4 - (lg_sl ([.ref h0, .int (nI k)])).length) Slot.unset).toArray = ls at hl ⊢
  have hl : lv_has ls 4 [(0, .ref h0), (1, .int (nI k))] := hl
  refine lv_iconst (v := (nI 0)) hx hb d_Lg_recordOfCommit_0 (by decide) ?_
  refine lv_istore_n (lv' := [(2, .int (nI 0)), (0, .ref h0), (1, .int (nI k))]) hx hb d_Lg_recordOfCommit_1 rfl hl (by decide) rfl (fun ls hl => ?_)
  refine lv_iconst (v := (nI 1)) hx hb d_Lg_recordOfCommit_2 (by decide) ?_
  refine lv_istore_n (lv' := [(3, .int (nI 1)), (2, .int (nI 0)), (0, .ref h0), (1, .int (nI k))]) hx hb d_Lg_recordOfCommit_3 rfl hl (by decide) rfl (fun ls hl => ?_)
  have loop_4 : ∀ (fu : Nat) (i : Nat) (a : Nat), r - i < fu → (1 ≤ i) → (i ≤ r) → (a = zcom ks (i - 1)) → (a ≤ i) → ∀ (ls : Array Slot), lv_has ls 4 [(0, .ref h0), (1, .int (nI k)), (2, .int (nI a)), (3, .int (nI i))] → W p l e (headSpec w_Lg_recordOfCommit ({ frames := 0, cells := 0, slots := 0, locals := 0 } : Room)).room s m ([.ref h0, .int (nI k)] : List Value).toArray below meth c s.heap [] 0 0 (MQ below (k2_QcV (.int (nI r))) ([.ref h0, .int (nI k)] : List Value).toArray s 0 0 (fun _ => False)) (F0 m 4 ls []) := by
    intro fu
    induction fu with
    | zero => intro _ _ hm; exact absurd hm (Nat.not_lt_zero _)
    | succ fu ih_4 =>
      intro i a hm_4 h1 h2 h3 h4 ls hl
      refine lv_iload_n hx hb d_Lg_recordOfCommit_4 rfl (lv_at hl 3 rfl) ?_
      refine lv_aload_n hx hb d_Lg_recordOfCommit_5 rfl (lv_at hl 0 rfl) ?_
      refine va_get (D := (dC, dI)) (ci := 1) (v := .int (nI lL)) (C := R_Lg) (T := F_Lg) (N := 9) hx hb hts i_Lg hown hK hP 0 rfl rfl 5 (by decide) (hts _ wd_81) (fun _ h9 => h9) rfl d_Lg_recordOfCommit_6 ?_
      refine zn_icmp_gt (tgt := 38) hx hb (a := i) (b := lL) (by omega) (by omega) d_Lg_recordOfCommit_9 (by decide) (fun c_9 => absurd c_9 (by omega)) (fun c_9 => ?_)
      refine lv_aload_n hx hb d_Lg_recordOfCommit_12 rfl (lv_at hl 0 rfl) ?_
      refine va_get (D := (dC, dI)) (ci := 1) (v := .ref aK) (C := R_Lg) (T := F_Lg) (N := 9) hx hb hts i_Lg hown hK hP 0 rfl rfl 1 (by decide) (hts _ wd_77) (fun _ h9 => h9) rfl d_Lg_recordOfCommit_13 ?_
      refine lv_iload_n hx hb d_Lg_recordOfCommit_16 rfl (lv_at hl 3 rfl) ?_
      refine zn_iald hx hb hK hP 1 0 rfl rfl (i := i) (by omega) (by omega) d_Lg_recordOfCommit_17 ?_
      refine lv_iconst (v := (-1)) hx hb d_Lg_recordOfCommit_18 (by decide) ?_
      refine lv_icmp_ne (tgt := 25) hx hb d_Lg_recordOfCommit_19 (by decide) (fun c_19 => ?_) (fun c_19 => ?_)
      · have h5 : a = zcom ks i := by rw [show i = (i - 1) + 1 by omega, zcom, show (i - 1) + 1 = i by omega, if_neg c_19]; omega
        have h7 : a ≤ 800 := by have := zcom_le ks i; omega
        have h8 : k ≤ 801 := by rw [← hkr]; have := zcom_le ks r; omega
        refine lv_iload_n hx hb d_Lg_recordOfCommit_25 rfl (lv_at hl 2 rfl) ?_
        refine lv_iload_n hx hb d_Lg_recordOfCommit_26 rfl (lv_at hl 1 rfl) ?_
        refine zn_icmp_ne (tgt := 32) hx hb (a := a) (b := k) (by omega) (by omega) d_Lg_recordOfCommit_27 (by decide) (fun c_27 => ?_) (fun c_27 => ?_)
        · have h6 : i < r := by
            rcases Nat.lt_or_ge i r with q | q
            · exact q
            · exact absurd (by rw [h5, show i = r by omega, hkr]) c_27
          refine lv_iinc (v := (nI (i + 1))) (lv' := [(3, .int (nI (i + 1))), (0, .ref h0), (1, .int (nI k)), (2, .int (nI a))]) hx hb d_Lg_recordOfCommit_32 hl (k := 3) rfl (nI_1 _) (by decide) rfl (fun ls hl => ?_)
          refine lv_goto (tgt := 4) hx hb d_Lg_recordOfCommit_35 (by decide) ?_
          exact ih_4 (i + 1) a (by omega) (by omega) (by omega) (by rw [Nat.add_sub_cancel]; exact h5) (by omega) ls (lv_sub hl [1, 2, 3, 0] rfl)
        · refine lv_iload_n hx hb d_Lg_recordOfCommit_30 rfl (lv_at hl 3 rfl) ?_
          exact W.iret hx hb hr (fun t ht hW => ⟨by rw [show i = r from by rcases Nat.lt_or_ge i r with q | q; exact absurd (hlt i q) (by omega); omega], ht⟩) (fun q h => by cases h) d_Lg_recordOfCommit_31
      · refine lv_iinc (v := (nI (a + 1))) (lv' := [(2, .int (nI (a + 1))), (0, .ref h0), (1, .int (nI k)), (3, .int (nI i))]) hx hb d_Lg_recordOfCommit_22 hl (k := 2) rfl (nI_1 _) (by decide) rfl (fun ls hl => ?_)
        have h5 : a + 1 = zcom ks i := by rw [show i = (i - 1) + 1 by omega, zcom, show (i - 1) + 1 = i by omega, if_pos c_19]; omega
        have h7 : a + 1 ≤ 800 := by have := zcom_le ks i; omega
        have h8 : k ≤ 801 := by rw [← hkr]; have := zcom_le ks r; omega
        refine lv_iload_n hx hb d_Lg_recordOfCommit_25 rfl (lv_at hl 0 rfl) ?_
        refine lv_iload_n hx hb d_Lg_recordOfCommit_26 rfl (lv_at hl 2 rfl) ?_
        refine zn_icmp_ne (tgt := 32) hx hb (a := a + 1) (b := k) (by omega) (by omega) d_Lg_recordOfCommit_27 (by decide) (fun c_27 => ?_) (fun c_27 => ?_)
        · have h6 : i < r := by
            rcases Nat.lt_or_ge i r with q | q
            · exact q
            · exact absurd (by rw [h5, show i = r by omega, hkr]) c_27
          refine lv_iinc (v := (nI (i + 1))) (lv' := [(3, .int (nI (i + 1))), (2, .int (nI (a + 1))), (0, .ref h0), (1, .int (nI k))]) hx hb d_Lg_recordOfCommit_32 hl (k := 3) rfl (nI_1 _) (by decide) rfl (fun ls hl => ?_)
          refine lv_goto (tgt := 4) hx hb d_Lg_recordOfCommit_35 (by decide) ?_
          exact ih_4 (i + 1) (a + 1) (by omega) (by omega) (by omega) (by rw [Nat.add_sub_cancel]; exact h5) (by omega) ls (lv_sub hl [2, 3, 1, 0] rfl)
        · refine lv_iload_n hx hb d_Lg_recordOfCommit_30 rfl (lv_at hl 3 rfl) ?_
          exact W.iret hx hb hr (fun t ht hW => ⟨by rw [show i = r from by rcases Nat.lt_or_ge i r with q | q; exact absurd (hlt i q) (by omega); omega], ht⟩) (fun q h => by cases h) d_Lg_recordOfCommit_31
  exact loop_4 (r - 1 + 1) 1 0 (by omega) (by first | omega | assumption) (by first | omega | assumption) rfl (by omega) ls (lv_sub hl [2, 3, 1, 0] rfl)
set_option maxHeartbeats 4000000 in
set_option maxRecDepth 100000 in
theorem c_Lg_changesAbove (l : Launch) (dC : Nat → ClassId) (dI : Nat → Nat → Nat) (cT : Nat → ClassId) (h0 : Nat) (lS : Nat) (aK : Nat) (aC : Nat) (aT : Nat) (aP : Nat) (lL : Nat) (lC : Nat) (lA : Nat) (lP : Nat) (an : Nat) (u : Nat) (ks : Nat → Int32) (nm : Nat → Nat) (hu : u ≤ 800) (hnm : ∀ j, j < 8 → nm j ≤ 800) : Met l y_Lg_changesAbove w_Lg_changesAbove ({ frames := 1, cells := 0, slots := 0, locals := 20 } : Room) (zPreR (dC, dI) vwCl (zT cT) [.ref h0, .ref an, .int (nI u)] ([(h0, zoLg lS aK aC aT aP lL lC lA lP), (aK, zaI (cT 0) 801 ks), (an, zaN (cT 0) 8 nm)])) (k2_QcV (.int (nI (zchg ks nm u)))) 0 0 (fun _ => False) := by
  refine Met.ofW (cc := b_Lg_changesAbove) (maxL := 6) (ret := (some .int)) (by decide) rfl ?_
  intro p e s m args below meth c s₁ B hml hv
  obtain ⟨rfl, hP, hK, hE⟩ := hv
  have hx := B.exec
  have hb := B.bytes
  have hr := B.returns
  have hts := fun w h => atoms_spec (ws := w_Lg_changesAbove) B.pre w (List.mem_cons_of_mem _ h)
  have hown : s.vm.findClass R_Lg = some m.cls := findClass_of_methodNamed B.named
  have hlocks := B.notSynchronized
  have hl := lv_entry ([.ref h0, .ref an, .int (nI u)]) (n := 6) (Nat.le_of_ble_eq_true rfl)
  rw [lg_entry_eq]
  generalize (lg_sl ([.ref h0, .ref an, .int (nI u)]) ++ List.replicate (6 - (lg_sl ([.ref h0, .ref an, .int (nI u)])).length) Slot.unset).toArray = ls at hl ⊢
  have hl : lv_has ls 6 [(0, .ref h0), (1, .ref an), (2, .int (nI u))] := hl
  refine lv_iconst (v := (nI 0)) hx hb d_Lg_changesAbove_0 (by decide) ?_
  refine lv_istore_n (lv' := [(3, .int (nI 0)), (0, .ref h0), (1, .ref an), (2, .int (nI u))]) hx hb d_Lg_changesAbove_1 rfl hl (by decide) rfl (fun ls hl => ?_)
  refine lv_iconst (v := (nI 1)) hx hb d_Lg_changesAbove_2 (by decide) ?_
  refine lv_istore (lv' := [(4, .int (nI 1)), (3, .int (nI 0)), (0, .ref h0), (1, .ref an), (2, .int (nI u))]) hx hb d_Lg_changesAbove_3 hl (by decide) rfl (fun ls hl => ?_)
  have loop_5 : ∀ (fu : Nat) (i : Nat) (a : Nat), u + 1 - i < fu → (1 ≤ i) → (i ≤ u + 1) → (a = zchg ks nm (i - 1)) → (a ≤ 800) → ∀ (ls : Array Slot), lv_has ls 6 [(0, .ref h0), (1, .ref an), (2, .int (nI u)), (3, .int (nI a)), (4, .int (nI i))] → W p l e (headSpec w_Lg_changesAbove ({ frames := 1, cells := 0, slots := 0, locals := 20 } : Room)).room s m ([.ref h0, .ref an, .int (nI u)] : List Value).toArray below meth c s.heap [] 0 0 (MQ below (k2_QcV (.int (nI (zchg ks nm u)))) ([.ref h0, .ref an, .int (nI u)] : List Value).toArray s 0 0 (fun _ => False)) (F0 m 5 ls []) := by
    intro fu
    induction fu with
    | zero => intro _ _ hm; exact absurd hm (Nat.not_lt_zero _)
    | succ fu ih_5 =>
      intro i a hm_5 h1 h2 h3 h4 ls hl
      refine lv_iload hx hb d_Lg_changesAbove_5 (lv_at hl 4 rfl) ?_
      refine lv_iload_n hx hb d_Lg_changesAbove_7 rfl (lv_at hl 2 rfl) ?_
      refine zn_icmp_gt (tgt := 48) hx hb (a := i) (b := u) (by omega) (by omega) d_Lg_changesAbove_8 (by decide) (fun c_8 => ?_) (fun c_8 => ?_)
      · refine lv_iload_n hx hb d_Lg_changesAbove_48 rfl (lv_at hl 3 rfl) ?_
        exact W.iret hx hb hr (fun t ht hW => ⟨by rw [h3, show i - 1 = u by omega], ht⟩) (fun q h => by cases h) d_Lg_changesAbove_49
      · refine lv_aload_n hx hb d_Lg_changesAbove_11 rfl (lv_at hl 0 rfl) ?_
        refine va_get (D := (dC, dI)) (ci := 1) (v := .ref aK) (C := R_Lg) (T := F_Lg) (N := 9) hx hb hts i_Lg hown hK hP 0 rfl rfl 1 (by decide) (hts _ wd_77) (fun _ h9 => h9) rfl d_Lg_changesAbove_12 ?_
        refine lv_iload hx hb d_Lg_changesAbove_15 (lv_at hl 4 rfl) ?_
        refine zn_iald hx hb hK hP 1 0 rfl rfl (i := i) (by omega) (by omega) d_Lg_changesAbove_17 ?_
        refine lv_istore (lv' := [(5, .int (ks i)), (0, .ref h0), (1, .ref an), (2, .int (nI u)), (3, .int (nI a)), (4, .int (nI i))]) hx hb d_Lg_changesAbove_18 hl (by decide) rfl (fun ls hl => ?_)
        refine lv_iload hx hb d_Lg_changesAbove_20 (lv_at hl 0 rfl) ?_
        refine zw_R (r := .int (zb (isIn (ks i) 32))) (va_runSN (As := [.int (ks i)]) (rest := []) ⟨hx, hb, hml, hown, hts⟩ (c_Pr_isKey l dC dI cT (ks i)) ⟨va_cnB 1 hts (zgI wd_192) rfl rfl rfl hE.2.2.1 (hts _ wd_1) (by decide +kernel) ⟨Nat.le_of_ble_eq_true rfl, Nat.le_of_ble_eq_true rfl⟩, hts _ wd_191, trivial⟩ ⟨zPreR_blind, zp_R hK hE (zSub (X := [(h0, zoLg lS aK aC aT aP lL lC lA lP), (aK, zaI (cT 0) 801 ks), (an, zaN (cT 0) 8 nm)]) (pl := []) hP [] rfl)⟩ rfl rfl hl.1 rfl (lv_room (Nat.le_of_ble_eq_true rfl)) d_Lg_changesAbove_22 ⟨Nat.le_of_ble_eq_true rfl, Nat.le_of_ble_eq_true rfl⟩) ?_
        refine zb_if_eq (tgt := 42) hx hb d_Lg_changesAbove_25 (by decide) (fun c_25 => ?_) (fun c_25 => ?_)
        · have h5 : a = zchg ks nm i := by rw [show i = (i - 1) + 1 by omega, zchg, show (i - 1) + 1 = i by omega, if_neg (fun q => by rw [c_25] at q; exact absurd q.1 (by decide))]; omega
          refine lv_iinc (v := (nI (i + 1))) (lv' := [(4, .int (nI (i + 1))), (5, .int (ks i)), (0, .ref h0), (1, .ref an), (2, .int (nI u)), (3, .int (nI a))]) hx hb d_Lg_changesAbove_42 hl (k := 5) rfl (nI_1 _) (by decide) rfl (fun ls hl => ?_)
          refine lv_goto (tgt := 5) hx hb d_Lg_changesAbove_45 (by decide) ?_
          exact ih_5 (i + 1) a (by omega) (by omega) (by omega) (by rw [Nat.add_sub_cancel]; exact h5) (by have := zchg_le ks nm i; omega) ls (lv_sub hl [2, 3, 4, 5, 0] rfl)
        · obtain ⟨hk1, hk2⟩ := isIn_of (by decide) c_25
          have hk3 := hnm (kN (ks i) / 4) (by omega)
          have hl : lv_has ls 6 [(5, .int (nI (kN (ks i)))), (0, .ref h0), (1, .ref an), (2, .int (nI u)), (3, .int (nI a)), (4, .int (nI i))] := by rw [← hk1]; exact hl
          refine lv_iload hx hb d_Lg_changesAbove_28 (lv_at hl 5 rfl) ?_
          refine lv_aload_n hx hb d_Lg_changesAbove_30 rfl (lv_at hl 2 rfl) ?_
          refine lv_iload hx hb d_Lg_changesAbove_31 (lv_at hl 0 rfl) ?_
          refine lv_iconst (v := (nI 4)) hx hb d_Lg_changesAbove_33 (by decide) ?_
          refine zn_idiv hx hb (by omega) (by omega) (by omega) d_Lg_changesAbove_34 ?_
          refine zn_iald hx hb hK hP 2 0 rfl rfl (i := (kN (ks i)) / 4) (by omega) (by omega) d_Lg_changesAbove_35 ?_
          refine zn_icmp_le (tgt := 42) hx hb (a := i) (b := nm ((kN (ks i)) / 4)) (by omega) (by omega) d_Lg_changesAbove_36 (by decide) (fun c_36 => ?_) (fun c_36 => ?_)
          · have h5 : a = zchg ks nm i := by rw [show i = (i - 1) + 1 by omega, zchg, show (i - 1) + 1 = i by omega, if_neg (fun q => by have := q.2; omega)]; omega
            refine lv_iinc (v := (nI (i + 1))) (lv' := [(4, .int (nI (i + 1))), (5, .int (nI (kN (ks i)))), (0, .ref h0), (1, .ref an), (2, .int (nI u)), (3, .int (nI a))]) hx hb d_Lg_changesAbove_42 hl (k := 5) rfl (nI_1 _) (by decide) rfl (fun ls hl => ?_)
            refine lv_goto (tgt := 5) hx hb d_Lg_changesAbove_45 (by decide) ?_
            exact ih_5 (i + 1) a (by omega) (by omega) (by omega) (by rw [Nat.add_sub_cancel]; exact h5) (by have := zchg_le ks nm i; omega) ls (lv_sub hl [2, 3, 4, 5, 0] rfl)
          · refine lv_iinc (v := (nI (a + 1))) (lv' := [(3, .int (nI (a + 1))), (5, .int (nI (kN (ks i)))), (0, .ref h0), (1, .ref an), (2, .int (nI u)), (4, .int (nI i))]) hx hb d_Lg_changesAbove_39 hl (k := 4) rfl (nI_1 _) (by decide) rfl (fun ls hl => ?_)
            have h5 : a + 1 = zchg ks nm i := by rw [show i = (i - 1) + 1 by omega, zchg, show (i - 1) + 1 = i by omega, if_pos ⟨c_25, c_36⟩]; omega
            refine lv_iinc (v := (nI (i + 1))) (lv' := [(4, .int (nI (i + 1))), (3, .int (nI (a + 1))), (5, .int (nI (kN (ks i)))), (0, .ref h0), (1, .ref an), (2, .int (nI u))]) hx hb d_Lg_changesAbove_42 hl (k := 5) rfl (nI_1 _) (by decide) rfl (fun ls hl => ?_)
            refine lv_goto (tgt := 5) hx hb d_Lg_changesAbove_45 (by decide) ?_
            exact ih_5 (i + 1) (a + 1) (by omega) (by omega) (by omega) (by rw [Nat.add_sub_cancel]; exact h5) (by have := zchg_le ks nm i; omega) ls (lv_sub hl [3, 4, 5, 1, 0] rfl)
  exact loop_5 (u + 1 - 1 + 1) 1 0 (by omega) (by first | omega | assumption) (by first | omega | assumption) rfl (by omega) ls (lv_sub hl [2, 3, 4, 1, 0] rfl)
set_option maxHeartbeats 4000000 in
set_option maxRecDepth 100000 in
theorem c_Lg_tableUpTo (l : Launch) (dC : Nat → ClassId) (dI : Nat → Nat → Nat) (cT : Nat → ClassId) (sz : Nat) (h0 : Nat) (lS : Nat) (aK : Nat) (aC : Nat) (aT : Nat) (aP : Nat) (lL : Nat) (lC : Nat) (lA : Nat) (lP : Nat) (an : Nat) (u : Nat) (ks : Nat → Int32) (cs : Nat → Int64) (f : Nat → Int64) (hu : u ≤ 800) : Met l y_Lg_tableUpTo w_Lg_tableUpTo ({ frames := 1, cells := 0, slots := 0, locals := 24 } : Room) (zPre (dC, dI) vwCl (zT cT) [.ref h0, .int (nI u), .ref an] ([(h0, zoLg lS aK aC aT aP lL lC lA lP), (aK, zaI (cT 0) 801 ks), (aC, zaJ (cT 1) 801 cs), (an, zaJ (cT 1) 32 f)]) sz) (zQ (dC, dI) vwCl (S := Unit) (fun zu => True) (fun zu => none) (fun zu => [(h0, zoLg lS aK aC aT aP lL lC lA lP), (aK, zaI (cT 0) 801 ks), (aC, zaJ (cT 1) 801 cs), (an, zaJ (cT 1) 32 (ztab ks cs (zfill f 1000000000000 32) u))]) (va_A ([(h0, zoLg lS aK aC aT aP lL lC lA lP), (aK, zaI (cT 0) 801 ks), (aC, zaJ (cT 1) 801 cs), (an, zaJ (cT 1) 32 f)]) sz)) 0 0 (va_A ([(h0, zoLg lS aK aC aT aP lL lC lA lP), (aK, zaI (cT 0) 801 ks), (aC, zaJ (cT 1) 801 cs), (an, zaJ (cT 1) 32 f)]) sz) := by
  refine Met.ofW (cc := b_Lg_tableUpTo) (maxL := 5) (ret := none) (by decide) rfl ?_
  intro p e s m args below meth c s₁ B hml hv
  obtain ⟨rfl, hsz, hP, hK, hD0, hE⟩ := hv
  have hx := B.exec
  have hb := B.bytes
  have hr := B.returns
  have hts := fun w h => atoms_spec (ws := w_Lg_tableUpTo) B.pre w (List.mem_cons_of_mem _ h)
  have hown : s.vm.findClass R_Lg = some m.cls := findClass_of_methodNamed B.named
  have hlocks := B.notSynchronized
  subst hsz
  have hD := hD0.self (sz := s.heap.size)
  generalize hAe : va_A ([(h0, zoLg lS aK aC aT aP lL lC lA lP), (aK, zaI (cT 0) 801 ks), (aC, zaJ (cT 1) 801 cs), (an, zaJ (cT 1) 32 f)]) s.heap.size = A at hD ⊢
  have hA : ∀ q : Nat, s.heap.size ≤ q → A q := fun q h => by rw [← hAe]; exact Or.inr h
  have hS : va_S A s.heap s.heap [] := va_S.rf
  have hl := lv_entry ([.ref h0, .int (nI u), .ref an]) (n := 5) (Nat.le_of_ble_eq_true rfl)
  rw [lg_entry_eq]
  generalize (lg_sl ([.ref h0, .int (nI u), .ref an]) ++ List.replicate (5 - (lg_sl ([.ref h0, .int (nI u), .ref an])).length) Slot.unset).toArray = ls at hl ⊢
  have hl : lv_has ls 5 [(0, .ref h0), (1, .int (nI u)), (2, .ref an)] := hl
  refine lv_aload_n hx hb d_Lg_tableUpTo_0 rfl (lv_at hl 2 rfl) ?_
  refine lv_ldc2 (v := 1000000000000) hx hb hown (hts _ wd_72) d_Lg_tableUpTo_1 ?_
  refine zw_Q (X := [(h0, zoLg lS aK aC aT aP lL lC lA lP), (aK, zaI (cT 0) 801 ks), (aC, zaJ (cT 1) 801 cs), (an, zaJ (cT 1) 32 f)]) (pl := []) (va_runS (As := [.ref an, .long 1000000000000]) (rest := []) ⟨hx, hb, hml, hown, hts⟩ (c_Ar_fill_2J l dC dI cT s.heap.size an 32 f 1000000000000 (by first | omega | assumption)) (va_cwS 2 hts (zgS wd_73 wd_74 wd_6 wd_75) rfl rfl rfl (by decide +kernel) ⟨Nat.le_of_ble_eq_true rfl, Nat.le_of_ble_eq_true rfl⟩) ⟨zPre_blind, zp_Q (X := [(h0, zoLg lS aK aC aT aP lL lC lA lP), (aK, zaI (cT 0) 801 ks), (aC, zaJ (cT 1) 801 cs), (an, zaJ (cT 1) 32 f)]) (pl := []) hK hE hP hD [3] (by decide) rfl⟩ rfl rfl hl.1 rfl (lv_room (Nat.le_of_ble_eq_true rfl)) d_Lg_tableUpTo_4 ⟨Nat.le_of_ble_eq_true rfl, Nat.le_of_ble_eq_true rfl⟩) hP hD hS hA [3] [0, 1, 2] rfl (wr := [(h0, zoLg lS aK aC aT aP lL lC lA lP), (aK, zaI (cT 0) 801 ks), (aC, zaJ (cT 1) 801 cs)]) rfl (by decide) (by decide) (fun zu => []) (fun _ => rfl) (fun zu H locs hφ hP hD hS => ?_)
  have hP : va_P (dC, dI) vwCl ([(h0, zoLg lS aK aC aT aP lL lC lA lP), (aK, zaI (cT 0) 801 ks), (aC, zaJ (cT 1) 801 cs), (an, zaJ (cT 1) 32 (zfill f 1000000000000 32))]) H := hP
  have hD : va_D A ([(h0, zoLg lS aK aC aT aP lL lC lA lP), (aK, zaI (cT 0) 801 ks), (aC, zaJ (cT 1) 801 cs), (an, zaJ (cT 1) 32 (zfill f 1000000000000 32))]) := hD
  refine lv_iconst (v := (nI 1)) hx hb d_Lg_tableUpTo_7 (by decide) ?_
  refine lv_istore_n (lv' := [(3, .int (nI 1)), (0, .ref h0), (1, .int (nI u)), (2, .ref an)]) hx hb d_Lg_tableUpTo_8 rfl hl (by decide) rfl (fun ls hl => ?_)
  have loop_9 : ∀ (fu : Nat) (i : Nat) (g : Nat → Int64), u + 1 - i < fu → (1 ≤ i) → (i ≤ u + 1) → (g = ztab ks cs (zfill f 1000000000000 32) (i - 1)) → ∀ (H : Heap) (locs : List Loc), va_P (dC, dI) vwCl ([(h0, zoLg lS aK aC aT aP lL lC lA lP), (aK, zaI (cT 0) 801 ks), (aC, zaJ (cT 1) 801 cs), (an, zaJ (cT 1) 32 g)]) H → va_D A ([(h0, zoLg lS aK aC aT aP lL lC lA lP), (aK, zaI (cT 0) 801 ks), (aC, zaJ (cT 1) 801 cs), (an, zaJ (cT 1) 32 g)]) → va_S A s.heap H locs → ∀ (ls : Array Slot), lv_has ls 5 [(0, .ref h0), (1, .int (nI u)), (2, .ref an), (3, .int (nI i))] → W p l e (headSpec w_Lg_tableUpTo ({ frames := 1, cells := 0, slots := 0, locals := 24 } : Room)).room s m ([.ref h0, .int (nI u), .ref an] : List Value).toArray below meth c H locs 0 0 (MQ below (zQ (dC, dI) vwCl (S := Unit) (fun zu => True) (fun zu => none) (fun zu => [(h0, zoLg lS aK aC aT aP lL lC lA lP), (aK, zaI (cT 0) 801 ks), (aC, zaJ (cT 1) 801 cs), (an, zaJ (cT 1) 32 (ztab ks cs (zfill f 1000000000000 32) u))]) A) ([.ref h0, .int (nI u), .ref an] : List Value).toArray s 0 0 A) (F0 m 9 ls []) := by
    intro fu
    induction fu with
    | zero => intro _ _ hm; exact absurd hm (Nat.not_lt_zero _)
    | succ fu ih_9 =>
      intro i g hm_9 h1 h2 h3 H locs hP hD hS ls hl
      refine lv_iload_n hx hb d_Lg_tableUpTo_9 rfl (lv_at hl 3 rfl) ?_
      refine lv_iload_n hx hb d_Lg_tableUpTo_10 rfl (lv_at hl 1 rfl) ?_
      refine zn_icmp_gt (tgt := 46) hx hb (a := i) (b := u) (by omega) (by omega) d_Lg_tableUpTo_11 (by decide) (fun c_11 => ?_) (fun c_11 => ?_)
      · have hP9 := hP.sub (ws' := [(h0, zoLg lS aK aC aT aP lL lC lA lP), (aK, zaI (cT 0) 801 ks), (aC, zaJ (cT 1) 801 cs), (an, zaJ (cT 1) 32 g)]) [0, 1, 2, 3] rfl
        have hD9 := hD.sub (ws' := [(h0, zoLg lS aK aC aT aP lL lC lA lP), (aK, zaI (cT 0) 801 ks), (aC, zaJ (cT 1) 801 cs), (an, zaJ (cT 1) 32 g)]) [0, 1, 2, 3] (by decide) rfl
        have hP9 : va_P (dC, dI) vwCl ([(h0, zoLg lS aK aC aT aP lL lC lA lP), (aK, zaI (cT 0) 801 ks), (aC, zaJ (cT 1) 801 cs), (an, zaJ (cT 1) 32 (ztab ks cs (zfill f 1000000000000 32) u))]) H := by rw [show u = i - 1 by omega, ← h3]; exact hP9
        have hD9 : va_D A ([(h0, zoLg lS aK aC aT aP lL lC lA lP), (aK, zaI (cT 0) 801 ks), (aC, zaJ (cT 1) 801 cs), (an, zaJ (cT 1) 32 (ztab ks cs (zfill f 1000000000000 32) u))]) := by rw [show u = i - 1 by omega, ← h3]; exact hD9
        exact W.vret hx hb hr (fun t ht hW => ⟨⟨(), trivial, rfl, by rw [ht]; exact hP9, hD9⟩, hS.F ht⟩) hS.2.2 d_Lg_tableUpTo_46
      · refine lv_aload_n hx hb d_Lg_tableUpTo_14 rfl (lv_at hl 0 rfl) ?_
        refine va_get (D := (dC, dI)) (ci := 1) (v := .ref aK) (C := R_Lg) (T := F_Lg) (N := 9) hx hb hts i_Lg hown hK hP 0 rfl rfl 1 (by decide) (hts _ wd_77) (fun _ h9 => h9) rfl d_Lg_tableUpTo_15 ?_
        refine lv_iload_n hx hb d_Lg_tableUpTo_18 rfl (lv_at hl 3 rfl) ?_
        refine zn_iald hx hb hK hP 1 0 rfl rfl (i := i) (by omega) (by omega) d_Lg_tableUpTo_19 ?_
        refine lv_istore (lv' := [(4, .int (ks i)), (0, .ref h0), (1, .int (nI u)), (2, .ref an), (3, .int (nI i))]) hx hb d_Lg_tableUpTo_20 hl (by decide) rfl (fun ls hl => ?_)
        refine lv_iload hx hb d_Lg_tableUpTo_22 (lv_at hl 0 rfl) ?_
        refine zw_R (r := .int (zb (isIn (ks i) 32))) (va_runSN (As := [.int (ks i)]) (rest := []) ⟨hx, hb, hml, hown, hts⟩ (c_Pr_isKey l dC dI cT (ks i)) ⟨va_cnB 1 hts (zgI wd_192) rfl rfl rfl hE.2.2.1 (hts _ wd_1) (by decide +kernel) ⟨Nat.le_of_ble_eq_true rfl, Nat.le_of_ble_eq_true rfl⟩, hts _ wd_191, trivial⟩ ⟨zPreR_blind, zp_R hK hE (zSub (X := [(h0, zoLg lS aK aC aT aP lL lC lA lP), (aK, zaI (cT 0) 801 ks), (aC, zaJ (cT 1) 801 cs), (an, zaJ (cT 1) 32 g)]) (pl := []) hP [] rfl)⟩ rfl rfl hl.1 rfl (lv_room (Nat.le_of_ble_eq_true rfl)) d_Lg_tableUpTo_24 ⟨Nat.le_of_ble_eq_true rfl, Nat.le_of_ble_eq_true rfl⟩) ?_
        refine zb_if_eq (tgt := 40) hx hb d_Lg_tableUpTo_27 (by decide) (fun c_27 => ?_) (fun c_27 => ?_)
        · have h5 : g = ztab ks cs (zfill f 1000000000000 32) i := by rw [show i = (i - 1) + 1 by omega, ztab, show (i - 1) + 1 = i by omega, if_neg (by rw [c_27]; decide), h3]
          refine lv_iinc (v := (nI (i + 1))) (lv' := [(3, .int (nI (i + 1))), (4, .int (ks i)), (0, .ref h0), (1, .int (nI u)), (2, .ref an)]) hx hb d_Lg_tableUpTo_40 hl (k := 4) rfl (nI_1 _) (by decide) rfl (fun ls hl => ?_)
          refine lv_goto (tgt := 9) hx hb d_Lg_tableUpTo_43 (by decide) ?_
          exact ih_9 (i + 1) g (by omega) (by omega) (by omega) (by rw [Nat.add_sub_cancel]; exact h5) H locs (hP.sub [0, 1, 2, 3] rfl) (hD.sub [0, 1, 2, 3] (by decide) rfl) hS ls (lv_sub hl [2, 3, 4, 0] rfl)
        · obtain ⟨hk1, hk2⟩ := isIn_of (by decide) c_27
          have hl : lv_has ls 5 [(4, .int (nI (kN (ks i)))), (0, .ref h0), (1, .int (nI u)), (2, .ref an), (3, .int (nI i))] := by rw [← hk1]; exact hl
          refine lv_aload_n hx hb d_Lg_tableUpTo_30 rfl (lv_at hl 3 rfl) ?_
          refine lv_iload hx hb d_Lg_tableUpTo_31 (lv_at hl 0 rfl) ?_
          refine lv_aload_n hx hb d_Lg_tableUpTo_33 rfl (lv_at hl 1 rfl) ?_
          refine va_get (D := (dC, dI)) (ci := 1) (v := .ref aC) (C := R_Lg) (T := F_Lg) (N := 9) hx hb hts i_Lg hown hK hP 0 rfl rfl 2 (by decide) (hts _ wd_78) (fun _ h9 => h9) rfl d_Lg_tableUpTo_34 ?_
          refine lv_iload_n hx hb d_Lg_tableUpTo_37 rfl (lv_at hl 4 rfl) ?_
          refine zn_lald hx hb hK hP 2 1 rfl rfl (i := i) (by omega) (by omega) d_Lg_tableUpTo_38 ?_
          refine zn_last hx hb hK hP hD hS 3 1 rfl rfl (i := kN (ks i)) (x := cs i) (by omega) (by omega) d_Lg_tableUpTo_39 (fun H locs hP hD hS => ?_)
          have hP : va_P (dC, dI) vwCl ([(h0, zoLg lS aK aC aT aP lL lC lA lP), (aK, zaI (cT 0) 801 ks), (aC, zaJ (cT 1) 801 cs), (an, zaJ (cT 1) 32 (va_up g (kN (ks i)) (cs i)))]) H := hP
          have hD : va_D A ([(h0, zoLg lS aK aC aT aP lL lC lA lP), (aK, zaI (cT 0) 801 ks), (aC, zaJ (cT 1) 801 cs), (an, zaJ (cT 1) 32 (va_up g (kN (ks i)) (cs i)))]) := hD
          have h5 : va_up g (kN (ks i)) (cs i) = ztab ks cs (zfill f 1000000000000 32) i := by rw [show i = (i - 1) + 1 by omega, ztab, show (i - 1) + 1 = i by omega, if_pos c_27, h3]
          refine lv_iinc (v := (nI (i + 1))) (lv' := [(3, .int (nI (i + 1))), (4, .int (nI (kN (ks i)))), (0, .ref h0), (1, .int (nI u)), (2, .ref an)]) hx hb d_Lg_tableUpTo_40 hl (k := 4) rfl (nI_1 _) (by decide) rfl (fun ls hl => ?_)
          refine lv_goto (tgt := 9) hx hb d_Lg_tableUpTo_43 (by decide) ?_
          exact ih_9 (i + 1) (va_up g (kN (ks i)) (cs i)) (by omega) (by omega) (by omega) (by rw [Nat.add_sub_cancel]; exact h5) H locs (hP.sub [0, 1, 2, 3] rfl) (hD.sub [0, 1, 2, 3] (by decide) rfl) hS ls (lv_sub hl [2, 3, 4, 0] rfl)
  exact loop_9 (u + 1 - 1 + 1) 1 (zfill f 1000000000000 32) (by omega) (by first | omega | assumption) (by first | omega | assumption) rfl H locs (hP.sub [0, 1, 2, 3] rfl) (hD.sub [0, 1, 2, 3] (by decide) rfl) hS ls (lv_sub hl [1, 2, 3, 0] rfl)
set_option maxHeartbeats 4000000 in
set_option maxRecDepth 100000 in
theorem c_Tx_isOpen (l : Launch) (dC : Nat → ClassId) (dI : Nat → Nat → Nat) (cT : Nat → ClassId) (h0 : Nat) (xK : Nat) (xR : Nat) (ch : Nat) (op : Bool) : Met l y_Tx_isOpen w_Tx_isOpen ({ frames := 0, cells := 0, slots := 0, locals := 0 } : Room) (zPreR (dC, dI) vwCl (zT cT) [.ref h0] ([(h0, zoTx xK xR ch op)])) (k2_QcV (.int (zb op))) 0 0 (fun _ => False) := by
  refine Met.ofW (cc := b_Tx_isOpen) (maxL := 1) (ret := (some .boolean)) (by decide) rfl ?_
  intro p e s m args below meth c s₁ B hml hv
  obtain ⟨rfl, hP, hK, hE⟩ := hv
  have hx := B.exec
  have hb := B.bytes
  have hr := B.returns
  have hts := fun w h => atoms_spec (ws := w_Tx_isOpen) B.pre w (List.mem_cons_of_mem _ h)
  have hown : s.vm.findClass R_Tx = some m.cls := findClass_of_methodNamed B.named
  have hlocks := B.notSynchronized
  have hl := lv_entry ([.ref h0]) (n := 1) (Nat.le_of_ble_eq_true rfl)
  rw [lg_entry_eq]
  generalize (lg_sl ([.ref h0]) ++ List.replicate (1 - (lg_sl ([.ref h0])).length) Slot.unset).toArray = ls at hl ⊢
  have hl : lv_has ls 1 [(0, .ref h0)] := hl
  refine lv_aload_n hx hb d_Tx_isOpen_0 rfl (lv_at hl 0 rfl) ?_
  refine va_get (D := (dC, dI)) (ci := 2) (v := .int (zb op)) (C := R_Tx) (T := F_Tx) (N := 4) hx hb hts i_Tx hown hK hP 0 rfl rfl 3 (by decide) (hts _ wd_34) (fun _ h9 => h9) rfl d_Tx_isOpen_1 ?_
  exact W.zret hx hb hr (zb_narrow _) (fun t ht hW => ⟨rfl, ht⟩) (fun q h => by cases h) d_Tx_isOpen_4
set_option maxHeartbeats 4000000 in
set_option maxRecDepth 100000 in
theorem c_Tx_changes (l : Launch) (dC : Nat → ClassId) (dI : Nat → Nat → Nat) (cT : Nat → ClassId) (h0 : Nat) (xK : Nat) (xR : Nat) (ch : Nat) (op : Bool) : Met l y_Tx_changes w_Tx_changes ({ frames := 0, cells := 0, slots := 0, locals := 0 } : Room) (zPreR (dC, dI) vwCl (zT cT) [.ref h0] ([(h0, zoTx xK xR ch op)])) (k2_QcV (.int (nI ch))) 0 0 (fun _ => False) := by
  refine Met.ofW (cc := b_Tx_changes) (maxL := 1) (ret := (some .int)) (by decide) rfl ?_
  intro p e s m args below meth c s₁ B hml hv
  obtain ⟨rfl, hP, hK, hE⟩ := hv
  have hx := B.exec
  have hb := B.bytes
  have hr := B.returns
  have hts := fun w h => atoms_spec (ws := w_Tx_changes) B.pre w (List.mem_cons_of_mem _ h)
  have hown : s.vm.findClass R_Tx = some m.cls := findClass_of_methodNamed B.named
  have hlocks := B.notSynchronized
  have hl := lv_entry ([.ref h0]) (n := 1) (Nat.le_of_ble_eq_true rfl)
  rw [lg_entry_eq]
  generalize (lg_sl ([.ref h0]) ++ List.replicate (1 - (lg_sl ([.ref h0])).length) Slot.unset).toArray = ls at hl ⊢
  have hl : lv_has ls 1 [(0, .ref h0)] := hl
  refine lv_aload_n hx hb d_Tx_changes_0 rfl (lv_at hl 0 rfl) ?_
  refine va_get (D := (dC, dI)) (ci := 2) (v := .int (nI ch)) (C := R_Tx) (T := F_Tx) (N := 4) hx hb hts i_Tx hown hK hP 0 rfl rfl 2 (by decide) (hts _ wd_33) (fun _ h9 => h9) rfl d_Tx_changes_1 ?_
  exact W.iret hx hb hr (fun t ht hW => ⟨rfl, ht⟩) (fun q h => by cases h) d_Tx_changes_4
set_option maxHeartbeats 4000000 in
set_option maxRecDepth 100000 in
theorem c_Tx_takesAChange (l : Launch) (dC : Nat → ClassId) (dI : Nat → Nat → Nat) (cT : Nat → ClassId) (h0 : Nat) (xK : Nat) (xR : Nat) (ch : Nat) (op : Bool) (hc : ch ≤ 4) : Met l y_Tx_takesAChange w_Tx_takesAChange ({ frames := 0, cells := 0, slots := 0, locals := 0 } : Room) (zPreR (dC, dI) vwCl (zT cT) [.ref h0] ([(h0, zoTx xK xR ch op)])) (k2_QcV (.int (zb (op && decide (ch < 4))))) 0 0 (fun _ => False) := by
  refine Met.ofW (cc := b_Tx_takesAChange) (maxL := 1) (ret := (some .boolean)) (by decide) rfl ?_
  intro p e s m args below meth c s₁ B hml hv
  obtain ⟨rfl, hP, hK, hE⟩ := hv
  have hx := B.exec
  have hb := B.bytes
  have hr := B.returns
  have hts := fun w h => atoms_spec (ws := w_Tx_takesAChange) B.pre w (List.mem_cons_of_mem _ h)
  have hown : s.vm.findClass R_Tx = some m.cls := findClass_of_methodNamed B.named
  have hlocks := B.notSynchronized
  have hl := lv_entry ([.ref h0]) (n := 1) (Nat.le_of_ble_eq_true rfl)
  rw [lg_entry_eq]
  generalize (lg_sl ([.ref h0]) ++ List.replicate (1 - (lg_sl ([.ref h0])).length) Slot.unset).toArray = ls at hl ⊢
  have hl : lv_has ls 1 [(0, .ref h0)] := hl
  refine lv_aload_n hx hb d_Tx_takesAChange_0 rfl (lv_at hl 0 rfl) ?_
  refine va_get (D := (dC, dI)) (ci := 2) (v := .int (zb op)) (C := R_Tx) (T := F_Tx) (N := 4) hx hb hts i_Tx hown hK hP 0 rfl rfl 3 (by decide) (hts _ wd_34) (fun _ h9 => h9) rfl d_Tx_takesAChange_1 ?_
  refine zb_if_eq (tgt := 19) hx hb d_Tx_takesAChange_4 (by decide) (fun c_4 => ?_) (fun c_4 => ?_)
  · refine lv_iconst (v := (nI 0)) hx hb d_Tx_takesAChange_19 (by decide) ?_
    refine W.eq (g2 := F0 m 20 ls [.int (zb false)]) rfl ?_
    exact W.zret hx hb hr (zb_narrow _) (fun t ht hW => ⟨by rw [c_4]; rfl, ht⟩) (fun q h => by cases h) d_Tx_takesAChange_20
  · refine lv_aload_n hx hb d_Tx_takesAChange_7 rfl (lv_at hl 0 rfl) ?_
    refine va_get (D := (dC, dI)) (ci := 2) (v := .int (nI ch)) (C := R_Tx) (T := F_Tx) (N := 4) hx hb hts i_Tx hown hK hP 0 rfl rfl 2 (by decide) (hts _ wd_33) (fun _ h9 => h9) rfl d_Tx_takesAChange_8 ?_
    refine lv_iconst (v := (nI 4)) hx hb d_Tx_takesAChange_11 (by decide) ?_
    refine zn_icmp_ge (tgt := 19) hx hb (a := ch) (b := 4) (by omega) (by omega) d_Tx_takesAChange_12 (by decide) (fun c_12 => ?_) (fun c_12 => ?_)
    · refine lv_iconst (v := (nI 0)) hx hb d_Tx_takesAChange_19 (by decide) ?_
      refine W.eq (g2 := F0 m 20 ls [.int (zb false)]) rfl ?_
      exact W.zret hx hb hr (zb_narrow _) (fun t ht hW => ⟨by rw [c_4, decide_eq_false (by omega)]; rfl, ht⟩) (fun q h => by cases h) d_Tx_takesAChange_20
    · refine lv_iconst (v := (nI 1)) hx hb d_Tx_takesAChange_15 (by decide) ?_
      refine lv_goto (tgt := 20) hx hb d_Tx_takesAChange_16 (by decide) ?_
      refine W.eq (g2 := F0 m 20 ls [.int (zb true)]) rfl ?_
      exact W.zret hx hb hr (zb_narrow _) (fun t ht hW => ⟨by rw [c_4, decide_eq_true c_12]; rfl, ht⟩) (fun q h => by cases h) d_Tx_takesAChange_20
set_option maxHeartbeats 4000000 in
set_option maxRecDepth 100000 in
theorem c_Tx_open (l : Launch) (dC : Nat → ClassId) (dI : Nat → Nat → Nat) (cT : Nat → ClassId) (sz : Nat) (h0 : Nat) (xK : Nat) (xR : Nat) (ch : Nat) (op : Bool) : Met l y_Tx_open w_Tx_open ({ frames := 0, cells := 0, slots := 0, locals := 0 } : Room) (zPre (dC, dI) vwCl (zT cT) [.ref h0] ([(h0, zoTx xK xR ch op)]) sz) (zQ (dC, dI) vwCl (S := Unit) (fun zu => True) (fun zu => none) (fun zu => [(h0, zoTx xK xR ch true)]) (va_A ([(h0, zoTx xK xR ch op)]) sz)) 0 0 (va_A ([(h0, zoTx xK xR ch op)]) sz) := by
  refine Met.ofW (cc := b_Tx_open) (maxL := 1) (ret := none) (by decide) rfl ?_
  intro p e s m args below meth c s₁ B hml hv
  obtain ⟨rfl, hsz, hP, hK, hD0, hE⟩ := hv
  have hx := B.exec
  have hb := B.bytes
  have hr := B.returns
  have hts := fun w h => atoms_spec (ws := w_Tx_open) B.pre w (List.mem_cons_of_mem _ h)
  have hown : s.vm.findClass R_Tx = some m.cls := findClass_of_methodNamed B.named
  have hlocks := B.notSynchronized
  subst hsz
  have hD := hD0.self (sz := s.heap.size)
  generalize hAe : va_A ([(h0, zoTx xK xR ch op)]) s.heap.size = A at hD ⊢
  have hA : ∀ q : Nat, s.heap.size ≤ q → A q := fun q h => by rw [← hAe]; exact Or.inr h
  have hS : va_S A s.heap s.heap [] := va_S.rf
  have hl := lv_entry ([.ref h0]) (n := 1) (Nat.le_of_ble_eq_true rfl)
  rw [lg_entry_eq]
  generalize (lg_sl ([.ref h0]) ++ List.replicate (1 - (lg_sl ([.ref h0])).length) Slot.unset).toArray = ls at hl ⊢
  have hl : lv_has ls 1 [(0, .ref h0)] := hl
  refine lv_aload_n hx hb d_Tx_open_0 rfl (lv_at hl 0 rfl) ?_
  refine lv_iconst (v := (nI 1)) hx hb d_Tx_open_1 (by decide) ?_
  refine W.eq (g2 := F0 m 2 ls [.int (zb true), .ref h0]) rfl ?_
  refine va_put (D := (dC, dI)) (ci := 2) (v := .int (zb true)) (ty := .boolean) (C := R_Tx) (T := F_Tx) (N := 4) hx hb hts i_Tx t_Tx t_Tx_ok n_Tx hown hK hP hD hS 0 rfl rfl 3 (by decide) (hts _ wd_34) (fun _ h9 => h9) rfl (by decide +kernel) (zb_narrow _) (zb_fits _) (Nat.le_of_ble_eq_true rfl) d_Tx_open_2 (fun H locs hP hD hS => ?_)
  have hP : va_P (dC, dI) vwCl ([(h0, zoTx xK xR ch true)]) H := hP
  have hD : va_D A ([(h0, zoTx xK xR ch true)]) := hD
  have hP9 := hP.sub (ws' := [(h0, zoTx xK xR ch true)]) [0] rfl
  have hD9 := hD.sub (ws' := [(h0, zoTx xK xR ch true)]) [0] (by decide) rfl
  exact W.vret hx hb hr (fun t ht hW => ⟨⟨(), trivial, rfl, by rw [ht]; exact hP9, hD9⟩, hS.F ht⟩) hS.2.2 d_Tx_open_5
set_option maxHeartbeats 4000000 in
set_option maxRecDepth 100000 in
theorem c_Tx_close (l : Launch) (dC : Nat → ClassId) (dI : Nat → Nat → Nat) (cT : Nat → ClassId) (sz : Nat) (h0 : Nat) (xK : Nat) (xR : Nat) (ch : Nat) (op : Bool) : Met l y_Tx_close w_Tx_close ({ frames := 0, cells := 0, slots := 0, locals := 0 } : Room) (zPre (dC, dI) vwCl (zT cT) [.ref h0] ([(h0, zoTx xK xR ch op)]) sz) (zQ (dC, dI) vwCl (S := Unit) (fun zu => True) (fun zu => none) (fun zu => [(h0, zoTx xK xR 0 false)]) (va_A ([(h0, zoTx xK xR ch op)]) sz)) 0 0 (va_A ([(h0, zoTx xK xR ch op)]) sz) := by
  refine Met.ofW (cc := b_Tx_close) (maxL := 1) (ret := none) (by decide) rfl ?_
  intro p e s m args below meth c s₁ B hml hv
  obtain ⟨rfl, hsz, hP, hK, hD0, hE⟩ := hv
  have hx := B.exec
  have hb := B.bytes
  have hr := B.returns
  have hts := fun w h => atoms_spec (ws := w_Tx_close) B.pre w (List.mem_cons_of_mem _ h)
  have hown : s.vm.findClass R_Tx = some m.cls := findClass_of_methodNamed B.named
  have hlocks := B.notSynchronized
  subst hsz
  have hD := hD0.self (sz := s.heap.size)
  generalize hAe : va_A ([(h0, zoTx xK xR ch op)]) s.heap.size = A at hD ⊢
  have hA : ∀ q : Nat, s.heap.size ≤ q → A q := fun q h => by rw [← hAe]; exact Or.inr h
  have hS : va_S A s.heap s.heap [] := va_S.rf
  have hl := lv_entry ([.ref h0]) (n := 1) (Nat.le_of_ble_eq_true rfl)
  rw [lg_entry_eq]
  generalize (lg_sl ([.ref h0]) ++ List.replicate (1 - (lg_sl ([.ref h0])).length) Slot.unset).toArray = ls at hl ⊢
  have hl : lv_has ls 1 [(0, .ref h0)] := hl
  refine lv_aload_n hx hb d_Tx_close_0 rfl (lv_at hl 0 rfl) ?_
  refine lv_iconst (v := (nI 0)) hx hb d_Tx_close_1 (by decide) ?_
  refine W.eq (g2 := F0 m 2 ls [.int (zb false), .ref h0]) rfl ?_
  refine va_put (D := (dC, dI)) (ci := 2) (v := .int (zb false)) (ty := .boolean) (C := R_Tx) (T := F_Tx) (N := 4) hx hb hts i_Tx t_Tx t_Tx_ok n_Tx hown hK hP hD hS 0 rfl rfl 3 (by decide) (hts _ wd_34) (fun _ h9 => h9) rfl (by decide +kernel) (zb_narrow _) (zb_fits _) (Nat.le_of_ble_eq_true rfl) d_Tx_close_2 (fun H locs hP hD hS => ?_)
  have hP : va_P (dC, dI) vwCl ([(h0, zoTx xK xR ch false)]) H := hP
  have hD : va_D A ([(h0, zoTx xK xR ch false)]) := hD
  refine lv_aload_n hx hb d_Tx_close_5 rfl (lv_at hl 0 rfl) ?_
  refine lv_iconst (v := (nI 0)) hx hb d_Tx_close_6 (by decide) ?_
  refine va_put (D := (dC, dI)) (ci := 2) (v := .int (nI 0)) (ty := .int) (C := R_Tx) (T := F_Tx) (N := 4) hx hb hts i_Tx t_Tx t_Tx_ok n_Tx hown hK hP hD hS 0 rfl rfl 2 (by decide) (hts _ wd_33) (fun _ h9 => h9) rfl (by decide +kernel) rfl rfl (Nat.le_of_ble_eq_true rfl) d_Tx_close_7 (fun H locs hP hD hS => ?_)
  have hP : va_P (dC, dI) vwCl ([(h0, zoTx xK xR 0 false)]) H := hP
  have hD : va_D A ([(h0, zoTx xK xR 0 false)]) := hD
  have hP9 := hP.sub (ws' := [(h0, zoTx xK xR 0 false)]) [0] rfl
  have hD9 := hD.sub (ws' := [(h0, zoTx xK xR 0 false)]) [0] (by decide) rfl
  exact W.vret hx hb hr (fun t ht hW => ⟨⟨(), trivial, rfl, by rw [ht]; exact hP9, hD9⟩, hS.F ht⟩) hS.2.2 d_Tx_close_10
set_option maxHeartbeats 4000000 in
set_option maxRecDepth 100000 in
theorem c_Tx_remember (l : Launch) (dC : Nat → ClassId) (dI : Nat → Nat → Nat) (cT : Nat → ClassId) (sz : Nat) (h0 : Nat) (xK : Nat) (xR : Nat) (ch : Nat) (op : Bool) (k : Nat) (ct : Int64) (tk : Nat → Nat) (tr : Nat → Int64) (hc : ch < 4) : Met l y_Tx_remember w_Tx_remember ({ frames := 0, cells := 0, slots := 0, locals := 0 } : Room) (zPre (dC, dI) vwCl (zT cT) [.ref h0, .int (nI k), .long ct] ([(h0, zoTx xK xR ch op), (xK, zaN (cT 0) 4 tk), (xR, zaJ (cT 1) 4 tr)]) sz) (zQ (dC, dI) vwCl (S := Unit) (fun zu => True) (fun zu => none) (fun zu => [(h0, zoTx xK xR (ch + 1) op), (xK, zaN (cT 0) 4 (va_up tk ch k)), (xR, zaJ (cT 1) 4 (va_up tr ch ct))]) (va_A ([(h0, zoTx xK xR ch op), (xK, zaN (cT 0) 4 tk), (xR, zaJ (cT 1) 4 tr)]) sz)) 0 0 (va_A ([(h0, zoTx xK xR ch op), (xK, zaN (cT 0) 4 tk), (xR, zaJ (cT 1) 4 tr)]) sz) := by
  refine Met.ofW (cc := b_Tx_remember) (maxL := 4) (ret := none) (by decide) rfl ?_
  intro p e s m args below meth c s₁ B hml hv
  obtain ⟨rfl, hsz, hP, hK, hD0, hE⟩ := hv
  have hx := B.exec
  have hb := B.bytes
  have hr := B.returns
  have hts := fun w h => atoms_spec (ws := w_Tx_remember) B.pre w (List.mem_cons_of_mem _ h)
  have hown : s.vm.findClass R_Tx = some m.cls := findClass_of_methodNamed B.named
  have hlocks := B.notSynchronized
  subst hsz
  have hD := hD0.self (sz := s.heap.size)
  generalize hAe : va_A ([(h0, zoTx xK xR ch op), (xK, zaN (cT 0) 4 tk), (xR, zaJ (cT 1) 4 tr)]) s.heap.size = A at hD ⊢
  have hA : ∀ q : Nat, s.heap.size ≤ q → A q := fun q h => by rw [← hAe]; exact Or.inr h
  have hS : va_S A s.heap s.heap [] := va_S.rf
  have hl := lv_entry ([.ref h0, .int (nI k), .long ct]) (n := 4) (Nat.le_of_ble_eq_true rfl)
  rw [lg_entry_eq]
  generalize (lg_sl ([.ref h0, .int (nI k), .long ct]) ++ List.replicate (4 - (lg_sl ([.ref h0, .int (nI k), .long ct])).length) Slot.unset).toArray = ls at hl ⊢
  have hl : lv_has ls 4 [(0, .ref h0), (1, .int (nI k)), (2, .long ct)] := hl
  refine lv_aload_n hx hb d_Tx_remember_0 rfl (lv_at hl 0 rfl) ?_
  refine va_get (D := (dC, dI)) (ci := 2) (v := .ref xK) (C := R_Tx) (T := F_Tx) (N := 4) hx hb hts i_Tx hown hK hP 0 rfl rfl 0 (by decide) (hts _ wd_31) (fun _ h9 => h9) rfl d_Tx_remember_1 ?_
  refine lv_aload_n hx hb d_Tx_remember_4 rfl (lv_at hl 0 rfl) ?_
  refine va_get (D := (dC, dI)) (ci := 2) (v := .int (nI ch)) (C := R_Tx) (T := F_Tx) (N := 4) hx hb hts i_Tx hown hK hP 0 rfl rfl 2 (by decide) (hts _ wd_33) (fun _ h9 => h9) rfl d_Tx_remember_5 ?_
  refine lv_iload_n hx hb d_Tx_remember_8 rfl (lv_at hl 1 rfl) ?_
  refine zn_iastN hx hb hK hP hD hS 1 0 rfl rfl (i := ch) (x := k) (by omega) (by omega) d_Tx_remember_9 (fun H locs hP hD hS => ?_)
  have hP : va_P (dC, dI) vwCl ([(h0, zoTx xK xR ch op), (xK, zaN (cT 0) 4 (va_up tk ch k)), (xR, zaJ (cT 1) 4 tr)]) H := hP
  have hD : va_D A ([(h0, zoTx xK xR ch op), (xK, zaN (cT 0) 4 (va_up tk ch k)), (xR, zaJ (cT 1) 4 tr)]) := hD
  refine lv_aload_n hx hb d_Tx_remember_10 rfl (lv_at hl 0 rfl) ?_
  refine va_get (D := (dC, dI)) (ci := 2) (v := .ref xR) (C := R_Tx) (T := F_Tx) (N := 4) hx hb hts i_Tx hown hK hP 0 rfl rfl 1 (by decide) (hts _ wd_32) (fun _ h9 => h9) rfl d_Tx_remember_11 ?_
  refine lv_aload_n hx hb d_Tx_remember_14 rfl (lv_at hl 0 rfl) ?_
  refine va_get (D := (dC, dI)) (ci := 2) (v := .int (nI ch)) (C := R_Tx) (T := F_Tx) (N := 4) hx hb hts i_Tx hown hK hP 0 rfl rfl 2 (by decide) (hts _ wd_33) (fun _ h9 => h9) rfl d_Tx_remember_15 ?_
  refine lv_lload_n hx hb d_Tx_remember_18 rfl (lv_at hl 2 rfl) ?_
  refine zn_last hx hb hK hP hD hS 2 1 rfl rfl (i := ch) (x := ct) (by omega) (by omega) d_Tx_remember_19 (fun H locs hP hD hS => ?_)
  have hP : va_P (dC, dI) vwCl ([(h0, zoTx xK xR ch op), (xK, zaN (cT 0) 4 (va_up tk ch k)), (xR, zaJ (cT 1) 4 (va_up tr ch ct))]) H := hP
  have hD : va_D A ([(h0, zoTx xK xR ch op), (xK, zaN (cT 0) 4 (va_up tk ch k)), (xR, zaJ (cT 1) 4 (va_up tr ch ct))]) := hD
  refine lv_aload_n hx hb d_Tx_remember_20 rfl (lv_at hl 0 rfl) ?_
  refine lv_dup hx hb d_Tx_remember_21 rfl ?_
  refine va_get (D := (dC, dI)) (ci := 2) (v := .int (nI ch)) (C := R_Tx) (T := F_Tx) (N := 4) hx hb hts i_Tx hown hK hP 0 rfl rfl 2 (by decide) (hts _ wd_33) (fun _ h9 => h9) rfl d_Tx_remember_22 ?_
  refine lv_iconst (v := (nI 1)) hx hb d_Tx_remember_25 (by decide) ?_
  refine zn_iadd hx hb d_Tx_remember_26 ?_
  refine va_put (D := (dC, dI)) (ci := 2) (v := .int (nI (ch + 1))) (ty := .int) (C := R_Tx) (T := F_Tx) (N := 4) hx hb hts i_Tx t_Tx t_Tx_ok n_Tx hown hK hP hD hS 0 rfl rfl 2 (by decide) (hts _ wd_33) (fun _ h9 => h9) rfl (by decide +kernel) rfl rfl (Nat.le_of_ble_eq_true rfl) d_Tx_remember_27 (fun H locs hP hD hS => ?_)
  have hP : va_P (dC, dI) vwCl ([(h0, zoTx xK xR (ch + 1) op), (xK, zaN (cT 0) 4 (va_up tk ch k)), (xR, zaJ (cT 1) 4 (va_up tr ch ct))]) H := hP
  have hD : va_D A ([(h0, zoTx xK xR (ch + 1) op), (xK, zaN (cT 0) 4 (va_up tk ch k)), (xR, zaJ (cT 1) 4 (va_up tr ch ct))]) := hD
  have hP9 := hP.sub (ws' := [(h0, zoTx xK xR (ch + 1) op), (xK, zaN (cT 0) 4 (va_up tk ch k)), (xR, zaJ (cT 1) 4 (va_up tr ch ct))]) [0, 1, 2] rfl
  have hD9 := hD.sub (ws' := [(h0, zoTx xK xR (ch + 1) op), (xK, zaN (cT 0) 4 (va_up tk ch k)), (xR, zaJ (cT 1) 4 (va_up tr ch ct))]) [0, 1, 2] (by decide) rfl
  exact W.vret hx hb hr (fun t ht hW => ⟨⟨(), trivial, rfl, by rw [ht]; exact hP9, hD9⟩, hS.F ht⟩) hS.2.2 d_Tx_remember_30
set_option maxHeartbeats 4000000 in
set_option maxRecDepth 100000 in
theorem c_Dk_store (l : Launch) (dC : Nat → ClassId) (dI : Nat → Nat → Nat) (cT : Nat → ClassId) (sz : Nat) (h0 : Nat) (dA : Nat) (dB : Nat) (k : Nat) (n : Nat) (dn : Nat → Nat) (dt : Nat → Bool) (hk : k < 8) : Met l y_Dk_store w_Dk_store ({ frames := 0, cells := 0, slots := 0, locals := 0 } : Room) (zPre (dC, dI) vwCl (zT cT) [.ref h0, .int (nI k), .int (nI n)] ([(h0, zoDk dA dB), (dA, zaN (cT 0) 8 dn), (dB, zaZ (cT 2) 8 dt)]) sz) (zQ (dC, dI) vwCl (S := Unit) (fun zu => True) (fun zu => none) (fun zu => [(h0, zoDk dA dB), (dA, zaN (cT 0) 8 (va_up dn k n)), (dB, zaZ (cT 2) 8 (va_up dt k false))]) (va_A ([(h0, zoDk dA dB), (dA, zaN (cT 0) 8 dn), (dB, zaZ (cT 2) 8 dt)]) sz)) 0 0 (va_A ([(h0, zoDk dA dB), (dA, zaN (cT 0) 8 dn), (dB, zaZ (cT 2) 8 dt)]) sz) := by
  refine Met.ofW (cc := b_Dk_store) (maxL := 3) (ret := none) (by decide) rfl ?_
  intro p e s m args below meth c s₁ B hml hv
  obtain ⟨rfl, hsz, hP, hK, hD0, hE⟩ := hv
  have hx := B.exec
  have hb := B.bytes
  have hr := B.returns
  have hts := fun w h => atoms_spec (ws := w_Dk_store) B.pre w (List.mem_cons_of_mem _ h)
  have hown : s.vm.findClass R_Dk = some m.cls := findClass_of_methodNamed B.named
  have hlocks := B.notSynchronized
  subst hsz
  have hD := hD0.self (sz := s.heap.size)
  generalize hAe : va_A ([(h0, zoDk dA dB), (dA, zaN (cT 0) 8 dn), (dB, zaZ (cT 2) 8 dt)]) s.heap.size = A at hD ⊢
  have hA : ∀ q : Nat, s.heap.size ≤ q → A q := fun q h => by rw [← hAe]; exact Or.inr h
  have hS : va_S A s.heap s.heap [] := va_S.rf
  have hl := lv_entry ([.ref h0, .int (nI k), .int (nI n)]) (n := 3) (Nat.le_of_ble_eq_true rfl)
  rw [lg_entry_eq]
  generalize (lg_sl ([.ref h0, .int (nI k), .int (nI n)]) ++ List.replicate (3 - (lg_sl ([.ref h0, .int (nI k), .int (nI n)])).length) Slot.unset).toArray = ls at hl ⊢
  have hl : lv_has ls 3 [(0, .ref h0), (1, .int (nI k)), (2, .int (nI n))] := hl
  refine lv_aload_n hx hb d_Dk_store_0 rfl (lv_at hl 0 rfl) ?_
  refine va_get (D := (dC, dI)) (ci := 3) (v := .ref dA) (C := R_Dk) (T := F_Dk) (N := 2) hx hb hts i_Dk hown hK hP 0 rfl rfl 0 (by decide) (hts _ wd_52) (fun _ h9 => h9) rfl d_Dk_store_1 ?_
  refine lv_iload_n hx hb d_Dk_store_4 rfl (lv_at hl 1 rfl) ?_
  refine lv_iload_n hx hb d_Dk_store_5 rfl (lv_at hl 2 rfl) ?_
  refine zn_iastN hx hb hK hP hD hS 1 0 rfl rfl (i := k) (x := n) (by omega) (by omega) d_Dk_store_6 (fun H locs hP hD hS => ?_)
  have hP : va_P (dC, dI) vwCl ([(h0, zoDk dA dB), (dA, zaN (cT 0) 8 (va_up dn k n)), (dB, zaZ (cT 2) 8 dt)]) H := hP
  have hD : va_D A ([(h0, zoDk dA dB), (dA, zaN (cT 0) 8 (va_up dn k n)), (dB, zaZ (cT 2) 8 dt)]) := hD
  refine lv_aload_n hx hb d_Dk_store_7 rfl (lv_at hl 0 rfl) ?_
  refine va_get (D := (dC, dI)) (ci := 3) (v := .ref dB) (C := R_Dk) (T := F_Dk) (N := 2) hx hb hts i_Dk hown hK hP 0 rfl rfl 1 (by decide) (hts _ wd_53) (fun _ h9 => h9) rfl d_Dk_store_8 ?_
  refine lv_iload_n hx hb d_Dk_store_11 rfl (lv_at hl 1 rfl) ?_
  refine lv_iconst (v := (nI 0)) hx hb d_Dk_store_12 (by decide) ?_
  refine W.eq (g2 := F0 m 13 ls [.int (zb false), .int (nI k), .ref dB]) rfl ?_
  refine zn_zastB hx hb hK hP hD hS 2 2 rfl rfl (i := k) (x := false) (by omega) (by omega) d_Dk_store_13 (fun H locs hP hD hS => ?_)
  have hP : va_P (dC, dI) vwCl ([(h0, zoDk dA dB), (dA, zaN (cT 0) 8 (va_up dn k n)), (dB, zaZ (cT 2) 8 (va_up dt k false))]) H := hP
  have hD : va_D A ([(h0, zoDk dA dB), (dA, zaN (cT 0) 8 (va_up dn k n)), (dB, zaZ (cT 2) 8 (va_up dt k false))]) := hD
  have hP9 := hP.sub (ws' := [(h0, zoDk dA dB), (dA, zaN (cT 0) 8 (va_up dn k n)), (dB, zaZ (cT 2) 8 (va_up dt k false))]) [0, 1, 2] rfl
  have hD9 := hD.sub (ws' := [(h0, zoDk dA dB), (dA, zaN (cT 0) 8 (va_up dn k n)), (dB, zaZ (cT 2) 8 (va_up dt k false))]) [0, 1, 2] (by decide) rfl
  exact W.vret hx hb hr (fun t ht hW => ⟨⟨(), trivial, rfl, by rw [ht]; exact hP9, hD9⟩, hS.F ht⟩) hS.2.2 d_Dk_store_14
set_option maxHeartbeats 4000000 in
set_option maxRecDepth 100000 in
theorem c_Dk_tear (l : Launch) (dC : Nat → ClassId) (dI : Nat → Nat → Nat) (cT : Nat → ClassId) (sz : Nat) (h0 : Nat) (dA : Nat) (dB : Nat) (k : Nat) (dt : Nat → Bool) (hk : k < 8) : Met l y_Dk_tear w_Dk_tear ({ frames := 0, cells := 0, slots := 0, locals := 0 } : Room) (zPre (dC, dI) vwCl (zT cT) [.ref h0, .int (nI k)] ([(h0, zoDk dA dB), (dB, zaZ (cT 2) 8 dt)]) sz) (zQ (dC, dI) vwCl (S := Unit) (fun zu => True) (fun zu => none) (fun zu => [(h0, zoDk dA dB), (dB, zaZ (cT 2) 8 (va_up dt k true))]) (va_A ([(h0, zoDk dA dB), (dB, zaZ (cT 2) 8 dt)]) sz)) 0 0 (va_A ([(h0, zoDk dA dB), (dB, zaZ (cT 2) 8 dt)]) sz) := by
  refine Met.ofW (cc := b_Dk_tear) (maxL := 2) (ret := none) (by decide) rfl ?_
  intro p e s m args below meth c s₁ B hml hv
  obtain ⟨rfl, hsz, hP, hK, hD0, hE⟩ := hv
  have hx := B.exec
  have hb := B.bytes
  have hr := B.returns
  have hts := fun w h => atoms_spec (ws := w_Dk_tear) B.pre w (List.mem_cons_of_mem _ h)
  have hown : s.vm.findClass R_Dk = some m.cls := findClass_of_methodNamed B.named
  have hlocks := B.notSynchronized
  subst hsz
  have hD := hD0.self (sz := s.heap.size)
  generalize hAe : va_A ([(h0, zoDk dA dB), (dB, zaZ (cT 2) 8 dt)]) s.heap.size = A at hD ⊢
  have hA : ∀ q : Nat, s.heap.size ≤ q → A q := fun q h => by rw [← hAe]; exact Or.inr h
  have hS : va_S A s.heap s.heap [] := va_S.rf
  have hl := lv_entry ([.ref h0, .int (nI k)]) (n := 2) (Nat.le_of_ble_eq_true rfl)
  rw [lg_entry_eq]
  generalize (lg_sl ([.ref h0, .int (nI k)]) ++ List.replicate (2 - (lg_sl ([.ref h0, .int (nI k)])).length) Slot.unset).toArray = ls at hl ⊢
  have hl : lv_has ls 2 [(0, .ref h0), (1, .int (nI k))] := hl
  refine lv_aload_n hx hb d_Dk_tear_0 rfl (lv_at hl 0 rfl) ?_
  refine va_get (D := (dC, dI)) (ci := 3) (v := .ref dB) (C := R_Dk) (T := F_Dk) (N := 2) hx hb hts i_Dk hown hK hP 0 rfl rfl 1 (by decide) (hts _ wd_53) (fun _ h9 => h9) rfl d_Dk_tear_1 ?_
  refine lv_iload_n hx hb d_Dk_tear_4 rfl (lv_at hl 1 rfl) ?_
  refine lv_iconst (v := (nI 1)) hx hb d_Dk_tear_5 (by decide) ?_
  refine W.eq (g2 := F0 m 6 ls [.int (zb true), .int (nI k), .ref dB]) rfl ?_
  refine zn_zastB hx hb hK hP hD hS 1 2 rfl rfl (i := k) (x := true) (by omega) (by omega) d_Dk_tear_6 (fun H locs hP hD hS => ?_)
  have hP : va_P (dC, dI) vwCl ([(h0, zoDk dA dB), (dB, zaZ (cT 2) 8 (va_up dt k true))]) H := hP
  have hD : va_D A ([(h0, zoDk dA dB), (dB, zaZ (cT 2) 8 (va_up dt k true))]) := hD
  have hP9 := hP.sub (ws' := [(h0, zoDk dA dB), (dB, zaZ (cT 2) 8 (va_up dt k true))]) [0, 1] rfl
  have hD9 := hD.sub (ws' := [(h0, zoDk dA dB), (dB, zaZ (cT 2) 8 (va_up dt k true))]) [0, 1] (by decide) rfl
  exact W.vret hx hb hr (fun t ht hW => ⟨⟨(), trivial, rfl, by rw [ht]; exact hP9, hD9⟩, hS.F ht⟩) hS.2.2 d_Dk_tear_7
set_option maxHeartbeats 4000000 in
set_option maxRecDepth 100000 in
theorem c_Dk_numberOf (l : Launch) (dC : Nat → ClassId) (dI : Nat → Nat → Nat) (cT : Nat → ClassId) (h0 : Nat) (dA : Nat) (dB : Nat) (k : Nat) (dn : Nat → Nat) (hk : k < 8) : Met l y_Dk_numberOf w_Dk_numberOf ({ frames := 0, cells := 0, slots := 0, locals := 0 } : Room) (zPreR (dC, dI) vwCl (zT cT) [.ref h0, .int (nI k)] ([(h0, zoDk dA dB), (dA, zaN (cT 0) 8 dn)])) (k2_QcV (.int (nI (dn k)))) 0 0 (fun _ => False) := by
  refine Met.ofW (cc := b_Dk_numberOf) (maxL := 2) (ret := (some .int)) (by decide) rfl ?_
  intro p e s m args below meth c s₁ B hml hv
  obtain ⟨rfl, hP, hK, hE⟩ := hv
  have hx := B.exec
  have hb := B.bytes
  have hr := B.returns
  have hts := fun w h => atoms_spec (ws := w_Dk_numberOf) B.pre w (List.mem_cons_of_mem _ h)
  have hown : s.vm.findClass R_Dk = some m.cls := findClass_of_methodNamed B.named
  have hlocks := B.notSynchronized
  have hl := lv_entry ([.ref h0, .int (nI k)]) (n := 2) (Nat.le_of_ble_eq_true rfl)
  rw [lg_entry_eq]
  generalize (lg_sl ([.ref h0, .int (nI k)]) ++ List.replicate (2 - (lg_sl ([.ref h0, .int (nI k)])).length) Slot.unset).toArray = ls at hl ⊢
  have hl : lv_has ls 2 [(0, .ref h0), (1, .int (nI k))] := hl
  refine lv_aload_n hx hb d_Dk_numberOf_0 rfl (lv_at hl 0 rfl) ?_
  refine va_get (D := (dC, dI)) (ci := 3) (v := .ref dA) (C := R_Dk) (T := F_Dk) (N := 2) hx hb hts i_Dk hown hK hP 0 rfl rfl 0 (by decide) (hts _ wd_52) (fun _ h9 => h9) rfl d_Dk_numberOf_1 ?_
  refine lv_iload_n hx hb d_Dk_numberOf_4 rfl (lv_at hl 1 rfl) ?_
  refine zn_iald hx hb hK hP 1 0 rfl rfl (i := k) (by omega) (by omega) d_Dk_numberOf_5 ?_
  exact W.iret hx hb hr (fun t ht hW => ⟨rfl, ht⟩) (fun q h => by cases h) d_Dk_numberOf_6
set_option maxHeartbeats 4000000 in
set_option maxRecDepth 100000 in
theorem c_Dk_isReadable (l : Launch) (dC : Nat → ClassId) (dI : Nat → Nat → Nat) (cT : Nat → ClassId) (h0 : Nat) (dA : Nat) (dB : Nat) (k : Nat) (dt : Nat → Bool) (hk : k < 8) : Met l y_Dk_isReadable w_Dk_isReadable ({ frames := 0, cells := 0, slots := 0, locals := 0 } : Room) (zPreR (dC, dI) vwCl (zT cT) [.ref h0, .int (nI k)] ([(h0, zoDk dA dB), (dB, zaZ (cT 2) 8 dt)])) (k2_QcV (.int (zb (!(dt k))))) 0 0 (fun _ => False) := by
  refine Met.ofW (cc := b_Dk_isReadable) (maxL := 2) (ret := (some .boolean)) (by decide) rfl ?_
  intro p e s m args below meth c s₁ B hml hv
  obtain ⟨rfl, hP, hK, hE⟩ := hv
  have hx := B.exec
  have hb := B.bytes
  have hr := B.returns
  have hts := fun w h => atoms_spec (ws := w_Dk_isReadable) B.pre w (List.mem_cons_of_mem _ h)
  have hown : s.vm.findClass R_Dk = some m.cls := findClass_of_methodNamed B.named
  have hlocks := B.notSynchronized
  have hl := lv_entry ([.ref h0, .int (nI k)]) (n := 2) (Nat.le_of_ble_eq_true rfl)
  rw [lg_entry_eq]
  generalize (lg_sl ([.ref h0, .int (nI k)]) ++ List.replicate (2 - (lg_sl ([.ref h0, .int (nI k)])).length) Slot.unset).toArray = ls at hl ⊢
  have hl : lv_has ls 2 [(0, .ref h0), (1, .int (nI k))] := hl
  refine lv_aload_n hx hb d_Dk_isReadable_0 rfl (lv_at hl 0 rfl) ?_
  refine va_get (D := (dC, dI)) (ci := 3) (v := .ref dB) (C := R_Dk) (T := F_Dk) (N := 2) hx hb hts i_Dk hown hK hP 0 rfl rfl 1 (by decide) (hts _ wd_53) (fun _ h9 => h9) rfl d_Dk_isReadable_1 ?_
  refine lv_iload_n hx hb d_Dk_isReadable_4 rfl (lv_at hl 1 rfl) ?_
  refine zn_zald hx hb hK hP 1 2 rfl rfl (i := k) (by omega) (by omega) d_Dk_isReadable_5 ?_
  refine zb_if_ne (tgt := 13) hx hb d_Dk_isReadable_6 (by decide) (fun c_6 => ?_) (fun c_6 => ?_)
  · refine lv_iconst (v := (nI 0)) hx hb d_Dk_isReadable_13 (by decide) ?_
    refine W.eq (g2 := F0 m 14 ls [.int (zb false)]) rfl ?_
    exact W.zret hx hb hr (zb_narrow _) (fun t ht hW => ⟨by rw [c_6]; rfl, ht⟩) (fun q h => by cases h) d_Dk_isReadable_14
  · refine lv_iconst (v := (nI 1)) hx hb d_Dk_isReadable_9 (by decide) ?_
    refine lv_goto (tgt := 14) hx hb d_Dk_isReadable_10 (by decide) ?_
    refine W.eq (g2 := F0 m 14 ls [.int (zb true)]) rfl ?_
    exact W.zret hx hb hr (zb_narrow _) (fun t ht hW => ⟨by rw [c_6]; rfl, ht⟩) (fun q h => by cases h) d_Dk_isReadable_14
set_option maxHeartbeats 4000000 in
set_option maxRecDepth 100000 in
theorem c_Dk_bestNumberOf (l : Launch) (dC : Nat → ClassId) (dI : Nat → Nat → Nat) (cT : Nat → ClassId) (h0 : Nat) (dA : Nat) (dB : Nat) (k : Nat) (dn : Nat → Nat) (dt : Nat → Bool) (hk : k < 8) : Met l y_Dk_bestNumberOf w_Dk_bestNumberOf ({ frames := 0, cells := 0, slots := 0, locals := 0 } : Room) (zPreR (dC, dI) vwCl (zT cT) [.ref h0, .int (nI k)] ([(h0, zoDk dA dB), (dA, zaN (cT 0) 8 dn), (dB, zaZ (cT 2) 8 dt)])) (k2_QcV (.int (nI (if dt k = true then 0 else dn k)))) 0 0 (fun _ => False) := by
  refine Met.ofW (cc := b_Dk_bestNumberOf) (maxL := 2) (ret := (some .int)) (by decide) rfl ?_
  intro p e s m args below meth c s₁ B hml hv
  obtain ⟨rfl, hP, hK, hE⟩ := hv
  have hx := B.exec
  have hb := B.bytes
  have hr := B.returns
  have hts := fun w h => atoms_spec (ws := w_Dk_bestNumberOf) B.pre w (List.mem_cons_of_mem _ h)
  have hown : s.vm.findClass R_Dk = some m.cls := findClass_of_methodNamed B.named
  have hlocks := B.notSynchronized
  have hl := lv_entry ([.ref h0, .int (nI k)]) (n := 2) (Nat.le_of_ble_eq_true rfl)
  rw [lg_entry_eq]
  generalize (lg_sl ([.ref h0, .int (nI k)]) ++ List.replicate (2 - (lg_sl ([.ref h0, .int (nI k)])).length) Slot.unset).toArray = ls at hl ⊢
  have hl : lv_has ls 2 [(0, .ref h0), (1, .int (nI k))] := hl
  refine lv_aload_n hx hb d_Dk_bestNumberOf_0 rfl (lv_at hl 0 rfl) ?_
  refine va_get (D := (dC, dI)) (ci := 3) (v := .ref dB) (C := R_Dk) (T := F_Dk) (N := 2) hx hb hts i_Dk hown hK hP 0 rfl rfl 1 (by decide) (hts _ wd_53) (fun _ h9 => h9) rfl d_Dk_bestNumberOf_1 ?_
  refine lv_iload_n hx hb d_Dk_bestNumberOf_4 rfl (lv_at hl 1 rfl) ?_
  refine zn_zald hx hb hK hP 2 2 rfl rfl (i := k) (by omega) (by omega) d_Dk_bestNumberOf_5 ?_
  refine zb_if_eq (tgt := 13) hx hb d_Dk_bestNumberOf_6 (by decide) (fun c_6 => ?_) (fun c_6 => ?_)
  · refine lv_aload_n hx hb d_Dk_bestNumberOf_13 rfl (lv_at hl 0 rfl) ?_
    refine va_get (D := (dC, dI)) (ci := 3) (v := .ref dA) (C := R_Dk) (T := F_Dk) (N := 2) hx hb hts i_Dk hown hK hP 0 rfl rfl 0 (by decide) (hts _ wd_52) (fun _ h9 => h9) rfl d_Dk_bestNumberOf_14 ?_
    refine lv_iload_n hx hb d_Dk_bestNumberOf_17 rfl (lv_at hl 1 rfl) ?_
    refine zn_iald hx hb hK hP 1 0 rfl rfl (i := k) (by omega) (by omega) d_Dk_bestNumberOf_18 ?_
    exact W.iret hx hb hr (fun t ht hW => ⟨by rw [if_neg (by rw [c_6]; decide)], ht⟩) (fun q h => by cases h) d_Dk_bestNumberOf_19
  · refine lv_iconst (v := (nI 0)) hx hb d_Dk_bestNumberOf_9 (by decide) ?_
    refine lv_goto (tgt := 19) hx hb d_Dk_bestNumberOf_10 (by decide) ?_
    exact W.iret hx hb hr (fun t ht hW => ⟨by rw [if_pos c_6], ht⟩) (fun q h => by cases h) d_Dk_bestNumberOf_19
set_option maxHeartbeats 4000000 in
set_option maxRecDepth 100000 in
theorem c_Tx_init (l : Launch) (dC : Nat → ClassId) (dI : Nat → Nat → Nat) (cT : Nat → ClassId) (sz : Nat) (h0 : Nat) : Met l y_Tx_init w_Tx_init ({ frames := 1, cells := 2, slots := 8, locals := 20 } : Room) (zPre (dC, dI) vwCl (zT cT) [.ref h0] ([(h0, .inr (2, [.null, .null, .int (nI 0), .int (zb false)]))]) sz) (zQ (dC, dI) vwCl (S := Nat × Nat) (fun zu => True) (fun zu => none) (fun zu => [(h0, zoTx zu.1 zu.2 0 false), (zu.1, zaN (cT 0) 4 (fun _ => 0)), (zu.2, zaJ (cT 1) 4 (fun _ => 0))]) (va_A ([(h0, .inr (2, [.null, .null, .int (nI 0), .int (zb false)]))]) sz)) 2 8 (va_A ([(h0, .inr (2, [.null, .null, .int (nI 0), .int (zb false)]))]) sz) := by
  refine Met.ofW (cc := b_Tx_init) (maxL := 1) (ret := none) (by decide) rfl ?_
  intro p e s m args below meth c s₁ B hml hv
  obtain ⟨rfl, hsz, hP, hK, hD0, hE⟩ := hv
  have hx := B.exec
  have hb := B.bytes
  have hr := B.returns
  have hts := fun w h => atoms_spec (ws := w_Tx_init) B.pre w (List.mem_cons_of_mem _ h)
  have hown : s.vm.findClass R_Tx = some m.cls := findClass_of_methodNamed B.named
  have hlocks := B.notSynchronized
  have hin : meth.name = "<init>" := (name_of_methodNamed B.named B.method).1
  subst hsz
  have hD := hD0.self (sz := s.heap.size)
  generalize hAe : va_A ([(h0, .inr (2, [.null, .null, .int (nI 0), .int (zb false)]))]) s.heap.size = A at hD ⊢
  have hA : ∀ q : Nat, s.heap.size ≤ q → A q := fun q h => by rw [← hAe]; exact Or.inr h
  have hS : va_S A s.heap s.heap [] := va_S.rf
  have hl := lv_entry ([.ref h0]) (n := 1) (Nat.le_of_ble_eq_true rfl)
  rw [lg_entry_eq]
  generalize (lg_sl ([.ref h0]) ++ List.replicate (1 - (lg_sl ([.ref h0])).length) Slot.unset).toArray = ls at hl ⊢
  have hl : lv_has ls 1 [(0, .ref h0)] := hl
  refine lv_aload_n hx hb d_Tx_init_0 rfl (lv_at hl 0 rfl) ?_
  refine W.objInit hx hb hown (hts _ wd_30) (hts _ wd_23) (hts _ wd_24) rfl (by rw [hml]; exact hl.1) rfl d_Tx_init_1 (Nat.le_of_ble_eq_true rfl) (Nat.le_of_ble_eq_true rfl) ?_
  refine W.eq (g2 := F0 m 4 ls []) rfl ?_
  refine lv_aload_n hx hb d_Tx_init_4 rfl (lv_at hl 0 rfl) ?_
  refine lv_iconst (v := (nI 4)) hx hb d_Tx_init_5 (by decide) ?_
  refine zn_newI (N := 4) hx hb (hts _ wd_44) hK hP hD hS hA 0 rfl (by omega) (Nat.le_of_ble_eq_true rfl) (Nat.le_of_ble_eq_true rfl) d_Tx_init_6 (fun q_1 H hP hD hS => ?_)
  refine W.widen (k := 1) (n := 4) (by first | omega | exact Nat.le_of_ble_eq_true rfl) (by first | omega | exact Nat.le_of_ble_eq_true rfl) ?_
  have hP : va_P (dC, dI) vwCl ([(h0, .inr (2, [.null, .null, .int (nI 0), .int (zb false)])), (q_1, zaN (cT 0) 4 (fun _ => 0))]) H := hP
  have hD : va_D A ([(h0, .inr (2, [.null, .null, .int (nI 0), .int (zb false)])), (q_1, zaN (cT 0) 4 (fun _ => 0))]) := hD
  refine va_putF (D := (dC, dI)) (ci := 2) (v := .ref q_1) (ty := (.array .int)) (C := R_Tx) (T := F_Tx) (N := 4) hx hb hts i_Tx t_Tx t_Tx_ok n_Tx hown hK hP hD hS 0 rfl rfl 0 (by decide) (hts _ wd_31) (fun _ h9 => h9) rfl hin rfl (by decide +kernel) rfl rfl (Nat.le_of_ble_eq_true rfl) d_Tx_init_8 (fun H locs hP hD hS => ?_)
  have hP : va_P (dC, dI) vwCl ([(h0, .inr (2, [.ref q_1, .null, .int (nI 0), .int (zb false)])), (q_1, zaN (cT 0) 4 (fun _ => 0))]) H := hP
  have hD : va_D A ([(h0, .inr (2, [.ref q_1, .null, .int (nI 0), .int (zb false)])), (q_1, zaN (cT 0) 4 (fun _ => 0))]) := hD
  refine lv_aload_n hx hb d_Tx_init_11 rfl (lv_at hl 0 rfl) ?_
  refine lv_iconst (v := (nI 4)) hx hb d_Tx_init_12 (by decide) ?_
  refine zn_newJ (N := 4) hx hb (hts _ wd_45) hK hP hD hS hA 1 rfl (by omega) (Nat.le_of_ble_eq_true rfl) (Nat.le_of_ble_eq_true rfl) d_Tx_init_13 (fun q_2 H hP hD hS => ?_)
  refine W.widen (k := 2) (n := 8) (by first | omega | exact Nat.le_of_ble_eq_true rfl) (by first | omega | exact Nat.le_of_ble_eq_true rfl) ?_
  have hP : va_P (dC, dI) vwCl ([(h0, .inr (2, [.ref q_1, .null, .int (nI 0), .int (zb false)])), (q_1, zaN (cT 0) 4 (fun _ => 0)), (q_2, zaJ (cT 1) 4 (fun _ => 0))]) H := hP
  have hD : va_D A ([(h0, .inr (2, [.ref q_1, .null, .int (nI 0), .int (zb false)])), (q_1, zaN (cT 0) 4 (fun _ => 0)), (q_2, zaJ (cT 1) 4 (fun _ => 0))]) := hD
  refine va_putF (D := (dC, dI)) (ci := 2) (v := .ref q_2) (ty := (.array .long)) (C := R_Tx) (T := F_Tx) (N := 4) hx hb hts i_Tx t_Tx t_Tx_ok n_Tx hown hK hP hD hS 0 rfl rfl 1 (by decide) (hts _ wd_32) (fun _ h9 => h9) rfl hin rfl (by decide +kernel) rfl rfl (Nat.le_of_ble_eq_true rfl) d_Tx_init_15 (fun H locs hP hD hS => ?_)
  have hP : va_P (dC, dI) vwCl ([(h0, zoTx q_1 q_2 0 false), (q_1, zaN (cT 0) 4 (fun _ => 0)), (q_2, zaJ (cT 1) 4 (fun _ => 0))]) H := hP
  have hD : va_D A ([(h0, zoTx q_1 q_2 0 false), (q_1, zaN (cT 0) 4 (fun _ => 0)), (q_2, zaJ (cT 1) 4 (fun _ => 0))]) := hD
  refine lv_aload_n hx hb d_Tx_init_18 rfl (lv_at hl 0 rfl) ?_
  refine lv_iconst (v := (nI 0)) hx hb d_Tx_init_19 (by decide) ?_
  refine va_put (D := (dC, dI)) (ci := 2) (v := .int (nI 0)) (ty := .int) (C := R_Tx) (T := F_Tx) (N := 4) hx hb hts i_Tx t_Tx t_Tx_ok n_Tx hown hK hP hD hS 0 rfl rfl 2 (by decide) (hts _ wd_33) (fun _ h9 => h9) rfl (by decide +kernel) rfl rfl (Nat.le_of_ble_eq_true rfl) d_Tx_init_20 (fun H locs hP hD hS => ?_)
  have hP : va_P (dC, dI) vwCl ([(h0, zoTx q_1 q_2 0 false), (q_1, zaN (cT 0) 4 (fun _ => 0)), (q_2, zaJ (cT 1) 4 (fun _ => 0))]) H := hP
  have hD : va_D A ([(h0, zoTx q_1 q_2 0 false), (q_1, zaN (cT 0) 4 (fun _ => 0)), (q_2, zaJ (cT 1) 4 (fun _ => 0))]) := hD
  refine lv_aload_n hx hb d_Tx_init_23 rfl (lv_at hl 0 rfl) ?_
  refine lv_iconst (v := (nI 0)) hx hb d_Tx_init_24 (by decide) ?_
  refine W.eq (g2 := F0 m 25 ls [.int (zb false), .ref h0]) rfl ?_
  refine va_put (D := (dC, dI)) (ci := 2) (v := .int (zb false)) (ty := .boolean) (C := R_Tx) (T := F_Tx) (N := 4) hx hb hts i_Tx t_Tx t_Tx_ok n_Tx hown hK hP hD hS 0 rfl rfl 3 (by decide) (hts _ wd_34) (fun _ h9 => h9) rfl (by decide +kernel) (zb_narrow _) (zb_fits _) (Nat.le_of_ble_eq_true rfl) d_Tx_init_25 (fun H locs hP hD hS => ?_)
  have hP : va_P (dC, dI) vwCl ([(h0, zoTx q_1 q_2 0 false), (q_1, zaN (cT 0) 4 (fun _ => 0)), (q_2, zaJ (cT 1) 4 (fun _ => 0))]) H := hP
  have hD : va_D A ([(h0, zoTx q_1 q_2 0 false), (q_1, zaN (cT 0) 4 (fun _ => 0)), (q_2, zaJ (cT 1) 4 (fun _ => 0))]) := hD
  have hP9 := hP.sub (ws' := [(h0, zoTx q_1 q_2 0 false), (q_1, zaN (cT 0) 4 (fun _ => 0)), (q_2, zaJ (cT 1) 4 (fun _ => 0))]) [0, 1, 2] rfl
  have hD9 := hD.sub (ws' := [(h0, zoTx q_1 q_2 0 false), (q_1, zaN (cT 0) 4 (fun _ => 0)), (q_2, zaJ (cT 1) 4 (fun _ => 0))]) [0, 1, 2] (by decide) rfl
  exact W.vret hx hb hr (fun t ht hW => ⟨⟨(q_1, q_2), trivial, rfl, by rw [ht]; exact hP9, hD9⟩, hS.F ht⟩) hS.2.2 d_Tx_init_28
set_option maxHeartbeats 4000000 in
set_option maxRecDepth 100000 in
theorem c_Dk_init (l : Launch) (dC : Nat → ClassId) (dI : Nat → Nat → Nat) (cT : Nat → ClassId) (sz : Nat) (h0 : Nat) : Met l y_Dk_init w_Dk_init ({ frames := 1, cells := 2, slots := 16, locals := 20 } : Room) (zPre (dC, dI) vwCl (zT cT) [.ref h0] ([(h0, .inr (3, [.null, .null]))]) sz) (zQ (dC, dI) vwCl (S := Nat × Nat) (fun zu => True) (fun zu => none) (fun zu => [(h0, zoDk zu.1 zu.2), (zu.1, zaN (cT 0) 8 (fun _ => 0)), (zu.2, zaZ (cT 2) 8 (fun _ => false))]) (va_A ([(h0, .inr (3, [.null, .null]))]) sz)) 2 16 (va_A ([(h0, .inr (3, [.null, .null]))]) sz) := by
  refine Met.ofW (cc := b_Dk_init) (maxL := 1) (ret := none) (by decide) rfl ?_
  intro p e s m args below meth c s₁ B hml hv
  obtain ⟨rfl, hsz, hP, hK, hD0, hE⟩ := hv
  have hx := B.exec
  have hb := B.bytes
  have hr := B.returns
  have hts := fun w h => atoms_spec (ws := w_Dk_init) B.pre w (List.mem_cons_of_mem _ h)
  have hown : s.vm.findClass R_Dk = some m.cls := findClass_of_methodNamed B.named
  have hlocks := B.notSynchronized
  have hin : meth.name = "<init>" := (name_of_methodNamed B.named B.method).1
  subst hsz
  have hD := hD0.self (sz := s.heap.size)
  generalize hAe : va_A ([(h0, .inr (3, [.null, .null]))]) s.heap.size = A at hD ⊢
  have hA : ∀ q : Nat, s.heap.size ≤ q → A q := fun q h => by rw [← hAe]; exact Or.inr h
  have hS : va_S A s.heap s.heap [] := va_S.rf
  have hl := lv_entry ([.ref h0]) (n := 1) (Nat.le_of_ble_eq_true rfl)
  rw [lg_entry_eq]
  generalize (lg_sl ([.ref h0]) ++ List.replicate (1 - (lg_sl ([.ref h0])).length) Slot.unset).toArray = ls at hl ⊢
  have hl : lv_has ls 1 [(0, .ref h0)] := hl
  refine lv_aload_n hx hb d_Dk_init_0 rfl (lv_at hl 0 rfl) ?_
  refine W.objInit hx hb hown (hts _ wd_51) (hts _ wd_23) (hts _ wd_24) rfl (by rw [hml]; exact hl.1) rfl d_Dk_init_1 (Nat.le_of_ble_eq_true rfl) (Nat.le_of_ble_eq_true rfl) ?_
  refine W.eq (g2 := F0 m 4 ls []) rfl ?_
  refine lv_aload_n hx hb d_Dk_init_4 rfl (lv_at hl 0 rfl) ?_
  refine lv_bipush (v := (nI 8)) hx hb d_Dk_init_5 (by decide) ?_
  refine zn_newI (N := 8) hx hb (hts _ wd_44) hK hP hD hS hA 0 rfl (by omega) (Nat.le_of_ble_eq_true rfl) (Nat.le_of_ble_eq_true rfl) d_Dk_init_7 (fun q_1 H hP hD hS => ?_)
  refine W.widen (k := 1) (n := 8) (by first | omega | exact Nat.le_of_ble_eq_true rfl) (by first | omega | exact Nat.le_of_ble_eq_true rfl) ?_
  have hP : va_P (dC, dI) vwCl ([(h0, .inr (3, [.null, .null])), (q_1, zaN (cT 0) 8 (fun _ => 0))]) H := hP
  have hD : va_D A ([(h0, .inr (3, [.null, .null])), (q_1, zaN (cT 0) 8 (fun _ => 0))]) := hD
  refine va_putF (D := (dC, dI)) (ci := 3) (v := .ref q_1) (ty := (.array .int)) (C := R_Dk) (T := F_Dk) (N := 2) hx hb hts i_Dk t_Dk t_Dk_ok n_Dk hown hK hP hD hS 0 rfl rfl 0 (by decide) (hts _ wd_52) (fun _ h9 => h9) rfl hin rfl (by decide +kernel) rfl rfl (Nat.le_of_ble_eq_true rfl) d_Dk_init_9 (fun H locs hP hD hS => ?_)
  have hP : va_P (dC, dI) vwCl ([(h0, .inr (3, [.ref q_1, .null])), (q_1, zaN (cT 0) 8 (fun _ => 0))]) H := hP
  have hD : va_D A ([(h0, .inr (3, [.ref q_1, .null])), (q_1, zaN (cT 0) 8 (fun _ => 0))]) := hD
  refine lv_aload_n hx hb d_Dk_init_12 rfl (lv_at hl 0 rfl) ?_
  refine lv_bipush (v := (nI 8)) hx hb d_Dk_init_13 (by decide) ?_
  refine zn_newZ (N := 8) hx hb (hts _ wd_59) hK hP hD hS hA 2 rfl (by omega) (Nat.le_of_ble_eq_true rfl) (Nat.le_of_ble_eq_true rfl) d_Dk_init_15 (fun q_2 H hP hD hS => ?_)
  refine W.widen (k := 2) (n := 16) (by first | omega | exact Nat.le_of_ble_eq_true rfl) (by first | omega | exact Nat.le_of_ble_eq_true rfl) ?_
  have hP : va_P (dC, dI) vwCl ([(h0, .inr (3, [.ref q_1, .null])), (q_1, zaN (cT 0) 8 (fun _ => 0)), (q_2, zaZ (cT 2) 8 (fun _ => false))]) H := hP
  have hD : va_D A ([(h0, .inr (3, [.ref q_1, .null])), (q_1, zaN (cT 0) 8 (fun _ => 0)), (q_2, zaZ (cT 2) 8 (fun _ => false))]) := hD
  refine va_putF (D := (dC, dI)) (ci := 3) (v := .ref q_2) (ty := (.array .boolean)) (C := R_Dk) (T := F_Dk) (N := 2) hx hb hts i_Dk t_Dk t_Dk_ok n_Dk hown hK hP hD hS 0 rfl rfl 1 (by decide) (hts _ wd_53) (fun _ h9 => h9) rfl hin rfl (by decide +kernel) rfl rfl (Nat.le_of_ble_eq_true rfl) d_Dk_init_17 (fun H locs hP hD hS => ?_)
  have hP : va_P (dC, dI) vwCl ([(h0, zoDk q_1 q_2), (q_1, zaN (cT 0) 8 (fun _ => 0)), (q_2, zaZ (cT 2) 8 (fun _ => false))]) H := hP
  have hD : va_D A ([(h0, zoDk q_1 q_2), (q_1, zaN (cT 0) 8 (fun _ => 0)), (q_2, zaZ (cT 2) 8 (fun _ => false))]) := hD
  have hP9 := hP.sub (ws' := [(h0, zoDk q_1 q_2), (q_1, zaN (cT 0) 8 (fun _ => 0)), (q_2, zaZ (cT 2) 8 (fun _ => false))]) [0, 1, 2] rfl
  have hD9 := hD.sub (ws' := [(h0, zoDk q_1 q_2), (q_1, zaN (cT 0) 8 (fun _ => 0)), (q_2, zaZ (cT 2) 8 (fun _ => false))]) [0, 1, 2] (by decide) rfl
  exact W.vret hx hb hr (fun t ht hW => ⟨⟨(q_1, q_2), trivial, rfl, by rw [ht]; exact hP9, hD9⟩, hS.F ht⟩) hS.2.2 d_Dk_init_20
set_option maxHeartbeats 4000000 in
set_option maxRecDepth 100000 in
theorem c_Lg_init (l : Launch) (dC : Nat → ClassId) (dI : Nat → Nat → Nat) (cT : Nat → ClassId) (sz : Nat) (h0 : Nat) (lS : Nat) : Met l y_Lg_init w_Lg_init ({ frames := 1, cells := 4, slots := 1642, locals := 24 } : Room) (zPre (dC, dI) vwCl (zT cT) [.ref h0, .int (nI lS)] ([(h0, .inr (1, [.int (nI 0), .null, .null, .null, .null, .int (nI 0), .int (nI 0), .int (nI 0), .int (nI 0)]))]) sz) (zQ (dC, dI) vwCl (S := Nat × Nat × Nat × Nat) (fun zu => True) (fun zu => none) (fun zu => [(h0, zoLg lS zu.1 zu.2.1 zu.2.2.1 zu.2.2.2 0 0 0 0), (zu.1, zaI (cT 0) 801 (fun _ => nI 0)), (zu.2.1, zaJ (cT 1) 801 (fun _ => 0)), (zu.2.2.1, zaJ (cT 1) 32 (zfill (fun _ => 0) 1000000000000 32)), (zu.2.2.2, zaN (cT 0) 8 (fun _ => 0))]) (va_A ([(h0, .inr (1, [.int (nI 0), .null, .null, .null, .null, .int (nI 0), .int (nI 0), .int (nI 0), .int (nI 0)]))]) sz)) 4 1642 (va_A ([(h0, .inr (1, [.int (nI 0), .null, .null, .null, .null, .int (nI 0), .int (nI 0), .int (nI 0), .int (nI 0)]))]) sz) := by
  refine Met.ofW (cc := b_Lg_init) (maxL := 2) (ret := none) (by decide) rfl ?_
  intro p e s m args below meth c s₁ B hml hv
  obtain ⟨rfl, hsz, hP, hK, hD0, hE⟩ := hv
  have hx := B.exec
  have hb := B.bytes
  have hr := B.returns
  have hts := fun w h => atoms_spec (ws := w_Lg_init) B.pre w (List.mem_cons_of_mem _ h)
  have hown : s.vm.findClass R_Lg = some m.cls := findClass_of_methodNamed B.named
  have hlocks := B.notSynchronized
  have hin : meth.name = "<init>" := (name_of_methodNamed B.named B.method).1
  subst hsz
  have hD := hD0.self (sz := s.heap.size)
  generalize hAe : va_A ([(h0, .inr (1, [.int (nI 0), .null, .null, .null, .null, .int (nI 0), .int (nI 0), .int (nI 0), .int (nI 0)]))]) s.heap.size = A at hD ⊢
  have hA : ∀ q : Nat, s.heap.size ≤ q → A q := fun q h => by rw [← hAe]; exact Or.inr h
  have hS : va_S A s.heap s.heap [] := va_S.rf
  have hl := lv_entry ([.ref h0, .int (nI lS)]) (n := 2) (Nat.le_of_ble_eq_true rfl)
  rw [lg_entry_eq]
  generalize (lg_sl ([.ref h0, .int (nI lS)]) ++ List.replicate (2 - (lg_sl ([.ref h0, .int (nI lS)])).length) Slot.unset).toArray = ls at hl ⊢
  have hl : lv_has ls 2 [(0, .ref h0), (1, .int (nI lS))] := hl
  refine lv_aload_n hx hb d_Lg_init_0 rfl (lv_at hl 0 rfl) ?_
  refine W.objInit hx hb hown (hts _ wd_71) (hts _ wd_23) (hts _ wd_24) rfl (by rw [hml]; exact hl.1) rfl d_Lg_init_1 (Nat.le_of_ble_eq_true rfl) (Nat.le_of_ble_eq_true rfl) ?_
  refine W.eq (g2 := F0 m 4 ls []) rfl ?_
  refine lv_aload_n hx hb d_Lg_init_4 rfl (lv_at hl 0 rfl) ?_
  refine lv_sipush (v := (nI 801)) hx hb d_Lg_init_5 (by decide) ?_
  refine zn_newI (N := 801) hx hb (hts _ wd_44) hK hP hD hS hA 0 rfl (by omega) (Nat.le_of_ble_eq_true rfl) (Nat.le_of_ble_eq_true rfl) d_Lg_init_8 (fun q_1 H hP hD hS => ?_)
  refine W.widen (k := 1) (n := 801) (by first | omega | exact Nat.le_of_ble_eq_true rfl) (by first | omega | exact Nat.le_of_ble_eq_true rfl) ?_
  have hP : va_P (dC, dI) vwCl ([(h0, .inr (1, [.int (nI 0), .null, .null, .null, .null, .int (nI 0), .int (nI 0), .int (nI 0), .int (nI 0)])), (q_1, zaI (cT 0) 801 (fun _ => nI 0))]) H := hP
  have hD : va_D A ([(h0, .inr (1, [.int (nI 0), .null, .null, .null, .null, .int (nI 0), .int (nI 0), .int (nI 0), .int (nI 0)])), (q_1, zaI (cT 0) 801 (fun _ => nI 0))]) := hD
  refine va_putF (D := (dC, dI)) (ci := 1) (v := .ref q_1) (ty := (.array .int)) (C := R_Lg) (T := F_Lg) (N := 9) hx hb hts i_Lg t_Lg t_Lg_ok n_Lg hown hK hP hD hS 0 rfl rfl 1 (by decide) (hts _ wd_77) (fun _ h9 => h9) rfl hin rfl (by decide +kernel) rfl rfl (Nat.le_of_ble_eq_true rfl) d_Lg_init_10 (fun H locs hP hD hS => ?_)
  have hP : va_P (dC, dI) vwCl ([(h0, .inr (1, [.int (nI 0), .ref q_1, .null, .null, .null, .int (nI 0), .int (nI 0), .int (nI 0), .int (nI 0)])), (q_1, zaI (cT 0) 801 (fun _ => nI 0))]) H := hP
  have hD : va_D A ([(h0, .inr (1, [.int (nI 0), .ref q_1, .null, .null, .null, .int (nI 0), .int (nI 0), .int (nI 0), .int (nI 0)])), (q_1, zaI (cT 0) 801 (fun _ => nI 0))]) := hD
  refine lv_aload_n hx hb d_Lg_init_13 rfl (lv_at hl 0 rfl) ?_
  refine lv_sipush (v := (nI 801)) hx hb d_Lg_init_14 (by decide) ?_
  refine zn_newJ (N := 801) hx hb (hts _ wd_45) hK hP hD hS hA 1 rfl (by omega) (Nat.le_of_ble_eq_true rfl) (Nat.le_of_ble_eq_true rfl) d_Lg_init_17 (fun q_2 H hP hD hS => ?_)
  refine W.widen (k := 2) (n := 1602) (by first | omega | exact Nat.le_of_ble_eq_true rfl) (by first | omega | exact Nat.le_of_ble_eq_true rfl) ?_
  have hP : va_P (dC, dI) vwCl ([(h0, .inr (1, [.int (nI 0), .ref q_1, .null, .null, .null, .int (nI 0), .int (nI 0), .int (nI 0), .int (nI 0)])), (q_1, zaI (cT 0) 801 (fun _ => nI 0)), (q_2, zaJ (cT 1) 801 (fun _ => 0))]) H := hP
  have hD : va_D A ([(h0, .inr (1, [.int (nI 0), .ref q_1, .null, .null, .null, .int (nI 0), .int (nI 0), .int (nI 0), .int (nI 0)])), (q_1, zaI (cT 0) 801 (fun _ => nI 0)), (q_2, zaJ (cT 1) 801 (fun _ => 0))]) := hD
  refine va_putF (D := (dC, dI)) (ci := 1) (v := .ref q_2) (ty := (.array .long)) (C := R_Lg) (T := F_Lg) (N := 9) hx hb hts i_Lg t_Lg t_Lg_ok n_Lg hown hK hP hD hS 0 rfl rfl 2 (by decide) (hts _ wd_78) (fun _ h9 => h9) rfl hin rfl (by decide +kernel) rfl rfl (Nat.le_of_ble_eq_true rfl) d_Lg_init_19 (fun H locs hP hD hS => ?_)
  have hP : va_P (dC, dI) vwCl ([(h0, .inr (1, [.int (nI 0), .ref q_1, .ref q_2, .null, .null, .int (nI 0), .int (nI 0), .int (nI 0), .int (nI 0)])), (q_1, zaI (cT 0) 801 (fun _ => nI 0)), (q_2, zaJ (cT 1) 801 (fun _ => 0))]) H := hP
  have hD : va_D A ([(h0, .inr (1, [.int (nI 0), .ref q_1, .ref q_2, .null, .null, .int (nI 0), .int (nI 0), .int (nI 0), .int (nI 0)])), (q_1, zaI (cT 0) 801 (fun _ => nI 0)), (q_2, zaJ (cT 1) 801 (fun _ => 0))]) := hD
  refine lv_aload_n hx hb d_Lg_init_22 rfl (lv_at hl 0 rfl) ?_
  refine lv_bipush (v := (nI 32)) hx hb d_Lg_init_23 (by decide) ?_
  refine zn_newJ (N := 32) hx hb (hts _ wd_45) hK hP hD hS hA 1 rfl (by omega) (Nat.le_of_ble_eq_true rfl) (Nat.le_of_ble_eq_true rfl) d_Lg_init_25 (fun q_3 H hP hD hS => ?_)
  refine W.widen (k := 3) (n := 1634) (by first | omega | exact Nat.le_of_ble_eq_true rfl) (by first | omega | exact Nat.le_of_ble_eq_true rfl) ?_
  have hP : va_P (dC, dI) vwCl ([(h0, .inr (1, [.int (nI 0), .ref q_1, .ref q_2, .null, .null, .int (nI 0), .int (nI 0), .int (nI 0), .int (nI 0)])), (q_1, zaI (cT 0) 801 (fun _ => nI 0)), (q_2, zaJ (cT 1) 801 (fun _ => 0)), (q_3, zaJ (cT 1) 32 (fun _ => 0))]) H := hP
  have hD : va_D A ([(h0, .inr (1, [.int (nI 0), .ref q_1, .ref q_2, .null, .null, .int (nI 0), .int (nI 0), .int (nI 0), .int (nI 0)])), (q_1, zaI (cT 0) 801 (fun _ => nI 0)), (q_2, zaJ (cT 1) 801 (fun _ => 0)), (q_3, zaJ (cT 1) 32 (fun _ => 0))]) := hD
  refine va_putF (D := (dC, dI)) (ci := 1) (v := .ref q_3) (ty := (.array .long)) (C := R_Lg) (T := F_Lg) (N := 9) hx hb hts i_Lg t_Lg t_Lg_ok n_Lg hown hK hP hD hS 0 rfl rfl 3 (by decide) (hts _ wd_79) (fun _ h9 => h9) rfl hin rfl (by decide +kernel) rfl rfl (Nat.le_of_ble_eq_true rfl) d_Lg_init_27 (fun H locs hP hD hS => ?_)
  have hP : va_P (dC, dI) vwCl ([(h0, .inr (1, [.int (nI 0), .ref q_1, .ref q_2, .ref q_3, .null, .int (nI 0), .int (nI 0), .int (nI 0), .int (nI 0)])), (q_1, zaI (cT 0) 801 (fun _ => nI 0)), (q_2, zaJ (cT 1) 801 (fun _ => 0)), (q_3, zaJ (cT 1) 32 (fun _ => 0))]) H := hP
  have hD : va_D A ([(h0, .inr (1, [.int (nI 0), .ref q_1, .ref q_2, .ref q_3, .null, .int (nI 0), .int (nI 0), .int (nI 0), .int (nI 0)])), (q_1, zaI (cT 0) 801 (fun _ => nI 0)), (q_2, zaJ (cT 1) 801 (fun _ => 0)), (q_3, zaJ (cT 1) 32 (fun _ => 0))]) := hD
  refine lv_aload_n hx hb d_Lg_init_30 rfl (lv_at hl 0 rfl) ?_
  refine lv_bipush (v := (nI 8)) hx hb d_Lg_init_31 (by decide) ?_
  refine zn_newI (N := 8) hx hb (hts _ wd_44) hK hP hD hS hA 0 rfl (by omega) (Nat.le_of_ble_eq_true rfl) (Nat.le_of_ble_eq_true rfl) d_Lg_init_33 (fun q_4 H hP hD hS => ?_)
  refine W.widen (k := 4) (n := 1642) (by first | omega | exact Nat.le_of_ble_eq_true rfl) (by first | omega | exact Nat.le_of_ble_eq_true rfl) ?_
  have hP : va_P (dC, dI) vwCl ([(h0, .inr (1, [.int (nI 0), .ref q_1, .ref q_2, .ref q_3, .null, .int (nI 0), .int (nI 0), .int (nI 0), .int (nI 0)])), (q_1, zaI (cT 0) 801 (fun _ => nI 0)), (q_2, zaJ (cT 1) 801 (fun _ => 0)), (q_3, zaJ (cT 1) 32 (fun _ => 0)), (q_4, zaN (cT 0) 8 (fun _ => 0))]) H := hP
  have hD : va_D A ([(h0, .inr (1, [.int (nI 0), .ref q_1, .ref q_2, .ref q_3, .null, .int (nI 0), .int (nI 0), .int (nI 0), .int (nI 0)])), (q_1, zaI (cT 0) 801 (fun _ => nI 0)), (q_2, zaJ (cT 1) 801 (fun _ => 0)), (q_3, zaJ (cT 1) 32 (fun _ => 0)), (q_4, zaN (cT 0) 8 (fun _ => 0))]) := hD
  refine va_putF (D := (dC, dI)) (ci := 1) (v := .ref q_4) (ty := (.array .int)) (C := R_Lg) (T := F_Lg) (N := 9) hx hb hts i_Lg t_Lg t_Lg_ok n_Lg hown hK hP hD hS 0 rfl rfl 4 (by decide) (hts _ wd_80) (fun _ h9 => h9) rfl hin rfl (by decide +kernel) rfl rfl (Nat.le_of_ble_eq_true rfl) d_Lg_init_35 (fun H locs hP hD hS => ?_)
  have hP : va_P (dC, dI) vwCl ([(h0, zoLg 0 q_1 q_2 q_3 q_4 0 0 0 0), (q_1, zaI (cT 0) 801 (fun _ => nI 0)), (q_2, zaJ (cT 1) 801 (fun _ => 0)), (q_3, zaJ (cT 1) 32 (fun _ => 0)), (q_4, zaN (cT 0) 8 (fun _ => 0))]) H := hP
  have hD : va_D A ([(h0, zoLg 0 q_1 q_2 q_3 q_4 0 0 0 0), (q_1, zaI (cT 0) 801 (fun _ => nI 0)), (q_2, zaJ (cT 1) 801 (fun _ => 0)), (q_3, zaJ (cT 1) 32 (fun _ => 0)), (q_4, zaN (cT 0) 8 (fun _ => 0))]) := hD
  refine lv_aload_n hx hb d_Lg_init_38 rfl (lv_at hl 0 rfl) ?_
  refine lv_iconst (v := (nI 0)) hx hb d_Lg_init_39 (by decide) ?_
  refine va_put (D := (dC, dI)) (ci := 1) (v := .int (nI 0)) (ty := .int) (C := R_Lg) (T := F_Lg) (N := 9) hx hb hts i_Lg t_Lg t_Lg_ok n_Lg hown hK hP hD hS 0 rfl rfl 5 (by decide) (hts _ wd_81) (fun _ h9 => h9) rfl (by decide +kernel) rfl rfl (Nat.le_of_ble_eq_true rfl) d_Lg_init_40 (fun H locs hP hD hS => ?_)
  have hP : va_P (dC, dI) vwCl ([(h0, zoLg 0 q_1 q_2 q_3 q_4 0 0 0 0), (q_1, zaI (cT 0) 801 (fun _ => nI 0)), (q_2, zaJ (cT 1) 801 (fun _ => 0)), (q_3, zaJ (cT 1) 32 (fun _ => 0)), (q_4, zaN (cT 0) 8 (fun _ => 0))]) H := hP
  have hD : va_D A ([(h0, zoLg 0 q_1 q_2 q_3 q_4 0 0 0 0), (q_1, zaI (cT 0) 801 (fun _ => nI 0)), (q_2, zaJ (cT 1) 801 (fun _ => 0)), (q_3, zaJ (cT 1) 32 (fun _ => 0)), (q_4, zaN (cT 0) 8 (fun _ => 0))]) := hD
  refine lv_aload_n hx hb d_Lg_init_43 rfl (lv_at hl 0 rfl) ?_
  refine lv_iconst (v := (nI 0)) hx hb d_Lg_init_44 (by decide) ?_
  refine va_put (D := (dC, dI)) (ci := 1) (v := .int (nI 0)) (ty := .int) (C := R_Lg) (T := F_Lg) (N := 9) hx hb hts i_Lg t_Lg t_Lg_ok n_Lg hown hK hP hD hS 0 rfl rfl 6 (by decide) (hts _ wd_82) (fun _ h9 => h9) rfl (by decide +kernel) rfl rfl (Nat.le_of_ble_eq_true rfl) d_Lg_init_45 (fun H locs hP hD hS => ?_)
  have hP : va_P (dC, dI) vwCl ([(h0, zoLg 0 q_1 q_2 q_3 q_4 0 0 0 0), (q_1, zaI (cT 0) 801 (fun _ => nI 0)), (q_2, zaJ (cT 1) 801 (fun _ => 0)), (q_3, zaJ (cT 1) 32 (fun _ => 0)), (q_4, zaN (cT 0) 8 (fun _ => 0))]) H := hP
  have hD : va_D A ([(h0, zoLg 0 q_1 q_2 q_3 q_4 0 0 0 0), (q_1, zaI (cT 0) 801 (fun _ => nI 0)), (q_2, zaJ (cT 1) 801 (fun _ => 0)), (q_3, zaJ (cT 1) 32 (fun _ => 0)), (q_4, zaN (cT 0) 8 (fun _ => 0))]) := hD
  refine lv_aload_n hx hb d_Lg_init_48 rfl (lv_at hl 0 rfl) ?_
  refine lv_iconst (v := (nI 0)) hx hb d_Lg_init_49 (by decide) ?_
  refine va_put (D := (dC, dI)) (ci := 1) (v := .int (nI 0)) (ty := .int) (C := R_Lg) (T := F_Lg) (N := 9) hx hb hts i_Lg t_Lg t_Lg_ok n_Lg hown hK hP hD hS 0 rfl rfl 7 (by decide) (hts _ wd_83) (fun _ h9 => h9) rfl (by decide +kernel) rfl rfl (Nat.le_of_ble_eq_true rfl) d_Lg_init_50 (fun H locs hP hD hS => ?_)
  have hP : va_P (dC, dI) vwCl ([(h0, zoLg 0 q_1 q_2 q_3 q_4 0 0 0 0), (q_1, zaI (cT 0) 801 (fun _ => nI 0)), (q_2, zaJ (cT 1) 801 (fun _ => 0)), (q_3, zaJ (cT 1) 32 (fun _ => 0)), (q_4, zaN (cT 0) 8 (fun _ => 0))]) H := hP
  have hD : va_D A ([(h0, zoLg 0 q_1 q_2 q_3 q_4 0 0 0 0), (q_1, zaI (cT 0) 801 (fun _ => nI 0)), (q_2, zaJ (cT 1) 801 (fun _ => 0)), (q_3, zaJ (cT 1) 32 (fun _ => 0)), (q_4, zaN (cT 0) 8 (fun _ => 0))]) := hD
  refine lv_aload_n hx hb d_Lg_init_53 rfl (lv_at hl 0 rfl) ?_
  refine lv_iconst (v := (nI 0)) hx hb d_Lg_init_54 (by decide) ?_
  refine va_put (D := (dC, dI)) (ci := 1) (v := .int (nI 0)) (ty := .int) (C := R_Lg) (T := F_Lg) (N := 9) hx hb hts i_Lg t_Lg t_Lg_ok n_Lg hown hK hP hD hS 0 rfl rfl 8 (by decide) (hts _ wd_84) (fun _ h9 => h9) rfl (by decide +kernel) rfl rfl (Nat.le_of_ble_eq_true rfl) d_Lg_init_55 (fun H locs hP hD hS => ?_)
  have hP : va_P (dC, dI) vwCl ([(h0, zoLg 0 q_1 q_2 q_3 q_4 0 0 0 0), (q_1, zaI (cT 0) 801 (fun _ => nI 0)), (q_2, zaJ (cT 1) 801 (fun _ => 0)), (q_3, zaJ (cT 1) 32 (fun _ => 0)), (q_4, zaN (cT 0) 8 (fun _ => 0))]) H := hP
  have hD : va_D A ([(h0, zoLg 0 q_1 q_2 q_3 q_4 0 0 0 0), (q_1, zaI (cT 0) 801 (fun _ => nI 0)), (q_2, zaJ (cT 1) 801 (fun _ => 0)), (q_3, zaJ (cT 1) 32 (fun _ => 0)), (q_4, zaN (cT 0) 8 (fun _ => 0))]) := hD
  refine lv_aload_n hx hb d_Lg_init_58 rfl (lv_at hl 0 rfl) ?_
  refine lv_iload_n hx hb d_Lg_init_59 rfl (lv_at hl 1 rfl) ?_
  refine va_putF (D := (dC, dI)) (ci := 1) (v := .int (nI lS)) (ty := .int) (C := R_Lg) (T := F_Lg) (N := 9) hx hb hts i_Lg t_Lg t_Lg_ok n_Lg hown hK hP hD hS 0 rfl rfl 0 (by decide) (hts _ wd_76) (fun _ h9 => h9) rfl hin rfl (by decide +kernel) rfl rfl (Nat.le_of_ble_eq_true rfl) d_Lg_init_60 (fun H locs hP hD hS => ?_)
  have hP : va_P (dC, dI) vwCl ([(h0, zoLg lS q_1 q_2 q_3 q_4 0 0 0 0), (q_1, zaI (cT 0) 801 (fun _ => nI 0)), (q_2, zaJ (cT 1) 801 (fun _ => 0)), (q_3, zaJ (cT 1) 32 (fun _ => 0)), (q_4, zaN (cT 0) 8 (fun _ => 0))]) H := hP
  have hD : va_D A ([(h0, zoLg lS q_1 q_2 q_3 q_4 0 0 0 0), (q_1, zaI (cT 0) 801 (fun _ => nI 0)), (q_2, zaJ (cT 1) 801 (fun _ => 0)), (q_3, zaJ (cT 1) 32 (fun _ => 0)), (q_4, zaN (cT 0) 8 (fun _ => 0))]) := hD
  refine lv_aload_n hx hb d_Lg_init_63 rfl (lv_at hl 0 rfl) ?_
  refine va_get (D := (dC, dI)) (ci := 1) (v := .ref q_3) (C := R_Lg) (T := F_Lg) (N := 9) hx hb hts i_Lg hown hK hP 0 rfl rfl 3 (by decide) (hts _ wd_79) (fun _ h9 => h9) rfl d_Lg_init_64 ?_
  refine lv_ldc2 (v := 1000000000000) hx hb hown (hts _ wd_72) d_Lg_init_67 ?_
  refine zw_Q (X := [(h0, zoLg lS q_1 q_2 q_3 q_4 0 0 0 0), (q_1, zaI (cT 0) 801 (fun _ => nI 0)), (q_2, zaJ (cT 1) 801 (fun _ => 0)), (q_3, zaJ (cT 1) 32 (fun _ => 0)), (q_4, zaN (cT 0) 8 (fun _ => 0))]) (pl := []) (va_runS (As := [.ref q_3, .long 1000000000000]) (rest := []) ⟨hx, hb, hml, hown, hts⟩ (c_Ar_fill_2J l dC dI cT H.size q_3 32 (fun _ => 0) 1000000000000 (by first | omega | assumption)) (va_cwS 2 hts (zgS wd_73 wd_74 wd_6 wd_75) rfl rfl rfl (by decide +kernel) ⟨Nat.le_of_ble_eq_true rfl, Nat.le_of_ble_eq_true rfl⟩) ⟨zPre_blind, zp_Q (X := [(h0, zoLg lS q_1 q_2 q_3 q_4 0 0 0 0), (q_1, zaI (cT 0) 801 (fun _ => nI 0)), (q_2, zaJ (cT 1) 801 (fun _ => 0)), (q_3, zaJ (cT 1) 32 (fun _ => 0)), (q_4, zaN (cT 0) 8 (fun _ => 0))]) (pl := []) hK hE hP hD [3] (by decide) rfl⟩ rfl rfl hl.1 rfl (lv_room (Nat.le_of_ble_eq_true rfl)) d_Lg_init_70 ⟨Nat.le_of_ble_eq_true rfl, Nat.le_of_ble_eq_true rfl⟩) hP hD hS hA [3] [0, 1, 2, 4] rfl (wr := [(h0, zoLg lS q_1 q_2 q_3 q_4 0 0 0 0), (q_1, zaI (cT 0) 801 (fun _ => nI 0)), (q_2, zaJ (cT 1) 801 (fun _ => 0)), (q_4, zaN (cT 0) 8 (fun _ => 0))]) rfl (by decide) (by decide) (fun zu => []) (fun _ => rfl) (fun zu H locs hφ hP hD hS => ?_)
  have hP : va_P (dC, dI) vwCl ([(h0, zoLg lS q_1 q_2 q_3 q_4 0 0 0 0), (q_1, zaI (cT 0) 801 (fun _ => nI 0)), (q_2, zaJ (cT 1) 801 (fun _ => 0)), (q_4, zaN (cT 0) 8 (fun _ => 0)), (q_3, zaJ (cT 1) 32 (zfill (fun _ => 0) 1000000000000 32))]) H := hP
  have hD : va_D A ([(h0, zoLg lS q_1 q_2 q_3 q_4 0 0 0 0), (q_1, zaI (cT 0) 801 (fun _ => nI 0)), (q_2, zaJ (cT 1) 801 (fun _ => 0)), (q_4, zaN (cT 0) 8 (fun _ => 0)), (q_3, zaJ (cT 1) 32 (zfill (fun _ => 0) 1000000000000 32))]) := hD
  have hP9 := hP.sub (ws' := [(h0, zoLg lS q_1 q_2 q_3 q_4 0 0 0 0), (q_1, zaI (cT 0) 801 (fun _ => nI 0)), (q_2, zaJ (cT 1) 801 (fun _ => 0)), (q_3, zaJ (cT 1) 32 (zfill (fun _ => 0) 1000000000000 32)), (q_4, zaN (cT 0) 8 (fun _ => 0))]) [0, 1, 2, 4, 3] rfl
  have hD9 := hD.sub (ws' := [(h0, zoLg lS q_1 q_2 q_3 q_4 0 0 0 0), (q_1, zaI (cT 0) 801 (fun _ => nI 0)), (q_2, zaJ (cT 1) 801 (fun _ => 0)), (q_3, zaJ (cT 1) 32 (zfill (fun _ => 0) 1000000000000 32)), (q_4, zaN (cT 0) 8 (fun _ => 0))]) [0, 1, 2, 4, 3] (by decide) rfl
  exact W.vret hx hb hr (fun t ht hW => ⟨⟨(q_1, q_2, q_3, q_4), trivial, rfl, by rw [ht]; exact hP9, hD9⟩, hS.F ht⟩) hS.2.2 d_Lg_init_73
set_option maxHeartbeats 4000000 in
set_option maxRecDepth 100000 in
theorem c_Tx_undoIn (l : Launch) (dC : Nat → ClassId) (dI : Nat → Nat → Nat) (cT : Nat → ClassId) (sz : Nat) (h0 : Nat) (xK : Nat) (xR : Nat) (ch : Nat) (op : Bool) (hg : Nat) (lS : Nat) (aK : Nat) (aC : Nat) (aT : Nat) (aP : Nat) (lL : Nat) (lC : Nat) (lA : Nat) (lP : Nat) (tk : Nat → Nat) (tr : Nat → Int64) (ks : Nat → Int32) (cs : Nat → Int64) (tb : Nat → Int64) (pn : Nat → Nat) (hc : ch ≤ 4) (hL : lL + ch + 1 ≤ 800) (htk : ∀ j, j < ch → tk j < 32) : Met l y_Tx_undoIn w_Tx_undoIn ({ frames := 2, cells := 0, slots := 0, locals := 46 } : Room) (zPre (dC, dI) vwCl (zT cT) [.ref h0, .ref hg] ([(h0, zoTx xK xR ch op), (xK, zaN (cT 0) 4 tk), (xR, zaJ (cT 1) 4 tr), (hg, zoLg lS aK aC aT aP lL lC lA lP), (aK, zaI (cT 0) 801 ks), (aC, zaJ (cT 1) 801 cs), (aT, zaJ (cT 1) 32 tb), (aP, zaN (cT 0) 8 pn)]) sz) (zQ (dC, dI) vwCl (S := Unit) (fun zu => True) (fun zu => none) (fun zu => [(h0, zoTx xK xR 0 false), (xK, zaN (cT 0) 4 tk), (xR, zaJ (cT 1) 4 tr), (hg, zoLg lS aK aC aT aP (zuL lL ch) lC lA lP), (aK, zaI (cT 0) 801 (zuKe ks tk lL ch)), (aC, zaJ (cT 1) 801 (zuCe cs tr lL ch)), (aT, zaJ (cT 1) 32 (zuT tb tk tr ch ch)), (aP, zaN (cT 0) 8 (zuP pn tk lL ch ch))]) (va_A ([(h0, zoTx xK xR ch op), (xK, zaN (cT 0) 4 tk), (xR, zaJ (cT 1) 4 tr), (hg, zoLg lS aK aC aT aP lL lC lA lP), (aK, zaI (cT 0) 801 ks), (aC, zaJ (cT 1) 801 cs), (aT, zaJ (cT 1) 32 tb), (aP, zaN (cT 0) 8 pn)]) sz)) 0 0 (va_A ([(h0, zoTx xK xR ch op), (xK, zaN (cT 0) 4 tk), (xR, zaJ (cT 1) 4 tr), (hg, zoLg lS aK aC aT aP lL lC lA lP), (aK, zaI (cT 0) 801 ks), (aC, zaJ (cT 1) 801 cs), (aT, zaJ (cT 1) 32 tb), (aP, zaN (cT 0) 8 pn)]) sz) := by
  refine Met.ofW (cc := b_Tx_undoIn) (maxL := 3) (ret := none) (by decide) rfl ?_
  intro p e s m args below meth c s₁ B hml hv
  obtain ⟨rfl, hsz, hP, hK, hD0, hE⟩ := hv
  have hx := B.exec
  have hb := B.bytes
  have hr := B.returns
  have hts := fun w h => atoms_spec (ws := w_Tx_undoIn) B.pre w (List.mem_cons_of_mem _ h)
  have hown : s.vm.findClass R_Tx = some m.cls := findClass_of_methodNamed B.named
  have hlocks := B.notSynchronized
  subst hsz
  have hD := hD0.self (sz := s.heap.size)
  generalize hAe : va_A ([(h0, zoTx xK xR ch op), (xK, zaN (cT 0) 4 tk), (xR, zaJ (cT 1) 4 tr), (hg, zoLg lS aK aC aT aP lL lC lA lP), (aK, zaI (cT 0) 801 ks), (aC, zaJ (cT 1) 801 cs), (aT, zaJ (cT 1) 32 tb), (aP, zaN (cT 0) 8 pn)]) s.heap.size = A at hD ⊢
  have hA : ∀ q : Nat, s.heap.size ≤ q → A q := fun q h => by rw [← hAe]; exact Or.inr h
  have hS : va_S A s.heap s.heap [] := va_S.rf
  have hl := lv_entry ([.ref h0, .ref hg]) (n := 3) (Nat.le_of_ble_eq_true rfl)
  rw [lg_entry_eq]
  generalize (lg_sl ([.ref h0, .ref hg]) ++ List.replicate (3 - (lg_sl ([.ref h0, .ref hg])).length) Slot.unset).toArray = ls at hl ⊢
  have hl : lv_has ls 3 [(0, .ref h0), (1, .ref hg)] := hl
  refine lv_aload_n hx hb d_Tx_undoIn_0 rfl (lv_at hl 0 rfl) ?_
  refine va_get (D := (dC, dI)) (ci := 2) (v := .int (nI ch)) (C := R_Tx) (T := F_Tx) (N := 4) hx hb hts i_Tx hown hK hP 0 rfl rfl 2 (by decide) (hts _ wd_33) (fun _ h9 => h9) rfl d_Tx_undoIn_1 ?_
  refine lv_iconst (v := (nI 1)) hx hb d_Tx_undoIn_4 (by decide) ?_
  refine lv_isub hx hb d_Tx_undoIn_5 ?_
  refine lv_istore_n (lv' := [(2, .int ((nI ch) - (nI 1))), (0, .ref h0), (1, .ref hg)]) hx hb d_Tx_undoIn_6 rfl hl (by decide) rfl (fun ls hl => ?_)
  have loop_7 : ∀ (fu : Nat) (d : Nat), ch - d < fu → (d ≤ ch) → ∀ (H : Heap) (locs : List Loc), va_P (dC, dI) vwCl ([(h0, zoTx xK xR ch op), (xK, zaN (cT 0) 4 tk), (xR, zaJ (cT 1) 4 tr), (hg, zoLg lS aK aC aT aP (lL + d) lC lA lP), (aK, zaI (cT 0) 801 (zuK ks tk lL ch d)), (aC, zaJ (cT 1) 801 (zuC cs tr lL ch d)), (aT, zaJ (cT 1) 32 (zuT tb tk tr ch d)), (aP, zaN (cT 0) 8 (zuP pn tk lL ch d))]) H → va_D A ([(h0, zoTx xK xR ch op), (xK, zaN (cT 0) 4 tk), (xR, zaJ (cT 1) 4 tr), (hg, zoLg lS aK aC aT aP (lL + d) lC lA lP), (aK, zaI (cT 0) 801 (zuK ks tk lL ch d)), (aC, zaJ (cT 1) 801 (zuC cs tr lL ch d)), (aT, zaJ (cT 1) 32 (zuT tb tk tr ch d)), (aP, zaN (cT 0) 8 (zuP pn tk lL ch d))]) → va_S A s.heap H locs → ∀ (ls : Array Slot), lv_has ls 3 [(0, .ref h0), (1, .ref hg), (2, .int (nI (ch - d) - 1))] → W p l e (headSpec w_Tx_undoIn ({ frames := 2, cells := 0, slots := 0, locals := 46 } : Room)).room s m ([.ref h0, .ref hg] : List Value).toArray below meth c H locs 0 0 (MQ below (zQ (dC, dI) vwCl (S := Unit) (fun zu => True) (fun zu => none) (fun zu => [(h0, zoTx xK xR 0 false), (xK, zaN (cT 0) 4 tk), (xR, zaJ (cT 1) 4 tr), (hg, zoLg lS aK aC aT aP (zuL lL ch) lC lA lP), (aK, zaI (cT 0) 801 (zuKe ks tk lL ch)), (aC, zaJ (cT 1) 801 (zuCe cs tr lL ch)), (aT, zaJ (cT 1) 32 (zuT tb tk tr ch ch)), (aP, zaN (cT 0) 8 (zuP pn tk lL ch ch))]) A) ([.ref h0, .ref hg] : List Value).toArray s 0 0 A) (F0 m 7 ls []) := by
    intro fu
    induction fu with
    | zero => intro _ hm; exact absurd hm (Nat.not_lt_zero _)
    | succ fu ih_7 =>
      intro d hm_7 h1 H locs hP hD hS ls hl
      rcases Nat.lt_or_ge d ch with hlt | hge
      · have e7 : (nI (ch - d) - 1 : Int32) = nI (ch - (d + 1)) := by rw [show ch - d = (ch - (d + 1)) + 1 by omega, nI_pred]
        have hl : lv_has ls 3 [(0, .ref h0), (1, .ref hg), (2, .int (nI (ch - (d + 1))))] := by rw [← e7]; exact hl
        refine lv_iload_n hx hb d_Tx_undoIn_7 rfl (lv_at hl 2 rfl) ?_
        refine zn_if_lt (tgt := 34) hx hb (a := ch - (d + 1)) (by omega) d_Tx_undoIn_8 (by decide) (fun c => c.elim) (fun _ => ?_)
        refine lv_aload_n hx hb d_Tx_undoIn_11 rfl (lv_at hl 1 rfl) ?_
        refine lv_aload_n hx hb d_Tx_undoIn_12 rfl (lv_at hl 0 rfl) ?_
        refine va_get (D := (dC, dI)) (ci := 2) (v := .ref xK) (C := R_Tx) (T := F_Tx) (N := 4) hx hb hts i_Tx hown hK hP 0 rfl rfl 0 (by decide) (hts _ wd_31) (fun _ h9 => h9) rfl d_Tx_undoIn_13 ?_
        refine lv_iload_n hx hb d_Tx_undoIn_16 rfl (lv_at hl 2 rfl) ?_
        refine zn_iald hx hb hK hP 1 0 rfl rfl (i := ch - (d + 1)) (by omega) (by omega) d_Tx_undoIn_17 ?_
        refine lv_aload_n hx hb d_Tx_undoIn_18 rfl (lv_at hl 0 rfl) ?_
        refine va_get (D := (dC, dI)) (ci := 2) (v := .ref xR) (C := R_Tx) (T := F_Tx) (N := 4) hx hb hts i_Tx hown hK hP 0 rfl rfl 1 (by decide) (hts _ wd_32) (fun _ h9 => h9) rfl d_Tx_undoIn_19 ?_
        refine lv_iload_n hx hb d_Tx_undoIn_22 rfl (lv_at hl 2 rfl) ?_
        refine zn_lald hx hb hK hP 2 1 rfl rfl (i := ch - (d + 1)) (by omega) (by omega) d_Tx_undoIn_23 ?_
        refine zw_Q (X := [(h0, zoTx xK xR ch op), (xK, zaN (cT 0) 4 tk), (xR, zaJ (cT 1) 4 tr), (hg, zoLg lS aK aC aT aP (lL + d) lC lA lP), (aK, zaI (cT 0) 801 (zuK ks tk lL ch d)), (aC, zaJ (cT 1) 801 (zuC cs tr lL ch d)), (aT, zaJ (cT 1) 32 (zuT tb tk tr ch d)), (aP, zaN (cT 0) 8 (zuP pn tk lL ch d))]) (pl := []) (va_runV (As := [.int (nI (tk (ch - (d + 1)))), .long (tr (ch - (d + 1)))]) (rest := []) ⟨hx, hb, hml, hown, hts⟩ (c_Lg_addChange l dC dI cT H.size hg lS aK aC aT aP (lL + d) lC lA lP (tk (ch - (d + 1))) (tr (ch - (d + 1))) (zuK ks tk lL ch d) (zuC cs tr lL ch d) (zuT tb tk tr ch d) (zuP pn tk lL ch d) (by first | omega | assumption) (htk _ (by omega))) (cwV 2 hts (zgV wd_243 wd_216 wd_217 wd_4 wd_218) rfl rfl rfl (by decide +kernel) ⟨Nat.le_of_ble_eq_true rfl, Nat.le_of_ble_eq_true rfl⟩) ⟨zPre_blind, va_recv hK hP (ci := 1) (q0 := 3) rfl rfl, zp_Q (X := [(h0, zoTx xK xR ch op), (xK, zaN (cT 0) 4 tk), (xR, zaJ (cT 1) 4 tr), (hg, zoLg lS aK aC aT aP (lL + d) lC lA lP), (aK, zaI (cT 0) 801 (zuK ks tk lL ch d)), (aC, zaJ (cT 1) 801 (zuC cs tr lL ch d)), (aT, zaJ (cT 1) 32 (zuT tb tk tr ch d)), (aP, zaN (cT 0) 8 (zuP pn tk lL ch d))]) (pl := []) hK hE hP hD [3, 4, 5, 6, 7] (by decide) rfl⟩ rfl rfl hl.1 rfl (lv_room (Nat.le_of_ble_eq_true rfl)) d_Tx_undoIn_24 ⟨Nat.le_of_ble_eq_true rfl, Nat.le_of_ble_eq_true rfl⟩) hP hD hS hA [3, 4, 5, 6, 7] [0, 1, 2] rfl (wr := [(h0, zoTx xK xR ch op), (xK, zaN (cT 0) 4 tk), (xR, zaJ (cT 1) 4 tr)]) rfl (by decide) (by decide) (fun zu => [.int (nI ((lL + d) + 1))]) (fun _ => rfl) (fun zu H locs hφ hP hD hS => ?_)
        have hP : va_P (dC, dI) vwCl ([(h0, zoTx xK xR ch op), (xK, zaN (cT 0) 4 tk), (xR, zaJ (cT 1) 4 tr), (hg, zoLg lS aK aC aT aP ((lL + d) + 1) lC lA lP), (aK, zaI (cT 0) 801 (va_up (zuK ks tk lL ch d) ((lL + d) + 1) (nI (tk (ch - (d + 1)))))), (aC, zaJ (cT 1) 801 (va_up (zuC cs tr lL ch d) ((lL + d) + 1) (tr (ch - (d + 1))))), (aT, zaJ (cT 1) 32 (va_up (zuT tb tk tr ch d) (tk (ch - (d + 1))) (tr (ch - (d + 1))))), (aP, zaN (cT 0) 8 (va_up (zuP pn tk lL ch d) ((tk (ch - (d + 1))) / 4) ((lL + d) + 1)))]) H := hP
        have hD : va_D A ([(h0, zoTx xK xR ch op), (xK, zaN (cT 0) 4 tk), (xR, zaJ (cT 1) 4 tr), (hg, zoLg lS aK aC aT aP ((lL + d) + 1) lC lA lP), (aK, zaI (cT 0) 801 (va_up (zuK ks tk lL ch d) ((lL + d) + 1) (nI (tk (ch - (d + 1)))))), (aC, zaJ (cT 1) 801 (va_up (zuC cs tr lL ch d) ((lL + d) + 1) (tr (ch - (d + 1))))), (aT, zaJ (cT 1) 32 (va_up (zuT tb tk tr ch d) (tk (ch - (d + 1))) (tr (ch - (d + 1))))), (aP, zaN (cT 0) 8 (va_up (zuP pn tk lL ch d) ((tk (ch - (d + 1))) / 4) ((lL + d) + 1)))]) := hD
        refine lv_pop hx hb d_Tx_undoIn_27 rfl ?_
        refine lv_iinc (v := (nI (ch - (d + 1)) - 1)) (lv' := [(2, .int (nI (ch - (d + 1)) - 1)), (0, .ref h0), (1, .ref hg)]) hx hb d_Tx_undoIn_28 hl (k := 2) rfl (zm1 _) (by decide) rfl (fun ls hl => ?_)
        refine lv_goto (tgt := 7) hx hb d_Tx_undoIn_31 (by decide) ?_
        exact ih_7 (d + 1) (by omega) (by first | omega | assumption) H locs (hP.sub [0, 1, 2, 3, 4, 5, 6, 7] rfl) (hD.sub [0, 1, 2, 3, 4, 5, 6, 7] (by decide) rfl) hS ls (lv_sub hl [1, 2, 0] rfl)
      · have e7 : (nI (ch - d) - 1 : Int32) = (-1) := by rw [show ch - d = 0 by omega]; decide
        have hl : lv_has ls 3 [(0, .ref h0), (1, .ref hg), (2, .int (-1))] := by rw [← e7]; exact hl
        have hd : d = ch := by omega
        refine lv_iload_n hx hb d_Tx_undoIn_7 rfl (lv_at hl 2 rfl) ?_
        refine lv_if_lt (tgt := 34) hx hb d_Tx_undoIn_8 (by decide) (fun c_8 => ?_) (fun c_8 => absurd c_8 (fun q => q (by decide)))
        refine lv_aload_n hx hb d_Tx_undoIn_34 rfl (lv_at hl 0 rfl) ?_
        refine va_get (D := (dC, dI)) (ci := 2) (v := .int (nI ch)) (C := R_Tx) (T := F_Tx) (N := 4) hx hb hts i_Tx hown hK hP 0 rfl rfl 2 (by decide) (hts _ wd_33) (fun _ h9 => h9) rfl d_Tx_undoIn_35 ?_
        refine zn_if_le (tgt := 45) hx hb (a := ch) (by omega) d_Tx_undoIn_38 (by decide) (fun c_38 => ?_) (fun c_38 => ?_)
        · refine lv_aload_n hx hb d_Tx_undoIn_45 rfl (lv_at hl 0 rfl) ?_
          refine zw_Q (X := [(h0, zoTx xK xR ch op), (xK, zaN (cT 0) 4 tk), (xR, zaJ (cT 1) 4 tr), (hg, zoLg lS aK aC aT aP (lL + d) lC lA lP), (aK, zaI (cT 0) 801 (zuK ks tk lL ch d)), (aC, zaJ (cT 1) 801 (zuC cs tr lL ch d)), (aT, zaJ (cT 1) 32 (zuT tb tk tr ch d)), (aP, zaN (cT 0) 8 (zuP pn tk lL ch d))]) (pl := []) (va_runV (As := []) (rest := []) ⟨hx, hb, hml, hown, hts⟩ (c_Tx_close l dC dI cT H.size h0 xK xR ch op) (cwV 0 hts (zgV wd_248 wd_228 wd_229 wd_2 wd_230) rfl rfl rfl (by decide +kernel) ⟨Nat.le_of_ble_eq_true rfl, Nat.le_of_ble_eq_true rfl⟩) ⟨zPre_blind, va_recv hK hP (ci := 2) (q0 := 0) rfl rfl, zp_Q (X := [(h0, zoTx xK xR ch op), (xK, zaN (cT 0) 4 tk), (xR, zaJ (cT 1) 4 tr), (hg, zoLg lS aK aC aT aP (lL + d) lC lA lP), (aK, zaI (cT 0) 801 (zuK ks tk lL ch d)), (aC, zaJ (cT 1) 801 (zuC cs tr lL ch d)), (aT, zaJ (cT 1) 32 (zuT tb tk tr ch d)), (aP, zaN (cT 0) 8 (zuP pn tk lL ch d))]) (pl := []) hK hE hP hD [0] (by decide) rfl⟩ rfl rfl hl.1 rfl (lv_room (Nat.le_of_ble_eq_true rfl)) d_Tx_undoIn_46 ⟨Nat.le_of_ble_eq_true rfl, Nat.le_of_ble_eq_true rfl⟩) hP hD hS hA [0] [1, 2, 3, 4, 5, 6, 7] rfl (wr := [(xK, zaN (cT 0) 4 tk), (xR, zaJ (cT 1) 4 tr), (hg, zoLg lS aK aC aT aP (lL + d) lC lA lP), (aK, zaI (cT 0) 801 (zuK ks tk lL ch d)), (aC, zaJ (cT 1) 801 (zuC cs tr lL ch d)), (aT, zaJ (cT 1) 32 (zuT tb tk tr ch d)), (aP, zaN (cT 0) 8 (zuP pn tk lL ch d))]) rfl (by decide) (by decide) (fun zu => []) (fun _ => rfl) (fun zu H locs hφ hP hD hS => ?_)
          have hP : va_P (dC, dI) vwCl ([(xK, zaN (cT 0) 4 tk), (xR, zaJ (cT 1) 4 tr), (hg, zoLg lS aK aC aT aP (lL + d) lC lA lP), (aK, zaI (cT 0) 801 (zuK ks tk lL ch d)), (aC, zaJ (cT 1) 801 (zuC cs tr lL ch d)), (aT, zaJ (cT 1) 32 (zuT tb tk tr ch d)), (aP, zaN (cT 0) 8 (zuP pn tk lL ch d)), (h0, zoTx xK xR 0 false)]) H := hP
          have hD : va_D A ([(xK, zaN (cT 0) 4 tk), (xR, zaJ (cT 1) 4 tr), (hg, zoLg lS aK aC aT aP (lL + d) lC lA lP), (aK, zaI (cT 0) 801 (zuK ks tk lL ch d)), (aC, zaJ (cT 1) 801 (zuC cs tr lL ch d)), (aT, zaJ (cT 1) 32 (zuT tb tk tr ch d)), (aP, zaN (cT 0) 8 (zuP pn tk lL ch d)), (h0, zoTx xK xR 0 false)]) := hD
          have hP9 := hP.sub (ws' := [(h0, zoTx xK xR 0 false), (xK, zaN (cT 0) 4 tk), (xR, zaJ (cT 1) 4 tr), (hg, zoLg lS aK aC aT aP (lL + d) lC lA lP), (aK, zaI (cT 0) 801 (zuK ks tk lL ch d)), (aC, zaJ (cT 1) 801 (zuC cs tr lL ch d)), (aT, zaJ (cT 1) 32 (zuT tb tk tr ch d)), (aP, zaN (cT 0) 8 (zuP pn tk lL ch d))]) [7, 0, 1, 2, 3, 4, 5, 6] rfl
          have hD9 := hD.sub (ws' := [(h0, zoTx xK xR 0 false), (xK, zaN (cT 0) 4 tk), (xR, zaJ (cT 1) 4 tr), (hg, zoLg lS aK aC aT aP (lL + d) lC lA lP), (aK, zaI (cT 0) 801 (zuK ks tk lL ch d)), (aC, zaJ (cT 1) 801 (zuC cs tr lL ch d)), (aT, zaJ (cT 1) 32 (zuT tb tk tr ch d)), (aP, zaN (cT 0) 8 (zuP pn tk lL ch d))]) [7, 0, 1, 2, 3, 4, 5, 6] (by decide) rfl
          rw [hd] at hP9 hD9
          have hP9 : va_P (dC, dI) vwCl ([(h0, zoTx xK xR 0 false), (xK, zaN (cT 0) 4 tk), (xR, zaJ (cT 1) 4 tr), (hg, zoLg lS aK aC aT aP (zuL lL ch) lC lA lP), (aK, zaI (cT 0) 801 (zuKe ks tk lL ch)), (aC, zaJ (cT 1) 801 (zuCe cs tr lL ch)), (aT, zaJ (cT 1) 32 (zuT tb tk tr ch ch)), (aP, zaN (cT 0) 8 (zuP pn tk lL ch ch))]) H := by rw [show zuL lL ch = lL + ch by simp [zuL, c_38], show zuKe ks tk lL ch = zuK ks tk lL ch ch by simp [zuKe, c_38, zuK], show zuCe cs tr lL ch = zuC cs tr lL ch ch by simp [zuCe, c_38, zuC]]; exact hP9
          have hD9 : va_D A ([(h0, zoTx xK xR 0 false), (xK, zaN (cT 0) 4 tk), (xR, zaJ (cT 1) 4 tr), (hg, zoLg lS aK aC aT aP (zuL lL ch) lC lA lP), (aK, zaI (cT 0) 801 (zuKe ks tk lL ch)), (aC, zaJ (cT 1) 801 (zuCe cs tr lL ch)), (aT, zaJ (cT 1) 32 (zuT tb tk tr ch ch)), (aP, zaN (cT 0) 8 (zuP pn tk lL ch ch))]) := by rw [show zuL lL ch = lL + ch by simp [zuL, c_38], show zuKe ks tk lL ch = zuK ks tk lL ch ch by simp [zuKe, c_38, zuK], show zuCe cs tr lL ch = zuC cs tr lL ch ch by simp [zuCe, c_38, zuC]]; exact hD9
          exact W.vret hx hb hr (fun t ht hW => ⟨⟨(), trivial, rfl, by rw [ht]; exact hP9, hD9⟩, hS.F ht⟩) hS.2.2 d_Tx_undoIn_49
        · refine lv_aload_n hx hb d_Tx_undoIn_41 rfl (lv_at hl 1 rfl) ?_
          refine zw_Q (X := [(h0, zoTx xK xR ch op), (xK, zaN (cT 0) 4 tk), (xR, zaJ (cT 1) 4 tr), (hg, zoLg lS aK aC aT aP (lL + d) lC lA lP), (aK, zaI (cT 0) 801 (zuK ks tk lL ch d)), (aC, zaJ (cT 1) 801 (zuC cs tr lL ch d)), (aT, zaJ (cT 1) 32 (zuT tb tk tr ch d)), (aP, zaN (cT 0) 8 (zuP pn tk lL ch d))]) (pl := []) (va_runV (As := []) (rest := []) ⟨hx, hb, hml, hown, hts⟩ (c_Lg_addEnd l dC dI cT H.size hg lS aK aC aT aP (lL + d) lC lA lP (zuK ks tk lL ch d) (zuC cs tr lL ch d) (by first | omega | assumption)) (cwV 0 hts (zgV wd_244 wd_245 wd_246 wd_4 wd_247) rfl rfl rfl (by decide +kernel) ⟨Nat.le_of_ble_eq_true rfl, Nat.le_of_ble_eq_true rfl⟩) ⟨zPre_blind, va_recv hK hP (ci := 1) (q0 := 3) rfl rfl, zp_Q (X := [(h0, zoTx xK xR ch op), (xK, zaN (cT 0) 4 tk), (xR, zaJ (cT 1) 4 tr), (hg, zoLg lS aK aC aT aP (lL + d) lC lA lP), (aK, zaI (cT 0) 801 (zuK ks tk lL ch d)), (aC, zaJ (cT 1) 801 (zuC cs tr lL ch d)), (aT, zaJ (cT 1) 32 (zuT tb tk tr ch d)), (aP, zaN (cT 0) 8 (zuP pn tk lL ch d))]) (pl := []) hK hE hP hD [3, 4, 5] (by decide) rfl⟩ rfl rfl hl.1 rfl (lv_room (Nat.le_of_ble_eq_true rfl)) d_Tx_undoIn_42 ⟨Nat.le_of_ble_eq_true rfl, Nat.le_of_ble_eq_true rfl⟩) hP hD hS hA [3, 4, 5] [0, 1, 2, 6, 7] rfl (wr := [(h0, zoTx xK xR ch op), (xK, zaN (cT 0) 4 tk), (xR, zaJ (cT 1) 4 tr), (aT, zaJ (cT 1) 32 (zuT tb tk tr ch d)), (aP, zaN (cT 0) 8 (zuP pn tk lL ch d))]) rfl (by decide) (by decide) (fun zu => []) (fun _ => rfl) (fun zu H locs hφ hP hD hS => ?_)
          have hP : va_P (dC, dI) vwCl ([(h0, zoTx xK xR ch op), (xK, zaN (cT 0) 4 tk), (xR, zaJ (cT 1) 4 tr), (aT, zaJ (cT 1) 32 (zuT tb tk tr ch d)), (aP, zaN (cT 0) 8 (zuP pn tk lL ch d)), (hg, zoLg lS aK aC aT aP ((lL + d) + 1) lC lA lP), (aK, zaI (cT 0) 801 (va_up (zuK ks tk lL ch d) ((lL + d) + 1) (-2))), (aC, zaJ (cT 1) 801 (va_up (zuC cs tr lL ch d) ((lL + d) + 1) 1000000000000))]) H := hP
          have hD : va_D A ([(h0, zoTx xK xR ch op), (xK, zaN (cT 0) 4 tk), (xR, zaJ (cT 1) 4 tr), (aT, zaJ (cT 1) 32 (zuT tb tk tr ch d)), (aP, zaN (cT 0) 8 (zuP pn tk lL ch d)), (hg, zoLg lS aK aC aT aP ((lL + d) + 1) lC lA lP), (aK, zaI (cT 0) 801 (va_up (zuK ks tk lL ch d) ((lL + d) + 1) (-2))), (aC, zaJ (cT 1) 801 (va_up (zuC cs tr lL ch d) ((lL + d) + 1) 1000000000000))]) := hD
          refine lv_aload_n hx hb d_Tx_undoIn_45 rfl (lv_at hl 0 rfl) ?_
          refine zw_Q (X := [(h0, zoTx xK xR ch op), (xK, zaN (cT 0) 4 tk), (xR, zaJ (cT 1) 4 tr), (aT, zaJ (cT 1) 32 (zuT tb tk tr ch d)), (aP, zaN (cT 0) 8 (zuP pn tk lL ch d)), (hg, zoLg lS aK aC aT aP ((lL + d) + 1) lC lA lP), (aK, zaI (cT 0) 801 (va_up (zuK ks tk lL ch d) ((lL + d) + 1) (-2))), (aC, zaJ (cT 1) 801 (va_up (zuC cs tr lL ch d) ((lL + d) + 1) 1000000000000))]) (pl := []) (va_runV (As := []) (rest := []) ⟨hx, hb, hml, hown, hts⟩ (c_Tx_close l dC dI cT H.size h0 xK xR ch op) (cwV 0 hts (zgV wd_248 wd_228 wd_229 wd_2 wd_230) rfl rfl rfl (by decide +kernel) ⟨Nat.le_of_ble_eq_true rfl, Nat.le_of_ble_eq_true rfl⟩) ⟨zPre_blind, va_recv hK hP (ci := 2) (q0 := 0) rfl rfl, zp_Q (X := [(h0, zoTx xK xR ch op), (xK, zaN (cT 0) 4 tk), (xR, zaJ (cT 1) 4 tr), (aT, zaJ (cT 1) 32 (zuT tb tk tr ch d)), (aP, zaN (cT 0) 8 (zuP pn tk lL ch d)), (hg, zoLg lS aK aC aT aP ((lL + d) + 1) lC lA lP), (aK, zaI (cT 0) 801 (va_up (zuK ks tk lL ch d) ((lL + d) + 1) (-2))), (aC, zaJ (cT 1) 801 (va_up (zuC cs tr lL ch d) ((lL + d) + 1) 1000000000000))]) (pl := []) hK hE hP hD [0] (by decide) rfl⟩ rfl rfl hl.1 rfl (lv_room (Nat.le_of_ble_eq_true rfl)) d_Tx_undoIn_46 ⟨Nat.le_of_ble_eq_true rfl, Nat.le_of_ble_eq_true rfl⟩) hP hD hS hA [0] [1, 2, 3, 4, 5, 6, 7] rfl (wr := [(xK, zaN (cT 0) 4 tk), (xR, zaJ (cT 1) 4 tr), (aT, zaJ (cT 1) 32 (zuT tb tk tr ch d)), (aP, zaN (cT 0) 8 (zuP pn tk lL ch d)), (hg, zoLg lS aK aC aT aP ((lL + d) + 1) lC lA lP), (aK, zaI (cT 0) 801 (va_up (zuK ks tk lL ch d) ((lL + d) + 1) (-2))), (aC, zaJ (cT 1) 801 (va_up (zuC cs tr lL ch d) ((lL + d) + 1) 1000000000000))]) rfl (by decide) (by decide) (fun zu => []) (fun _ => rfl) (fun zu H locs hφ hP hD hS => ?_)
          have hP : va_P (dC, dI) vwCl ([(xK, zaN (cT 0) 4 tk), (xR, zaJ (cT 1) 4 tr), (aT, zaJ (cT 1) 32 (zuT tb tk tr ch d)), (aP, zaN (cT 0) 8 (zuP pn tk lL ch d)), (hg, zoLg lS aK aC aT aP ((lL + d) + 1) lC lA lP), (aK, zaI (cT 0) 801 (va_up (zuK ks tk lL ch d) ((lL + d) + 1) (-2))), (aC, zaJ (cT 1) 801 (va_up (zuC cs tr lL ch d) ((lL + d) + 1) 1000000000000)), (h0, zoTx xK xR 0 false)]) H := hP
          have hD : va_D A ([(xK, zaN (cT 0) 4 tk), (xR, zaJ (cT 1) 4 tr), (aT, zaJ (cT 1) 32 (zuT tb tk tr ch d)), (aP, zaN (cT 0) 8 (zuP pn tk lL ch d)), (hg, zoLg lS aK aC aT aP ((lL + d) + 1) lC lA lP), (aK, zaI (cT 0) 801 (va_up (zuK ks tk lL ch d) ((lL + d) + 1) (-2))), (aC, zaJ (cT 1) 801 (va_up (zuC cs tr lL ch d) ((lL + d) + 1) 1000000000000)), (h0, zoTx xK xR 0 false)]) := hD
          have hP9 := hP.sub (ws' := [(h0, zoTx xK xR 0 false), (xK, zaN (cT 0) 4 tk), (xR, zaJ (cT 1) 4 tr), (hg, zoLg lS aK aC aT aP ((lL + d) + 1) lC lA lP), (aK, zaI (cT 0) 801 (va_up (zuK ks tk lL ch d) ((lL + d) + 1) (-2))), (aC, zaJ (cT 1) 801 (va_up (zuC cs tr lL ch d) ((lL + d) + 1) 1000000000000)), (aT, zaJ (cT 1) 32 (zuT tb tk tr ch d)), (aP, zaN (cT 0) 8 (zuP pn tk lL ch d))]) [7, 0, 1, 4, 5, 6, 2, 3] rfl
          have hD9 := hD.sub (ws' := [(h0, zoTx xK xR 0 false), (xK, zaN (cT 0) 4 tk), (xR, zaJ (cT 1) 4 tr), (hg, zoLg lS aK aC aT aP ((lL + d) + 1) lC lA lP), (aK, zaI (cT 0) 801 (va_up (zuK ks tk lL ch d) ((lL + d) + 1) (-2))), (aC, zaJ (cT 1) 801 (va_up (zuC cs tr lL ch d) ((lL + d) + 1) 1000000000000)), (aT, zaJ (cT 1) 32 (zuT tb tk tr ch d)), (aP, zaN (cT 0) 8 (zuP pn tk lL ch d))]) [7, 0, 1, 4, 5, 6, 2, 3] (by decide) rfl
          rw [hd] at hP9 hD9
          have hP9 : va_P (dC, dI) vwCl ([(h0, zoTx xK xR 0 false), (xK, zaN (cT 0) 4 tk), (xR, zaJ (cT 1) 4 tr), (hg, zoLg lS aK aC aT aP (zuL lL ch) lC lA lP), (aK, zaI (cT 0) 801 (zuKe ks tk lL ch)), (aC, zaJ (cT 1) 801 (zuCe cs tr lL ch)), (aT, zaJ (cT 1) 32 (zuT tb tk tr ch ch)), (aP, zaN (cT 0) 8 (zuP pn tk lL ch ch))]) H := by simp only [zuL, zuKe, zuCe, if_neg (show ¬ ch = 0 by omega)]; exact hP9
          have hD9 : va_D A ([(h0, zoTx xK xR 0 false), (xK, zaN (cT 0) 4 tk), (xR, zaJ (cT 1) 4 tr), (hg, zoLg lS aK aC aT aP (zuL lL ch) lC lA lP), (aK, zaI (cT 0) 801 (zuKe ks tk lL ch)), (aC, zaJ (cT 1) 801 (zuCe cs tr lL ch)), (aT, zaJ (cT 1) 32 (zuT tb tk tr ch ch)), (aP, zaN (cT 0) 8 (zuP pn tk lL ch ch))]) := by simp only [zuL, zuKe, zuCe, if_neg (show ¬ ch = 0 by omega)]; exact hD9
          exact W.vret hx hb hr (fun t ht hW => ⟨⟨(), trivial, rfl, by rw [ht]; exact hP9, hD9⟩, hS.F ht⟩) hS.2.2 d_Tx_undoIn_49
  exact loop_7 (ch - 0 + 1) 0 (by omega) (by first | omega | assumption) s.heap [] (hP.sub [0, 1, 2, 3, 4, 5, 6, 7] rfl) (hD.sub [0, 1, 2, 3, 4, 5, 6, 7] (by decide) rfl) hS ls (lv_sub hl [1, 2, 0] rfl)
set_option maxHeartbeats 4000000 in
set_option maxRecDepth 100000 in
theorem c_Bk_init (l : Launch) (dC : Nat → ClassId) (dI : Nat → Nat → Nat) (cT : Nat → ClassId) (sz : Nat) (h0 : Nat) (bS : Nat) (bF : Bool) : Met l y_Bk_init w_Bk_init ({ frames := 1, cells := 1, slots := 8, locals := 23 } : Room) (zPre (dC, dI) vwCl (zT cT) [.ref h0, .int (zb bF), .int (nI bS)] ([(h0, .inr (4, [.int (zb false), .int (nI 0), .null, .int (nI 0), .int (nI 0), .int (nI 0)]))]) sz) (zQ (dC, dI) vwCl (S := Nat) (fun zu => True) (fun zu => none) (fun zu => [(h0, bkE bF bS zu 0 0 0), (zu, zaI (cT 0) 8 (zfill (fun _ => nI 0) (-1) 8))]) (va_A ([(h0, .inr (4, [.int (zb false), .int (nI 0), .null, .int (nI 0), .int (nI 0), .int (nI 0)]))]) sz)) 1 8 (va_A ([(h0, .inr (4, [.int (zb false), .int (nI 0), .null, .int (nI 0), .int (nI 0), .int (nI 0)]))]) sz) := by
  refine Met.ofW (cc := b_Bk_init) (maxL := 3) (ret := none) (by decide) rfl ?_
  intro p e s m args below meth c s₁ B hml hv
  obtain ⟨rfl, hsz, hP, hK, hD0, hE⟩ := hv
  have hx := B.exec
  have hb := B.bytes
  have hr := B.returns
  have hts := fun w h => atoms_spec (ws := w_Bk_init) B.pre w (List.mem_cons_of_mem _ h)
  have hown : s.vm.findClass R_Bk = some m.cls := findClass_of_methodNamed B.named
  have hlocks := B.notSynchronized
  have hin : meth.name = "<init>" := (name_of_methodNamed B.named B.method).1
  subst hsz
  have hD := hD0.self (sz := s.heap.size)
  generalize hAe : va_A ([(h0, .inr (4, [.int (zb false), .int (nI 0), .null, .int (nI 0), .int (nI 0), .int (nI 0)]))]) s.heap.size = A at hD ⊢
  have hA : ∀ q : Nat, s.heap.size ≤ q → A q := fun q h => by rw [← hAe]; exact Or.inr h
  have hS : va_S A s.heap s.heap [] := va_S.rf
  have hl := lv_entry ([.ref h0, .int (zb bF), .int (nI bS)]) (n := 3) (Nat.le_of_ble_eq_true rfl)
  rw [lg_entry_eq]
  generalize (lg_sl ([.ref h0, .int (zb bF), .int (nI bS)]) ++ List.replicate (3 - (lg_sl ([.ref h0, .int (zb bF), .int (nI bS)])).length) Slot.unset).toArray = ls at hl ⊢
  have hl : lv_has ls 3 [(0, .ref h0), (1, .int (zb bF)), (2, .int (nI bS))] := hl
  refine lv_aload_n hx hb d_Bk_init_0 rfl (lv_at hl 0 rfl) ?_
  refine W.objInit hx hb hown (hts _ wd_302) (hts _ wd_23) (hts _ wd_24) rfl (by rw [hml]; exact hl.1) rfl d_Bk_init_1 (Nat.le_of_ble_eq_true rfl) (Nat.le_of_ble_eq_true rfl) ?_
  refine W.eq (g2 := F0 m 4 ls []) rfl ?_
  refine lv_aload_n hx hb d_Bk_init_4 rfl (lv_at hl 0 rfl) ?_
  refine lv_bipush (v := (nI 8)) hx hb d_Bk_init_5 (by decide) ?_
  refine zn_newI (N := 8) hx hb (hts _ wd_44) hK hP hD hS hA 0 rfl (by omega) (Nat.le_of_ble_eq_true rfl) (Nat.le_of_ble_eq_true rfl) d_Bk_init_7 (fun q_1 H hP hD hS => ?_)
  refine W.widen (k := 1) (n := 8) (by first | omega | exact Nat.le_of_ble_eq_true rfl) (by first | omega | exact Nat.le_of_ble_eq_true rfl) ?_
  have hP : va_P (dC, dI) vwCl ([(h0, .inr (4, [.int (zb false), .int (nI 0), .null, .int (nI 0), .int (nI 0), .int (nI 0)])), (q_1, zaI (cT 0) 8 (fun _ => nI 0))]) H := hP
  have hD : va_D A ([(h0, .inr (4, [.int (zb false), .int (nI 0), .null, .int (nI 0), .int (nI 0), .int (nI 0)])), (q_1, zaI (cT 0) 8 (fun _ => nI 0))]) := hD
  refine va_putF (D := (dC, dI)) (ci := 4) (v := .ref q_1) (ty := (.array .int)) (C := R_Bk) (T := F_Bk) (N := 6) hx hb hts i_Bk t_Bk t_Bk_ok n_Bk hown hK hP hD hS 0 rfl rfl 2 (by decide) (hts _ wd_312) (fun _ h9 => h9) rfl hin rfl (by decide +kernel) rfl rfl (Nat.le_of_ble_eq_true rfl) d_Bk_init_9 (fun H locs hP hD hS => ?_)
  have hP : va_P (dC, dI) vwCl ([(h0, bkE false 0 q_1 0 0 0), (q_1, zaI (cT 0) 8 (fun _ => nI 0))]) H := hP
  have hD : va_D A ([(h0, bkE false 0 q_1 0 0 0), (q_1, zaI (cT 0) 8 (fun _ => nI 0))]) := hD
  refine lv_aload_n hx hb d_Bk_init_12 rfl (lv_at hl 0 rfl) ?_
  refine lv_iconst (v := (nI 0)) hx hb d_Bk_init_13 (by decide) ?_
  refine va_put (D := (dC, dI)) (ci := 4) (v := .int (nI 0)) (ty := .int) (C := R_Bk) (T := F_Bk) (N := 6) hx hb hts i_Bk t_Bk t_Bk_ok n_Bk hown hK hP hD hS 0 rfl rfl 3 (by decide) (hts _ wd_313) (fun _ h9 => h9) rfl (by decide +kernel) rfl rfl (Nat.le_of_ble_eq_true rfl) d_Bk_init_14 (fun H locs hP hD hS => ?_)
  have hP : va_P (dC, dI) vwCl ([(h0, bkE false 0 q_1 0 0 0), (q_1, zaI (cT 0) 8 (fun _ => nI 0))]) H := hP
  have hD : va_D A ([(h0, bkE false 0 q_1 0 0 0), (q_1, zaI (cT 0) 8 (fun _ => nI 0))]) := hD
  refine lv_aload_n hx hb d_Bk_init_17 rfl (lv_at hl 0 rfl) ?_
  refine lv_iconst (v := (nI 0)) hx hb d_Bk_init_18 (by decide) ?_
  refine va_put (D := (dC, dI)) (ci := 4) (v := .int (nI 0)) (ty := .int) (C := R_Bk) (T := F_Bk) (N := 6) hx hb hts i_Bk t_Bk t_Bk_ok n_Bk hown hK hP hD hS 0 rfl rfl 4 (by decide) (hts _ wd_316) (fun _ h9 => h9) rfl (by decide +kernel) rfl rfl (Nat.le_of_ble_eq_true rfl) d_Bk_init_19 (fun H locs hP hD hS => ?_)
  have hP : va_P (dC, dI) vwCl ([(h0, bkE false 0 q_1 0 0 0), (q_1, zaI (cT 0) 8 (fun _ => nI 0))]) H := hP
  have hD : va_D A ([(h0, bkE false 0 q_1 0 0 0), (q_1, zaI (cT 0) 8 (fun _ => nI 0))]) := hD
  refine lv_aload_n hx hb d_Bk_init_22 rfl (lv_at hl 0 rfl) ?_
  refine lv_iconst (v := (nI 0)) hx hb d_Bk_init_23 (by decide) ?_
  refine va_put (D := (dC, dI)) (ci := 4) (v := .int (nI 0)) (ty := .int) (C := R_Bk) (T := F_Bk) (N := 6) hx hb hts i_Bk t_Bk t_Bk_ok n_Bk hown hK hP hD hS 0 rfl rfl 5 (by decide) (hts _ wd_318) (fun _ h9 => h9) rfl (by decide +kernel) rfl rfl (Nat.le_of_ble_eq_true rfl) d_Bk_init_24 (fun H locs hP hD hS => ?_)
  have hP : va_P (dC, dI) vwCl ([(h0, bkE false 0 q_1 0 0 0), (q_1, zaI (cT 0) 8 (fun _ => nI 0))]) H := hP
  have hD : va_D A ([(h0, bkE false 0 q_1 0 0 0), (q_1, zaI (cT 0) 8 (fun _ => nI 0))]) := hD
  refine lv_aload_n hx hb d_Bk_init_27 rfl (lv_at hl 0 rfl) ?_
  refine lv_iload_n hx hb d_Bk_init_28 rfl (lv_at hl 1 rfl) ?_
  refine va_putF (D := (dC, dI)) (ci := 4) (v := .int (zb bF)) (ty := .boolean) (C := R_Bk) (T := F_Bk) (N := 6) hx hb hts i_Bk t_Bk t_Bk_ok n_Bk hown hK hP hD hS 0 rfl rfl 0 (by decide) (hts _ wd_306) (fun _ h9 => h9) rfl hin rfl (by decide +kernel) (zb_narrow _) (zb_fits _) (Nat.le_of_ble_eq_true rfl) d_Bk_init_29 (fun H locs hP hD hS => ?_)
  have hP : va_P (dC, dI) vwCl ([(h0, bkE bF 0 q_1 0 0 0), (q_1, zaI (cT 0) 8 (fun _ => nI 0))]) H := hP
  have hD : va_D A ([(h0, bkE bF 0 q_1 0 0 0), (q_1, zaI (cT 0) 8 (fun _ => nI 0))]) := hD
  refine lv_aload_n hx hb d_Bk_init_32 rfl (lv_at hl 0 rfl) ?_
  refine lv_iload_n hx hb d_Bk_init_33 rfl (lv_at hl 2 rfl) ?_
  refine va_putF (D := (dC, dI)) (ci := 4) (v := .int (nI bS)) (ty := .int) (C := R_Bk) (T := F_Bk) (N := 6) hx hb hts i_Bk t_Bk t_Bk_ok n_Bk hown hK hP hD hS 0 rfl rfl 1 (by decide) (hts _ wd_309) (fun _ h9 => h9) rfl hin rfl (by decide +kernel) rfl rfl (Nat.le_of_ble_eq_true rfl) d_Bk_init_34 (fun H locs hP hD hS => ?_)
  have hP : va_P (dC, dI) vwCl ([(h0, bkE bF bS q_1 0 0 0), (q_1, zaI (cT 0) 8 (fun _ => nI 0))]) H := hP
  have hD : va_D A ([(h0, bkE bF bS q_1 0 0 0), (q_1, zaI (cT 0) 8 (fun _ => nI 0))]) := hD
  refine lv_aload_n hx hb d_Bk_init_37 rfl (lv_at hl 0 rfl) ?_
  refine va_get (D := (dC, dI)) (ci := 4) (v := .ref q_1) (C := R_Bk) (T := F_Bk) (N := 6) hx hb hts i_Bk hown hK hP 0 rfl rfl 2 (by decide) (hts _ wd_312) (fun _ h9 => h9) rfl d_Bk_init_38 ?_
  refine lv_iconst (v := (-1)) hx hb d_Bk_init_41 (by decide) ?_
  refine zw_Q (X := [(h0, bkE bF bS q_1 0 0 0), (q_1, zaI (cT 0) 8 (fun _ => nI 0))]) (pl := []) (va_runS (As := [.ref q_1, .int (-1)]) (rest := []) ⟨hx, hb, hml, hown, hts⟩ (c_Ar_fill_2I l dC dI cT H.size q_1 8 (fun _ => nI 0) (-1) (by first | omega | assumption)) (va_cwS 2 hts (zgS wd_303 wd_304 wd_6 wd_305) rfl rfl rfl (by decide +kernel) ⟨Nat.le_of_ble_eq_true rfl, Nat.le_of_ble_eq_true rfl⟩) ⟨zPre_blind, zp_Q (X := [(h0, bkE bF bS q_1 0 0 0), (q_1, zaI (cT 0) 8 (fun _ => nI 0))]) (pl := []) hK hE hP hD [1] (by decide) rfl⟩ rfl rfl hl.1 rfl (lv_room (Nat.le_of_ble_eq_true rfl)) d_Bk_init_42 ⟨Nat.le_of_ble_eq_true rfl, Nat.le_of_ble_eq_true rfl⟩) hP hD hS hA [1] [0] rfl (wr := [(h0, bkE bF bS q_1 0 0 0)]) rfl (by decide) (by decide) (fun zu => []) (fun _ => rfl) (fun zu H locs hφ hP hD hS => ?_)
  have hP : va_P (dC, dI) vwCl ([(h0, bkE bF bS q_1 0 0 0), (q_1, zaI (cT 0) 8 (zfill (fun _ => nI 0) (-1) 8))]) H := hP
  have hD : va_D A ([(h0, bkE bF bS q_1 0 0 0), (q_1, zaI (cT 0) 8 (zfill (fun _ => nI 0) (-1) 8))]) := hD
  have hP9 := hP.sub (ws' := [(h0, bkE bF bS q_1 0 0 0), (q_1, zaI (cT 0) 8 (zfill (fun _ => nI 0) (-1) 8))]) [0, 1] rfl
  have hD9 := hD.sub (ws' := [(h0, bkE bF bS q_1 0 0 0), (q_1, zaI (cT 0) 8 (zfill (fun _ => nI 0) (-1) 8))]) [0, 1] (by decide) rfl
  exact W.vret hx hb hr (fun t ht hW => ⟨⟨q_1, trivial, rfl, by rw [ht]; exact hP9, hD9⟩, hS.F ht⟩) hS.2.2 d_Bk_init_45
set_option maxHeartbeats 4000000 in
set_option maxRecDepth 100000 in
theorem c_Bk_takeImage (l : Launch) (dC : Nat → ClassId) (dI : Nat → Nat → Nat) (cT : Nat → ClassId) (sz : Nat) (h0 : Nat) (bS : Nat) (bA : Nat) (bE : Nat) (bM : Nat) (bV : Nat) (bF : Bool) (k : Nat) (n : Nat) (im : Nat → Int32) (hk : k < 8) (hM : bM < 2 ^ 30) : Met l y_Bk_takeImage w_Bk_takeImage ({ frames := 0, cells := 0, slots := 0, locals := 0 } : Room) (zPre (dC, dI) vwCl (zT cT) [.ref h0, .int (nI k), .int (nI n)] ([(h0, bkE bF bS bA bE bM bV), (bA, zaI (cT 0) 8 im)]) sz) (zQ (dC, dI) vwCl (S := Unit) (fun zu => True) (fun zu => none) (fun zu => [(h0, bkE bF bS bA bE (bM + 1) bV), (bA, zaI (cT 0) 8 (va_up im k (nI n)))]) (va_A ([(h0, bkE bF bS bA bE bM bV), (bA, zaI (cT 0) 8 im)]) sz)) 0 0 (va_A ([(h0, bkE bF bS bA bE bM bV), (bA, zaI (cT 0) 8 im)]) sz) := by
  refine Met.ofW (cc := b_Bk_takeImage) (maxL := 3) (ret := none) (by decide) rfl ?_
  intro p e s m args below meth c s₁ B hml hv
  obtain ⟨rfl, hsz, hP, hK, hD0, hE⟩ := hv
  have hx := B.exec
  have hb := B.bytes
  have hr := B.returns
  have hts := fun w h => atoms_spec (ws := w_Bk_takeImage) B.pre w (List.mem_cons_of_mem _ h)
  have hown : s.vm.findClass R_Bk = some m.cls := findClass_of_methodNamed B.named
  have hlocks := B.notSynchronized
  subst hsz
  have hD := hD0.self (sz := s.heap.size)
  generalize hAe : va_A ([(h0, bkE bF bS bA bE bM bV), (bA, zaI (cT 0) 8 im)]) s.heap.size = A at hD ⊢
  have hA : ∀ q : Nat, s.heap.size ≤ q → A q := fun q h => by rw [← hAe]; exact Or.inr h
  have hS : va_S A s.heap s.heap [] := va_S.rf
  have hl := lv_entry ([.ref h0, .int (nI k), .int (nI n)]) (n := 3) (Nat.le_of_ble_eq_true rfl)
  rw [lg_entry_eq]
  generalize (lg_sl ([.ref h0, .int (nI k), .int (nI n)]) ++ List.replicate (3 - (lg_sl ([.ref h0, .int (nI k), .int (nI n)])).length) Slot.unset).toArray = ls at hl ⊢
  have hl : lv_has ls 3 [(0, .ref h0), (1, .int (nI k)), (2, .int (nI n))] := hl
  refine lv_aload_n hx hb d_Bk_takeImage_0 rfl (lv_at hl 0 rfl) ?_
  refine va_get (D := (dC, dI)) (ci := 4) (v := .ref bA) (C := R_Bk) (T := F_Bk) (N := 6) hx hb hts i_Bk hown hK hP 0 rfl rfl 2 (by decide) (hts _ wd_312) (fun _ h9 => h9) rfl d_Bk_takeImage_1 ?_
  refine lv_iload_n hx hb d_Bk_takeImage_4 rfl (lv_at hl 1 rfl) ?_
  refine lv_iload_n hx hb d_Bk_takeImage_5 rfl (lv_at hl 2 rfl) ?_
  refine zn_iast hx hb hK hP hD hS 1 0 rfl rfl (i := k) (x := (nI n)) (by omega) (by omega) d_Bk_takeImage_6 (fun H locs hP hD hS => ?_)
  have hP : va_P (dC, dI) vwCl ([(h0, bkE bF bS bA bE bM bV), (bA, zaI (cT 0) 8 (va_up im k (nI n)))]) H := hP
  have hD : va_D A ([(h0, bkE bF bS bA bE bM bV), (bA, zaI (cT 0) 8 (va_up im k (nI n)))]) := hD
  refine lv_aload_n hx hb d_Bk_takeImage_7 rfl (lv_at hl 0 rfl) ?_
  refine lv_dup hx hb d_Bk_takeImage_8 rfl ?_
  refine va_get (D := (dC, dI)) (ci := 4) (v := .int (nI bM)) (C := R_Bk) (T := F_Bk) (N := 6) hx hb hts i_Bk hown hK hP 0 rfl rfl 4 (by decide) (hts _ wd_316) (fun _ h9 => h9) rfl d_Bk_takeImage_9 ?_
  refine lv_iconst (v := (nI 1)) hx hb d_Bk_takeImage_12 (by decide) ?_
  refine zn_iadd hx hb d_Bk_takeImage_13 ?_
  refine va_put (D := (dC, dI)) (ci := 4) (v := .int (nI (bM + 1))) (ty := .int) (C := R_Bk) (T := F_Bk) (N := 6) hx hb hts i_Bk t_Bk t_Bk_ok n_Bk hown hK hP hD hS 0 rfl rfl 4 (by decide) (hts _ wd_316) (fun _ h9 => h9) rfl (by decide +kernel) rfl rfl (Nat.le_of_ble_eq_true rfl) d_Bk_takeImage_14 (fun H locs hP hD hS => ?_)
  have hP : va_P (dC, dI) vwCl ([(h0, bkE bF bS bA bE (bM + 1) bV), (bA, zaI (cT 0) 8 (va_up im k (nI n)))]) H := hP
  have hD : va_D A ([(h0, bkE bF bS bA bE (bM + 1) bV), (bA, zaI (cT 0) 8 (va_up im k (nI n)))]) := hD
  have hP9 := hP.sub (ws' := [(h0, bkE bF bS bA bE (bM + 1) bV), (bA, zaI (cT 0) 8 (va_up im k (nI n)))]) [0, 1] rfl
  have hD9 := hD.sub (ws' := [(h0, bkE bF bS bA bE (bM + 1) bV), (bA, zaI (cT 0) 8 (va_up im k (nI n)))]) [0, 1] (by decide) rfl
  exact W.vret hx hb hr (fun t ht hW => ⟨⟨(), trivial, rfl, by rw [ht]; exact hP9, hD9⟩, hS.F ht⟩) hS.2.2 d_Bk_takeImage_17
set_option maxHeartbeats 4000000 in
set_option maxRecDepth 100000 in
theorem c_Bk_hasImageOf (l : Launch) (dC : Nat → ClassId) (dI : Nat → Nat → Nat) (cT : Nat → ClassId) (h0 : Nat) (bS : Nat) (bA : Nat) (bE : Nat) (bM : Nat) (bV : Nat) (bF : Bool) (k : Nat) (im : Nat → Int32) (hk : k < 8) : Met l y_Bk_hasImageOf w_Bk_hasImageOf ({ frames := 0, cells := 0, slots := 0, locals := 0 } : Room) (zPreR (dC, dI) vwCl (zT cT) [.ref h0, .int (nI k)] ([(h0, bkE bF bS bA bE bM bV), (bA, zaI (cT 0) 8 im)])) (k2_QcV (.int (zb (decide (¬ im k = -1))))) 0 0 (fun _ => False) := by
  refine Met.ofW (cc := b_Bk_hasImageOf) (maxL := 2) (ret := (some .boolean)) (by decide) rfl ?_
  intro p e s m args below meth c s₁ B hml hv
  obtain ⟨rfl, hP, hK, hE⟩ := hv
  have hx := B.exec
  have hb := B.bytes
  have hr := B.returns
  have hts := fun w h => atoms_spec (ws := w_Bk_hasImageOf) B.pre w (List.mem_cons_of_mem _ h)
  have hown : s.vm.findClass R_Bk = some m.cls := findClass_of_methodNamed B.named
  have hlocks := B.notSynchronized
  have hl := lv_entry ([.ref h0, .int (nI k)]) (n := 2) (Nat.le_of_ble_eq_true rfl)
  rw [lg_entry_eq]
  generalize (lg_sl ([.ref h0, .int (nI k)]) ++ List.replicate (2 - (lg_sl ([.ref h0, .int (nI k)])).length) Slot.unset).toArray = ls at hl ⊢
  have hl : lv_has ls 2 [(0, .ref h0), (1, .int (nI k))] := hl
  refine lv_aload_n hx hb d_Bk_hasImageOf_0 rfl (lv_at hl 0 rfl) ?_
  refine va_get (D := (dC, dI)) (ci := 4) (v := .ref bA) (C := R_Bk) (T := F_Bk) (N := 6) hx hb hts i_Bk hown hK hP 0 rfl rfl 2 (by decide) (hts _ wd_312) (fun _ h9 => h9) rfl d_Bk_hasImageOf_1 ?_
  refine lv_iload_n hx hb d_Bk_hasImageOf_4 rfl (lv_at hl 1 rfl) ?_
  refine zn_iald hx hb hK hP 1 0 rfl rfl (i := k) (by omega) (by omega) d_Bk_hasImageOf_5 ?_
  refine lv_iconst (v := (-1)) hx hb d_Bk_hasImageOf_6 (by decide) ?_
  refine lv_icmp_eq (tgt := 14) hx hb d_Bk_hasImageOf_7 (by decide) (fun c_7 => ?_) (fun c_7 => ?_)
  · refine lv_iconst (v := (nI 0)) hx hb d_Bk_hasImageOf_14 (by decide) ?_
    refine W.eq (g2 := F0 m 15 ls [.int (zb false)]) rfl ?_
    exact W.zret hx hb hr (zb_narrow _) (fun t ht hW => ⟨by rw [decide_eq_false (by simp [c_7])], ht⟩) (fun q h => by cases h) d_Bk_hasImageOf_15
  · refine lv_iconst (v := (nI 1)) hx hb d_Bk_hasImageOf_10 (by decide) ?_
    refine lv_goto (tgt := 15) hx hb d_Bk_hasImageOf_11 (by decide) ?_
    refine W.eq (g2 := F0 m 15 ls [.int (zb true)]) rfl ?_
    exact W.zret hx hb hr (zb_narrow _) (fun t ht hW => ⟨by rw [decide_eq_true c_7], ht⟩) (fun q h => by cases h) d_Bk_hasImageOf_15
set_option maxHeartbeats 4000000 in
set_option maxRecDepth 100000 in
theorem c_Bk_imageNumberOf (l : Launch) (dC : Nat → ClassId) (dI : Nat → Nat → Nat) (cT : Nat → ClassId) (h0 : Nat) (bS : Nat) (bA : Nat) (bE : Nat) (bM : Nat) (bV : Nat) (bF : Bool) (k : Nat) (im : Nat → Int32) (hk : k < 8) : Met l y_Bk_imageNumberOf w_Bk_imageNumberOf ({ frames := 0, cells := 0, slots := 0, locals := 0 } : Room) (zPreR (dC, dI) vwCl (zT cT) [.ref h0, .int (nI k)] ([(h0, bkE bF bS bA bE bM bV), (bA, zaI (cT 0) 8 im)])) (k2_QcV (.int (im k))) 0 0 (fun _ => False) := by
  refine Met.ofW (cc := b_Bk_imageNumberOf) (maxL := 2) (ret := (some .int)) (by decide) rfl ?_
  intro p e s m args below meth c s₁ B hml hv
  obtain ⟨rfl, hP, hK, hE⟩ := hv
  have hx := B.exec
  have hb := B.bytes
  have hr := B.returns
  have hts := fun w h => atoms_spec (ws := w_Bk_imageNumberOf) B.pre w (List.mem_cons_of_mem _ h)
  have hown : s.vm.findClass R_Bk = some m.cls := findClass_of_methodNamed B.named
  have hlocks := B.notSynchronized
  have hl := lv_entry ([.ref h0, .int (nI k)]) (n := 2) (Nat.le_of_ble_eq_true rfl)
  rw [lg_entry_eq]
  generalize (lg_sl ([.ref h0, .int (nI k)]) ++ List.replicate (2 - (lg_sl ([.ref h0, .int (nI k)])).length) Slot.unset).toArray = ls at hl ⊢
  have hl : lv_has ls 2 [(0, .ref h0), (1, .int (nI k))] := hl
  refine lv_aload_n hx hb d_Bk_imageNumberOf_0 rfl (lv_at hl 0 rfl) ?_
  refine va_get (D := (dC, dI)) (ci := 4) (v := .ref bA) (C := R_Bk) (T := F_Bk) (N := 6) hx hb hts i_Bk hown hK hP 0 rfl rfl 2 (by decide) (hts _ wd_312) (fun _ h9 => h9) rfl d_Bk_imageNumberOf_1 ?_
  refine lv_iload_n hx hb d_Bk_imageNumberOf_4 rfl (lv_at hl 1 rfl) ?_
  refine zn_iald hx hb hK hP 1 0 rfl rfl (i := k) (by omega) (by omega) d_Bk_imageNumberOf_5 ?_
  exact W.iret hx hb hr (fun t ht hW => ⟨rfl, ht⟩) (fun q h => by cases h) d_Bk_imageNumberOf_6
