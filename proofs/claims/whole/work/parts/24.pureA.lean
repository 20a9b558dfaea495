/-! the two sides held against one another: the log, the open transaction, the scratch table -/
theorem nI_ne_neg {k : Nat} {x : Int32} (h : k < 2 ^ 31) (hx : x < 0) : ¬ x = nI k := fun q => nI_pos h (q ▸ hx)
theorem zaf_cong {mk mv mk' mv' : Nat → Int32} {mh mh' : Nat → Bool} {k : Int32} : ∀ n, (∀ j, 1 ≤ j → j ≤ n → mk' j = mk j ∧ mv' j = mv j ∧ mh' j = mh j) → zaf mk' mv' mh' k n = zaf mk mv mh k n := by
  intro n
  induction n with
  | zero => intro _; rfl
  | succ n ih =>
    intro h
    obtain ⟨h1, h2, h3⟩ := h (n + 1) (by omega) (by omega)
    simp only [zaf, h1, h2, h3, ih (fun j a b => h j a (by omega))]
theorem znum_cong {mk mk' : Nat → Int32} {pg : Nat} : ∀ n, (∀ j, 1 ≤ j → j ≤ n → mk' j = mk j) → znum mk' pg n = znum mk pg n := by
  intro n
  induction n with
  | zero => intro _; rfl
  | succ n ih =>
    intro h
    simp only [znum, h (n + 1) (by omega) (by omega), ih (fun j a b => h j a (by omega))]
theorem zcom_cong {mk mk' : Nat → Int32} : ∀ n, (∀ j, 1 ≤ j → j ≤ n → mk' j = mk j) → zcom mk' n = zcom mk n := by
  intro n
  induction n with
  | zero => intro _; rfl
  | succ n ih =>
    intro h
    simp only [zcom, h (n + 1) (by omega) (by omega), ih (fun j a b => h j a (by omega))]
theorem zaf_val (mk mv : Nat → Int32) (mh : Nat → Bool) (k : Int32) : ∀ n, zaf mk mv mh k n = 1000000000000 ∨ ∃ v : Int32, zaf mk mv mh k n = v.toInt64
  | 0 => Or.inl rfl
  | n + 1 => by
    simp only [zaf]
    by_cases h1 : mk (n + 1) = k
    · rw [if_pos h1]
      by_cases h2 : mh (n + 1) = true
      · rw [if_pos h2]; exact Or.inr ⟨_, rfl⟩
      · rw [if_neg h2]; exact Or.inl rfl
    · rw [if_neg h1]
      exact zaf_val mk mv mh k n
theorem zvv_back {w : Int64} (h : w = 1000000000000 ∨ ∃ v : Int32, w = v.toInt64) : (if decide (¬ w = 1000000000000) = true then (zvv w).toInt64 else 1000000000000) = w := by
  by_cases q : w = 1000000000000
  · rw [if_neg (show ¬ decide (¬ w = 1000000000000) = true from fun z => of_decide_eq_true z q)]; exact q.symm
  · rw [if_pos (decide_eq_true q), zvv, if_neg q]
    rcases h with h | ⟨v, rfl⟩
    · exact absurd h q
    · rw [Int32.toInt32_toInt64]
/-- what a record says of its key -/
def cfe (mv : Nat → Int32) (mh : Nat → Bool) (j : Nat) : Int64 := if mh j = true then (mv j).toInt64 else 1000000000000
/-- the log of both sides -/
def iL (mL : Nat) (mk mv : Nat → Int32) (mh : Nat → Bool) (lC : Nat) (ks : Nat → Int32) (cs tb : Nat → Int64) (pn : Nat → Nat) : Prop :=
  ks = mk ∧ lC = zcom mk mL ∧ (∀ j, 1 ≤ j → j ≤ mL → cs j = cfe mv mh j) ∧ (∀ k, k < 32 → tb k = zaf mk mv mh (nI k) mL) ∧ (∀ p, pn p = znum mk p mL) ∧ (∀ i, 1 ≤ i → i ≤ mL → ¬ mk i < 0 → isIn (mk i) 32 = true)
theorem iL_chg {mL k lC : Nat} {mk mv ks : Nat → Int32} {mh : Nat → Bool} {cs tb : Nat → Int64} {pn : Nat → Nat} {v : Int32} {h : Bool} (hk : k < 32) (I : iL mL mk mv mh lC ks cs tb pn) :
    iL (mL + 1) (va_up mk (mL + 1) (nI k)) (va_up mv (mL + 1) v) (va_up mh (mL + 1) h) lC (va_up ks (mL + 1) (nI k)) (va_up cs (mL + 1) (if h = true then v.toInt64 else 1000000000000)) (va_up tb k (if h = true then v.toInt64 else 1000000000000)) (va_up pn (k / 4) (mL + 1)) := by
  obtain ⟨e1, e2, hc, ht, hp, hq⟩ := I
  have g : ∀ j, 1 ≤ j → j ≤ mL → va_up mk (mL + 1) (nI k) j = mk j := fun j _ b => va_up_ne _ _ (by omega)
  have gz : ∀ x, zaf (va_up mk (mL + 1) (nI k)) (va_up mv (mL + 1) v) (va_up mh (mL + 1) h) x mL = zaf mk mv mh x mL := fun x => zaf_cong mL (fun j a b => ⟨va_up_ne _ _ (by omega), va_up_ne _ _ (by omega), va_up_ne _ _ (by omega)⟩)
  refine ⟨by rw [e1], ?_, ?_, ?_, ?_, ?_⟩
  · rw [e2, zcom, zcom_cong mL g, va_up_self, if_neg (nI_ne_m1 (by omega)), Nat.add_zero]
  · intro j a b
    by_cases q : j = mL + 1
    · subst q
      simp only [cfe, va_up_self]
    · rw [va_up_ne _ _ q, hc j a (by omega)]
      simp only [cfe, va_up_ne _ _ q]
  · intro k' hk1
    by_cases q : k' = k
    · subst q
      simp only [zaf, va_up_self, if_true]
    · rw [va_up_ne _ _ q, ht k' hk1]
      simp only [zaf, va_up_self]
      rw [if_neg (fun w => q ((nI_eq (by omega) (by omega)).mp w).symm), gz]
  · intro p'
    by_cases q : p' = k / 4
    · subst q
      rw [va_up_self, znum, va_up_self, if_pos ⟨isIn_nI (by decide) hk, by rw [kN_nI (by omega)]⟩]
    · rw [va_up_ne _ _ q, hp p', znum, va_up_self, if_neg (fun w => q (by rw [← w.2, kN_nI (by omega)])), znum_cong mL g]
  · intro i a b c
    by_cases q : i = mL + 1
    · subst q
      rw [va_up_self]
      exact isIn_nI (by decide) hk
    · rw [va_up_ne _ _ q] at c ⊢
      exact hq i a (by omega) c
theorem iL_mark {mL lC : Nat} {mk mv ks : Nat → Int32} {mh : Nat → Bool} {cs tb : Nat → Int64} {pn : Nat → Nat} {x w : Int32} (hx : x < 0) (I : iL mL mk mv mh lC ks cs tb pn) :
    iL (mL + 1) (va_up mk (mL + 1) x) (va_up mv (mL + 1) w) (va_up mh (mL + 1) false) (lC + if x = -1 then 1 else 0) (va_up ks (mL + 1) x) (va_up cs (mL + 1) 1000000000000) tb pn := by
  obtain ⟨e1, e2, hc, ht, hp, hq⟩ := I
  have g : ∀ j, 1 ≤ j → j ≤ mL → va_up mk (mL + 1) x j = mk j := fun j _ b => va_up_ne _ _ (by omega)
  have gz : ∀ y, zaf (va_up mk (mL + 1) x) (va_up mv (mL + 1) w) (va_up mh (mL + 1) false) y mL = zaf mk mv mh y mL := fun y => zaf_cong mL (fun j a b => ⟨va_up_ne _ _ (by omega), va_up_ne _ _ (by omega), va_up_ne _ _ (by omega)⟩)
  refine ⟨by rw [e1], ?_, ?_, ?_, ?_, ?_⟩
  · rw [e2, zcom, zcom_cong mL g, va_up_self]
  · intro j a b
    by_cases q : j = mL + 1
    · subst q
      simp only [cfe, va_up_self]
      rw [if_neg (by decide)]
    · rw [va_up_ne _ _ q, hc j a (by omega)]
      simp only [cfe, va_up_ne _ _ q]
  · intro k' hk1
    rw [ht k' hk1]
    simp only [zaf, va_up_self]
    rw [if_neg (nI_ne_neg (by omega) hx), gz]
  · intro p'
    rw [hp p', znum, va_up_self, if_neg (fun z => by rw [isIn_f1 hx] at z; exact absurd z.1 (by decide)), znum_cong mL g]
  · intro i a b c
    by_cases q : i = mL + 1
    · subst q
      rw [va_up_self] at c
      exact absurd hx c
    · rw [va_up_ne _ _ q] at c ⊢
      exact hq i a (by omega) c
theorem iL_com {mL lC : Nat} {mk mv ks : Nat → Int32} {mh : Nat → Bool} {cs tb : Nat → Int64} {pn : Nat → Nat} {w : Int32} (I : iL mL mk mv mh lC ks cs tb pn) :
    iL (mL + 1) (va_up mk (mL + 1) (-1)) (va_up mv (mL + 1) w) (va_up mh (mL + 1) false) (lC + 1) (va_up ks (mL + 1) (-1)) (va_up cs (mL + 1) 1000000000000) tb pn := by
  have S := iL_mark (x := -1) (w := w) (by decide) I
  rw [if_pos rfl] at S
  exact S
/-- what the open transaction remembers, on both sides -/
def iT (mL mch : Nat) (mo : Bool) (mk mv : Nat → Int32) (mh : Nat → Bool) (mm tk : Nat → Nat) (tr : Nat → Int64) : Prop :=
  mch ≤ 4 ∧ (mo = false → mch = 0) ∧ ∀ c, c < mch → 1 ≤ mm c ∧ mm c ≤ mL ∧ tk c < 32 ∧ mk (mm c) = nI (tk c) ∧ tr c = zaf mk mv mh (nI (tk c)) (mm c - 1)
def agr (mL : Nat) (mk mv mk' mv' : Nat → Int32) (mh mh' : Nat → Bool) : Prop := ∀ j, j ≤ mL → mk' j = mk j ∧ mv' j = mv j ∧ mh' j = mh j
theorem agr_up {mL : Nat} {mk mv : Nat → Int32} {mh : Nat → Bool} {x v : Int32} {h : Bool} : agr mL mk mv (va_up mk (mL + 1) x) (va_up mv (mL + 1) v) mh (va_up mh (mL + 1) h) := fun j hj => ⟨va_up_ne _ _ (by omega), va_up_ne _ _ (by omega), va_up_ne _ _ (by omega)⟩
theorem iL_undo {mL mch lC : Nat} {mk mv ks : Nat → Int32} {mh : Nat → Bool} {cs tb tr : Nat → Int64} {pn mm tk : Nat → Nat} (I : iL mL mk mv mh lC ks cs tb pn) (hT : ∀ c, c < mch → 1 ≤ mm c ∧ mm c ≤ mL ∧ tk c < 32 ∧ mk (mm c) = nI (tk c) ∧ tr c = zaf mk mv mh (nI (tk c)) (mm c - 1)) :
    ∀ d, d ≤ mch → iL (mL + d) (zv mk mv mh mm mL mch d).1 (zv mk mv mh mm mL mch d).2.1 (zv mk mv mh mm mL mch d).2.2 lC (zuK ks tk mL mch d) (zuC cs tr mL mch d) (zuT tb tk tr mch d) (zuP pn tk mL mch d) ∧ agr mL mk mv (zv mk mv mh mm mL mch d).1 (zv mk mv mh mm mL mch d).2.1 mh (zv mk mv mh mm mL mch d).2.2 := by
  intro d
  induction d with
  | zero => intro _; exact ⟨I, fun j _ => ⟨rfl, rfl, rfl⟩⟩
  | succ d ih =>
    intro hd
    obtain ⟨J, F⟩ := ih (by omega)
    obtain ⟨a1, a2, a3, a4, a5⟩ := hT (mch - (d + 1)) (by omega)
    have ek : (zv mk mv mh mm mL mch d).1 (mm (mch - (d + 1))) = nI (tk (mch - (d + 1))) := (F _ a2).1.trans a4
    have ez : zaf (zv mk mv mh mm mL mch d).1 (zv mk mv mh mm mL mch d).2.1 (zv mk mv mh mm mL mch d).2.2 (nI (tk (mch - (d + 1)))) (mm (mch - (d + 1)) - 1) = tr (mch - (d + 1)) := by
      rw [zaf_cong (mm (mch - (d + 1)) - 1) (fun j _ b => F j (by omega))]
      exact a5.symm
    have S := iL_chg (v := zvv (tr (mch - (d + 1)))) (h := decide (¬ tr (mch - (d + 1)) = 1000000000000)) a3 J
    rw [zvv_back (by rw [a5]; exact zaf_val _ _ _ _ _)] at S
    refine ⟨?_, ?_⟩
    · simp only [zv, zuK, zuC, zuT, zuP]
      rw [ek, ez]
      exact S
    · intro j hj
      obtain ⟨b1, b2, b3⟩ := F j hj
      simp only [zv]
      exact ⟨(va_up_ne _ _ (by omega)).trans b1, (va_up_ne _ _ (by omega)).trans b2, (va_up_ne _ _ (by omega)).trans b3⟩
theorem iL_undoE {mL mch lC : Nat} {mk mv ks : Nat → Int32} {mh : Nat → Bool} {cs tb tr : Nat → Int64} {pn mm tk : Nat → Nat} {mo : Bool} (I : iL mL mk mv mh lC ks cs tb pn) (T : iT mL mch mo mk mv mh mm tk tr) :
    iL (zuL mL mch) (zvK mk mv mh mm mL mch) (zvV mk mv mh mm mL mch) (zvH mk mv mh mm mL mch) lC (zuKe ks tk mL mch) (zuCe cs tr mL mch) (zuT tb tk tr mch mch) (zuP pn tk mL mch mch) ∧ agr mL mk mv (zvK mk mv mh mm mL mch) (zvV mk mv mh mm mL mch) mh (zvH mk mv mh mm mL mch) := by
  have hT := T.2.2
  by_cases q : mch = 0
  · subst q
    exact ⟨I, fun j _ => ⟨rfl, rfl, rfl⟩⟩
  · obtain ⟨J, F⟩ := iL_undo I hT mch (Nat.le_refl _)
    have S := iL_mark (x := -2) (w := nI 0) (by decide) J
    rw [if_neg (by decide), Nat.add_zero] at S
    rw [zuL, if_neg q, zvK, if_neg q, zvV, if_neg q, zvH, if_neg q, zuKe, if_neg q, zuCe, if_neg q]
    refine ⟨S, fun j hj => ?_⟩
    obtain ⟨b1, b2, b3⟩ := F j hj
    exact ⟨(va_up_ne _ _ (by omega)).trans b1, (va_up_ne _ _ (by omega)).trans b2, (va_up_ne _ _ (by omega)).trans b3⟩
theorem iT_put {mL mch k : Nat} {mo : Bool} {mk mv : Nat → Int32} {mh : Nat → Bool} {mm tk : Nat → Nat} {tr : Nat → Int64} {v : Int32} {h : Bool} {x : Int64} (hk : k < 32) (h4 : mch < 4) (ho : mo = true) (hx : x = zaf mk mv mh (nI k) mL) (T : iT mL mch mo mk mv mh mm tk tr) :
    iT (mL + 1) (mch + 1) mo (va_up mk (mL + 1) (nI k)) (va_up mv (mL + 1) v) (va_up mh (mL + 1) h) (va_up mm mch (mL + 1)) (va_up tk mch k) (va_up tr mch x) := by
  refine ⟨by omega, fun q => absurd q (by rw [ho]; decide), fun c hc => ?_⟩
  by_cases q : c = mch
  · subst q
    simp only [va_up_self]
    refine ⟨by omega, by omega, hk, trivial, ?_⟩
    rw [Nat.add_sub_cancel, hx]
    exact (zaf_cong mL (fun j a b => agr_up j b)).symm
  · obtain ⟨a1, a2, a3, a4, a5⟩ := T.2.2 c (by omega)
    simp only [va_up_ne _ _ q]
    refine ⟨a1, by omega, a3, ?_, ?_⟩
    · rw [va_up_ne _ _ (by omega)]; exact a4
    · rw [a5]
      exact (zaf_cong _ (fun j a b => agr_up j (by omega))).symm
theorem iT_closed {mL : Nat} {mk mv : Nat → Int32} {mh : Nat → Bool} {mm tk : Nat → Nat} {tr : Nat → Int64} {mo : Bool} : iT mL 0 mo mk mv mh mm tk tr := ⟨by omega, fun _ => rfl, fun c hc => absurd hc (Nat.not_lt_zero _)⟩
/-- the scratch table -/
def iS (mL : Nat) (mk mv : Nat → Int32) (mh : Nat → Bool) (mz : Int32) (so : Bool) (scr : Nat → Int64) : Prop :=
  (so = false ∧ mz = -1) ∨ (so = true ∧ ∃ z, mz = nI z ∧ z ≤ mL ∧ ∀ k, k < 32 → scr k = zaf mk mv mh (nI k) z)
theorem iS_up {mL mL' : Nat} {mk mv mk' mv' : Nat → Int32} {mh mh' : Nat → Bool} {mz : Int32} {so : Bool} {scr : Nat → Int64} (hle : mL ≤ mL') (ag : agr mL mk mv mk' mv' mh mh') (I : iS mL mk mv mh mz so scr) : iS mL' mk' mv' mh' mz so scr := by
  rcases I with I | ⟨h1, z, h2, h3, h4⟩
  · exact Or.inl I
  · refine Or.inr ⟨h1, z, h2, by omega, fun k hk => ?_⟩
    rw [h4 k hk]
    exact (zaf_cong z (fun j a b => ag j (by omega))).symm
theorem ztab_zaf {mk mv : Nat → Int32} {mh : Nat → Bool} {cs f : Nat → Int64} {k : Nat} (hk : k < 32) : ∀ n, (∀ j, 1 ≤ j → j ≤ n → cs j = cfe mv mh j) → ztab mk cs (zfill f 1000000000000 32) n k = zaf mk mv mh (nI k) n := by
  intro n
  induction n with
  | zero => intro _; simp only [ztab, zaf, zfill, if_pos hk]
  | succ n ih =>
    intro hc
    have ih := ih (fun j a b => hc j a (by omega))
    simp only [ztab, zaf]
    by_cases q : isIn (mk (n + 1)) 32 = true
    · obtain ⟨e, lt⟩ := isIn_of (by decide) q
      rw [if_pos q]
      by_cases w : kN (mk (n + 1)) = k
      · rw [if_pos (e.trans (by rw [w])), w, va_up_self, hc (n + 1) (by omega) (by omega), cfe]
      · rw [va_up_ne _ _ (fun z => w z.symm), if_neg (fun z => w (by rw [z, kN_nI (by omega)])), ih]
    · rw [if_neg q, if_neg (fun z => q (by rw [z]; exact isIn_nI (by decide) hk)), ih]
/-- numbers: the potential of the calls -/
def iN (t mS mL mA mP mch : Nat) (mo : Bool) : Prop := (4 ≤ mS ∧ mS ≤ 8 ∧ mP ≤ mA ∧ mA * mS ≤ mL ∧ mL ≤ (mA + 4) * mS) ∧ (0 < mch → mL + mch + 1 ≤ (mA + 4) * mS ∧ 2 * (mL + mch + 1) + 1 ≤ 3 * t + mch) ∧ (mch = 0 → 2 * mL ≤ 3 * t ∧ (mo = true → 2 * mL + 3 ≤ 3 * t))
theorem iN_bd {t mS mL mA mP mch : Nat} {mo : Bool} (N : iN t mS mL mA mP mch mo) (ht : t ≤ 511) (h4 : mch ≤ 4) : mL + mch + 1 ≤ 768 ∧ (mA + 4) * mS ≤ 800 ∧ mL ≤ (mA + 4) * mS ∧ (mA + 1) * mS ≤ 800 ∧ mA ≤ 200 ∧ mP ≤ 200 ∧ mL ≤ min ((mA + 4) * mS) 800 ∧ min ((mA + 4) * mS) 800 = (mA + 4) * mS := by
  obtain ⟨⟨a1, a2, a3, a4, a5⟩, b, c⟩ := N
  have e4 : (mA + 4) * mS = mA * mS + 4 * mS := Nat.add_mul _ _ _
  have e1 : (mA + 1) * mS = mA * mS + 1 * mS := Nat.add_mul _ _ _
  have e5 : mA * 4 ≤ mA * mS := Nat.mul_le_mul_left _ a1
  rcases Nat.eq_zero_or_pos mch with q | q
  · have := (c q).1
    omega
  · have := (b q).2
    omega
theorem iN_next {t mS mL mA mP mch : Nat} {mo : Bool} (N : iN t mS mL mA mP mch mo) : iN (t + 1) mS mL mA mP mch mo := by
  obtain ⟨a, b, c⟩ := N
  exact ⟨a, fun q => ⟨(b q).1, by have := (b q).2; omega⟩, fun q => ⟨by have := (c q).1; omega, fun w => by have := (c q).2 w; omega⟩⟩
theorem iN_begin {t mS mL mA mP : Nat} {mo : Bool} (N : iN t mS mL mA mP 0 mo) : iN (t + 1) mS mL mA mP 0 true := by
  obtain ⟨a, b, c⟩ := N
  exact ⟨a, fun q => absurd q (Nat.lt_irrefl _), fun q => ⟨by have := (c rfl).1; omega, fun w => by have := (c rfl).1; omega⟩⟩
theorem iN_put {t mS mL mA mP mch : Nat} {mo : Bool} (ho : mo = true) (hr : mch + 3 ≤ (mA + 4) * mS - mL) (N : iN t mS mL mA mP mch mo) : iN (t + 1) mS (mL + 1) mA mP (mch + 1) mo := by
  obtain ⟨⟨a1, a2, a3, a4, a5⟩, b, c⟩ := N
  refine ⟨⟨a1, a2, a3, by omega, by omega⟩, fun _ => ⟨by omega, ?_⟩, fun q => by omega⟩
  rcases Nat.eq_zero_or_pos mch with q | q
  · have := (c q).2 ho
    omega
  · have := (b q).2
    omega
theorem iN_com {t mS mL mA mP mch : Nat} {mo : Bool} (hr : ¬ (mA + 4) * mS - mL = 0) (ho : mo = true) (N : iN t mS mL mA mP mch mo) (h4 : mch ≤ 4) : iN (t + 1) mS (mL + 1) mA mP 0 false := by
  obtain ⟨⟨a1, a2, a3, a4, a5⟩, b, c⟩ := N
  refine ⟨⟨a1, a2, a3, by omega, by omega⟩, fun q => absurd q (Nat.lt_irrefl _), fun _ => ⟨?_, fun w => by cases w⟩⟩
  rcases Nat.eq_zero_or_pos mch with q | q
  · have := (c q).2 ho
    omega
  · have := (b q).2
    omega
theorem iN_undo {t mS mL mA mP mch : Nat} {mo : Bool} (N : iN t mS mL mA mP mch mo) (h4 : mch ≤ 4) : iN (t + 1) mS (zuL mL mch) mA mP 0 false := by
  obtain ⟨⟨a1, a2, a3, a4, a5⟩, b, c⟩ := N
  rcases Nat.eq_zero_or_pos mch with q | q
  · have := c q
    rw [zuL, if_pos q]
    exact ⟨⟨a1, a2, a3, a4, a5⟩, fun q => absurd q (Nat.lt_irrefl _), fun _ => ⟨by omega, fun w => by cases w⟩⟩
  · have := b q
    rw [zuL, if_neg (by omega)]
    exact ⟨⟨a1, a2, a3, by omega, by omega⟩, fun q => absurd q (Nat.lt_irrefl _), fun _ => ⟨by omega, fun w => by cases w⟩⟩
theorem iN_arch {t mS mL mA mP mch : Nat} {mo : Bool} (hy : (mA + 1) * mS ≤ mL) (N : iN t mS mL mA mP mch mo) : iN (t + 1) mS mL (mA + 1) mP mch mo := by
  obtain ⟨⟨a1, a2, a3, a4, a5⟩, b, c⟩ := iN_next N
  have e4 : (mA + 4) * mS = mA * mS + 4 * mS := Nat.add_mul _ _ _
  have e5 : (mA + 1 + 4) * mS = mA * mS + 5 * mS := by rw [show mA + 1 + 4 = mA + 5 by omega, Nat.add_mul]
  exact ⟨⟨a1, a2, by omega, hy, by omega⟩, fun q => ⟨by have := (b q).1; omega, (b q).2⟩, c⟩
theorem iN_pur {t mS mL mA mP mch x : Nat} {mo : Bool} (N : iN t mS mL mA mP mch mo) : iN t mS mL mA (max mP (min mA x)) mch mo := by
  obtain ⟨⟨a1, a2, a3, a4, a5⟩, b, c⟩ := N
  exact ⟨⟨a1, a2, by omega, a4, a5⟩, b, c⟩
theorem zuL_le (mL mch : Nat) : mL ≤ zuL mL mch := by
  rw [zuL]
  by_cases q : mch = 0
  · rw [if_pos q]; exact Nat.le_refl _
  · rw [if_neg q]; omega
/-- changes over the pages, and changes above their page's number -/
theorem zsum_s (mk : Nat → Int32) (a : Nat → Nat) (u : Nat) : ∀ P, zsum mk a (u + 1) P = zsum mk a u P + (if isIn (mk (u + 1)) 32 = true ∧ kN (mk (u + 1)) / 4 < P ∧ a (kN (mk (u + 1)) / 4) < u + 1 then 1 else 0)
  | 0 => by rw [if_neg (fun z => absurd z.2.1 (Nat.not_lt_zero _))]; rfl
  | P + 1 => by
    rw [zsum, zsum, zsum_s mk a u P, zcho]
    by_cases q1 : isIn (mk (u + 1)) 32 = true
    · by_cases q2 : kN (mk (u + 1)) / 4 = P
      · by_cases q3 : a P < u + 1
        · rw [if_neg (fun z => by omega), if_pos ⟨q3, q1, q2⟩, if_pos ⟨q1, by omega, by rw [q2]; exact q3⟩]; omega
        · rw [if_neg (fun z => by omega), if_neg (fun z => q3 z.1), if_neg (fun z => q3 (by rw [← q2]; exact z.2.2))]; omega
      · by_cases q3 : kN (mk (u + 1)) / 4 < P ∧ a (kN (mk (u + 1)) / 4) < u + 1
        · rw [if_pos ⟨q1, q3⟩, if_neg (fun z => q2 z.2.2), if_pos ⟨q1, by omega, q3.2⟩]; omega
        · rw [if_neg (fun z => q3 z.2), if_neg (fun z => q2 z.2.2), if_neg (fun z => q3 ⟨by omega, z.2.2⟩)]; omega
    · rw [if_neg (fun z => q1 z.1), if_neg (fun z => q1 z.2.1), if_neg (fun z => q1 z.1)]; omega
theorem zsum_0 (mk : Nat → Int32) (a : Nat → Nat) : ∀ P, zsum mk a 0 P = 0
  | 0 => rfl
  | P + 1 => by rw [zsum, zsum_0 mk a P]; rfl
theorem zsum_zchg {mk : Nat → Int32} {a nm : Nat → Nat} (h : ∀ p, p < 8 → nm p = a p) : ∀ u, zchg mk nm u = zsum mk a u 8
  | 0 => (zsum_0 mk a 8).symm
  | u + 1 => by
    rw [zsum_s, zchg, zsum_zchg h u]
    by_cases q1 : isIn (mk (u + 1)) 32 = true
    · have lt := (isIn_of (by decide) q1).2
      by_cases q2 : nm (kN (mk (u + 1)) / 4) < u + 1
      · rw [if_pos ⟨q1, q2⟩, if_pos ⟨q1, by omega, by rw [← h _ (by omega)]; exact q2⟩]
      · rw [if_neg (fun z => q2 z.2), if_neg (fun z => q2 (by rw [h _ (by omega)]; exact z.2.2))]
    · rw [if_neg (fun z => q1 z.1), if_neg (fun z => q1 z.1)]
/-- the record of a COMMIT -/
theorem zcom_find (ks : Nat → Int32) : ∀ n k, 0 < k → k ≤ zcom ks n → ∃ r, 1 ≤ r ∧ r ≤ n ∧ zcom ks r = k ∧ ∀ j, j < r → zcom ks j < k
  | 0, k, h0, h => by simp only [zcom] at h; omega
  | n + 1, k, h0, h => by
    by_cases q : k ≤ zcom ks n
    · obtain ⟨r, a, b, c, d⟩ := zcom_find ks n k h0 q
      exact ⟨r, a, by omega, c, d⟩
    · refine ⟨n + 1, by omega, Nat.le_refl _, ?_, fun j hj => ?_⟩
      · have : zcom ks (n + 1) ≤ zcom ks n + 1 := by
          simp only [zcom]
          split <;> omega
        omega
      · have mono : ∀ a b, a ≤ b → zcom ks a ≤ zcom ks b := by
          intro a b hab
          induction b with
          | zero => rw [Nat.le_zero.mp hab]; exact Nat.le_refl _
          | succ b ih =>
            rcases Nat.lt_or_ge a (b + 1) with z | z
            · exact Nat.le_trans (ih (by omega)) (by simp only [zcom]; omega)
            · rw [show a = b + 1 by omega]; exact Nat.le_refl _
        have := mono j n (by omega)
        omega
