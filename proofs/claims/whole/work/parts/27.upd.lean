/-! ===== what moves which part of the kitchen ===== -/
theorem brR.mv {A : Abs} {σ τ : Sto} (h : brR A σ) (hn : aN A ≤ 6) (g : ∀ k, k = 5 ∨ (25 ≤ k ∧ k < 37) → τ.1 k = σ.1 k) : brR A τ := by
  refine ⟨by rw [g 5 (Or.inl rfl)]; exact h.1, fun b hb => ⟨fun p hp => ?_, ?_⟩⟩
  · rw [g _ (Or.inr (by omega))]; exact (h.2 b hb).1 p hp
  · rw [g _ (Or.inr (by omega))]; exact (h.2 b hb).2
theorem scR.mv' {σ τ : Sto} {n k : Nat} {s : Scn} (h : scR σ n k s) (g : ∀ i, i = k + 1 ∨ i = k + 2 ∨ i = k + 3 → τ.1 i = σ.1 i) : scR τ n k s :=
  ⟨fun p hp => by rw [g _ (Or.inl rfl)]; exact h.1 p hp, fun b hb => by rw [g _ (Or.inr (Or.inl rfl))]; exact h.2.1 b hb, fun b hb => by rw [g _ (Or.inr (Or.inr rfl))]; exact h.2.2 b hb⟩
theorem pastR.mv {A : Abs} {σ τ : Sto} (h : pastR A σ) (g : ∀ k, k = 9 ∨ (55 ≤ k ∧ k < 95) → τ.1 k = σ.1 k) : pastR A τ := by
  obtain ⟨nx, a, b, c, d⟩ := h
  exact ⟨nx, a, by rw [g 9 (Or.inl rfl)]; exact b, by rw [g 9 (Or.inl rfl)]; exact c, fun i s hs => (d i s hs).mv' (fun k hk => g k (Or.inr (by omega)))⟩
theorem imgR.mv {A : Abs} {σ τ : Sto} (h : imgR A σ) (g : ∀ k, k = 12 ∨ (47 ≤ k ∧ k < 55) → τ.1 k = σ.1 k) : imgR A τ := fun i hi =>
  ⟨fun s hs => ⟨by rw [g 12 (Or.inl rfl)]; exact ((h i hi).1 s hs).1, ((h i hi).1 s hs).2.mv' (fun k hk => g k (Or.inr (by omega)))⟩, fun hs => by rw [g 12 (Or.inl rfl)]; exact (h i hi).2 hs⟩
theorem seenR.mv {A : Abs} {σ τ : Sto} (h : seenR A σ) (hl : (aS A).length ≤ 4) (g : ∀ k, k = 13 ∨ k = 14 ∨ (101 ≤ k ∧ k < 105) → τ.1 k = σ.1 k) : seenR A τ := by
  refine ⟨by rw [g 13 (Or.inl rfl)]; exact h.1, fun i e he => ?_⟩
  have hi : i < 4 := Nat.lt_of_lt_of_le (List.getElem?_eq_some_iff.mp he).1 hl
  exact ⟨fun p hp => by rw [g _ (Or.inr (Or.inr (by omega)))]; exact (h.2 i e he).1 p hp, by rw [g 14 (Or.inr (Or.inl rfl))]; exact (h.2 i e he).2⟩
theorem txR.mv {A : Abs} {σ τ : Sto} (h : txR A σ) (g : ∀ k, k = 1 ∨ k = 2 → τ.1 k = σ.1 k) : txR A τ :=
  ⟨by rw [g 1 (Or.inl rfl)]; exact h.1, fun i hi => by rw [g 2 (Or.inr rfl)]; exact h.2 i hi⟩
abbrev setT (A : Abs) (t : Nat × (Nat → Int32)) : Abs := (aN A, aL A, aB A, aC A, aP A, aI A, aS A, t, aR A)
abbrev setS (A : Abs) (l : List ((Nat → Int32) × Int32)) : Abs := (aN A, aL A, aB A, aC A, aP A, aI A, l, aT A, aR A)
abbrev setR (A : Abs) (x : Int64) : Abs := (aN A, aL A, aB A, aC A, aP A, aI A, aS A, aT A, x)
abbrev setI (A : Abs) (f : Nat → Option Scn) : Abs := (aN A, aL A, aB A, aC A, aP A, f, aS A, aT A, aR A)
theorem RC.text {A : Abs} {σ τ : Sto} {t : Nat × (Nat → Int32)} (h : RC A σ) (h2 : τ.2 0 = σ.2 0) (hc : ∀ k, k ≠ 1 → k ≠ 2 → k < 117 → τ.1 k = σ.1 k) (ht : txR (setT A t) τ) (hl : t.1 ≤ 120) : RC (setT A t) τ := by
  obtain ⟨h1, b, c, p, i, s, -, h8, h9, h10⟩ := h
  refine ⟨⟨h1.1, h1.2.1, h1.2.2.1, h1.2.2.2.1, h1.2.2.2.2.1, h1.2.2.2.2.2.1, h1.2.2.2.2.2.2.1, h1.2.2.2.2.2.2.2.1, hl⟩, b.mv h1.1 (fun k hk => hc k (by omega) (by omega) (by omega)), c.mv' (fun k hk => hc k (by omega) (by omega) (by omega)), p.mv (fun k hk => hc k (by omega) (by omega) (by omega)), i.mv (fun k hk => hc k (by omega) (by omega) (by omega)), s.mv h1.2.2.2.2.2.2.2.1 (fun k hk => hc k (by omega) (by omega) (by omega)), ht, h2.trans h8, h9.mv (by rw [hc 18 (by decide) (by decide) (by decide)]) (hc 20 (by decide) (by decide) (by decide)) (hc 24 (by decide) (by decide) (by decide)), by rw [hc 37 (by decide) (by decide) (by decide)]; exact h10⟩
theorem RC.seen {A : Abs} {σ τ : Sto} {l : List ((Nat → Int32) × Int32)} (h : RC A σ) (h2 : τ.2 0 = σ.2 0) (hc : ∀ k, k ≠ 13 → k ≠ 14 → (k < 101 ∨ 105 ≤ k) → k < 117 → τ.1 k = σ.1 k) (hs : seenR (setS A l) τ) (ho : ∀ e ∈ l, ∀ p, p < 4 → ∃ v, v ≤ 5 ∧ e.1 p = nI v) (hl : l.length ≤ 4) : RC (setS A l) τ := by
  obtain ⟨h1, b, c, p, i, -, t, h8, h9, h10⟩ := h
  refine ⟨⟨h1.1, h1.2.1, h1.2.2.1, h1.2.2.2.1, h1.2.2.2.2.1, ho, h1.2.2.2.2.2.2.1, hl, h1.2.2.2.2.2.2.2.2⟩, b.mv h1.1 (fun k hk => hc k (by omega) (by omega) (by omega) (by omega)), c.mv' (fun k hk => hc k (by omega) (by omega) (by omega) (by omega)), p.mv (fun k hk => hc k (by omega) (by omega) (by omega) (by omega)), i.mv (fun k hk => hc k (by omega) (by omega) (by omega) (by omega)), hs, t.mv (fun k hk => hc k (by omega) (by omega) (by omega) (by omega)), h2.trans h8, h9.mv (by rw [hc 18 (by decide) (by decide) (by decide) (by decide)]) (hc 20 (by decide) (by decide) (by decide) (by decide)) (hc 24 (by decide) (by decide) (by decide) (by decide)), by rw [hc 37 (by decide) (by decide) (by decide) (by decide)]; exact h10⟩
theorem RC.trc {A : Abs} {σ : Sto} {x : Int64} (h : RC A σ) : RC (setR A x) (wrL σ 0 x) := by
  obtain ⟨h1, b, c, p, i, s, t, h8, h9, h10⟩ := h
  exact ⟨h1, b, c, p, i, s, t, by simp [wrL], h9, h10⟩
theorem RC.imag {A : Abs} {σ τ : Sto} {f : Nat → Option Scn} (h : RC A σ) (h2 : τ.2 0 = σ.2 0) (hc : ∀ k, k ≠ 12 → (k < 47 ∨ 55 ≤ k) → k < 117 → τ.1 k = σ.1 k) (hi : imgR (setI A f) τ) (ho : ∀ i s, f i = some s → okS s) : RC (setI A f) τ := by
  obtain ⟨h1, b, c, p, -, s, t, h8, h9, h10⟩ := h
  refine ⟨⟨h1.1, h1.2.1, h1.2.2.1, h1.2.2.2.1, ho, h1.2.2.2.2.2⟩, b.mv h1.1 (fun k hk => hc k (by omega) (by omega) (by omega)), c.mv' (fun k hk => hc k (by omega) (by omega) (by omega)), p.mv (fun k hk => hc k (by omega) (by omega) (by omega)), hi, s.mv h1.2.2.2.2.2.2.2.1 (fun k hk => hc k (by omega) (by omega) (by omega)), t.mv (fun k hk => hc k (by omega) (by omega) (by omega)), h2.trans h8, h9.mv (by rw [hc 18 (by decide) (by decide) (by decide)]) (hc 20 (by decide) (by decide) (by decide)) (hc 24 (by decide) (by decide) (by decide)), by rw [hc 37 (by decide) (by decide) (by decide)]; exact h10⟩
/-! deeds -/
abbrev addS (s : Scn) (p : Nat) : Scn := (fun q => if q = p then s.1 p + 1 else s.1 q, s.2)
abbrev watSc (s : Scn) : Scn := (fun q => mxI 0 (s.1 q - 1), s.2)
abbrev shwS (s : Scn) (b : Nat) (m : Int32) : Scn := (s.1, s.2.1, fun c => if c = b then m else s.2.2 c)
abbrev cldS (s : Scn) (b : Nat) (x : Int32) : Scn := (s.1, fun c => if c = b then x else s.2.1 c, s.2.2)
theorem add_t : ∀ v, v ≤ 5 → ((5 : Int32) ≤ nI v ↔ v = 5) ∧ (v < 5 → mnI 5 (nI v + 1) = nI (v + 1)) := by decide +kernel
theorem wat_t : ∀ v, v ≤ 5 → mxI 0 (nI v - 1) = nI (v - 1) := by decide +kernel
theorem okS_add {s : Scn} {p : Nat} (h : okS s) (hp : p < 4) (hl : ¬ 5 ≤ s.1 p) : okS (addS s p) ∧ mnI 5 (s.1 p + 1) = s.1 p + 1 := by
  obtain ⟨v, hv, e⟩ := h.1 p hp
  have h5 : v < 5 := by
    rcases Nat.lt_or_ge v 5 with z | z
    · exact z
    · exact absurd (by rw [e]; exact (add_t v hv).1.mpr (by omega)) hl
  refine ⟨⟨fun q hq => ?_, h.2⟩, ?_⟩
  · show ∃ w, w ≤ 5 ∧ (if q = p then s.1 p + 1 else s.1 q) = nI w
    by_cases eq : q = p
    · rw [if_pos eq, e]; exact ⟨v + 1, by omega, nI_s1 v⟩
    · rw [if_neg eq]; exact h.1 q hq
  · rw [e, (add_t v hv).2 h5, nI_s1]
theorem okS_wat {s : Scn} (h : okS s) : okS (watSc s) := by
  refine ⟨fun q hq => ?_, h.2⟩
  obtain ⟨v, hv, e⟩ := h.1 q hq
  exact ⟨v - 1, by omega, by show mxI 0 (s.1 q - 1) = _; rw [e]; exact wat_t v hv⟩
theorem okS_shw {s : Scn} {b : Nat} {m : Int32} (h : okS s) : okS (shwS s b m) := h
theorem okS_cld {s : Scn} {b : Nat} {x : Int32} (h : okS s) (hx : x = 0 ∨ x = 1) : okS (cldS s b x) := ⟨h.1, fun c hc => by
  show (if c = b then x else s.2.1 c) = 0 ∨ (if c = b then x else s.2.1 c) = 1
  by_cases e : c = b
  · rw [if_pos e]; exact hx
  · rw [if_neg e]; exact h.2 c hc⟩
theorem RC.add {A : Abs} {τ : Sto} (h : RC A τ) {p : Nat} (hp : p < 4) (hl : ¬ 5 ≤ (aC A).1 p) : RC (setC A (addS (aC A) p)) (chgW τ 40 (nI p)) ∧ (chgW τ 40 (nI p)).1 40 p = (aC A).1 p + 1 := by
  obtain ⟨ho, e⟩ := okS_add h.1.2.2.1 hp hl
  obtain ⟨h4, hlt⟩ := lt5_ne4 p (by omega)
  have ec : chgW τ 40 (nI p) = wr τ 40 p ((aC A).1 p + 1) := by
    unfold chgW
    rw [if_neg (fun z => by have := h4.mp z; omega), if_pos (hlt.mpr hp), nI_clamp (by omega)]
    unfold addW
    rw [h.potE hp, e]
  rw [ec]
  refine ⟨h.cur rfl (fun k h1 h2 h3 _ => wr_ne h1) ⟨fun q hq => ?_, fun b hb => ?_, fun b hb => ?_⟩ ho, wr_at⟩
  · show (wr τ 40 p _).1 40 q = if q = p then _ else _
    by_cases eq : q = p
    · rw [if_pos eq, eq, wr_at]
    · rw [if_neg eq, wr_nj eq]; exact h.potE hq
  · rw [wr_ne (by decide)]; exact h.2.2.1.2.1 b hb
  · rw [wr_ne (by decide)]; exact h.2.2.1.2.2 b hb
theorem watW_at {τ : Sto} {p : Nat} (hp : p < 4) : (chgW τ 40 4).1 40 p = mxI 0 (τ.1 40 p - 1) := by
  unfold chgW
  rw [if_pos rfl]
  unfold watW
  match p, hp with
  | 0, _ => simp [watS, wr]
  | 1, _ => simp [watS, wr]
  | 2, _ => simp [watS, wr]
  | 3, _ => simp [watS, wr]
theorem RC.wat {A : Abs} {τ : Sto} (h : RC A τ) : RC (setC A (watSc (aC A))) (chgW τ 40 4) := by
  refine h.cur (by rw [chgW_2]) (fun k h1 h2 h3 _ => chgW_ne h1) ⟨fun q hq => ?_, fun b hb => ?_, fun b hb => ?_⟩ (okS_wat h.1.2.2.1)
  · show (chgW τ 40 4).1 40 q = _
    rw [watW_at hq, h.potE hq]
  · rw [chgW_ne (by decide)]; exact h.2.2.1.2.1 b hb
  · rw [chgW_ne (by decide)]; exact h.2.2.1.2.2 b hb
theorem RC.shw {A : Abs} {τ : Sto} (h : RC A τ) {b : Nat} (hb : b < aN A) {m : Int32} : RC (setC A (shwS (aC A) b m)) (wr τ 42 b m) := by
  refine h.cur rfl (fun k h1 h2 h3 _ => wr_ne h3) ⟨fun q hq => ?_, fun c hc => ?_, fun c hc => ?_⟩ h.1.2.2.1
  · rw [wr_ne (by decide)]; exact h.2.2.1.1 q hq
  · rw [wr_ne (by decide)]; exact h.2.2.1.2.1 c hc
  · show (wr τ 42 b m).1 42 c = if c = b then m else _
    by_cases e : c = b
    · rw [if_pos e, e, wr_at]
    · rw [if_neg e, wr_nj e]; exact h.2.2.1.2.2 c hc
theorem RC.cld {A : Abs} {τ : Sto} (h : RC A τ) {b : Nat} {x : Int32} (hx : x = 0 ∨ x = 1) : RC (setC A (cldS (aC A) b x)) (wr τ 41 b x) := by
  refine h.cur rfl (fun k h1 h2 h3 _ => wr_ne h2) ⟨fun q hq => ?_, fun c hc => ?_, fun c hc => ?_⟩ (okS_cld h.1.2.2.1 hx)
  · rw [wr_ne (by decide)]; exact h.2.2.1.1 q hq
  · show (wr τ 41 b x).1 41 c = if c = b then x else _
    by_cases e : c = b
    · rw [if_pos e, e, wr_at]
    · rw [if_neg e, wr_nj e]; exact h.2.2.1.2.1 c hc
  · rw [wr_ne (by decide)]; exact h.2.2.1.2.2 c hc
theorem FrC.of {σ τ : Sto} (h1 : ∀ c, 117 ≤ c → τ.1 c = σ.1 c) (h2 : τ.2 = σ.2) : FrC σ τ := ⟨h1, fun _ _ => by rw [h2]⟩
theorem frC_wr {σ : Sto} {k i : Nat} {x : Int32} (h : k < 117) : FrC σ (wr σ k i x) := FrC.of (fun c hc => wr_ne (by omega)) rfl
theorem frC_chg {σ : Sto} {k : Nat} {x : Int32} (h : k < 117) : FrC σ (chgW σ k x) := FrC.of (fun c hc => chgW_ne (by omega)) (chgW_2 _ _ _)
theorem frC_bec {σ : Sto} {X Y : Nat} (h : X < 113) : FrC σ (becW σ X Y) := FrC.of (fun c hc => becW_ne (by omega) (by omega) (by omega)) rfl
theorem frC_rem {σ : Sto} {i : Nat} (h : i < 10) : FrC σ (remW σ i) := (frC_bec (by omega)).tr ((frC_wr (by decide)).tr (frC_wr (by decide)))
/-- back one step -/
abbrev undA (A : Abs) (s : Scn) (l : List Scn) : Abs := setC (setP A l) s
theorem RC.und {A : Abs} {σ : Sto} {s : Scn} {l : List Scn} (h : RC A σ) (hp : aP A = s :: l) {nx : Nat} (hx : nx < 10) (hn : σ.1 9 1 = nI nx) : RC (undA A s l) (bbW σ nx) ∧ σ.1 9 2 - 1 = nI l.length := by
  have hlen : σ.1 9 2 = nI (l.length + 1) := by obtain ⟨_, _, _, c, _⟩ := h.2.2.2.1; rw [c, hp]; rfl
  have hv : σ.1 9 2 - 1 = nI l.length := by rw [hlen]; exact nI_m1 _
  refine ⟨?_, hv⟩
  obtain ⟨nx', p1, p2, p3, p4⟩ := id h.2.2.2.1
  obtain rfl : nx' = nx := nI_inj (p2.symm.trans hn) (by omega) (by omega)
  have hpl := (prv_i nx' hx).2.2
  have hl9 : l.length ≤ 9 := by have := h.1.2.2.2.2.2.2.1; rw [hp] at this; simp at this; omega
  have hl10 : l.length ≤ 10 := by omega
  have old : ∀ k t, IsSc k → scR σ (aN A) k t → scR (wr (wr σ 9 1 (nI (prv nx'))) 9 2 (σ.1 9 2 - 1)) (aN A) k t := fun k t hk ht => scR_wr9 hk (scR_wr9 hk ht)
  have h1 : RC (setP A l) (wr (wr σ 9 1 (nI (prv nx'))) 9 2 (σ.1 9 2 - 1)) := by
    refine h.pst rfl (fun k hk _ => by rw [wr_ne hk, wr_ne hk]) (fun t ht => by rw [hp]; exact List.mem_cons_of_mem _ ht) hl10 ⟨prv nx', hpl, ?_, ?_, fun i t ht => ?_⟩
    · rw [wr_nj (by decide), wr_at]
    · rw [wr_at, hv]
    · have ht' : l[i]? = some t := ht
      have e : (prv nx' + 9 - i) % 10 = (nx' + 9 - (i + 1)) % 10 := by
        have hi : i < 9 := Nat.lt_of_lt_of_le (List.getElem?_eq_some_iff.mp ht').1 hl9
        unfold prv; split <;> omega
      rw [e]
      refine old _ _ (isSc_past (by omega)) (p4 (i + 1) t ?_)
      rw [hp]; exact ht'
  unfold bbW
  have hs : okS s := h.1.2.2.2.1 s (by rw [hp]; exact List.mem_cons_self)
  refine h1.cur rfl (fun k a1 a2 a3 _ => becW_ne (by omega) (by omega) (by omega)) (scR_bec h.n6 isSc_39 (isSc_past hpl) (by omega) ?_) hs
  have e : (nx' + 9 - 0) % 10 = prv nx' := by unfold prv; split <;> omega
  have := p4 0 s (by rw [hp]; rfl)
  rw [e] at this
  exact old _ _ (isSc_past hpl) this
