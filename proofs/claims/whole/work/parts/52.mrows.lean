/-! ===== the reference: rows of numbers ===== -/
/-- nothing but the reader's own: slots 14 to 18 of the object, and cell w -/
def rwF (w : Nat) (σ τ : Sto) : Prop := τ.2 = σ.2 ∧ (∀ k, k ≠ 117 → k ≠ w → τ.1 k = σ.1 k) ∧ ∀ j, (j < 14 ∨ 18 < j) → τ.1 117 j = σ.1 117 j
theorem rwF.rf (w : Nat) (σ : Sto) : rwF w σ σ := ⟨rfl, fun _ _ _ => rfl, fun _ _ => rfl⟩
theorem rwF.tr {w : Nat} {a b c : Sto} (h : rwF w a b) (g : rwF w b c) : rwF w a c := ⟨g.1.trans h.1, fun k h1 h2 => (g.2.1 k h1 h2).trans (h.2.1 k h1 h2), fun j hj => (g.2.2 j hj).trans (h.2.2 j hj)⟩
theorem nxF.rw {w : Nat} {σ τ : Sto} (h : nxF σ τ) : rwF w σ τ := ⟨h.1, fun k h1 _ => h.2.1 k h1, fun j hj => h.2.2 j (by omega)⟩
theorem rwF.mls {w : Nat} (hw : w = 127 ∨ w = 128) {σ τ : Sto} (h : rwF w σ τ) : Mls σ τ := ⟨h.1, fun c hc => h.2.1 c (by omega) (by omega), fun c h1 h2 => h.2.1 c (by omega) (by omega), fun j hj => h.2.2 j (by omega)⟩
abbrev cuN (f : Nat → Int32) (n a : Nat) : Nat → Nat
  | 0 => a
  | k + 1 => psn f n a k + 1
theorem cuN_skp (f : Nat → Int32) (n a : Nat) : ∀ k, skp f n (cuN f n a k) = psn f n a k := by
  intro k
  cases k with
  | zero => rfl
  | succ k => rfl
/-- k numbers of the row were asked for: all taken, or the first that could not be is where it stands -/
def rkS (f : Nat → Int32) (n a w m k : Nat) (σ τ : Sto) : Prop := rwF w σ τ ∧ (∀ j, (j < m ∨ m + k ≤ j) → τ.1 w j = σ.1 w j) ∧
  ((τ.1 117 18 = 0 ∧ nxT f n (cuN f n a k) τ ∧ (∀ i, i < k → numOk f n (psn f n a i) (limI i)) ∧ ∀ i, i < k → τ.1 w (m + i) = dgt f n (psn f n a i)) ∨
   (τ.1 117 18 = 1 ∧ ∃ j, j < k ∧ nxT f n (cuN f n a j) τ ∧ (∀ i, i < j → numOk f n (psn f n a i) (limI i)) ∧ ¬ numOk f n (psn f n a j) (limI j)))
theorem limI_le (k : Nat) : limI k ≤ 9 := by
  match k with
  | 0 => decide
  | 1 => decide
  | 2 => decide
  | 3 => decide
  | 4 => decide
  | 5 => decide
  | k + 6 => exact (by decide : (0 : Int32) ≤ 9)
theorem rk_take {S : Scr} {f : Nat → Int32} {n a w m k : Nat} (hw : w = 127 ∨ w = 128) {σ τ : Sto} (h : txT f n σ) (hR : rkS f n a w m k σ τ) : Mt S yX8_takesNumber cX8_takesNumber 5 (some .int) 3 [.ref 117, .int 0, .int (limI k)] τ (fun r ρ => ∃ v, r = some (.int v) ∧ rkS f n a w m (k + 1) σ (wr ρ w (m + k) v)) := by
  have hw7 : (117 : Nat) ≠ w := by omega
  have h' : txT f n τ := h.mv (hR.1.mls hw)
  obtain ⟨hF, hO, hC⟩ := hR
  have bad : ∀ j, j < k + 1 → nxT f n (cuN f n a j) τ → (∀ i, i < j → numOk f n (psn f n a i) (limI i)) → ¬ numOk f n (psn f n a j) (limI j) → rkS f n a w m (k + 1) σ (wr (wr τ 117 18 1) w (m + k) 0) := by
    intro j hj hT h1 h2
    refine ⟨hF.tr ⟨rfl, fun c h3 h4 => by rw [wr_ne h4, wr_ne h3], fun i hi => by rw [wr_ne hw7, wr_nj (by omega)]⟩, fun i hi => ?_, Or.inr ⟨by rw [wr_ne hw7, wr_at], j, hj, hT.mv (fun i h3 h4 => by rw [wr_ne hw7, wr_nj (by omega)]), h1, h2⟩⟩
    rw [wr_nj (by omega), wr_ne (by omega)]; exact hO i (by omega)
  rcases hC with ⟨c1, c2, c3, c4⟩ | ⟨c1, j, c2, c3, c4, c5⟩
  · by_cases z : numOk f n (psn f n a k) (limI k)
    · refine mt_post (m_X8_takesNumber f n (cuN f n a k) (limI k) (limI_le k) τ h' c2 c1 (by rw [cuN_skp]; exact z)) (fun r ρ q => ?_)
      obtain ⟨q1, q2⟩ := q
      rw [cuN_skp] at q1 q2
      refine ⟨_, q1, hF.tr (q2.1.rw.tr ⟨rfl, fun c h3 h4 => by rw [wr_ne h4], fun i hi => by rw [wr_ne hw7]⟩), fun i hi => ?_, Or.inl ⟨?_, ?_, fun i hi => ?_, fun i hi => ?_⟩⟩
      · rw [wr_nj (by omega), q2.1.2.1 w (by omega)]; exact hO i (by omega)
      · rw [wr_ne hw7, q2.1.2.2 18 (by omega)]; exact c1
      · exact q2.T.mv (fun i h3 h4 => by rw [wr_ne hw7])
      · rcases Nat.lt_or_ge i k with y | y
        · exact c3 i y
        · obtain rfl : i = k := by omega
          exact z
      · rcases Nat.lt_or_ge i k with y | y
        · rw [wr_nj (by omega), q2.1.2.1 w (by omega)]; exact c4 i y
        · obtain rfl : i = k := by omega
          rw [wr_at]
    · refine mt_post (m_X8_takesNumber0 f n (cuN f n a k) (limI k) (limI_le k) τ c2 (fun y => z (by have := y.2; rw [cuN_skp] at this; exact this))) (fun r ρ q => ?_)
      obtain ⟨q1, q2⟩ := q
      exact ⟨0, q1, by rw [q2]; exact bad k (by omega) c2 c3 z⟩
  · refine mt_post (m_X8_takesNumber0 f n (cuN f n a j) (limI k) (limI_le k) τ c3 (fun y => absurd (c1.symm.trans y.1) (by decide))) (fun r ρ q => ?_)
    obtain ⟨q1, q2⟩ := q
    exact ⟨0, q1, by rw [q2]; exact bad j (by omega) c3 c4 c5⟩
