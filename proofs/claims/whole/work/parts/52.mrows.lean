/-! ===== the reference: rows of numbers ===== -/
/-- nothing but the reader's own: slots 14 to 18 of the object, and cell w -/
def rwF (w : Nat) (σ τ : Sto) : Prop := τ.2 = σ.2 ∧ (∀ k, k ≠ 117 → k ≠ w → τ.1 k = σ.1 k) ∧ ∀ j, (j < 14 ∨ 18 < j) → τ.1 117 j = σ.1 117 j
theorem rwF.rf (w : Nat) (σ : Sto) : rwF w σ σ := ⟨rfl, fun _ _ _ => rfl, fun _ _ => rfl⟩
theorem rwF.tr {w : Nat} {a b c : Sto} (h : rwF w a b) (g : rwF w b c) : rwF w a c := ⟨g.1.trans h.1, fun k h1 h2 => (g.2.1 k h1 h2).trans (h.2.1 k h1 h2), fun j hj => (g.2.2 j hj).trans (h.2.2 j hj)⟩
theorem nxF.rw {w : Nat} {σ τ : Sto} (h : nxF σ τ) : rwF w σ τ := ⟨h.1, fun k h1 _ => h.2.1 k h1, fun j hj => h.2.2 j (by omega)⟩
theorem rwF.mls {w : Nat} (hw : w = 127 ∨ w = 128) {σ τ : Sto} (h : rwF w σ τ) : Mls σ τ := ⟨h.1, fun c hc => h.2.1 c (by omega) (by omega), fun c h1 h2 => h.2.1 c (by omega) (by omega), fun j hj => h.2.2 j (by omega)⟩
abbrev cuN (f : Nat → Int32) (n a : Nat) : Nat → Nat
  | 0 => a
  | k + 1 => psn f n a k + 1
theorem cuN_skp (f : Nat → Int32) (n a : Nat) : ∀ k, skp f n (cuN f n a k) = psn f n a k := by
  intro k
  cases k with
  | zero => rfl
  | succ k => rfl
/-- k numbers of the row were asked for: all taken, or the first that could not be is where it stands -/
def rkS (f : Nat → Int32) (n a w m k : Nat) (σ τ : Sto) : Prop := rwF w σ τ ∧ (∀ j, (j < m ∨ m + k ≤ j) → τ.1 w j = σ.1 w j) ∧
  ((τ.1 117 18 = 0 ∧ nxT f n (cuN f n a k) τ ∧ (∀ i, i < k → numOk f n (psn f n a i) (limI i)) ∧ ∀ i, i < k → τ.1 w (m + i) = dgt f n (psn f n a i)) ∨
   (τ.1 117 18 = 1 ∧ ∃ j, j < k ∧ τ.1 117 15 = nI (psn f n a j) ∧ (∀ i, i < j → numOk f n (psn f n a i) (limI i)) ∧ ¬ numOk f n (psn f n a j) (limI j)))
