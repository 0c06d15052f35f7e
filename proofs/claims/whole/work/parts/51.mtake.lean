/-! ===== the reference: takesNumber ===== -/
/-- the token read from cursor c is in place -/
def nxT (f : Nat → Int32) (n c : Nat) (τ : Sto) : Prop := τ.1 117 15 = nI (skp f n c) ∧
  ((¬ skp f n c < n ∧ τ.1 117 16 = 0) ∨
   (isd f n (skp f n c) ∧ ¬ isd f n (skp f n c + 1) ∧ τ.1 117 16 = 2 ∧ τ.1 117 17 = f (skp f n c) - 48 ∧ τ.1 117 14 = nI (skp f n c + 1)) ∨
   (isd f n (skp f n c) ∧ isd f n (skp f n c + 1) ∧ (τ.1 117 16 = 4 ∨ (τ.1 117 16 = 2 ∧ 10 ≤ τ.1 117 17))) ∨
   (skp f n c < n ∧ ¬ isd f n (skp f n c) ∧ τ.1 117 16 = tokC (f (skp f n c)) ∧ τ.1 117 17 = f (skp f n c) ∧ τ.1 117 14 = nI (skp f n c + 1)))
theorem nxP.T {f : Nat → Int32} {n c : Nat} {σ τ : Sto} (h : nxP f n c σ τ) : nxT f n c τ := h.2
theorem nxT.mv {f : Nat → Int32} {n c : Nat} {σ τ : Sto} (h : nxT f n c σ) (g : ∀ j, 14 ≤ j → j ≤ 17 → τ.1 117 j = σ.1 117 j) : nxT f n c τ := by
  unfold nxT
  rw [g 14 (by decide) (by decide), g 15 (by decide) (by decide), g 16 (by decide) (by decide), g 17 (by decide) (by decide)]
  exact h
theorem tokC_ne2 (c : Int32) : ¬ tokC c = 2 := by unfold tokC; split; decide; split <;> decide
/-- what can be taken, both ways -/
theorem num_ok {f : Nat → Int32} {n c : Nat} {τ : Sto} (h : nxT f n c τ) {l : Int32} (hl : l ≤ 9) : (τ.1 117 16 = 2 ∧ 0 ≤ τ.1 117 17 ∧ τ.1 117 17 ≤ l) ↔ numOk f n (skp f n c) l := by
  have dneg : ∀ s, dgt f n s < 0 ↔ ¬ isd f n s := by
    intro s
    unfold dgt
    by_cases z : isd f n s
    · rw [if_pos z]
      obtain ⟨w, hw, e⟩ := fig z
      rw [e, show nI (48 + w) - 48 = nI (48 + w - 48) from nI_sub (b := 48) (by omega) (by omega)]
      exact ⟨fun y => absurd y (nI_pos (by omega)), fun y => absurd z y⟩
    · rw [if_neg z]; exact ⟨fun _ => z, fun _ => by decide⟩
  unfold numOk
  rw [dneg, dneg, Int32.not_lt]
  rcases h.2 with z | z | z | z
  · refine ⟨fun y => absurd (z.2.symm.trans y.1) (by decide), fun y => absurd (Decidable.not_not.mp y.1).1 z.1⟩
  · rw [z.2.2.1, z.2.2.2.1]
    have e : dgt f n (skp f n c) = f (skp f n c) - 48 := by unfold dgt; rw [if_pos z.1]
    rw [e]
    refine ⟨fun y => ⟨fun x => x z.1, y.2.2, z.2.1⟩, fun y => ⟨rfl, ?_, y.2.1⟩⟩
    obtain ⟨w, hw, ew⟩ := fig z.1
    rw [ew, show nI (48 + w) - 48 = nI (48 + w - 48) from nI_sub (b := 48) (by omega) (by omega)]
    exact nI_le (a := 0) (by omega) (by omega)
  · refine ⟨fun y => ?_, fun y => absurd z.2.1 y.2.2⟩
    rcases z.2.2 with x | x
    · exact absurd (x.symm.trans y.1) (by decide)
    · have h1 := x.2
      have h2 := y.2.2
      rw [tI_le, show (10 : Int32).toInt = 10 from rfl] at h1
      rw [tI_le] at h2 hl
      rw [show (9 : Int32).toInt = 9 from rfl] at hl
      omega
  · exact ⟨fun y => absurd (z.2.2.1.symm.trans y.1) (tokC_ne2 _), fun y => absurd z.2.1 y.1⟩
