/-! ===== the law's start: both objects are made; one kitchen, empty, in both ===== -/
def Ab0 : Abs := (0, fun _ _ => 0, fun _ => 0, (fun _ => 0, fun _ => 0, fun _ => 0), [], fun _ => none, [], (0, fun _ => 0), 0)
theorem ai_0 : AI Ab0 := ⟨Nat.zero_le _, fun b hb => absurd hb (Nat.not_lt_zero b), ⟨fun p hp => ⟨0, Nat.zero_le _, rfl⟩, fun b hb => Or.inl rfl⟩, fun s hs => absurd hs List.not_mem_nil, (fun i s hs => nomatch hs), fun e he => absurd he List.not_mem_nil, Nat.zero_le _, Nat.zero_le _, Nat.zero_le _⟩
theorem s0_ne {k : Nat} (h : k ≠ 120) : σ0.1 k = fun _ => 0 := if_neg h
theorem s0_li : LI σ0 := by
  refine ⟨Ab0, ⟨ai_0, ⟨by rw [s0_ne (by decide)]; rfl, fun b hb => absurd hb (Nat.not_lt_zero b)⟩, ⟨fun p hp => by rw [s0_ne (by decide)]; rfl, fun b hb => by rw [s0_ne (by decide)]; rfl, fun b hb => absurd hb (Nat.not_lt_zero b)⟩, ⟨0, by decide, by rw [s0_ne (by decide)]; rfl, by rw [s0_ne (by decide)]; rfl, fun i s hs => ?_⟩, fun i hi => ⟨(fun s hs => nomatch hs), fun _ => by rw [s0_ne (by decide)]⟩, ⟨by rw [s0_ne (by decide)]; rfl, fun i e he => ?_⟩, ⟨by rw [s0_ne (by decide)]; rfl, fun i hi => absurd hi (Nat.not_lt_zero i)⟩, rfl, ⟨0, by decide, by rw [s0_ne (by decide)]; rfl, fun i hi => absurd hi (Nat.not_lt_zero i), fun x hx => Or.inl (by rw [s0_ne (by decide)])⟩, by rw [s0_ne (by decide)]⟩,
    ⟨ai_0, ⟨by rw [s0_ne (by decide)]; rfl, fun b hb => absurd hb (Nat.not_lt_zero b)⟩, ⟨fun p hp => ?_, by decide, fun b hb => absurd hb (Nat.not_lt_zero b)⟩, ⟨by rw [s0_ne (by decide)]; rfl, fun i s hs => ?_⟩, fun i hi => ⟨(fun s hs => nomatch hs), fun _ => by rw [s0_ne (by decide)]⟩, ⟨by rw [s0_ne (by decide)]; rfl, fun i e he => ?_⟩, ⟨by rw [s0_ne (by decide)]; rfl, fun i hi => absurd hi (Nat.not_lt_zero i)⟩, rfl⟩, fun i hi => absurd hi (Nat.not_lt_zero i)⟩
  · have hs2 : ([] : List Scn)[i]? = some s := hs
    simp at hs2
  · have he2 : ([] : List ((Nat → Int32) × Int32))[i]? = some e := he
    simp at he2
  · rcases (show p = 0 ∨ p = 1 ∨ p = 2 ∨ p = 3 by omega) with rfl | rfl | rfl | rfl <;> decide
  · have hs2 : ([] : List Scn)[i]? = some s := hs
    simp at hs2
  · have he2 : ([] : List ((Nat → Int32) × Int32))[i]? = some e := he
    simp at he2
theorem at_congr {D : va_G} {ka : Nat → ClassId} {ρ ρ' : Nat → Nat} {σ : Sto} {k q : Nat} {H : Heap} (h : va_at D vwCl (q, ce ka ρ σ k) H) (hr : ∀ j, ((kd k < 9 ∧ j < nfl (kd k) ∧ fty (kd k) j = 3) ∨ (12 ≤ kd k ∧ j < ln k)) → ρ (rf k j) = ρ' (rf k j)) : va_at D vwCl (q, ce ka ρ' σ k) H := by
  by_cases h1 : kd k < 9
  · have e : ce ka ρ σ k = ce ka ρ' σ k := by
      rw [ce_obj rfl h1, ce_obj rfl h1]
      congr 2
      refine List.map_congr_left (fun j hj => ?_)
      unfold fv
      by_cases h2 : fty (kd k) j = 3
      · rw [if_pos h2, if_pos h2, hr j (Or.inl ⟨h1, List.mem_range.mp hj, h2⟩)]
      · rw [if_neg h2, if_neg h2]
    rw [← e]; exact h
  · by_cases h2 : kd k < 12
    · rw [ce_int rfl (by omega) h2] at h ⊢
      exact h
    · rw [ce_ref rfl (by omega)] at h ⊢
      have h3 : H[q]? = some (vp_cell (ka (kd k)) (ln k, .inr (.inr (.inr (.inr (fun i => some (ρ (rf k i)))))))) := h
      show H[q]? = some (vp_cell (ka (kd k)) (ln k, .inr (.inr (.inr (.inr (fun i => some (ρ' (rf k i))))))))
      rw [h3, fun_refs (fun i hi => by rw [hr i (Or.inr ⟨by omega, hi⟩)])]
theorem lo_b : ∀ k, k < 117 → (kd k < 9 → nfl (kd k) ≤ 9) ∧ (12 ≤ kd k → ln k ≤ 10) := by decide +kernel
theorem lo_t : ∀ k, k < 117 → ∀ j, j < 10 → ((kd k < 9 ∧ j < nfl (kd k) ∧ fty (kd k) j = 3) ∨ (12 ≤ kd k ∧ j < ln k)) → rf k j < 117 := by decide +kernel
theorem hi_b : ∀ k, k < 131 → 117 ≤ k → (kd k < 9 → nfl (kd k) ≤ 26) ∧ ¬ 12 ≤ kd k := by decide +kernel
theorem hi_t : ∀ k, k < 131 → 117 ≤ k → ∀ j, j < 26 → (kd k < 9 ∧ j < nfl (kd k) ∧ fty (kd k) j = 3) → 117 ≤ rf k j ∧ rf k j < 131 := by decide +kernel
theorem in7 : ∀ k, k < 117 → k ∈ LX7 := by decide +kernel
theorem of7 : ∀ k ∈ LX7, k < 117 := by decide +kernel
theorem in8 : ∀ k, k < 131 → 117 ≤ k → k ∈ LX8 := by decide +kernel
theorem of8 : ∀ k ∈ LX8, 117 ≤ k ∧ k < 131 := by decide +kernel
/-- every cell's number -/
def rhoW (ad7 ad8 : Nat → Nat) (t b : Nat) : Nat → Nat := fun k => if k < 117 then ad7 k else if k < 131 then ad8 k else if k = 131 then t else b
theorem rho7 {ad7 ad8 : Nat → Nat} {t b k : Nat} (h : k < 117) : rhoW ad7 ad8 t b k = ad7 k := if_pos h
theorem rho8 {ad7 ad8 : Nat → Nat} {t b k : Nat} (h : 117 ≤ k) (h2 : k < 131) : rhoW ad7 ad8 t b k = ad8 k := by unfold rhoW; rw [if_neg (by omega), if_pos h2]
theorem world_at {ka : Nat → ClassId} {ad7 ad8 : Nat → Nat} {t b : Nat} {k : Nat} (hk : k < 131) : ∃ (i : Nat) (e : va_E), (LX7 ++ LX8)[i]? = some k ∧ (LX7.map (fun k => (ad7 k, ce ka ad7 σ0 k)) ++ LX8.map (fun k => (ad8 k, ce ka ad8 σ0 k)))[i]? = some (rhoW ad7 ad8 t b k, e) ∧ ((k < 117 ∧ e = ce ka ad7 σ0 k) ∨ (117 ≤ k ∧ e = ce ka ad8 σ0 k)) := by
  rcases Nat.lt_or_ge k 117 with h | h
  · obtain ⟨i, hi⟩ := List.getElem?_of_mem (in7 k h)
    have hl := (List.getElem?_eq_some_iff.mp hi).1
    refine ⟨i, ce ka ad7 σ0 k, by rw [List.getElem?_append_left hl]; exact hi, ?_, Or.inl ⟨h, rfl⟩⟩
    rw [List.getElem?_append_left (by rw [List.length_map]; exact hl), List.getElem?_map, hi, rho7 h]
    rfl
  · obtain ⟨i, hi⟩ := List.getElem?_of_mem (in8 k hk h)
    refine ⟨LX7.length + i, ce ka ad8 σ0 k, by rw [List.getElem?_append_right (by omega), Nat.add_sub_cancel_left]; exact hi, ?_, Or.inr ⟨h, rfl⟩⟩
    rw [List.getElem?_append_right (by rw [List.length_map]; omega), List.length_map, Nat.add_sub_cancel_left, List.getElem?_map, hi, rho8 h hk]
    rfl
theorem world_rp {D : va_G} {ka : Nat → ClassId} {ad7 ad8 : Nat → Nat} {t b : Nat} {H : Heap} (hP : va_P D vwCl (LX7.map (fun k => (ad7 k, ce ka ad7 σ0 k)) ++ LX8.map (fun k => (ad8 k, ce ka ad8 σ0 k))) H) : va_P D vwCl (wsO ka (rhoW ad7 ad8 t b) σ0) H := by
  intro k q hq
  obtain ⟨hk, rfl⟩ := wsO_inv hq
  obtain ⟨i, e, -, hi, he⟩ := world_at (ka := ka) (ad7 := ad7) (ad8 := ad8) (t := t) (b := b) hk
  have h := hP i _ hi
  rcases he with ⟨h7, rfl⟩ | ⟨h8, rfl⟩
  · refine at_congr h (fun j hj => ?_)
    have hj2 : j < 10 := by
      have := lo_b k h7
      rcases hj with ⟨a, a2, a3⟩ | ⟨a, a2⟩
      · have := this.1 a; omega
      · have := this.2 a; omega
    exact (rho7 (lo_t k h7 j hj2 hj)).symm
  · refine at_congr h (fun j hj => ?_)
    have hb := hi_b k hk h8
    rcases hj with a | ⟨a, -⟩
    · obtain ⟨x, y⟩ := hi_t k hk h8 j (by have := hb.1 a.1; omega) a
      exact (rho8 x y).symm
    · exact absurd a hb.2
theorem world_inj {ka : Nat → ClassId} {ad7 ad8 : Nat → Nat} {t b : Nat} {A : Nat → Prop} (hD : va_D A (LX7.map (fun k => (ad7 k, ce ka ad7 σ0 k)) ++ LX8.map (fun k => (ad8 k, ce ka ad8 σ0 k)))) : Inj (rhoW ad7 ad8 t b) ∧ ∀ q, Ar (rhoW ad7 ad8 t b) q → A q := by
  refine ⟨fun i j hi hj h => ?_, fun q hq => ?_⟩
  · obtain ⟨x, e, x1, x2, -⟩ := world_at (ka := ka) (ad7 := ad7) (ad8 := ad8) (t := t) (b := b) hi
    obtain ⟨y, e', y1, y2, -⟩ := world_at (ka := ka) (ad7 := ad7) (ad8 := ad8) (t := t) (b := b) hj
    obtain rfl := hD.1 x y _ _ x2 y2 h
    exact Option.some.inj (x1.symm.trans y1)
  · obtain ⟨k, hk, rfl⟩ := hq
    obtain ⟨x, e, x1, x2, -⟩ := world_at (ka := ka) (ad7 := ad7) (ad8 := ad8) (t := t) (b := b) hk
    exact hD.2 x _ x2
