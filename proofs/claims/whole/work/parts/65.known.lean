/-! ===== what is known at the law's entry ===== -/
theorem lt_t {w : Cond} (i : Nat) (h : tables_1[i]? = some w) : w ∈ lw_tbl := List.mem_append_right _ (List.mem_of_getElem? h)
theorem start_known {s : State} {b : Nat} (hts : ∀ w ∈ lw_tbl, w.before #[Value.ref b] s = true) (hgv : (Jvm.Cond.and given_1 narrow_1).before #[Value.ref b] s = true) : ∃ G : Gk, Wk G (fun q => s.heap.size ≤ q) s ∧ ∀ w ∈ NW, va_Nw w s := by
  have htb : ∀ w ∈ TBg, w.before #[Value.ref b] s = true := fun w h => hts w (tbg_in h)
  obtain ⟨c0, s0, k0⟩ := u_known (C := RX0) (T := TX0) (N := 4) (n := 4) htb inTX0 (hts (.instantiable RX0 4) (lt_t 60 (by decide +kernel)))
  obtain ⟨c1, s1, k1⟩ := u_known (C := RX1) (T := TX1) (N := 3) (n := 3) htb inTX1 (hts (.instantiable RX1 3) (lt_t 122 (by decide +kernel)))
  obtain ⟨c2, s2, k2⟩ := u_known (C := RX2) (T := TX2) (N := 8) (n := 8) htb inTX2 (hts (.instantiable RX2 8) (lt_t 184 (by decide +kernel)))
  obtain ⟨c3, s3, k3⟩ := u_known (C := RX3) (T := TX3) (N := 3) (n := 3) htb inTX3 (hts (.instantiable RX3 3) (lt_t 100 (by decide +kernel)))
  obtain ⟨c4, s4, k4⟩ := u_known (C := RX4) (T := TX4) (N := 9) (n := 9) htb inTX4 (hts (.instantiable RX4 9) (lt_t 142 (by decide +kernel)))
  obtain ⟨c5, s5, k5⟩ := u_known (C := RX5) (T := TX5) (N := 2) (n := 2) htb inTX5 (hts (.instantiable RX5 2) (lt_t 67 (by decide +kernel)))
  obtain ⟨c6, s6, k6⟩ := u_known (C := RX6) (T := TX6) (N := 7) (n := 7) htb inTX6 (hts (.instantiable RX6 7) (lt_t 23 (by decide +kernel)))
  obtain ⟨c7, s7, k7⟩ := u_known (C := RX7) (T := TX7) (N := 9) (n := 9) htb inTX7 (hts (.instantiable RX7 9) (lt_t 15 (by decide +kernel)))
  obtain ⟨c8, s8, k8⟩ := u_known (C := RX8) (T := TX8) (N := 26) (n := 26) htb inTX8 (hts (.instantiable RX8 26) (lt_t 627 (by decide +kernel)))
  obtain ⟨D, hD⟩ : ∃ D : va_G, ∀ (k : Nat) (q : vw_C), vwCl[k]? = some q → u_Kn s q.1 q.2.1 q.2.2 (D.1 k) (D.2 k) := by
    refine ⟨(fun k => ([c0, c1, c2, c3, c4, c5, c6, c7, c8] : List ClassId).getD k c0, fun k => ([s0, s1, s2, s3, s4, s5, s6, s7, s8] : List (Nat → Nat)).getD k s0), ?_⟩
    intro k q hq
    have hk : k < 9 := (List.getElem?_eq_some_iff.mp hq).1
    rcases (show k = 0 ∨ k = 1 ∨ k = 2 ∨ k = 3 ∨ k = 4 ∨ k = 5 ∨ k = 6 ∨ k = 7 ∨ k = 8 by omega) with rfl | rfl | rfl | rfl | rfl | rfl | rfl | rfl | rfl
    · cases hq; exact k0
    · cases hq; exact k1
    · cases hq; exact k2
    · cases hq; exact k3
    · cases hq; exact k4
    · cases hq; exact k5
    · cases hq; exact k6
    · cases hq; exact k7
    · cases hq; exact k8
  obtain ⟨cI, kI, dI, fI, gI, hI⟩ := Cond.arrayClass_spec (hts (.arrayClass .int) (lt_t 58 (by decide +kernel)))
  obtain ⟨cB, kB, dB, fB, gB, hB⟩ := Cond.arrayClass_spec (hts (.arrayClass .boolean) (lt_t 182 (by decide +kernel)))
  obtain ⟨cJ, cM, kM, fJ, -, gM, hM, fM⟩ := arrayOverA_spec (hts (.arrayOver (.array .int)) (lt_t 31 (by decide +kernel)))
  obtain ⟨eS, cS, kS, jS, -, gS, hS, fS⟩ := Cond.arrayOver_spec (hts (.arrayOver (.object RX3)) (lt_t 128 (by decide +kernel)))
  obtain ⟨eT, cT, kT, jT, -, gT, hT, fT⟩ := Cond.arrayOver_spec (hts (.arrayOver (.object RX5)) (lt_t 66 (by decide +kernel)))
  obtain rfl : cI = cJ := Option.some.inj (Eq.trans (Eq.symm fI) fJ)
  have hs := flat_of_before _ hgv
  have hA : ∀ a : Nat, a < s.heap.size → ¬ (fun q => s.heap.size ≤ q) a := fun a h => Nat.not_le.mpr h
  have el : ∀ (j : Nat), j < 6 → (Term.elem (.static RX7 "LIMITS" "[I") (.int (Int32.ofNat j))).eval #[Value.ref b] s none [] s = some (limV j) := by
    intro j hj
    rcases (show j = 0 ∨ j = 1 ∨ j = 2 ∨ j = 3 ∨ j = 4 ∨ j = 5 by omega) with rfl | rfl | rfl | rfl | rfl | rfl
    · exact va_eqt (t := .elem (.static RX7 "LIMITS" "[I") (.int 0)) (z := 5) (hs (.eq (.elem (.static RX7 "LIMITS" "[I") (.int 0)) (.int 5)) (by decide +kernel))
    · exact va_eqt (t := .elem (.static RX7 "LIMITS" "[I") (.int 1)) (z := 5) (hs (.eq (.elem (.static RX7 "LIMITS" "[I") (.int 1)) (.int 5)) (by decide +kernel))
    · exact va_eqt (t := .elem (.static RX7 "LIMITS" "[I") (.int 2)) (z := 5) (hs (.eq (.elem (.static RX7 "LIMITS" "[I") (.int 2)) (.int 5)) (by decide +kernel))
    · exact va_eqt (t := .elem (.static RX7 "LIMITS" "[I") (.int 3)) (z := 5) (hs (.eq (.elem (.static RX7 "LIMITS" "[I") (.int 3)) (.int 5)) (by decide +kernel))
    · exact va_eqt (t := .elem (.static RX7 "LIMITS" "[I") (.int 4)) (z := 2) (hs (.eq (.elem (.static RX7 "LIMITS" "[I") (.int 4)) (.int 2)) (by decide +kernel))
    · exact va_eqt (t := .elem (.static RX7 "LIMITS" "[I") (.int 5)) (z := 1) (hs (.eq (.elem (.static RX7 "LIMITS" "[I") (.int 5)) (.int 1)) (by decide +kernel))
  obtain ⟨t, ht, hTT⟩ := va_Tof (tm := .static RX7 "LIMITS" "[I") (ty := .int) (N := 6) (f := limV) (A := fun q => s.heap.size ≤ q) (by decide) (hs (.arrayOf (.static RX7 "LIMITS" "[I") .int) (by decide +kernel)) (va_eqt (t := .length (.static RX7 "LIMITS" "[I")) (z := 6) (hs (.eq (.length (.static RX7 "LIMITS" "[I")) (.int 6)) (by decide +kernel))) el hA
  have hZ := va_Zof (A := fun q => s.heap.size ≤ q) (hts (.laysStatic RX7 "LIMITS" "[I") (lt_t 29 (by decide +kernel))) (hts (.initialized RX7) (lt_t 1 (by decide +kernel))) ht hA
  refine ⟨(D, fun k => if k = 10 then cI else if k = 11 then cB else if k = 12 then cM else if k = 13 then cS else cT, t), ⟨⟨hD, fun k q hq => ?_⟩, fun w hw => ?_, hts (.arrayOver (.object RX3)) (lt_t 128 (by decide +kernel)), hts (.arrayOver (.object RX5)) (lt_t 66 (by decide +kernel)), ⟨kM, gM, hM⟩, hZ, hTT⟩, fun w hw => ?_⟩
  · have hk : k < 5 := (List.getElem?_eq_some_iff.mp hq).1
    rcases (show k = 0 ∨ k = 1 ∨ k = 2 ∨ k = 3 ∨ k = 4 by omega) with rfl | rfl | rfl | rfl | rfl
    · cases hq; exact ⟨fun n z => ⟨fun k h => (by cases h), kI, gI, dI, hI⟩, fI⟩
    · cases hq; exact ⟨fun n z => ⟨fun k h => (by cases h), kB, gB, dB, hB⟩, fB⟩
    · cases hq; exact ⟨fun n z => ⟨fun k h => (by cases h), kM, gM, cI, hM⟩, fM⟩
    · cases hq; exact ⟨fun n z => ⟨fun k h => (by cases h), kS, gS, eS, hS⟩, kS, eS, gS, hS, jS, fS⟩
    · cases hq; exact ⟨fun n z => ⟨fun k h => (by cases h), kT, gT, eT, hT⟩, kT, eT, gT, hT, jT, fT⟩
  · simp only [NWI, List.mem_cons, List.not_mem_nil, or_false] at hw
    rcases hw with rfl | rfl | rfl | rfl | rfl | rfl | rfl | rfl | rfl
    · exact va_Nw.of rfl (hts _ (lt_t 28 (by decide +kernel)))
    · exact va_Nw.of rfl (hts _ (lt_t 24 (by decide +kernel)))
    · exact va_Nw.of rfl (hts _ (lt_t 68 (by decide +kernel)))
    · exact va_Nw.of rfl (hts _ (lt_t 101 (by decide +kernel)))
    · exact va_Nw.of rfl (hts _ (lt_t 129 (by decide +kernel)))
    · exact va_Nw.of rfl (hts _ (lt_t 143 (by decide +kernel)))
    · exact va_Nw.of rfl (hts _ (lt_t 149 (by decide +kernel)))
    · exact va_Nw.of rfl (hts _ (lt_t 185 (by decide +kernel)))
    · exact va_Nw.of rfl (hts _ (lt_t 190 (by decide +kernel)))
  · simp only [NW, List.mem_cons, List.not_mem_nil, or_false] at hw
    rcases hw with rfl | rfl | rfl | rfl | rfl | rfl
    · exact va_Nw.of rfl (hts _ (lt_t 28 (by decide +kernel)))
    · exact va_Nw.of rfl (hts _ (lt_t 443 (by decide +kernel)))
    · exact va_Nw.of rfl (hts _ (lt_t 446 (by decide +kernel)))
    · exact va_Nw.of rfl (hts _ (lt_t 462 (by decide +kernel)))
    · exact va_Nw.of rfl (hts _ (lt_t 538 (by decide +kernel)))
    · exact va_Nw.of rfl (hts _ (lt_t 554 (by decide +kernel)))
