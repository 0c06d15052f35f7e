/-! ===== constructors: the parts ===== -/
theorem ei_ws {G : Gk} {own : String} {cc : ByteArray} {nL d mc ms pc : Nat} {ls st : List Value} {ws ws' : va_W} {k n : Nat} {Q : va_W → Prop} (h : ws = ws') (kk : EvI G own cc nL d mc ms pc ls st ws' k n Q) : EvI G own cc nL d mc ms pc ls st ws k n Q := by
  rw [h]; exact kk
theorem fr_X5_9 : FR RX5 9 5 0 2 := ⟨RX5, TX5, tyX5, rfl, inTX5, by decide, tbg_t 72 (by decide +kernel) (by decide +kernel), tyX5_ok, nmX5, rfl, rfl, rfl, fun _ => rfl, fun _ => rfl⟩
theorem fr_X3_9 : FR RX3 9 3 0 3 := ⟨RX3, TX3, tyX3, rfl, inTX3, by decide, tbg_t 105 (by decide +kernel) (by decide +kernel), tyX3_ok, nmX3, rfl, rfl, rfl, fun _ => rfl, fun _ => rfl⟩
theorem fr_X3_15 : FR RX3 15 3 1 3 := ⟨RX3, TX3, tyX3, rfl, inTX3, by decide, tbg_t 109 (by decide +kernel) (by decide +kernel), tyX3_ok, nmX3, rfl, rfl, rfl, fun _ => rfl, fun _ => rfl⟩
theorem fr_X3_18 : FR RX3 18 3 2 3 := ⟨RX3, TX3, tyX3, rfl, inTX3, by decide, tbg_t 112 (by decide +kernel) (by decide +kernel), tyX3_ok, nmX3, rfl, rfl, rfl, fun _ => rfl, fun _ => rfl⟩
theorem fr_X6_9 : FR RX6 9 6 0 7 := ⟨RX6, TX6, tyX6, rfl, inTX6, by decide, tbg_t 32 (by decide +kernel) (by decide +kernel), tyX6_ok, nmX6, rfl, rfl, rfl, fun _ => rfl, fun _ => rfl⟩
theorem fr_X6_20 : FR RX6 20 6 2 7 := ⟨RX6, TX6, tyX6, rfl, inTX6, by decide, tbg_t 35 (by decide +kernel) (by decide +kernel), tyX6_ok, nmX6, rfl, rfl, rfl, fun _ => rfl, fun _ => rfl⟩
theorem fr_X6_23 : FR RX6 23 6 4 7 := ⟨RX6, TX6, tyX6, rfl, inTX6, by decide, tbg_t 39 (by decide +kernel) (by decide +kernel), tyX6_ok, nmX6, rfl, rfl, rfl, fun _ => rfl, fun _ => rfl⟩
theorem fr_X0_11 : FR RX0 11 0 0 4 := ⟨RX0, TX0, tyX0, rfl, inTX0, by decide, tbg_t 84 (by decide +kernel) (by decide +kernel), tyX0_ok, nmX0, rfl, rfl, rfl, fun _ => rfl, fun _ => rfl⟩
theorem fr_X0_17 : FR RX0 17 0 2 4 := ⟨RX0, TX0, tyX0, rfl, inTX0, by decide, tbg_t 88 (by decide +kernel) (by decide +kernel), tyX0_ok, nmX0, rfl, rfl, rfl, fun _ => rfl, fun _ => rfl⟩
theorem fr_X0_21 : FR RX0 21 0 3 4 := ⟨RX0, TX0, tyX0, rfl, inTX0, by decide, tbg_t 89 (by decide +kernel) (by decide +kernel), tyX0_ok, nmX0, rfl, rfl, rfl, fun _ => rfl, fun _ => rfl⟩
theorem cl_X0_9 : CL RX0 9 5 2 [.null, .int 0] := ⟨RX5, TX5, tyX5, rfl, inTX5, tyX5_ok, tbg_t 65 (by decide +kernel) (by decide +kernel), tbg_t 67 (by decide +kernel) (by decide +kernel), tbg_t 4 (by decide +kernel) (by decide +kernel), fun j hj => by rcases (show j = 0 ∨ j = 1 by omega) with rfl | rfl <;> rfl⟩
theorem ni_X0_24 : NI RX0 24 yX5_init cX5_init 1 := ⟨Or.inr (by decide +kernel), tbg_t 70 (by decide +kernel) (by decide +kernel), tbg_t 4 (by decide +kernel) (by decide +kernel), ⟨by decide +kernel, by decide +kernel, by decide +kernel⟩, by decide, rfl, tbg_t 69 (by decide +kernel) (by decide +kernel)⟩
theorem fr_X1_11 : FR RX1 11 1 0 3 := ⟨RX1, TX1, tyX1, rfl, inTX1, by decide, tbg_t 130 (by decide +kernel) (by decide +kernel), tyX1_ok, nmX1, rfl, rfl, rfl, fun _ => rfl, fun _ => rfl⟩
theorem cl_X1_9 : CL RX1 9 3 3 [.null, .null, .null] := ⟨RX3, TX3, tyX3, rfl, inTX3, tyX3_ok, tbg_t 127 (by decide +kernel) (by decide +kernel), tbg_t 100 (by decide +kernel) (by decide +kernel), tbg_t 5 (by decide +kernel) (by decide +kernel), fun j hj => by rcases (show j = 0 ∨ j = 1 ∨ j = 2 by omega) with rfl | rfl | rfl <;> rfl⟩
theorem ni_X1_17 : NI RX1 17 yX3_init cX3_init 1 := ⟨Or.inr (by decide +kernel), tbg_t 103 (by decide +kernel) (by decide +kernel), tbg_t 5 (by decide +kernel) (by decide +kernel), ⟨by decide +kernel, by decide +kernel, by decide +kernel⟩, by decide, rfl, tbg_t 102 (by decide +kernel) (by decide +kernel)⟩
theorem fr_X2_9 : FR RX2 9 2 0 8 := ⟨RX2, TX2, tyX2, rfl, inTX2, by decide, tbg_t 191 (by decide +kernel) (by decide +kernel), tyX2_ok, nmX2, rfl, rfl, rfl, fun _ => rfl, fun _ => rfl⟩
theorem fr_X2_15 : FR RX2 15 2 1 8 := ⟨RX2, TX2, tyX2, rfl, inTX2, by decide, tbg_t 193 (by decide +kernel) (by decide +kernel), tyX2_ok, nmX2, rfl, rfl, rfl, fun _ => rfl, fun _ => rfl⟩
theorem fr_X2_18 : FR RX2 18 2 2 8 := ⟨RX2, TX2, tyX2, rfl, inTX2, by decide, tbg_t 194 (by decide +kernel) (by decide +kernel), tyX2_ok, nmX2, rfl, rfl, rfl, fun _ => rfl, fun _ => rfl⟩
theorem fr_X2_21 : FR RX2 21 2 3 8 := ⟨RX2, TX2, tyX2, rfl, inTX2, by decide, tbg_t 195 (by decide +kernel) (by decide +kernel), tyX2_ok, nmX2, rfl, rfl, rfl, fun _ => rfl, fun _ => rfl⟩
theorem fr_X2_24 : FR RX2 24 2 4 8 := ⟨RX2, TX2, tyX2, rfl, inTX2, by decide, tbg_t 196 (by decide +kernel) (by decide +kernel), tyX2_ok, nmX2, rfl, rfl, rfl, fun _ => rfl, fun _ => rfl⟩
theorem fr_X2_27 : FR RX2 27 2 6 8 := ⟨RX2, TX2, tyX2, rfl, inTX2, by decide, tbg_t 198 (by decide +kernel) (by decide +kernel), tyX2_ok, nmX2, rfl, rfl, rfl, fun _ => rfl, fun _ => rfl⟩
theorem cl_X2_31 : CL RX2 31 3 3 [.null, .null, .null] := ⟨RX3, TX3, tyX3, rfl, inTX3, tyX3_ok, tbg_t 189 (by decide +kernel) (by decide +kernel), tbg_t 100 (by decide +kernel) (by decide +kernel), tbg_t 5 (by decide +kernel) (by decide +kernel), fun j hj => by rcases (show j = 0 ∨ j = 1 ∨ j = 2 by omega) with rfl | rfl | rfl <;> rfl⟩
theorem ni_X2_33 : NI RX2 33 yX3_init cX3_init 1 := ⟨Or.inr (by decide +kernel), tbg_t 103 (by decide +kernel) (by decide +kernel), tbg_t 5 (by decide +kernel) (by decide +kernel), ⟨by decide +kernel, by decide +kernel, by decide +kernel⟩, by decide, rfl, tbg_t 102 (by decide +kernel) (by decide +kernel)⟩
theorem fr_X2_34 : FR RX2 34 2 7 8 := ⟨RX2, TX2, tyX2, rfl, inTX2, by decide, tbg_t 199 (by decide +kernel) (by decide +kernel), tyX2_ok, nmX2, rfl, rfl, rfl, fun _ => rfl, fun _ => rfl⟩
theorem fr_X4_9 : FR RX4 9 4 0 9 := ⟨RX4, TX4, tyX4, rfl, inTX4, by decide, tbg_t 150 (by decide +kernel) (by decide +kernel), tyX4_ok, nmX4, rfl, rfl, rfl, fun _ => rfl, fun _ => rfl⟩
theorem fr_X4_17 : FR RX4 17 4 1 9 := ⟨RX4, TX4, tyX4, rfl, inTX4, by decide, tbg_t 151 (by decide +kernel) (by decide +kernel), tyX4_ok, nmX4, rfl, rfl, rfl, fun _ => rfl, fun _ => rfl⟩
theorem cl_X4_20 : CL RX4 20 5 2 [.null, .int 0] := ⟨RX5, TX5, tyX5, rfl, inTX5, tyX5_ok, tbg_t 148 (by decide +kernel) (by decide +kernel), tbg_t 67 (by decide +kernel) (by decide +kernel), tbg_t 4 (by decide +kernel) (by decide +kernel), fun j hj => by rcases (show j = 0 ∨ j = 1 by omega) with rfl | rfl <;> rfl⟩
theorem ni_X4_22 : NI RX4 22 yX5_init cX5_init 1 := ⟨Or.inr (by decide +kernel), tbg_t 70 (by decide +kernel) (by decide +kernel), tbg_t 4 (by decide +kernel) (by decide +kernel), ⟨by decide +kernel, by decide +kernel, by decide +kernel⟩, by decide, rfl, tbg_t 69 (by decide +kernel) (by decide +kernel)⟩
theorem fr_X4_23 : FR RX4 23 4 3 9 := ⟨RX4, TX4, tyX4, rfl, inTX4, by decide, tbg_t 154 (by decide +kernel) (by decide +kernel), tyX4_ok, nmX4, rfl, rfl, rfl, fun _ => rfl, fun _ => rfl⟩
theorem fr_X4_27 : FR RX4 27 4 7 9 := ⟨RX4, TX4, tyX4, rfl, inTX4, by decide, tbg_t 161 (by decide +kernel) (by decide +kernel), tyX4_ok, nmX4, rfl, rfl, rfl, fun _ => rfl, fun _ => rfl⟩
theorem fr_X4_30 : FR RX4 30 4 8 9 := ⟨RX4, TX4, tyX4, rfl, inTX4, by decide, tbg_t 162 (by decide +kernel) (by decide +kernel), tyX4_ok, nmX4, rfl, rfl, rfl, fun _ => rfl, fun _ => rfl⟩
def wX5 (ka : Nat → ClassId) (t : Nat → Nat) : va_W := [zO (t 0) 5 [.ref (t 1), .int 0], zI (ka) (t 1) 4]
def PX5 (G : Gk) (q : Nat) (w : va_W) : Prop := ∃ t : Nat → Nat, t 0 = q ∧ w = wX5 G.2.1 t
set_option maxRecDepth 100000 in
set_option maxHeartbeats 4000000 in
theorem i_X5 (G : Gk) : MtI G yX5_init cX5_init 1 1 1 4 5 [.null, .int 0] (PX5 G) := by
  refine mi_of (by decide) rfl (by decide) (fun h0 => ?_)
  refine ei_aload0 (pc := 0) dX5_init_0 ?_
  refine ei_obj (pc := 1) dX5_init_1 (tbg_t 71 (by decide +kernel) (by decide +kernel)) (by decide) ?_
  refine ei_aload0 (pc := 4) dX5_init_4 ?_
  refine ei_iconst (pc := 5) (v := 4) dX5_init_5 (by decide) ?_
  refine ei_newI (pc := 6) (N := 4) dX5_init_6 (by decide) (by decide) (Nat.le_of_ble_eq_true rfl) (Nat.le_of_ble_eq_true rfl) (Nat.le_of_ble_eq_true rfl) (fun q1 => ?_)
  refine ei_ws (ws' := [zO h0 5 [.null, .int 0], zI (G.2.1) q1 4]) rfl ?_
  refine ei_putF (pc := 8) (fs' := [.ref q1, .int 0]) dX5_init_8 fr_X5_9 (Nat.le_of_ble_eq_true rfl) rfl ?_
  exact ei_return (pc := 11) dX5_init_11 rfl rfl ⟨fun j => ([h0, q1] : List Nat).getD j 0, rfl, rfl⟩
def wX3 (ka : Nat → ClassId) (t : Nat → Nat) : va_W := [zO (t 0) 3 [.ref (t 1), .ref (t 2), .ref (t 3)], zI (ka) (t 1) 4, zI (ka) (t 2) 6, zI (ka) (t 3) 6]
def PX3 (G : Gk) (q : Nat) (w : va_W) : Prop := ∃ t : Nat → Nat, t 0 = q ∧ w = wX3 G.2.1 t
set_option maxRecDepth 100000 in
set_option maxHeartbeats 4000000 in
theorem i_X3 (G : Gk) : MtI G yX3_init cX3_init 1 1 3 16 3 [.null, .null, .null] (PX3 G) := by
  refine mi_of (by decide) rfl (by decide) (fun h0 => ?_)
  refine ei_aload0 (pc := 0) dX3_init_0 ?_
  refine ei_obj (pc := 1) dX3_init_1 (tbg_t 104 (by decide +kernel) (by decide +kernel)) (by decide) ?_
  refine ei_aload0 (pc := 4) dX3_init_4 ?_
  refine ei_iconst (pc := 5) (v := 4) dX3_init_5 (by decide) ?_
  refine ei_newI (pc := 6) (N := 4) dX3_init_6 (by decide) (by decide) (Nat.le_of_ble_eq_true rfl) (Nat.le_of_ble_eq_true rfl) (Nat.le_of_ble_eq_true rfl) (fun q1 => ?_)
  refine ei_ws (ws' := [zO h0 3 [.null, .null, .null], zI (G.2.1) q1 4]) rfl ?_
  refine ei_putF (pc := 8) (fs' := [.ref q1, .null, .null]) dX3_init_8 fr_X3_9 (Nat.le_of_ble_eq_true rfl) rfl ?_
  refine ei_aload0 (pc := 11) dX3_init_11 ?_
  refine ei_bipush (pc := 12) (v := 6) dX3_init_12 (by decide) ?_
  refine ei_newI (pc := 14) (N := 6) dX3_init_14 (by decide) (by decide) (Nat.le_of_ble_eq_true rfl) (Nat.le_of_ble_eq_true rfl) (Nat.le_of_ble_eq_true rfl) (fun q2 => ?_)
  refine ei_ws (ws' := [zO h0 3 [.ref q1, .null, .null], zI (G.2.1) q1 4, zI (G.2.1) q2 6]) rfl ?_
  refine ei_putF (pc := 16) (fs' := [.ref q1, .ref q2, .null]) dX3_init_16 fr_X3_15 (Nat.le_of_ble_eq_true rfl) rfl ?_
  refine ei_aload0 (pc := 19) dX3_init_19 ?_
  refine ei_bipush (pc := 20) (v := 6) dX3_init_20 (by decide) ?_
  refine ei_newI (pc := 22) (N := 6) dX3_init_22 (by decide) (by decide) (Nat.le_of_ble_eq_true rfl) (Nat.le_of_ble_eq_true rfl) (Nat.le_of_ble_eq_true rfl) (fun q3 => ?_)
  refine ei_ws (ws' := [zO h0 3 [.ref q1, .ref q2, .null], zI (G.2.1) q1 4, zI (G.2.1) q2 6, zI (G.2.1) q3 6]) rfl ?_
  refine ei_putF (pc := 24) (fs' := [.ref q1, .ref q2, .ref q3]) dX3_init_24 fr_X3_18 (Nat.le_of_ble_eq_true rfl) rfl ?_
  exact ei_return (pc := 27) dX3_init_27 rfl rfl ⟨fun j => ([h0, q1, q2, q3] : List Nat).getD j 0, rfl, rfl⟩
def wX6 (ka : Nat → ClassId) (t : Nat → Nat) : va_W := [zO (t 0) 6 [.ref (t 1), .int 0, .ref (t 2), .int 0, .ref (t 9), .int 0, .int 0], zI (ka) (t 1) 120, zR ((ka) 12) (t 2) 6 (fun i => some (t (3 + i))), zI (ka) (t 3) 6, zI (ka) (t 4) 6, zI (ka) (t 5) 6, zI (ka) (t 6) 6, zI (ka) (t 7) 6, zI (ka) (t 8) 6, zI (ka) (t 9) 4]
def PX6 (G : Gk) (q : Nat) (w : va_W) : Prop := ∃ t : Nat → Nat, t 0 = q ∧ w = wX6 G.2.1 t
set_option maxRecDepth 100000 in
set_option maxHeartbeats 4000000 in
theorem i_X6 (G : Gk) : MtI G yX6_init cX6_init 1 1 9 166 6 [.null, .int 0, .null, .int 0, .null, .int 0, .int 0] (PX6 G) := by
  refine mi_of (by decide) rfl (by decide) (fun h0 => ?_)
  refine ei_aload0 (pc := 0) dX6_init_0 ?_
  refine ei_obj (pc := 1) dX6_init_1 (tbg_t 27 (by decide +kernel) (by decide +kernel)) (by decide) ?_
  refine ei_aload0 (pc := 4) dX6_init_4 ?_
  refine ei_bipush (pc := 5) (v := 120) dX6_init_5 (by decide) ?_
  refine ei_newI (pc := 7) (N := 120) dX6_init_7 (by decide) (by decide) (Nat.le_of_ble_eq_true rfl) (Nat.le_of_ble_eq_true rfl) (Nat.le_of_ble_eq_true rfl) (fun q1 => ?_)
  refine ei_ws (ws' := [zO h0 6 [.null, .int 0, .null, .int 0, .null, .int 0, .int 0], zI (G.2.1) q1 120]) rfl ?_
  refine ei_putF (pc := 9) (fs' := [.ref q1, .int 0, .null, .int 0, .null, .int 0, .int 0]) dX6_init_9 fr_X6_9 (Nat.le_of_ble_eq_true rfl) rfl ?_
  refine ei_aload0 (pc := 12) dX6_init_12 ?_
  refine ei_bipush (pc := 13) (v := 6) dX6_init_13 (by decide) ?_
  refine ei_lim (pc := 15) dX6_init_15 rfl ?_
  refine ei_limlen (pc := 18) dX6_init_18 ?_
  refine ei_mul (pc := 19) (N := 6) (M := 6) dX6_init_19 (tbg_t 30 (by decide +kernel) (by decide +kernel)) (by decide) (by decide) (by decide) (by decide) (by decide) (by decide) (Nat.le_of_ble_eq_true rfl) (Nat.le_of_ble_eq_true rfl) (fun q2 => ?_)
  refine ei_ws (ws' := [zO h0 6 [.ref q1, .int 0, .null, .int 0, .null, .int 0, .int 0], zI (G.2.1) q1 120, zR ((G.2.1) 12) q2 6 (fun i => some (q2 + 1 + i)), zI (G.2.1) (q2 + 1 + 0) 6, zI (G.2.1) (q2 + 1 + 1) 6, zI (G.2.1) (q2 + 1 + 2) 6, zI (G.2.1) (q2 + 1 + 3) 6, zI (G.2.1) (q2 + 1 + 4) 6, zI (G.2.1) (q2 + 1 + 5) 6]) rfl ?_
  refine ei_putF (pc := 23) (fs' := [.ref q1, .int 0, .ref q2, .int 0, .null, .int 0, .int 0]) dX6_init_23 fr_X6_20 (Nat.le_of_ble_eq_true rfl) rfl ?_
  refine ei_aload0 (pc := 26) dX6_init_26 ?_
  refine ei_iconst (pc := 27) (v := 4) dX6_init_27 (by decide) ?_
  refine ei_newI (pc := 28) (N := 4) dX6_init_28 (by decide) (by decide) (Nat.le_of_ble_eq_true rfl) (Nat.le_of_ble_eq_true rfl) (Nat.le_of_ble_eq_true rfl) (fun q3 => ?_)
  refine ei_ws (ws' := [zO h0 6 [.ref q1, .int 0, .ref q2, .int 0, .null, .int 0, .int 0], zI (G.2.1) q1 120, zR ((G.2.1) 12) q2 6 (fun i => some (q2 + 1 + i)), zI (G.2.1) (q2 + 1 + 0) 6, zI (G.2.1) (q2 + 1 + 1) 6, zI (G.2.1) (q2 + 1 + 2) 6, zI (G.2.1) (q2 + 1 + 3) 6, zI (G.2.1) (q2 + 1 + 4) 6, zI (G.2.1) (q2 + 1 + 5) 6, zI (G.2.1) q3 4]) rfl ?_
  refine ei_putF (pc := 30) (fs' := [.ref q1, .int 0, .ref q2, .int 0, .ref q3, .int 0, .int 0]) dX6_init_30 fr_X6_23 (Nat.le_of_ble_eq_true rfl) rfl ?_
  refine ei_refs (q0 := 2) (fun i => some (([h0, q1, q2, q2 + 1 + 0, q2 + 1 + 1, q2 + 1 + 2, q2 + 1 + 3, q2 + 1 + 4, q2 + 1 + 5, q3] : List Nat).getD (3 + i) 0)) (ws' := [zO h0 6 [.ref q1, .int 0, .ref q2, .int 0, .ref q3, .int 0, .int 0], zI (G.2.1) q1 120, zR ((G.2.1) 12) q2 6 (fun i => some (([h0, q1, q2, q2 + 1 + 0, q2 + 1 + 1, q2 + 1 + 2, q2 + 1 + 3, q2 + 1 + 4, q2 + 1 + 5, q3] : List Nat).getD (3 + i) 0)), zI (G.2.1) (q2 + 1 + 0) 6, zI (G.2.1) (q2 + 1 + 1) 6, zI (G.2.1) (q2 + 1 + 2) 6, zI (G.2.1) (q2 + 1 + 3) 6, zI (G.2.1) (q2 + 1 + 4) 6, zI (G.2.1) (q2 + 1 + 5) 6, zI (G.2.1) q3 4]) rfl (fun i hi => by rcases (show i = 0 ∨ i = 1 ∨ i = 2 ∨ i = 3 ∨ i = 4 ∨ i = 5 by omega) with rfl | rfl | rfl | rfl | rfl | rfl <;> rfl) rfl ?_
  exact ei_return (pc := 33) dX6_init_33 rfl rfl ⟨fun j => ([h0, q1, q2, q2 + 1 + 0, q2 + 1 + 1, q2 + 1 + 2, q2 + 1 + 3, q2 + 1 + 4, q2 + 1 + 5, q3] : List Nat).getD j 0, rfl, rfl⟩
def wX0 (ka : Nat → ClassId) (t : Nat → Nat) : va_W := [zO (t 0) 0 [.ref (t 1), .int 0, .ref (t 2), .ref (t 3)], zR ((ka) 14) (t 1) 6 (fun i => some (t (4 + 2 * i))), zI (ka) (t 2) 64, zI (ka) (t 3) 7, zO (t 4) 5 [.ref (t 5), .int 0], zI (ka) (t 5) 4, zO (t 6) 5 [.ref (t 7), .int 0], zI (ka) (t 7) 4, zO (t 8) 5 [.ref (t 9), .int 0], zI (ka) (t 9) 4, zO (t 10) 5 [.ref (t 11), .int 0], zI (ka) (t 11) 4, zO (t 12) 5 [.ref (t 13), .int 0], zI (ka) (t 13) 4, zO (t 14) 5 [.ref (t 15), .int 0], zI (ka) (t 15) 4]
def PX0 (G : Gk) (q : Nat) (w : va_W) : Prop := ∃ t : Nat → Nat, t 0 = q ∧ w = wX0 G.2.1 t
set_option maxRecDepth 100000 in
set_option maxHeartbeats 4000000 in
theorem i_X0 (G : Gk) : MtI G yX0_init cX0_init 2 2 15 113 0 [.null, .int 0, .null, .null] (PX0 G) := by
  refine mi_of (by decide) rfl (by decide) (fun h0 => ?_)
  refine ei_aload0 (pc := 0) dX0_init_0 ?_
  refine ei_obj (pc := 1) dX0_init_1 (tbg_t 64 (by decide +kernel) (by decide +kernel)) (by decide) ?_
  refine ei_aload0 (pc := 4) dX0_init_4 ?_
  refine ei_bipush (pc := 5) (v := 6) dX0_init_5 (by decide) ?_
  refine ei_newT (pc := 7) (N := 6) dX0_init_7 (tbg_t 65 (by decide +kernel) (by decide +kernel)) (by decide) (by decide) (Nat.le_of_ble_eq_true rfl) (Nat.le_of_ble_eq_true rfl) (Nat.le_of_ble_eq_true rfl) (fun q1 => ?_)
  refine ei_ws (ws' := [zO h0 0 [.null, .int 0, .null, .null], zR ((G.2.1) 14) q1 6 (fun _ => none)]) rfl ?_
  refine ei_putF (pc := 10) (fs' := [.ref q1, .int 0, .null, .null]) dX0_init_10 fr_X0_11 (Nat.le_of_ble_eq_true rfl) rfl ?_
  refine ei_aload0 (pc := 13) dX0_init_13 ?_
  refine ei_bipush (pc := 14) (v := 64) dX0_init_14 (by decide) ?_
  refine ei_newI (pc := 16) (N := 64) dX0_init_16 (by decide) (by decide) (Nat.le_of_ble_eq_true rfl) (Nat.le_of_ble_eq_true rfl) (Nat.le_of_ble_eq_true rfl) (fun q2 => ?_)
  refine ei_ws (ws' := [zO h0 0 [.ref q1, .int 0, .null, .null], zR ((G.2.1) 14) q1 6 (fun _ => none), zI (G.2.1) q2 64]) rfl ?_
  refine ei_putF (pc := 18) (fs' := [.ref q1, .int 0, .ref q2, .null]) dX0_init_18 fr_X0_17 (Nat.le_of_ble_eq_true rfl) rfl ?_
  refine ei_aload0 (pc := 21) dX0_init_21 ?_
  refine ei_bipush (pc := 22) (v := 7) dX0_init_22 (by decide) ?_
  refine ei_newI (pc := 24) (N := 7) dX0_init_24 (by decide) (by decide) (Nat.le_of_ble_eq_true rfl) (Nat.le_of_ble_eq_true rfl) (Nat.le_of_ble_eq_true rfl) (fun q3 => ?_)
  refine ei_ws (ws' := [zO h0 0 [.ref q1, .int 0, .ref q2, .null], zR ((G.2.1) 14) q1 6 (fun _ => none), zI (G.2.1) q2 64, zI (G.2.1) q3 7]) rfl ?_
  refine ei_putF (pc := 26) (fs' := [.ref q1, .int 0, .ref q2, .ref q3]) dX0_init_26 fr_X0_21 (Nat.le_of_ble_eq_true rfl) rfl ?_
  refine ei_iconst (pc := 29) (v := 0) dX0_init_29 (by decide) ?_
  refine ei_istore1 (pc := 30) dX0_init_30 (by decide) ?_
  refine ei_iload1 (pc := 31) dX0_init_31 ?_
  refine ei_bipush (pc := 32) (v := 6) dX0_init_32 (by decide) ?_
  refine ei_geN (pc := 34) (tgt := 56) dX0_init_34 (by decide) (by decide) ?_
  refine ei_aload0 (pc := 37) dX0_init_37 ?_
  refine ei_get (pc := 38) (q := q1) dX0_init_38 fr_X0_11 rfl ?_
  refine ei_iload1 (pc := 41) dX0_init_41 ?_
  refine ei_new (pc := 42) dX0_init_42 dX0_init_45 dX0_init_46 cl_X0_9 ni_X0_24 (i_X5 G) (by decide) (Nat.le_of_ble_eq_true rfl) (Nat.le_of_ble_eq_true rfl) (Nat.le_of_ble_eq_true rfl) ?_
  rintro z6 u5 ⟨t4, rfl, rfl⟩
  refine ei_ws (ws' := [zO h0 0 [.ref q1, .int 0, .ref q2, .ref q3], zR ((G.2.1) 14) q1 6 (fun _ => none), zI (G.2.1) q2 64, zI (G.2.1) q3 7, zO (t4 0) 5 [.ref (t4 1), .int 0], zI (G.2.1) (t4 1) 4]) rfl ?_
  refine ei_aast (pc := 49) (q0 := 1) (t0 := 4) (qk := 4) (ci := 5) (j := 0) (r := (RX5, TX5, 2)) (ws' := [zO h0 0 [.ref q1, .int 0, .ref q2, .ref q3], zR ((G.2.1) 14) q1 6 (va_up (fun _ => none) 0 (some (t4 0))), zI (G.2.1) q2 64, zI (G.2.1) q3 7, zO (t4 0) 5 [.ref (t4 1), .int 0], zI (G.2.1) (t4 1) 4]) dX0_init_49 rfl rfl rfl rfl (vin_c (by decide)) (by decide) rfl ?_
  refine ei_iinc1 (pc := 50) (v := 1) dX0_init_50 (by decide) (by decide) ?_
  refine ei_goto (pc := 53) (tgt := 31) dX0_init_53 (by decide) ?_
  refine ei_iload1 (pc := 31) dX0_init_31 ?_
  refine ei_bipush (pc := 32) (v := 6) dX0_init_32 (by decide) ?_
  refine ei_geN (pc := 34) (tgt := 56) dX0_init_34 (by decide) (by decide) ?_
  refine ei_aload0 (pc := 37) dX0_init_37 ?_
  refine ei_get (pc := 38) (q := q1) dX0_init_38 fr_X0_11 rfl ?_
  refine ei_iload1 (pc := 41) dX0_init_41 ?_
  refine ei_new (pc := 42) dX0_init_42 dX0_init_45 dX0_init_46 cl_X0_9 ni_X0_24 (i_X5 G) (by decide) (Nat.le_of_ble_eq_true rfl) (Nat.le_of_ble_eq_true rfl) (Nat.le_of_ble_eq_true rfl) ?_
  rintro z9 u8 ⟨t7, rfl, rfl⟩
  refine ei_ws (ws' := [zO h0 0 [.ref q1, .int 0, .ref q2, .ref q3], zR ((G.2.1) 14) q1 6 (va_up (fun _ => none) 0 (some (t4 0))), zI (G.2.1) q2 64, zI (G.2.1) q3 7, zO (t4 0) 5 [.ref (t4 1), .int 0], zI (G.2.1) (t4 1) 4, zO (t7 0) 5 [.ref (t7 1), .int 0], zI (G.2.1) (t7 1) 4]) rfl ?_
  refine ei_aast (pc := 49) (q0 := 1) (t0 := 4) (qk := 6) (ci := 5) (j := 1) (r := (RX5, TX5, 2)) (ws' := [zO h0 0 [.ref q1, .int 0, .ref q2, .ref q3], zR ((G.2.1) 14) q1 6 (va_up (va_up (fun _ => none) 0 (some (t4 0))) 1 (some (t7 0))), zI (G.2.1) q2 64, zI (G.2.1) q3 7, zO (t4 0) 5 [.ref (t4 1), .int 0], zI (G.2.1) (t4 1) 4, zO (t7 0) 5 [.ref (t7 1), .int 0], zI (G.2.1) (t7 1) 4]) dX0_init_49 rfl rfl rfl rfl (vin_c (by decide)) (by decide) rfl ?_
  refine ei_iinc1 (pc := 50) (v := 2) dX0_init_50 (by decide) (by decide) ?_
  refine ei_goto (pc := 53) (tgt := 31) dX0_init_53 (by decide) ?_
  refine ei_iload1 (pc := 31) dX0_init_31 ?_
  refine ei_bipush (pc := 32) (v := 6) dX0_init_32 (by decide) ?_
  refine ei_geN (pc := 34) (tgt := 56) dX0_init_34 (by decide) (by decide) ?_
  refine ei_aload0 (pc := 37) dX0_init_37 ?_
  refine ei_get (pc := 38) (q := q1) dX0_init_38 fr_X0_11 rfl ?_
  refine ei_iload1 (pc := 41) dX0_init_41 ?_
  refine ei_new (pc := 42) dX0_init_42 dX0_init_45 dX0_init_46 cl_X0_9 ni_X0_24 (i_X5 G) (by decide) (Nat.le_of_ble_eq_true rfl) (Nat.le_of_ble_eq_true rfl) (Nat.le_of_ble_eq_true rfl) ?_
  rintro z12 u11 ⟨t10, rfl, rfl⟩
  refine ei_ws (ws' := [zO h0 0 [.ref q1, .int 0, .ref q2, .ref q3], zR ((G.2.1) 14) q1 6 (va_up (va_up (fun _ => none) 0 (some (t4 0))) 1 (some (t7 0))), zI (G.2.1) q2 64, zI (G.2.1) q3 7, zO (t4 0) 5 [.ref (t4 1), .int 0], zI (G.2.1) (t4 1) 4, zO (t7 0) 5 [.ref (t7 1), .int 0], zI (G.2.1) (t7 1) 4, zO (t10 0) 5 [.ref (t10 1), .int 0], zI (G.2.1) (t10 1) 4]) rfl ?_
  refine ei_aast (pc := 49) (q0 := 1) (t0 := 4) (qk := 8) (ci := 5) (j := 2) (r := (RX5, TX5, 2)) (ws' := [zO h0 0 [.ref q1, .int 0, .ref q2, .ref q3], zR ((G.2.1) 14) q1 6 (va_up (va_up (va_up (fun _ => none) 0 (some (t4 0))) 1 (some (t7 0))) 2 (some (t10 0))), zI (G.2.1) q2 64, zI (G.2.1) q3 7, zO (t4 0) 5 [.ref (t4 1), .int 0], zI (G.2.1) (t4 1) 4, zO (t7 0) 5 [.ref (t7 1), .int 0], zI (G.2.1) (t7 1) 4, zO (t10 0) 5 [.ref (t10 1), .int 0], zI (G.2.1) (t10 1) 4]) dX0_init_49 rfl rfl rfl rfl (vin_c (by decide)) (by decide) rfl ?_
  refine ei_iinc1 (pc := 50) (v := 3) dX0_init_50 (by decide) (by decide) ?_
  refine ei_goto (pc := 53) (tgt := 31) dX0_init_53 (by decide) ?_
  refine ei_iload1 (pc := 31) dX0_init_31 ?_
  refine ei_bipush (pc := 32) (v := 6) dX0_init_32 (by decide) ?_
  refine ei_geN (pc := 34) (tgt := 56) dX0_init_34 (by decide) (by decide) ?_
  refine ei_aload0 (pc := 37) dX0_init_37 ?_
  refine ei_get (pc := 38) (q := q1) dX0_init_38 fr_X0_11 rfl ?_
  refine ei_iload1 (pc := 41) dX0_init_41 ?_
  refine ei_new (pc := 42) dX0_init_42 dX0_init_45 dX0_init_46 cl_X0_9 ni_X0_24 (i_X5 G) (by decide) (Nat.le_of_ble_eq_true rfl) (Nat.le_of_ble_eq_true rfl) (Nat.le_of_ble_eq_true rfl) ?_
  rintro z15 u14 ⟨t13, rfl, rfl⟩
  refine ei_ws (ws' := [zO h0 0 [.ref q1, .int 0, .ref q2, .ref q3], zR ((G.2.1) 14) q1 6 (va_up (va_up (va_up (fun _ => none) 0 (some (t4 0))) 1 (some (t7 0))) 2 (some (t10 0))), zI (G.2.1) q2 64, zI (G.2.1) q3 7, zO (t4 0) 5 [.ref (t4 1), .int 0], zI (G.2.1) (t4 1) 4, zO (t7 0) 5 [.ref (t7 1), .int 0], zI (G.2.1) (t7 1) 4, zO (t10 0) 5 [.ref (t10 1), .int 0], zI (G.2.1) (t10 1) 4, zO (t13 0) 5 [.ref (t13 1), .int 0], zI (G.2.1) (t13 1) 4]) rfl ?_
  refine ei_aast (pc := 49) (q0 := 1) (t0 := 4) (qk := 10) (ci := 5) (j := 3) (r := (RX5, TX5, 2)) (ws' := [zO h0 0 [.ref q1, .int 0, .ref q2, .ref q3], zR ((G.2.1) 14) q1 6 (va_up (va_up (va_up (va_up (fun _ => none) 0 (some (t4 0))) 1 (some (t7 0))) 2 (some (t10 0))) 3 (some (t13 0))), zI (G.2.1) q2 64, zI (G.2.1) q3 7, zO (t4 0) 5 [.ref (t4 1), .int 0], zI (G.2.1) (t4 1) 4, zO (t7 0) 5 [.ref (t7 1), .int 0], zI (G.2.1) (t7 1) 4, zO (t10 0) 5 [.ref (t10 1), .int 0], zI (G.2.1) (t10 1) 4, zO (t13 0) 5 [.ref (t13 1), .int 0], zI (G.2.1) (t13 1) 4]) dX0_init_49 rfl rfl rfl rfl (vin_c (by decide)) (by decide) rfl ?_
  refine ei_iinc1 (pc := 50) (v := 4) dX0_init_50 (by decide) (by decide) ?_
  refine ei_goto (pc := 53) (tgt := 31) dX0_init_53 (by decide) ?_
  refine ei_iload1 (pc := 31) dX0_init_31 ?_
  refine ei_bipush (pc := 32) (v := 6) dX0_init_32 (by decide) ?_
  refine ei_geN (pc := 34) (tgt := 56) dX0_init_34 (by decide) (by decide) ?_
  refine ei_aload0 (pc := 37) dX0_init_37 ?_
  refine ei_get (pc := 38) (q := q1) dX0_init_38 fr_X0_11 rfl ?_
  refine ei_iload1 (pc := 41) dX0_init_41 ?_
  refine ei_new (pc := 42) dX0_init_42 dX0_init_45 dX0_init_46 cl_X0_9 ni_X0_24 (i_X5 G) (by decide) (Nat.le_of_ble_eq_true rfl) (Nat.le_of_ble_eq_true rfl) (Nat.le_of_ble_eq_true rfl) ?_
  rintro z18 u17 ⟨t16, rfl, rfl⟩
  refine ei_ws (ws' := [zO h0 0 [.ref q1, .int 0, .ref q2, .ref q3], zR ((G.2.1) 14) q1 6 (va_up (va_up (va_up (va_up (fun _ => none) 0 (some (t4 0))) 1 (some (t7 0))) 2 (some (t10 0))) 3 (some (t13 0))), zI (G.2.1) q2 64, zI (G.2.1) q3 7, zO (t4 0) 5 [.ref (t4 1), .int 0], zI (G.2.1) (t4 1) 4, zO (t7 0) 5 [.ref (t7 1), .int 0], zI (G.2.1) (t7 1) 4, zO (t10 0) 5 [.ref (t10 1), .int 0], zI (G.2.1) (t10 1) 4, zO (t13 0) 5 [.ref (t13 1), .int 0], zI (G.2.1) (t13 1) 4, zO (t16 0) 5 [.ref (t16 1), .int 0], zI (G.2.1) (t16 1) 4]) rfl ?_
  refine ei_aast (pc := 49) (q0 := 1) (t0 := 4) (qk := 12) (ci := 5) (j := 4) (r := (RX5, TX5, 2)) (ws' := [zO h0 0 [.ref q1, .int 0, .ref q2, .ref q3], zR ((G.2.1) 14) q1 6 (va_up (va_up (va_up (va_up (va_up (fun _ => none) 0 (some (t4 0))) 1 (some (t7 0))) 2 (some (t10 0))) 3 (some (t13 0))) 4 (some (t16 0))), zI (G.2.1) q2 64, zI (G.2.1) q3 7, zO (t4 0) 5 [.ref (t4 1), .int 0], zI (G.2.1) (t4 1) 4, zO (t7 0) 5 [.ref (t7 1), .int 0], zI (G.2.1) (t7 1) 4, zO (t10 0) 5 [.ref (t10 1), .int 0], zI (G.2.1) (t10 1) 4, zO (t13 0) 5 [.ref (t13 1), .int 0], zI (G.2.1) (t13 1) 4, zO (t16 0) 5 [.ref (t16 1), .int 0], zI (G.2.1) (t16 1) 4]) dX0_init_49 rfl rfl rfl rfl (vin_c (by decide)) (by decide) rfl ?_
  refine ei_iinc1 (pc := 50) (v := 5) dX0_init_50 (by decide) (by decide) ?_
  refine ei_goto (pc := 53) (tgt := 31) dX0_init_53 (by decide) ?_
  refine ei_iload1 (pc := 31) dX0_init_31 ?_
  refine ei_bipush (pc := 32) (v := 6) dX0_init_32 (by decide) ?_
  refine ei_geN (pc := 34) (tgt := 56) dX0_init_34 (by decide) (by decide) ?_
  refine ei_aload0 (pc := 37) dX0_init_37 ?_
  refine ei_get (pc := 38) (q := q1) dX0_init_38 fr_X0_11 rfl ?_
  refine ei_iload1 (pc := 41) dX0_init_41 ?_
  refine ei_new (pc := 42) dX0_init_42 dX0_init_45 dX0_init_46 cl_X0_9 ni_X0_24 (i_X5 G) (by decide) (Nat.le_of_ble_eq_true rfl) (Nat.le_of_ble_eq_true rfl) (Nat.le_of_ble_eq_true rfl) ?_
  rintro z21 u20 ⟨t19, rfl, rfl⟩
  refine ei_ws (ws' := [zO h0 0 [.ref q1, .int 0, .ref q2, .ref q3], zR ((G.2.1) 14) q1 6 (va_up (va_up (va_up (va_up (va_up (fun _ => none) 0 (some (t4 0))) 1 (some (t7 0))) 2 (some (t10 0))) 3 (some (t13 0))) 4 (some (t16 0))), zI (G.2.1) q2 64, zI (G.2.1) q3 7, zO (t4 0) 5 [.ref (t4 1), .int 0], zI (G.2.1) (t4 1) 4, zO (t7 0) 5 [.ref (t7 1), .int 0], zI (G.2.1) (t7 1) 4, zO (t10 0) 5 [.ref (t10 1), .int 0], zI (G.2.1) (t10 1) 4, zO (t13 0) 5 [.ref (t13 1), .int 0], zI (G.2.1) (t13 1) 4, zO (t16 0) 5 [.ref (t16 1), .int 0], zI (G.2.1) (t16 1) 4, zO (t19 0) 5 [.ref (t19 1), .int 0], zI (G.2.1) (t19 1) 4]) rfl ?_
  refine ei_aast (pc := 49) (q0 := 1) (t0 := 4) (qk := 14) (ci := 5) (j := 5) (r := (RX5, TX5, 2)) (ws' := [zO h0 0 [.ref q1, .int 0, .ref q2, .ref q3], zR ((G.2.1) 14) q1 6 (va_up (va_up (va_up (va_up (va_up (va_up (fun _ => none) 0 (some (t4 0))) 1 (some (t7 0))) 2 (some (t10 0))) 3 (some (t13 0))) 4 (some (t16 0))) 5 (some (t19 0))), zI (G.2.1) q2 64, zI (G.2.1) q3 7, zO (t4 0) 5 [.ref (t4 1), .int 0], zI (G.2.1) (t4 1) 4, zO (t7 0) 5 [.ref (t7 1), .int 0], zI (G.2.1) (t7 1) 4, zO (t10 0) 5 [.ref (t10 1), .int 0], zI (G.2.1) (t10 1) 4, zO (t13 0) 5 [.ref (t13 1), .int 0], zI (G.2.1) (t13 1) 4, zO (t16 0) 5 [.ref (t16 1), .int 0], zI (G.2.1) (t16 1) 4, zO (t19 0) 5 [.ref (t19 1), .int 0], zI (G.2.1) (t19 1) 4]) dX0_init_49 rfl rfl rfl rfl (vin_c (by decide)) (by decide) rfl ?_
  refine ei_iinc1 (pc := 50) (v := 6) dX0_init_50 (by decide) (by decide) ?_
  refine ei_goto (pc := 53) (tgt := 31) dX0_init_53 (by decide) ?_
  refine ei_iload1 (pc := 31) dX0_init_31 ?_
  refine ei_bipush (pc := 32) (v := 6) dX0_init_32 (by decide) ?_
  refine ei_geY (pc := 34) (tgt := 56) dX0_init_34 (by decide) (by decide) ?_
  refine ei_refs (q0 := 1) (fun i => some (([h0, q1, q2, q3, t4 0, t4 1, t7 0, t7 1, t10 0, t10 1, t13 0, t13 1, t16 0, t16 1, t19 0, t19 1] : List Nat).getD (4 + 2 * i) 0)) (ws' := [zO h0 0 [.ref q1, .int 0, .ref q2, .ref q3], zR ((G.2.1) 14) q1 6 (fun i => some (([h0, q1, q2, q3, t4 0, t4 1, t7 0, t7 1, t10 0, t10 1, t13 0, t13 1, t16 0, t16 1, t19 0, t19 1] : List Nat).getD (4 + 2 * i) 0)), zI (G.2.1) q2 64, zI (G.2.1) q3 7, zO (t4 0) 5 [.ref (t4 1), .int 0], zI (G.2.1) (t4 1) 4, zO (t7 0) 5 [.ref (t7 1), .int 0], zI (G.2.1) (t7 1) 4, zO (t10 0) 5 [.ref (t10 1), .int 0], zI (G.2.1) (t10 1) 4, zO (t13 0) 5 [.ref (t13 1), .int 0], zI (G.2.1) (t13 1) 4, zO (t16 0) 5 [.ref (t16 1), .int 0], zI (G.2.1) (t16 1) 4, zO (t19 0) 5 [.ref (t19 1), .int 0], zI (G.2.1) (t19 1) 4]) rfl (fun i hi => by rcases (show i = 0 ∨ i = 1 ∨ i = 2 ∨ i = 3 ∨ i = 4 ∨ i = 5 by omega) with rfl | rfl | rfl | rfl | rfl | rfl <;> rfl) rfl ?_
  exact ei_return (pc := 56) dX0_init_56 rfl rfl ⟨fun j => ([h0, q1, q2, q3, t4 0, t4 1, t7 0, t7 1, t10 0, t10 1, t13 0, t13 1, t16 0, t16 1, t19 0, t19 1] : List Nat).getD j 0, rfl, rfl⟩
def wX1 (ka : Nat → ClassId) (t : Nat → Nat) : va_W := [zO (t 0) 1 [.ref (t 1), .int 0, .int 0], zR ((ka) 13) (t 1) 10 (fun i => some (t (2 + 4 * i))), zO (t 2) 3 [.ref (t 3), .ref (t 4), .ref (t 5)], zI (ka) (t 3) 4, zI (ka) (t 4) 6, zI (ka) (t 5) 6, zO (t 6) 3 [.ref (t 7), .ref (t 8), .ref (t 9)], zI (ka) (t 7) 4, zI (ka) (t 8) 6, zI (ka) (t 9) 6, zO (t 10) 3 [.ref (t 11), .ref (t 12), .ref (t 13)], zI (ka) (t 11) 4, zI (ka) (t 12) 6, zI (ka) (t 13) 6, zO (t 14) 3 [.ref (t 15), .ref (t 16), .ref (t 17)], zI (ka) (t 15) 4, zI (ka) (t 16) 6, zI (ka) (t 17) 6, zO (t 18) 3 [.ref (t 19), .ref (t 20), .ref (t 21)], zI (ka) (t 19) 4, zI (ka) (t 20) 6, zI (ka) (t 21) 6, zO (t 22) 3 [.ref (t 23), .ref (t 24), .ref (t 25)], zI (ka) (t 23) 4, zI (ka) (t 24) 6, zI (ka) (t 25) 6, zO (t 26) 3 [.ref (t 27), .ref (t 28), .ref (t 29)], zI (ka) (t 27) 4, zI (ka) (t 28) 6, zI (ka) (t 29) 6, zO (t 30) 3 [.ref (t 31), .ref (t 32), .ref (t 33)], zI (ka) (t 31) 4, zI (ka) (t 32) 6, zI (ka) (t 33) 6, zO (t 34) 3 [.ref (t 35), .ref (t 36), .ref (t 37)], zI (ka) (t 35) 4, zI (ka) (t 36) 6, zI (ka) (t 37) 6, zO (t 38) 3 [.ref (t 39), .ref (t 40), .ref (t 41)], zI (ka) (t 39) 4, zI (ka) (t 40) 6, zI (ka) (t 41) 6]
def PX1 (G : Gk) (q : Nat) (w : va_W) : Prop := ∃ t : Nat → Nat, t 0 = q ∧ w = wX1 G.2.1 t
set_option maxRecDepth 100000 in
set_option maxHeartbeats 4000000 in
theorem i_X1 (G : Gk) : MtI G yX1_init cX1_init 2 2 41 200 1 [.null, .int 0, .int 0] (PX1 G) := by
  refine mi_of (by decide) rfl (by decide) (fun h0 => ?_)
  refine ei_aload0 (pc := 0) dX1_init_0 ?_
  refine ei_obj (pc := 1) dX1_init_1 (tbg_t 126 (by decide +kernel) (by decide +kernel)) (by decide) ?_
  refine ei_aload0 (pc := 4) dX1_init_4 ?_
  refine ei_bipush (pc := 5) (v := 10) dX1_init_5 (by decide) ?_
  refine ei_newS (pc := 7) (N := 10) dX1_init_7 (tbg_t 127 (by decide +kernel) (by decide +kernel)) (by decide) (by decide) (Nat.le_of_ble_eq_true rfl) (Nat.le_of_ble_eq_true rfl) (Nat.le_of_ble_eq_true rfl) (fun q1 => ?_)
  refine ei_ws (ws' := [zO h0 1 [.null, .int 0, .int 0], zR ((G.2.1) 13) q1 10 (fun _ => none)]) rfl ?_
  refine ei_putF (pc := 10) (fs' := [.ref q1, .int 0, .int 0]) dX1_init_10 fr_X1_11 (Nat.le_of_ble_eq_true rfl) rfl ?_
  refine ei_iconst (pc := 13) (v := 0) dX1_init_13 (by decide) ?_
  refine ei_istore1 (pc := 14) dX1_init_14 (by decide) ?_
  refine ei_iload1 (pc := 15) dX1_init_15 ?_
  refine ei_bipush (pc := 16) (v := 10) dX1_init_16 (by decide) ?_
  refine ei_geN (pc := 18) (tgt := 40) dX1_init_18 (by decide) (by decide) ?_
  refine ei_aload0 (pc := 21) dX1_init_21 ?_
  refine ei_get (pc := 22) (q := q1) dX1_init_22 fr_X1_11 rfl ?_
  refine ei_iload1 (pc := 25) dX1_init_25 ?_
  refine ei_new (pc := 26) dX1_init_26 dX1_init_29 dX1_init_30 cl_X1_9 ni_X1_17 (i_X3 G) (by decide) (Nat.le_of_ble_eq_true rfl) (Nat.le_of_ble_eq_true rfl) (Nat.le_of_ble_eq_true rfl) ?_
  rintro z4 u3 ⟨t2, rfl, rfl⟩
  refine ei_ws (ws' := [zO h0 1 [.ref q1, .int 0, .int 0], zR ((G.2.1) 13) q1 10 (fun _ => none), zO (t2 0) 3 [.ref (t2 1), .ref (t2 2), .ref (t2 3)], zI (G.2.1) (t2 1) 4, zI (G.2.1) (t2 2) 6, zI (G.2.1) (t2 3) 6]) rfl ?_
  refine ei_aast (pc := 33) (q0 := 1) (t0 := 3) (qk := 2) (ci := 3) (j := 0) (r := (RX3, TX3, 3)) (ws' := [zO h0 1 [.ref q1, .int 0, .int 0], zR ((G.2.1) 13) q1 10 (va_up (fun _ => none) 0 (some (t2 0))), zO (t2 0) 3 [.ref (t2 1), .ref (t2 2), .ref (t2 3)], zI (G.2.1) (t2 1) 4, zI (G.2.1) (t2 2) 6, zI (G.2.1) (t2 3) 6]) dX1_init_33 rfl rfl rfl rfl (vin_c (by decide)) (by decide) rfl ?_
  refine ei_iinc1 (pc := 34) (v := 1) dX1_init_34 (by decide) (by decide) ?_
  refine ei_goto (pc := 37) (tgt := 15) dX1_init_37 (by decide) ?_
  refine ei_iload1 (pc := 15) dX1_init_15 ?_
  refine ei_bipush (pc := 16) (v := 10) dX1_init_16 (by decide) ?_
  refine ei_geN (pc := 18) (tgt := 40) dX1_init_18 (by decide) (by decide) ?_
  refine ei_aload0 (pc := 21) dX1_init_21 ?_
  refine ei_get (pc := 22) (q := q1) dX1_init_22 fr_X1_11 rfl ?_
  refine ei_iload1 (pc := 25) dX1_init_25 ?_
  refine ei_new (pc := 26) dX1_init_26 dX1_init_29 dX1_init_30 cl_X1_9 ni_X1_17 (i_X3 G) (by decide) (Nat.le_of_ble_eq_true rfl) (Nat.le_of_ble_eq_true rfl) (Nat.le_of_ble_eq_true rfl) ?_
  rintro z7 u6 ⟨t5, rfl, rfl⟩
  refine ei_ws (ws' := [zO h0 1 [.ref q1, .int 0, .int 0], zR ((G.2.1) 13) q1 10 (va_up (fun _ => none) 0 (some (t2 0))), zO (t2 0) 3 [.ref (t2 1), .ref (t2 2), .ref (t2 3)], zI (G.2.1) (t2 1) 4, zI (G.2.1) (t2 2) 6, zI (G.2.1) (t2 3) 6, zO (t5 0) 3 [.ref (t5 1), .ref (t5 2), .ref (t5 3)], zI (G.2.1) (t5 1) 4, zI (G.2.1) (t5 2) 6, zI (G.2.1) (t5 3) 6]) rfl ?_
  refine ei_aast (pc := 33) (q0 := 1) (t0 := 3) (qk := 6) (ci := 3) (j := 1) (r := (RX3, TX3, 3)) (ws' := [zO h0 1 [.ref q1, .int 0, .int 0], zR ((G.2.1) 13) q1 10 (va_up (va_up (fun _ => none) 0 (some (t2 0))) 1 (some (t5 0))), zO (t2 0) 3 [.ref (t2 1), .ref (t2 2), .ref (t2 3)], zI (G.2.1) (t2 1) 4, zI (G.2.1) (t2 2) 6, zI (G.2.1) (t2 3) 6, zO (t5 0) 3 [.ref (t5 1), .ref (t5 2), .ref (t5 3)], zI (G.2.1) (t5 1) 4, zI (G.2.1) (t5 2) 6, zI (G.2.1) (t5 3) 6]) dX1_init_33 rfl rfl rfl rfl (vin_c (by decide)) (by decide) rfl ?_
  refine ei_iinc1 (pc := 34) (v := 2) dX1_init_34 (by decide) (by decide) ?_
  refine ei_goto (pc := 37) (tgt := 15) dX1_init_37 (by decide) ?_
  refine ei_iload1 (pc := 15) dX1_init_15 ?_
  refine ei_bipush (pc := 16) (v := 10) dX1_init_16 (by decide) ?_
  refine ei_geN (pc := 18) (tgt := 40) dX1_init_18 (by decide) (by decide) ?_
  refine ei_aload0 (pc := 21) dX1_init_21 ?_
  refine ei_get (pc := 22) (q := q1) dX1_init_22 fr_X1_11 rfl ?_
  refine ei_iload1 (pc := 25) dX1_init_25 ?_
  refine ei_new (pc := 26) dX1_init_26 dX1_init_29 dX1_init_30 cl_X1_9 ni_X1_17 (i_X3 G) (by decide) (Nat.le_of_ble_eq_true rfl) (Nat.le_of_ble_eq_true rfl) (Nat.le_of_ble_eq_true rfl) ?_
  rintro z10 u9 ⟨t8, rfl, rfl⟩
  refine ei_ws (ws' := [zO h0 1 [.ref q1, .int 0, .int 0], zR ((G.2.1) 13) q1 10 (va_up (va_up (fun _ => none) 0 (some (t2 0))) 1 (some (t5 0))), zO (t2 0) 3 [.ref (t2 1), .ref (t2 2), .ref (t2 3)], zI (G.2.1) (t2 1) 4, zI (G.2.1) (t2 2) 6, zI (G.2.1) (t2 3) 6, zO (t5 0) 3 [.ref (t5 1), .ref (t5 2), .ref (t5 3)], zI (G.2.1) (t5 1) 4, zI (G.2.1) (t5 2) 6, zI (G.2.1) (t5 3) 6, zO (t8 0) 3 [.ref (t8 1), .ref (t8 2), .ref (t8 3)], zI (G.2.1) (t8 1) 4, zI (G.2.1) (t8 2) 6, zI (G.2.1) (t8 3) 6]) rfl ?_
  refine ei_aast (pc := 33) (q0 := 1) (t0 := 3) (qk := 10) (ci := 3) (j := 2) (r := (RX3, TX3, 3)) (ws' := [zO h0 1 [.ref q1, .int 0, .int 0], zR ((G.2.1) 13) q1 10 (va_up (va_up (va_up (fun _ => none) 0 (some (t2 0))) 1 (some (t5 0))) 2 (some (t8 0))), zO (t2 0) 3 [.ref (t2 1), .ref (t2 2), .ref (t2 3)], zI (G.2.1) (t2 1) 4, zI (G.2.1) (t2 2) 6, zI (G.2.1) (t2 3) 6, zO (t5 0) 3 [.ref (t5 1), .ref (t5 2), .ref (t5 3)], zI (G.2.1) (t5 1) 4, zI (G.2.1) (t5 2) 6, zI (G.2.1) (t5 3) 6, zO (t8 0) 3 [.ref (t8 1), .ref (t8 2), .ref (t8 3)], zI (G.2.1) (t8 1) 4, zI (G.2.1) (t8 2) 6, zI (G.2.1) (t8 3) 6]) dX1_init_33 rfl rfl rfl rfl (vin_c (by decide)) (by decide) rfl ?_
  refine ei_iinc1 (pc := 34) (v := 3) dX1_init_34 (by decide) (by decide) ?_
  refine ei_goto (pc := 37) (tgt := 15) dX1_init_37 (by decide) ?_
  refine ei_iload1 (pc := 15) dX1_init_15 ?_
  refine ei_bipush (pc := 16) (v := 10) dX1_init_16 (by decide) ?_
  refine ei_geN (pc := 18) (tgt := 40) dX1_init_18 (by decide) (by decide) ?_
  refine ei_aload0 (pc := 21) dX1_init_21 ?_
  refine ei_get (pc := 22) (q := q1) dX1_init_22 fr_X1_11 rfl ?_
  refine ei_iload1 (pc := 25) dX1_init_25 ?_
  refine ei_new (pc := 26) dX1_init_26 dX1_init_29 dX1_init_30 cl_X1_9 ni_X1_17 (i_X3 G) (by decide) (Nat.le_of_ble_eq_true rfl) (Nat.le_of_ble_eq_true rfl) (Nat.le_of_ble_eq_true rfl) ?_
  rintro z13 u12 ⟨t11, rfl, rfl⟩
  refine ei_ws (ws' := [zO h0 1 [.ref q1, .int 0, .int 0], zR ((G.2.1) 13) q1 10 (va_up (va_up (va_up (fun _ => none) 0 (some (t2 0))) 1 (some (t5 0))) 2 (some (t8 0))), zO (t2 0) 3 [.ref (t2 1), .ref (t2 2), .ref (t2 3)], zI (G.2.1) (t2 1) 4, zI (G.2.1) (t2 2) 6, zI (G.2.1) (t2 3) 6, zO (t5 0) 3 [.ref (t5 1), .ref (t5 2), .ref (t5 3)], zI (G.2.1) (t5 1) 4, zI (G.2.1) (t5 2) 6, zI (G.2.1) (t5 3) 6, zO (t8 0) 3 [.ref (t8 1), .ref (t8 2), .ref (t8 3)], zI (G.2.1) (t8 1) 4, zI (G.2.1) (t8 2) 6, zI (G.2.1) (t8 3) 6, zO (t11 0) 3 [.ref (t11 1), .ref (t11 2), .ref (t11 3)], zI (G.2.1) (t11 1) 4, zI (G.2.1) (t11 2) 6, zI (G.2.1) (t11 3) 6]) rfl ?_
  refine ei_aast (pc := 33) (q0 := 1) (t0 := 3) (qk := 14) (ci := 3) (j := 3) (r := (RX3, TX3, 3)) (ws' := [zO h0 1 [.ref q1, .int 0, .int 0], zR ((G.2.1) 13) q1 10 (va_up (va_up (va_up (va_up (fun _ => none) 0 (some (t2 0))) 1 (some (t5 0))) 2 (some (t8 0))) 3 (some (t11 0))), zO (t2 0) 3 [.ref (t2 1), .ref (t2 2), .ref (t2 3)], zI (G.2.1) (t2 1) 4, zI (G.2.1) (t2 2) 6, zI (G.2.1) (t2 3) 6, zO (t5 0) 3 [.ref (t5 1), .ref (t5 2), .ref (t5 3)], zI (G.2.1) (t5 1) 4, zI (G.2.1) (t5 2) 6, zI (G.2.1) (t5 3) 6, zO (t8 0) 3 [.ref (t8 1), .ref (t8 2), .ref (t8 3)], zI (G.2.1) (t8 1) 4, zI (G.2.1) (t8 2) 6, zI (G.2.1) (t8 3) 6, zO (t11 0) 3 [.ref (t11 1), .ref (t11 2), .ref (t11 3)], zI (G.2.1) (t11 1) 4, zI (G.2.1) (t11 2) 6, zI (G.2.1) (t11 3) 6]) dX1_init_33 rfl rfl rfl rfl (vin_c (by decide)) (by decide) rfl ?_
  refine ei_iinc1 (pc := 34) (v := 4) dX1_init_34 (by decide) (by decide) ?_
  refine ei_goto (pc := 37) (tgt := 15) dX1_init_37 (by decide) ?_
  refine ei_iload1 (pc := 15) dX1_init_15 ?_
  refine ei_bipush (pc := 16) (v := 10) dX1_init_16 (by decide) ?_
  refine ei_geN (pc := 18) (tgt := 40) dX1_init_18 (by decide) (by decide) ?_
  refine ei_aload0 (pc := 21) dX1_init_21 ?_
  refine ei_get (pc := 22) (q := q1) dX1_init_22 fr_X1_11 rfl ?_
  refine ei_iload1 (pc := 25) dX1_init_25 ?_
  refine ei_new (pc := 26) dX1_init_26 dX1_init_29 dX1_init_30 cl_X1_9 ni_X1_17 (i_X3 G) (by decide) (Nat.le_of_ble_eq_true rfl) (Nat.le_of_ble_eq_true rfl) (Nat.le_of_ble_eq_true rfl) ?_
  rintro z16 u15 ⟨t14, rfl, rfl⟩
  refine ei_ws (ws' := [zO h0 1 [.ref q1, .int 0, .int 0], zR ((G.2.1) 13) q1 10 (va_up (va_up (va_up (va_up (fun _ => none) 0 (some (t2 0))) 1 (some (t5 0))) 2 (some (t8 0))) 3 (some (t11 0))), zO (t2 0) 3 [.ref (t2 1), .ref (t2 2), .ref (t2 3)], zI (G.2.1) (t2 1) 4, zI (G.2.1) (t2 2) 6, zI (G.2.1) (t2 3) 6, zO (t5 0) 3 [.ref (t5 1), .ref (t5 2), .ref (t5 3)], zI (G.2.1) (t5 1) 4, zI (G.2.1) (t5 2) 6, zI (G.2.1) (t5 3) 6, zO (t8 0) 3 [.ref (t8 1), .ref (t8 2), .ref (t8 3)], zI (G.2.1) (t8 1) 4, zI (G.2.1) (t8 2) 6, zI (G.2.1) (t8 3) 6, zO (t11 0) 3 [.ref (t11 1), .ref (t11 2), .ref (t11 3)], zI (G.2.1) (t11 1) 4, zI (G.2.1) (t11 2) 6, zI (G.2.1) (t11 3) 6, zO (t14 0) 3 [.ref (t14 1), .ref (t14 2), .ref (t14 3)], zI (G.2.1) (t14 1) 4, zI (G.2.1) (t14 2) 6, zI (G.2.1) (t14 3) 6]) rfl ?_
  refine ei_aast (pc := 33) (q0 := 1) (t0 := 3) (qk := 18) (ci := 3) (j := 4) (r := (RX3, TX3, 3)) (ws' := [zO h0 1 [.ref q1, .int 0, .int 0], zR ((G.2.1) 13) q1 10 (va_up (va_up (va_up (va_up (va_up (fun _ => none) 0 (some (t2 0))) 1 (some (t5 0))) 2 (some (t8 0))) 3 (some (t11 0))) 4 (some (t14 0))), zO (t2 0) 3 [.ref (t2 1), .ref (t2 2), .ref (t2 3)], zI (G.2.1) (t2 1) 4, zI (G.2.1) (t2 2) 6, zI (G.2.1) (t2 3) 6, zO (t5 0) 3 [.ref (t5 1), .ref (t5 2), .ref (t5 3)], zI (G.2.1) (t5 1) 4, zI (G.2.1) (t5 2) 6, zI (G.2.1) (t5 3) 6, zO (t8 0) 3 [.ref (t8 1), .ref (t8 2), .ref (t8 3)], zI (G.2.1) (t8 1) 4, zI (G.2.1) (t8 2) 6, zI (G.2.1) (t8 3) 6, zO (t11 0) 3 [.ref (t11 1), .ref (t11 2), .ref (t11 3)], zI (G.2.1) (t11 1) 4, zI (G.2.1) (t11 2) 6, zI (G.2.1) (t11 3) 6, zO (t14 0) 3 [.ref (t14 1), .ref (t14 2), .ref (t14 3)], zI (G.2.1) (t14 1) 4, zI (G.2.1) (t14 2) 6, zI (G.2.1) (t14 3) 6]) dX1_init_33 rfl rfl rfl rfl (vin_c (by decide)) (by decide) rfl ?_
  refine ei_iinc1 (pc := 34) (v := 5) dX1_init_34 (by decide) (by decide) ?_
  refine ei_goto (pc := 37) (tgt := 15) dX1_init_37 (by decide) ?_
  refine ei_iload1 (pc := 15) dX1_init_15 ?_
  refine ei_bipush (pc := 16) (v := 10) dX1_init_16 (by decide) ?_
  refine ei_geN (pc := 18) (tgt := 40) dX1_init_18 (by decide) (by decide) ?_
  refine ei_aload0 (pc := 21) dX1_init_21 ?_
  refine ei_get (pc := 22) (q := q1) dX1_init_22 fr_X1_11 rfl ?_
  refine ei_iload1 (pc := 25) dX1_init_25 ?_
  refine ei_new (pc := 26) dX1_init_26 dX1_init_29 dX1_init_30 cl_X1_9 ni_X1_17 (i_X3 G) (by decide) (Nat.le_of_ble_eq_true rfl) (Nat.le_of_ble_eq_true rfl) (Nat.le_of_ble_eq_true rfl) ?_
  rintro z19 u18 ⟨t17, rfl, rfl⟩
  refine ei_ws (ws' := [zO h0 1 [.ref q1, .int 0, .int 0], zR ((G.2.1) 13) q1 10 (va_up (va_up (va_up (va_up (va_up (fun _ => none) 0 (some (t2 0))) 1 (some (t5 0))) 2 (some (t8 0))) 3 (some (t11 0))) 4 (some (t14 0))), zO (t2 0) 3 [.ref (t2 1), .ref (t2 2), .ref (t2 3)], zI (G.2.1) (t2 1) 4, zI (G.2.1) (t2 2) 6, zI (G.2.1) (t2 3) 6, zO (t5 0) 3 [.ref (t5 1), .ref (t5 2), .ref (t5 3)], zI (G.2.1) (t5 1) 4, zI (G.2.1) (t5 2) 6, zI (G.2.1) (t5 3) 6, zO (t8 0) 3 [.ref (t8 1), .ref (t8 2), .ref (t8 3)], zI (G.2.1) (t8 1) 4, zI (G.2.1) (t8 2) 6, zI (G.2.1) (t8 3) 6, zO (t11 0) 3 [.ref (t11 1), .ref (t11 2), .ref (t11 3)], zI (G.2.1) (t11 1) 4, zI (G.2.1) (t11 2) 6, zI (G.2.1) (t11 3) 6, zO (t14 0) 3 [.ref (t14 1), .ref (t14 2), .ref (t14 3)], zI (G.2.1) (t14 1) 4, zI (G.2.1) (t14 2) 6, zI (G.2.1) (t14 3) 6, zO (t17 0) 3 [.ref (t17 1), .ref (t17 2), .ref (t17 3)], zI (G.2.1) (t17 1) 4, zI (G.2.1) (t17 2) 6, zI (G.2.1) (t17 3) 6]) rfl ?_
  refine ei_aast (pc := 33) (q0 := 1) (t0 := 3) (qk := 22) (ci := 3) (j := 5) (r := (RX3, TX3, 3)) (ws' := [zO h0 1 [.ref q1, .int 0, .int 0], zR ((G.2.1) 13) q1 10 (va_up (va_up (va_up (va_up (va_up (va_up (fun _ => none) 0 (some (t2 0))) 1 (some (t5 0))) 2 (some (t8 0))) 3 (some (t11 0))) 4 (some (t14 0))) 5 (some (t17 0))), zO (t2 0) 3 [.ref (t2 1), .ref (t2 2), .ref (t2 3)], zI (G.2.1) (t2 1) 4, zI (G.2.1) (t2 2) 6, zI (G.2.1) (t2 3) 6, zO (t5 0) 3 [.ref (t5 1), .ref (t5 2), .ref (t5 3)], zI (G.2.1) (t5 1) 4, zI (G.2.1) (t5 2) 6, zI (G.2.1) (t5 3) 6, zO (t8 0) 3 [.ref (t8 1), .ref (t8 2), .ref (t8 3)], zI (G.2.1) (t8 1) 4, zI (G.2.1) (t8 2) 6, zI (G.2.1) (t8 3) 6, zO (t11 0) 3 [.ref (t11 1), .ref (t11 2), .ref (t11 3)], zI (G.2.1) (t11 1) 4, zI (G.2.1) (t11 2) 6, zI (G.2.1) (t11 3) 6, zO (t14 0) 3 [.ref (t14 1), .ref (t14 2), .ref (t14 3)], zI (G.2.1) (t14 1) 4, zI (G.2.1) (t14 2) 6, zI (G.2.1) (t14 3) 6, zO (t17 0) 3 [.ref (t17 1), .ref (t17 2), .ref (t17 3)], zI (G.2.1) (t17 1) 4, zI (G.2.1) (t17 2) 6, zI (G.2.1) (t17 3) 6]) dX1_init_33 rfl rfl rfl rfl (vin_c (by decide)) (by decide) rfl ?_
  refine ei_iinc1 (pc := 34) (v := 6) dX1_init_34 (by decide) (by decide) ?_
  refine ei_goto (pc := 37) (tgt := 15) dX1_init_37 (by decide) ?_
  refine ei_iload1 (pc := 15) dX1_init_15 ?_
  refine ei_bipush (pc := 16) (v := 10) dX1_init_16 (by decide) ?_
  refine ei_geN (pc := 18) (tgt := 40) dX1_init_18 (by decide) (by decide) ?_
  refine ei_aload0 (pc := 21) dX1_init_21 ?_
  refine ei_get (pc := 22) (q := q1) dX1_init_22 fr_X1_11 rfl ?_
  refine ei_iload1 (pc := 25) dX1_init_25 ?_
  refine ei_new (pc := 26) dX1_init_26 dX1_init_29 dX1_init_30 cl_X1_9 ni_X1_17 (i_X3 G) (by decide) (Nat.le_of_ble_eq_true rfl) (Nat.le_of_ble_eq_true rfl) (Nat.le_of_ble_eq_true rfl) ?_
  rintro z22 u21 ⟨t20, rfl, rfl⟩
  refine ei_ws (ws' := [zO h0 1 [.ref q1, .int 0, .int 0], zR ((G.2.1) 13) q1 10 (va_up (va_up (va_up (va_up (va_up (va_up (fun _ => none) 0 (some (t2 0))) 1 (some (t5 0))) 2 (some (t8 0))) 3 (some (t11 0))) 4 (some (t14 0))) 5 (some (t17 0))), zO (t2 0) 3 [.ref (t2 1), .ref (t2 2), .ref (t2 3)], zI (G.2.1) (t2 1) 4, zI (G.2.1) (t2 2) 6, zI (G.2.1) (t2 3) 6, zO (t5 0) 3 [.ref (t5 1), .ref (t5 2), .ref (t5 3)], zI (G.2.1) (t5 1) 4, zI (G.2.1) (t5 2) 6, zI (G.2.1) (t5 3) 6, zO (t8 0) 3 [.ref (t8 1), .ref (t8 2), .ref (t8 3)], zI (G.2.1) (t8 1) 4, zI (G.2.1) (t8 2) 6, zI (G.2.1) (t8 3) 6, zO (t11 0) 3 [.ref (t11 1), .ref (t11 2), .ref (t11 3)], zI (G.2.1) (t11 1) 4, zI (G.2.1) (t11 2) 6, zI (G.2.1) (t11 3) 6, zO (t14 0) 3 [.ref (t14 1), .ref (t14 2), .ref (t14 3)], zI (G.2.1) (t14 1) 4, zI (G.2.1) (t14 2) 6, zI (G.2.1) (t14 3) 6, zO (t17 0) 3 [.ref (t17 1), .ref (t17 2), .ref (t17 3)], zI (G.2.1) (t17 1) 4, zI (G.2.1) (t17 2) 6, zI (G.2.1) (t17 3) 6, zO (t20 0) 3 [.ref (t20 1), .ref (t20 2), .ref (t20 3)], zI (G.2.1) (t20 1) 4, zI (G.2.1) (t20 2) 6, zI (G.2.1) (t20 3) 6]) rfl ?_
  refine ei_aast (pc := 33) (q0 := 1) (t0 := 3) (qk := 26) (ci := 3) (j := 6) (r := (RX3, TX3, 3)) (ws' := [zO h0 1 [.ref q1, .int 0, .int 0], zR ((G.2.1) 13) q1 10 (va_up (va_up (va_up (va_up (va_up (va_up (va_up (fun _ => none) 0 (some (t2 0))) 1 (some (t5 0))) 2 (some (t8 0))) 3 (some (t11 0))) 4 (some (t14 0))) 5 (some (t17 0))) 6 (some (t20 0))), zO (t2 0) 3 [.ref (t2 1), .ref (t2 2), .ref (t2 3)], zI (G.2.1) (t2 1) 4, zI (G.2.1) (t2 2) 6, zI (G.2.1) (t2 3) 6, zO (t5 0) 3 [.ref (t5 1), .ref (t5 2), .ref (t5 3)], zI (G.2.1) (t5 1) 4, zI (G.2.1) (t5 2) 6, zI (G.2.1) (t5 3) 6, zO (t8 0) 3 [.ref (t8 1), .ref (t8 2), .ref (t8 3)], zI (G.2.1) (t8 1) 4, zI (G.2.1) (t8 2) 6, zI (G.2.1) (t8 3) 6, zO (t11 0) 3 [.ref (t11 1), .ref (t11 2), .ref (t11 3)], zI (G.2.1) (t11 1) 4, zI (G.2.1) (t11 2) 6, zI (G.2.1) (t11 3) 6, zO (t14 0) 3 [.ref (t14 1), .ref (t14 2), .ref (t14 3)], zI (G.2.1) (t14 1) 4, zI (G.2.1) (t14 2) 6, zI (G.2.1) (t14 3) 6, zO (t17 0) 3 [.ref (t17 1), .ref (t17 2), .ref (t17 3)], zI (G.2.1) (t17 1) 4, zI (G.2.1) (t17 2) 6, zI (G.2.1) (t17 3) 6, zO (t20 0) 3 [.ref (t20 1), .ref (t20 2), .ref (t20 3)], zI (G.2.1) (t20 1) 4, zI (G.2.1) (t20 2) 6, zI (G.2.1) (t20 3) 6]) dX1_init_33 rfl rfl rfl rfl (vin_c (by decide)) (by decide) rfl ?_
  refine ei_iinc1 (pc := 34) (v := 7) dX1_init_34 (by decide) (by decide) ?_
  refine ei_goto (pc := 37) (tgt := 15) dX1_init_37 (by decide) ?_
  refine ei_iload1 (pc := 15) dX1_init_15 ?_
  refine ei_bipush (pc := 16) (v := 10) dX1_init_16 (by decide) ?_
  refine ei_geN (pc := 18) (tgt := 40) dX1_init_18 (by decide) (by decide) ?_
  refine ei_aload0 (pc := 21) dX1_init_21 ?_
  refine ei_get (pc := 22) (q := q1) dX1_init_22 fr_X1_11 rfl ?_
  refine ei_iload1 (pc := 25) dX1_init_25 ?_
  refine ei_new (pc := 26) dX1_init_26 dX1_init_29 dX1_init_30 cl_X1_9 ni_X1_17 (i_X3 G) (by decide) (Nat.le_of_ble_eq_true rfl) (Nat.le_of_ble_eq_true rfl) (Nat.le_of_ble_eq_true rfl) ?_
  rintro z25 u24 ⟨t23, rfl, rfl⟩
  refine ei_ws (ws' := [zO h0 1 [.ref q1, .int 0, .int 0], zR ((G.2.1) 13) q1 10 (va_up (va_up (va_up (va_up (va_up (va_up (va_up (fun _ => none) 0 (some (t2 0))) 1 (some (t5 0))) 2 (some (t8 0))) 3 (some (t11 0))) 4 (some (t14 0))) 5 (some (t17 0))) 6 (some (t20 0))), zO (t2 0) 3 [.ref (t2 1), .ref (t2 2), .ref (t2 3)], zI (G.2.1) (t2 1) 4, zI (G.2.1) (t2 2) 6, zI (G.2.1) (t2 3) 6, zO (t5 0) 3 [.ref (t5 1), .ref (t5 2), .ref (t5 3)], zI (G.2.1) (t5 1) 4, zI (G.2.1) (t5 2) 6, zI (G.2.1) (t5 3) 6, zO (t8 0) 3 [.ref (t8 1), .ref (t8 2), .ref (t8 3)], zI (G.2.1) (t8 1) 4, zI (G.2.1) (t8 2) 6, zI (G.2.1) (t8 3) 6, zO (t11 0) 3 [.ref (t11 1), .ref (t11 2), .ref (t11 3)], zI (G.2.1) (t11 1) 4, zI (G.2.1) (t11 2) 6, zI (G.2.1) (t11 3) 6, zO (t14 0) 3 [.ref (t14 1), .ref (t14 2), .ref (t14 3)], zI (G.2.1) (t14 1) 4, zI (G.2.1) (t14 2) 6, zI (G.2.1) (t14 3) 6, zO (t17 0) 3 [.ref (t17 1), .ref (t17 2), .ref (t17 3)], zI (G.2.1) (t17 1) 4, zI (G.2.1) (t17 2) 6, zI (G.2.1) (t17 3) 6, zO (t20 0) 3 [.ref (t20 1), .ref (t20 2), .ref (t20 3)], zI (G.2.1) (t20 1) 4, zI (G.2.1) (t20 2) 6, zI (G.2.1) (t20 3) 6, zO (t23 0) 3 [.ref (t23 1), .ref (t23 2), .ref (t23 3)], zI (G.2.1) (t23 1) 4, zI (G.2.1) (t23 2) 6, zI (G.2.1) (t23 3) 6]) rfl ?_
  refine ei_aast (pc := 33) (q0 := 1) (t0 := 3) (qk := 30) (ci := 3) (j := 7) (r := (RX3, TX3, 3)) (ws' := [zO h0 1 [.ref q1, .int 0, .int 0], zR ((G.2.1) 13) q1 10 (va_up (va_up (va_up (va_up (va_up (va_up (va_up (va_up (fun _ => none) 0 (some (t2 0))) 1 (some (t5 0))) 2 (some (t8 0))) 3 (some (t11 0))) 4 (some (t14 0))) 5 (some (t17 0))) 6 (some (t20 0))) 7 (some (t23 0))), zO (t2 0) 3 [.ref (t2 1), .ref (t2 2), .ref (t2 3)], zI (G.2.1) (t2 1) 4, zI (G.2.1) (t2 2) 6, zI (G.2.1) (t2 3) 6, zO (t5 0) 3 [.ref (t5 1), .ref (t5 2), .ref (t5 3)], zI (G.2.1) (t5 1) 4, zI (G.2.1) (t5 2) 6, zI (G.2.1) (t5 3) 6, zO (t8 0) 3 [.ref (t8 1), .ref (t8 2), .ref (t8 3)], zI (G.2.1) (t8 1) 4, zI (G.2.1) (t8 2) 6, zI (G.2.1) (t8 3) 6, zO (t11 0) 3 [.ref (t11 1), .ref (t11 2), .ref (t11 3)], zI (G.2.1) (t11 1) 4, zI (G.2.1) (t11 2) 6, zI (G.2.1) (t11 3) 6, zO (t14 0) 3 [.ref (t14 1), .ref (t14 2), .ref (t14 3)], zI (G.2.1) (t14 1) 4, zI (G.2.1) (t14 2) 6, zI (G.2.1) (t14 3) 6, zO (t17 0) 3 [.ref (t17 1), .ref (t17 2), .ref (t17 3)], zI (G.2.1) (t17 1) 4, zI (G.2.1) (t17 2) 6, zI (G.2.1) (t17 3) 6, zO (t20 0) 3 [.ref (t20 1), .ref (t20 2), .ref (t20 3)], zI (G.2.1) (t20 1) 4, zI (G.2.1) (t20 2) 6, zI (G.2.1) (t20 3) 6, zO (t23 0) 3 [.ref (t23 1), .ref (t23 2), .ref (t23 3)], zI (G.2.1) (t23 1) 4, zI (G.2.1) (t23 2) 6, zI (G.2.1) (t23 3) 6]) dX1_init_33 rfl rfl rfl rfl (vin_c (by decide)) (by decide) rfl ?_
  refine ei_iinc1 (pc := 34) (v := 8) dX1_init_34 (by decide) (by decide) ?_
  refine ei_goto (pc := 37) (tgt := 15) dX1_init_37 (by decide) ?_
  refine ei_iload1 (pc := 15) dX1_init_15 ?_
  refine ei_bipush (pc := 16) (v := 10) dX1_init_16 (by decide) ?_
  refine ei_geN (pc := 18) (tgt := 40) dX1_init_18 (by decide) (by decide) ?_
  refine ei_aload0 (pc := 21) dX1_init_21 ?_
  refine ei_get (pc := 22) (q := q1) dX1_init_22 fr_X1_11 rfl ?_
  refine ei_iload1 (pc := 25) dX1_init_25 ?_
  refine ei_new (pc := 26) dX1_init_26 dX1_init_29 dX1_init_30 cl_X1_9 ni_X1_17 (i_X3 G) (by decide) (Nat.le_of_ble_eq_true rfl) (Nat.le_of_ble_eq_true rfl) (Nat.le_of_ble_eq_true rfl) ?_
  rintro z28 u27 ⟨t26, rfl, rfl⟩
  refine ei_ws (ws' := [zO h0 1 [.ref q1, .int 0, .int 0], zR ((G.2.1) 13) q1 10 (va_up (va_up (va_up (va_up (va_up (va_up (va_up (va_up (fun _ => none) 0 (some (t2 0))) 1 (some (t5 0))) 2 (some (t8 0))) 3 (some (t11 0))) 4 (some (t14 0))) 5 (some (t17 0))) 6 (some (t20 0))) 7 (some (t23 0))), zO (t2 0) 3 [.ref (t2 1), .ref (t2 2), .ref (t2 3)], zI (G.2.1) (t2 1) 4, zI (G.2.1) (t2 2) 6, zI (G.2.1) (t2 3) 6, zO (t5 0) 3 [.ref (t5 1), .ref (t5 2), .ref (t5 3)], zI (G.2.1) (t5 1) 4, zI (G.2.1) (t5 2) 6, zI (G.2.1) (t5 3) 6, zO (t8 0) 3 [.ref (t8 1), .ref (t8 2), .ref (t8 3)], zI (G.2.1) (t8 1) 4, zI (G.2.1) (t8 2) 6, zI (G.2.1) (t8 3) 6, zO (t11 0) 3 [.ref (t11 1), .ref (t11 2), .ref (t11 3)], zI (G.2.1) (t11 1) 4, zI (G.2.1) (t11 2) 6, zI (G.2.1) (t11 3) 6, zO (t14 0) 3 [.ref (t14 1), .ref (t14 2), .ref (t14 3)], zI (G.2.1) (t14 1) 4, zI (G.2.1) (t14 2) 6, zI (G.2.1) (t14 3) 6, zO (t17 0) 3 [.ref (t17 1), .ref (t17 2), .ref (t17 3)], zI (G.2.1) (t17 1) 4, zI (G.2.1) (t17 2) 6, zI (G.2.1) (t17 3) 6, zO (t20 0) 3 [.ref (t20 1), .ref (t20 2), .ref (t20 3)], zI (G.2.1) (t20 1) 4, zI (G.2.1) (t20 2) 6, zI (G.2.1) (t20 3) 6, zO (t23 0) 3 [.ref (t23 1), .ref (t23 2), .ref (t23 3)], zI (G.2.1) (t23 1) 4, zI (G.2.1) (t23 2) 6, zI (G.2.1) (t23 3) 6, zO (t26 0) 3 [.ref (t26 1), .ref (t26 2), .ref (t26 3)], zI (G.2.1) (t26 1) 4, zI (G.2.1) (t26 2) 6, zI (G.2.1) (t26 3) 6]) rfl ?_
  refine ei_aast (pc := 33) (q0 := 1) (t0 := 3) (qk := 34) (ci := 3) (j := 8) (r := (RX3, TX3, 3)) (ws' := [zO h0 1 [.ref q1, .int 0, .int 0], zR ((G.2.1) 13) q1 10 (va_up (va_up (va_up (va_up (va_up (va_up (va_up (va_up (va_up (fun _ => none) 0 (some (t2 0))) 1 (some (t5 0))) 2 (some (t8 0))) 3 (some (t11 0))) 4 (some (t14 0))) 5 (some (t17 0))) 6 (some (t20 0))) 7 (some (t23 0))) 8 (some (t26 0))), zO (t2 0) 3 [.ref (t2 1), .ref (t2 2), .ref (t2 3)], zI (G.2.1) (t2 1) 4, zI (G.2.1) (t2 2) 6, zI (G.2.1) (t2 3) 6, zO (t5 0) 3 [.ref (t5 1), .ref (t5 2), .ref (t5 3)], zI (G.2.1) (t5 1) 4, zI (G.2.1) (t5 2) 6, zI (G.2.1) (t5 3) 6, zO (t8 0) 3 [.ref (t8 1), .ref (t8 2), .ref (t8 3)], zI (G.2.1) (t8 1) 4, zI (G.2.1) (t8 2) 6, zI (G.2.1) (t8 3) 6, zO (t11 0) 3 [.ref (t11 1), .ref (t11 2), .ref (t11 3)], zI (G.2.1) (t11 1) 4, zI (G.2.1) (t11 2) 6, zI (G.2.1) (t11 3) 6, zO (t14 0) 3 [.ref (t14 1), .ref (t14 2), .ref (t14 3)], zI (G.2.1) (t14 1) 4, zI (G.2.1) (t14 2) 6, zI (G.2.1) (t14 3) 6, zO (t17 0) 3 [.ref (t17 1), .ref (t17 2), .ref (t17 3)], zI (G.2.1) (t17 1) 4, zI (G.2.1) (t17 2) 6, zI (G.2.1) (t17 3) 6, zO (t20 0) 3 [.ref (t20 1), .ref (t20 2), .ref (t20 3)], zI (G.2.1) (t20 1) 4, zI (G.2.1) (t20 2) 6, zI (G.2.1) (t20 3) 6, zO (t23 0) 3 [.ref (t23 1), .ref (t23 2), .ref (t23 3)], zI (G.2.1) (t23 1) 4, zI (G.2.1) (t23 2) 6, zI (G.2.1) (t23 3) 6, zO (t26 0) 3 [.ref (t26 1), .ref (t26 2), .ref (t26 3)], zI (G.2.1) (t26 1) 4, zI (G.2.1) (t26 2) 6, zI (G.2.1) (t26 3) 6]) dX1_init_33 rfl rfl rfl rfl (vin_c (by decide)) (by decide) rfl ?_
  refine ei_iinc1 (pc := 34) (v := 9) dX1_init_34 (by decide) (by decide) ?_
  refine ei_goto (pc := 37) (tgt := 15) dX1_init_37 (by decide) ?_
  refine ei_iload1 (pc := 15) dX1_init_15 ?_
  refine ei_bipush (pc := 16) (v := 10) dX1_init_16 (by decide) ?_
  refine ei_geN (pc := 18) (tgt := 40) dX1_init_18 (by decide) (by decide) ?_
  refine ei_aload0 (pc := 21) dX1_init_21 ?_
  refine ei_get (pc := 22) (q := q1) dX1_init_22 fr_X1_11 rfl ?_
  refine ei_iload1 (pc := 25) dX1_init_25 ?_
  refine ei_new (pc := 26) dX1_init_26 dX1_init_29 dX1_init_30 cl_X1_9 ni_X1_17 (i_X3 G) (by decide) (Nat.le_of_ble_eq_true rfl) (Nat.le_of_ble_eq_true rfl) (Nat.le_of_ble_eq_true rfl) ?_
  rintro z31 u30 ⟨t29, rfl, rfl⟩
  refine ei_ws (ws' := [zO h0 1 [.ref q1, .int 0, .int 0], zR ((G.2.1) 13) q1 10 (va_up (va_up (va_up (va_up (va_up (va_up (va_up (va_up (va_up (fun _ => none) 0 (some (t2 0))) 1 (some (t5 0))) 2 (some (t8 0))) 3 (some (t11 0))) 4 (some (t14 0))) 5 (some (t17 0))) 6 (some (t20 0))) 7 (some (t23 0))) 8 (some (t26 0))), zO (t2 0) 3 [.ref (t2 1), .ref (t2 2), .ref (t2 3)], zI (G.2.1) (t2 1) 4, zI (G.2.1) (t2 2) 6, zI (G.2.1) (t2 3) 6, zO (t5 0) 3 [.ref (t5 1), .ref (t5 2), .ref (t5 3)], zI (G.2.1) (t5 1) 4, zI (G.2.1) (t5 2) 6, zI (G.2.1) (t5 3) 6, zO (t8 0) 3 [.ref (t8 1), .ref (t8 2), .ref (t8 3)], zI (G.2.1) (t8 1) 4, zI (G.2.1) (t8 2) 6, zI (G.2.1) (t8 3) 6, zO (t11 0) 3 [.ref (t11 1), .ref (t11 2), .ref (t11 3)], zI (G.2.1) (t11 1) 4, zI (G.2.1) (t11 2) 6, zI (G.2.1) (t11 3) 6, zO (t14 0) 3 [.ref (t14 1), .ref (t14 2), .ref (t14 3)], zI (G.2.1) (t14 1) 4, zI (G.2.1) (t14 2) 6, zI (G.2.1) (t14 3) 6, zO (t17 0) 3 [.ref (t17 1), .ref (t17 2), .ref (t17 3)], zI (G.2.1) (t17 1) 4, zI (G.2.1) (t17 2) 6, zI (G.2.1) (t17 3) 6, zO (t20 0) 3 [.ref (t20 1), .ref (t20 2), .ref (t20 3)], zI (G.2.1) (t20 1) 4, zI (G.2.1) (t20 2) 6, zI (G.2.1) (t20 3) 6, zO (t23 0) 3 [.ref (t23 1), .ref (t23 2), .ref (t23 3)], zI (G.2.1) (t23 1) 4, zI (G.2.1) (t23 2) 6, zI (G.2.1) (t23 3) 6, zO (t26 0) 3 [.ref (t26 1), .ref (t26 2), .ref (t26 3)], zI (G.2.1) (t26 1) 4, zI (G.2.1) (t26 2) 6, zI (G.2.1) (t26 3) 6, zO (t29 0) 3 [.ref (t29 1), .ref (t29 2), .ref (t29 3)], zI (G.2.1) (t29 1) 4, zI (G.2.1) (t29 2) 6, zI (G.2.1) (t29 3) 6]) rfl ?_
  refine ei_aast (pc := 33) (q0 := 1) (t0 := 3) (qk := 38) (ci := 3) (j := 9) (r := (RX3, TX3, 3)) (ws' := [zO h0 1 [.ref q1, .int 0, .int 0], zR ((G.2.1) 13) q1 10 (va_up (va_up (va_up (va_up (va_up (va_up (va_up (va_up (va_up (va_up (fun _ => none) 0 (some (t2 0))) 1 (some (t5 0))) 2 (some (t8 0))) 3 (some (t11 0))) 4 (some (t14 0))) 5 (some (t17 0))) 6 (some (t20 0))) 7 (some (t23 0))) 8 (some (t26 0))) 9 (some (t29 0))), zO (t2 0) 3 [.ref (t2 1), .ref (t2 2), .ref (t2 3)], zI (G.2.1) (t2 1) 4, zI (G.2.1) (t2 2) 6, zI (G.2.1) (t2 3) 6, zO (t5 0) 3 [.ref (t5 1), .ref (t5 2), .ref (t5 3)], zI (G.2.1) (t5 1) 4, zI (G.2.1) (t5 2) 6, zI (G.2.1) (t5 3) 6, zO (t8 0) 3 [.ref (t8 1), .ref (t8 2), .ref (t8 3)], zI (G.2.1) (t8 1) 4, zI (G.2.1) (t8 2) 6, zI (G.2.1) (t8 3) 6, zO (t11 0) 3 [.ref (t11 1), .ref (t11 2), .ref (t11 3)], zI (G.2.1) (t11 1) 4, zI (G.2.1) (t11 2) 6, zI (G.2.1) (t11 3) 6, zO (t14 0) 3 [.ref (t14 1), .ref (t14 2), .ref (t14 3)], zI (G.2.1) (t14 1) 4, zI (G.2.1) (t14 2) 6, zI (G.2.1) (t14 3) 6, zO (t17 0) 3 [.ref (t17 1), .ref (t17 2), .ref (t17 3)], zI (G.2.1) (t17 1) 4, zI (G.2.1) (t17 2) 6, zI (G.2.1) (t17 3) 6, zO (t20 0) 3 [.ref (t20 1), .ref (t20 2), .ref (t20 3)], zI (G.2.1) (t20 1) 4, zI (G.2.1) (t20 2) 6, zI (G.2.1) (t20 3) 6, zO (t23 0) 3 [.ref (t23 1), .ref (t23 2), .ref (t23 3)], zI (G.2.1) (t23 1) 4, zI (G.2.1) (t23 2) 6, zI (G.2.1) (t23 3) 6, zO (t26 0) 3 [.ref (t26 1), .ref (t26 2), .ref (t26 3)], zI (G.2.1) (t26 1) 4, zI (G.2.1) (t26 2) 6, zI (G.2.1) (t26 3) 6, zO (t29 0) 3 [.ref (t29 1), .ref (t29 2), .ref (t29 3)], zI (G.2.1) (t29 1) 4, zI (G.2.1) (t29 2) 6, zI (G.2.1) (t29 3) 6]) dX1_init_33 rfl rfl rfl rfl (vin_c (by decide)) (by decide) rfl ?_
  refine ei_iinc1 (pc := 34) (v := 10) dX1_init_34 (by decide) (by decide) ?_
  refine ei_goto (pc := 37) (tgt := 15) dX1_init_37 (by decide) ?_
  refine ei_iload1 (pc := 15) dX1_init_15 ?_
  refine ei_bipush (pc := 16) (v := 10) dX1_init_16 (by decide) ?_
  refine ei_geY (pc := 18) (tgt := 40) dX1_init_18 (by decide) (by decide) ?_
  refine ei_refs (q0 := 1) (fun i => some (([h0, q1, t2 0, t2 1, t2 2, t2 3, t5 0, t5 1, t5 2, t5 3, t8 0, t8 1, t8 2, t8 3, t11 0, t11 1, t11 2, t11 3, t14 0, t14 1, t14 2, t14 3, t17 0, t17 1, t17 2, t17 3, t20 0, t20 1, t20 2, t20 3, t23 0, t23 1, t23 2, t23 3, t26 0, t26 1, t26 2, t26 3, t29 0, t29 1, t29 2, t29 3] : List Nat).getD (2 + 4 * i) 0)) (ws' := [zO h0 1 [.ref q1, .int 0, .int 0], zR ((G.2.1) 13) q1 10 (fun i => some (([h0, q1, t2 0, t2 1, t2 2, t2 3, t5 0, t5 1, t5 2, t5 3, t8 0, t8 1, t8 2, t8 3, t11 0, t11 1, t11 2, t11 3, t14 0, t14 1, t14 2, t14 3, t17 0, t17 1, t17 2, t17 3, t20 0, t20 1, t20 2, t20 3, t23 0, t23 1, t23 2, t23 3, t26 0, t26 1, t26 2, t26 3, t29 0, t29 1, t29 2, t29 3] : List Nat).getD (2 + 4 * i) 0)), zO (t2 0) 3 [.ref (t2 1), .ref (t2 2), .ref (t2 3)], zI (G.2.1) (t2 1) 4, zI (G.2.1) (t2 2) 6, zI (G.2.1) (t2 3) 6, zO (t5 0) 3 [.ref (t5 1), .ref (t5 2), .ref (t5 3)], zI (G.2.1) (t5 1) 4, zI (G.2.1) (t5 2) 6, zI (G.2.1) (t5 3) 6, zO (t8 0) 3 [.ref (t8 1), .ref (t8 2), .ref (t8 3)], zI (G.2.1) (t8 1) 4, zI (G.2.1) (t8 2) 6, zI (G.2.1) (t8 3) 6, zO (t11 0) 3 [.ref (t11 1), .ref (t11 2), .ref (t11 3)], zI (G.2.1) (t11 1) 4, zI (G.2.1) (t11 2) 6, zI (G.2.1) (t11 3) 6, zO (t14 0) 3 [.ref (t14 1), .ref (t14 2), .ref (t14 3)], zI (G.2.1) (t14 1) 4, zI (G.2.1) (t14 2) 6, zI (G.2.1) (t14 3) 6, zO (t17 0) 3 [.ref (t17 1), .ref (t17 2), .ref (t17 3)], zI (G.2.1) (t17 1) 4, zI (G.2.1) (t17 2) 6, zI (G.2.1) (t17 3) 6, zO (t20 0) 3 [.ref (t20 1), .ref (t20 2), .ref (t20 3)], zI (G.2.1) (t20 1) 4, zI (G.2.1) (t20 2) 6, zI (G.2.1) (t20 3) 6, zO (t23 0) 3 [.ref (t23 1), .ref (t23 2), .ref (t23 3)], zI (G.2.1) (t23 1) 4, zI (G.2.1) (t23 2) 6, zI (G.2.1) (t23 3) 6, zO (t26 0) 3 [.ref (t26 1), .ref (t26 2), .ref (t26 3)], zI (G.2.1) (t26 1) 4, zI (G.2.1) (t26 2) 6, zI (G.2.1) (t26 3) 6, zO (t29 0) 3 [.ref (t29 1), .ref (t29 2), .ref (t29 3)], zI (G.2.1) (t29 1) 4, zI (G.2.1) (t29 2) 6, zI (G.2.1) (t29 3) 6]) rfl (fun i hi => by rcases (show i = 0 ∨ i = 1 ∨ i = 2 ∨ i = 3 ∨ i = 4 ∨ i = 5 ∨ i = 6 ∨ i = 7 ∨ i = 8 ∨ i = 9 by omega) with rfl | rfl | rfl | rfl | rfl | rfl | rfl | rfl | rfl | rfl <;> rfl) rfl ?_
  exact ei_return (pc := 40) dX1_init_40 rfl rfl ⟨fun j => ([h0, q1, t2 0, t2 1, t2 2, t2 3, t5 0, t5 1, t5 2, t5 3, t8 0, t8 1, t8 2, t8 3, t11 0, t11 1, t11 2, t11 3, t14 0, t14 1, t14 2, t14 3, t17 0, t17 1, t17 2, t17 3, t20 0, t20 1, t20 2, t20 3, t23 0, t23 1, t23 2, t23 3, t26 0, t26 1, t26 2, t26 3, t29 0, t29 1, t29 2, t29 3] : List Nat).getD j 0, rfl, rfl⟩
def wX2 (ka : Nat → ClassId) (t : Nat → Nat) : va_W := [zO (t 0) 2 [.ref (t 1), .ref (t 2), .ref (t 3), .ref (t 4), .ref (t 5), .int 0, .ref (t 6), .ref (t 7)], zI (ka) (t 1) 5, zI (ka) (t 2) 1296, zI (ka) (t 3) 1296, zI (ka) (t 4) 1296, zI (ka) (t 5) 1296, zB (ka) (t 6) 1296, zO (t 7) 3 [.ref (t 8), .ref (t 9), .ref (t 10)], zI (ka) (t 8) 4, zI (ka) (t 9) 6, zI (ka) (t 10) 6]
def PX2 (G : Gk) (q : Nat) (w : va_W) : Prop := ∃ t : Nat → Nat, t 0 = q ∧ w = wX2 G.2.1 t
set_option maxRecDepth 100000 in
set_option maxHeartbeats 4000000 in
theorem i_X2 (G : Gk) : MtI G yX2_init cX2_init 1 2 10 6504 2 [.null, .null, .null, .null, .null, .int 0, .null, .null] (PX2 G) := by
  refine mi_of (by decide) rfl (by decide) (fun h0 => ?_)
  refine ei_aload0 (pc := 0) dX2_init_0 ?_
  refine ei_obj (pc := 1) dX2_init_1 (tbg_t 188 (by decide +kernel) (by decide +kernel)) (by decide) ?_
  refine ei_aload0 (pc := 4) dX2_init_4 ?_
  refine ei_iconst (pc := 5) (v := 5) dX2_init_5 (by decide) ?_
  refine ei_newI (pc := 6) (N := 5) dX2_init_6 (by decide) (by decide) (Nat.le_of_ble_eq_true rfl) (Nat.le_of_ble_eq_true rfl) (Nat.le_of_ble_eq_true rfl) (fun q1 => ?_)
  refine ei_ws (ws' := [zO h0 2 [.null, .null, .null, .null, .null, .int 0, .null, .null], zI (G.2.1) q1 5]) rfl ?_
  refine ei_putF (pc := 8) (fs' := [.ref q1, .null, .null, .null, .null, .int 0, .null, .null]) dX2_init_8 fr_X2_9 (Nat.le_of_ble_eq_true rfl) rfl ?_
  refine ei_aload0 (pc := 11) dX2_init_11 ?_
  refine ei_sipush (pc := 12) (v := 1296) dX2_init_12 (by decide) ?_
  refine ei_newI (pc := 15) (N := 1296) dX2_init_15 (by decide) (by decide) (Nat.le_of_ble_eq_true rfl) (Nat.le_of_ble_eq_true rfl) (Nat.le_of_ble_eq_true rfl) (fun q2 => ?_)
  refine ei_ws (ws' := [zO h0 2 [.ref q1, .null, .null, .null, .null, .int 0, .null, .null], zI (G.2.1) q1 5, zI (G.2.1) q2 1296]) rfl ?_
  refine ei_putF (pc := 17) (fs' := [.ref q1, .ref q2, .null, .null, .null, .int 0, .null, .null]) dX2_init_17 fr_X2_15 (Nat.le_of_ble_eq_true rfl) rfl ?_
  refine ei_aload0 (pc := 20) dX2_init_20 ?_
  refine ei_sipush (pc := 21) (v := 1296) dX2_init_21 (by decide) ?_
  refine ei_newI (pc := 24) (N := 1296) dX2_init_24 (by decide) (by decide) (Nat.le_of_ble_eq_true rfl) (Nat.le_of_ble_eq_true rfl) (Nat.le_of_ble_eq_true rfl) (fun q3 => ?_)
  refine ei_ws (ws' := [zO h0 2 [.ref q1, .ref q2, .null, .null, .null, .int 0, .null, .null], zI (G.2.1) q1 5, zI (G.2.1) q2 1296, zI (G.2.1) q3 1296]) rfl ?_
  refine ei_putF (pc := 26) (fs' := [.ref q1, .ref q2, .ref q3, .null, .null, .int 0, .null, .null]) dX2_init_26 fr_X2_18 (Nat.le_of_ble_eq_true rfl) rfl ?_
  refine ei_aload0 (pc := 29) dX2_init_29 ?_
  refine ei_sipush (pc := 30) (v := 1296) dX2_init_30 (by decide) ?_
  refine ei_newI (pc := 33) (N := 1296) dX2_init_33 (by decide) (by decide) (Nat.le_of_ble_eq_true rfl) (Nat.le_of_ble_eq_true rfl) (Nat.le_of_ble_eq_true rfl) (fun q4 => ?_)
  refine ei_ws (ws' := [zO h0 2 [.ref q1, .ref q2, .ref q3, .null, .null, .int 0, .null, .null], zI (G.2.1) q1 5, zI (G.2.1) q2 1296, zI (G.2.1) q3 1296, zI (G.2.1) q4 1296]) rfl ?_
  refine ei_putF (pc := 35) (fs' := [.ref q1, .ref q2, .ref q3, .ref q4, .null, .int 0, .null, .null]) dX2_init_35 fr_X2_21 (Nat.le_of_ble_eq_true rfl) rfl ?_
  refine ei_aload0 (pc := 38) dX2_init_38 ?_
  refine ei_sipush (pc := 39) (v := 1296) dX2_init_39 (by decide) ?_
  refine ei_newI (pc := 42) (N := 1296) dX2_init_42 (by decide) (by decide) (Nat.le_of_ble_eq_true rfl) (Nat.le_of_ble_eq_true rfl) (Nat.le_of_ble_eq_true rfl) (fun q5 => ?_)
  refine ei_ws (ws' := [zO h0 2 [.ref q1, .ref q2, .ref q3, .ref q4, .null, .int 0, .null, .null], zI (G.2.1) q1 5, zI (G.2.1) q2 1296, zI (G.2.1) q3 1296, zI (G.2.1) q4 1296, zI (G.2.1) q5 1296]) rfl ?_
  refine ei_putF (pc := 44) (fs' := [.ref q1, .ref q2, .ref q3, .ref q4, .ref q5, .int 0, .null, .null]) dX2_init_44 fr_X2_24 (Nat.le_of_ble_eq_true rfl) rfl ?_
  refine ei_aload0 (pc := 47) dX2_init_47 ?_
  refine ei_sipush (pc := 48) (v := 1296) dX2_init_48 (by decide) ?_
  refine ei_newB (pc := 51) (N := 1296) dX2_init_51 (by decide) (by decide) (Nat.le_of_ble_eq_true rfl) (Nat.le_of_ble_eq_true rfl) (Nat.le_of_ble_eq_true rfl) (fun q6 => ?_)
  refine ei_ws (ws' := [zO h0 2 [.ref q1, .ref q2, .ref q3, .ref q4, .ref q5, .int 0, .null, .null], zI (G.2.1) q1 5, zI (G.2.1) q2 1296, zI (G.2.1) q3 1296, zI (G.2.1) q4 1296, zI (G.2.1) q5 1296, zB (G.2.1) q6 1296]) rfl ?_
  refine ei_putF (pc := 53) (fs' := [.ref q1, .ref q2, .ref q3, .ref q4, .ref q5, .int 0, .ref q6, .null]) dX2_init_53 fr_X2_27 (Nat.le_of_ble_eq_true rfl) rfl ?_
  refine ei_aload0 (pc := 56) dX2_init_56 ?_
  refine ei_new (pc := 57) dX2_init_57 dX2_init_60 dX2_init_61 cl_X2_31 ni_X2_33 (i_X3 G) (by decide) (Nat.le_of_ble_eq_true rfl) (Nat.le_of_ble_eq_true rfl) (Nat.le_of_ble_eq_true rfl) ?_
  rintro z9 u8 ⟨t7, rfl, rfl⟩
  refine ei_ws (ws' := [zO h0 2 [.ref q1, .ref q2, .ref q3, .ref q4, .ref q5, .int 0, .ref q6, .null], zI (G.2.1) q1 5, zI (G.2.1) q2 1296, zI (G.2.1) q3 1296, zI (G.2.1) q4 1296, zI (G.2.1) q5 1296, zB (G.2.1) q6 1296, zO (t7 0) 3 [.ref (t7 1), .ref (t7 2), .ref (t7 3)], zI (G.2.1) (t7 1) 4, zI (G.2.1) (t7 2) 6, zI (G.2.1) (t7 3) 6]) rfl ?_
  refine ei_putF (pc := 64) (fs' := [.ref q1, .ref q2, .ref q3, .ref q4, .ref q5, .int 0, .ref q6, .ref (t7 0)]) dX2_init_64 fr_X2_34 (Nat.le_of_ble_eq_true rfl) rfl ?_
  exact ei_return (pc := 67) dX2_init_67 rfl rfl ⟨fun j => ([h0, q1, q2, q3, q4, q5, q6, t7 0, t7 1, t7 2, t7 3] : List Nat).getD j 0, rfl, rfl⟩
def wX4 (ka : Nat → ClassId) (t : Nat → Nat) : va_W := [zO (t 0) 4 [.ref (t 1), .ref (t 2), .int 0, .ref (t 7), .int 0, .int 0, .int 0, .ref (t 9), .ref (t 16)], zI (ka) (t 1) 4, zR ((ka) 12) (t 2) 4 (fun i => some (t (3 + i))), zI (ka) (t 3) 4, zI (ka) (t 4) 4, zI (ka) (t 5) 4, zI (ka) (t 6) 4, zO (t 7) 5 [.ref (t 8), .int 0], zI (ka) (t 8) 4, zR ((ka) 12) (t 9) 6 (fun i => some (t (10 + i))), zI (ka) (t 10) 4, zI (ka) (t 11) 4, zI (ka) (t 12) 4, zI (ka) (t 13) 4, zI (ka) (t 14) 4, zI (ka) (t 15) 4, zR ((ka) 12) (t 16) 6 (fun i => some (t (17 + i))), zI (ka) (t 17) 9, zI (ka) (t 18) 9, zI (ka) (t 19) 9, zI (ka) (t 20) 9, zI (ka) (t 21) 9, zI (ka) (t 22) 9]
def PX4 (G : Gk) (q : Nat) (w : va_W) : Prop := ∃ t : Nat → Nat, t 0 = q ∧ w = wX4 G.2.1 t
set_option maxRecDepth 100000 in
set_option maxHeartbeats 4000000 in
theorem i_X4 (G : Gk) : MtI G yX4_init cX4_init 1 2 22 120 4 [.null, .null, .int 0, .null, .int 0, .int 0, .int 0, .null, .null] (PX4 G) := by
  refine mi_of (by decide) rfl (by decide) (fun h0 => ?_)
  refine ei_aload0 (pc := 0) dX4_init_0 ?_
  refine ei_obj (pc := 1) dX4_init_1 (tbg_t 146 (by decide +kernel) (by decide +kernel)) (by decide) ?_
  refine ei_aload0 (pc := 4) dX4_init_4 ?_
  refine ei_iconst (pc := 5) (v := 4) dX4_init_5 (by decide) ?_
  refine ei_newI (pc := 6) (N := 4) dX4_init_6 (by decide) (by decide) (Nat.le_of_ble_eq_true rfl) (Nat.le_of_ble_eq_true rfl) (Nat.le_of_ble_eq_true rfl) (fun q1 => ?_)
  refine ei_ws (ws' := [zO h0 4 [.null, .null, .int 0, .null, .int 0, .int 0, .int 0, .null, .null], zI (G.2.1) q1 4]) rfl ?_
  refine ei_putF (pc := 8) (fs' := [.ref q1, .null, .int 0, .null, .int 0, .int 0, .int 0, .null, .null]) dX4_init_8 fr_X4_9 (Nat.le_of_ble_eq_true rfl) rfl ?_
  refine ei_aload0 (pc := 11) dX4_init_11 ?_
  refine ei_iconst (pc := 12) (v := 4) dX4_init_12 (by decide) ?_
  refine ei_iconst (pc := 13) (v := 4) dX4_init_13 (by decide) ?_
  refine ei_mul (pc := 14) (N := 4) (M := 4) dX4_init_14 (tbg_t 147 (by decide +kernel) (by decide +kernel)) (by decide) (by decide) (by decide) (by decide) (by decide) (by decide) (Nat.le_of_ble_eq_true rfl) (Nat.le_of_ble_eq_true rfl) (fun q2 => ?_)
  refine ei_ws (ws' := [zO h0 4 [.ref q1, .null, .int 0, .null, .int 0, .int 0, .int 0, .null, .null], zI (G.2.1) q1 4, zR ((G.2.1) 12) q2 4 (fun i => some (q2 + 1 + i)), zI (G.2.1) (q2 + 1 + 0) 4, zI (G.2.1) (q2 + 1 + 1) 4, zI (G.2.1) (q2 + 1 + 2) 4, zI (G.2.1) (q2 + 1 + 3) 4]) rfl ?_
  refine ei_putF (pc := 18) (fs' := [.ref q1, .ref q2, .int 0, .null, .int 0, .int 0, .int 0, .null, .null]) dX4_init_18 fr_X4_17 (Nat.le_of_ble_eq_true rfl) rfl ?_
  refine ei_aload0 (pc := 21) dX4_init_21 ?_
  refine ei_new (pc := 22) dX4_init_22 dX4_init_25 dX4_init_26 cl_X4_20 ni_X4_22 (i_X5 G) (by decide) (Nat.le_of_ble_eq_true rfl) (Nat.le_of_ble_eq_true rfl) (Nat.le_of_ble_eq_true rfl) ?_
  rintro z5 u4 ⟨t3, rfl, rfl⟩
  refine ei_ws (ws' := [zO h0 4 [.ref q1, .ref q2, .int 0, .null, .int 0, .int 0, .int 0, .null, .null], zI (G.2.1) q1 4, zR ((G.2.1) 12) q2 4 (fun i => some (q2 + 1 + i)), zI (G.2.1) (q2 + 1 + 0) 4, zI (G.2.1) (q2 + 1 + 1) 4, zI (G.2.1) (q2 + 1 + 2) 4, zI (G.2.1) (q2 + 1 + 3) 4, zO (t3 0) 5 [.ref (t3 1), .int 0], zI (G.2.1) (t3 1) 4]) rfl ?_
  refine ei_putF (pc := 29) (fs' := [.ref q1, .ref q2, .int 0, .ref (t3 0), .int 0, .int 0, .int 0, .null, .null]) dX4_init_29 fr_X4_23 (Nat.le_of_ble_eq_true rfl) rfl ?_
  refine ei_aload0 (pc := 32) dX4_init_32 ?_
  refine ei_bipush (pc := 33) (v := 6) dX4_init_33 (by decide) ?_
  refine ei_iconst (pc := 35) (v := 4) dX4_init_35 (by decide) ?_
  refine ei_mul (pc := 36) (N := 6) (M := 4) dX4_init_36 (tbg_t 147 (by decide +kernel) (by decide +kernel)) (by decide) (by decide) (by decide) (by decide) (by decide) (by decide) (Nat.le_of_ble_eq_true rfl) (Nat.le_of_ble_eq_true rfl) (fun q6 => ?_)
  refine ei_ws (ws' := [zO h0 4 [.ref q1, .ref q2, .int 0, .ref (t3 0), .int 0, .int 0, .int 0, .null, .null], zI (G.2.1) q1 4, zR ((G.2.1) 12) q2 4 (fun i => some (q2 + 1 + i)), zI (G.2.1) (q2 + 1 + 0) 4, zI (G.2.1) (q2 + 1 + 1) 4, zI (G.2.1) (q2 + 1 + 2) 4, zI (G.2.1) (q2 + 1 + 3) 4, zO (t3 0) 5 [.ref (t3 1), .int 0], zI (G.2.1) (t3 1) 4, zR ((G.2.1) 12) q6 6 (fun i => some (q6 + 1 + i)), zI (G.2.1) (q6 + 1 + 0) 4, zI (G.2.1) (q6 + 1 + 1) 4, zI (G.2.1) (q6 + 1 + 2) 4, zI (G.2.1) (q6 + 1 + 3) 4, zI (G.2.1) (q6 + 1 + 4) 4, zI (G.2.1) (q6 + 1 + 5) 4]) rfl ?_
  refine ei_putF (pc := 40) (fs' := [.ref q1, .ref q2, .int 0, .ref (t3 0), .int 0, .int 0, .int 0, .ref q6, .null]) dX4_init_40 fr_X4_27 (Nat.le_of_ble_eq_true rfl) rfl ?_
  refine ei_aload0 (pc := 43) dX4_init_43 ?_
  refine ei_bipush (pc := 44) (v := 6) dX4_init_44 (by decide) ?_
  refine ei_bipush (pc := 46) (v := 9) dX4_init_46 (by decide) ?_
  refine ei_mul (pc := 48) (N := 6) (M := 9) dX4_init_48 (tbg_t 147 (by decide +kernel) (by decide +kernel)) (by decide) (by decide) (by decide) (by decide) (by decide) (by decide) (Nat.le_of_ble_eq_true rfl) (Nat.le_of_ble_eq_true rfl) (fun q7 => ?_)
  refine ei_ws (ws' := [zO h0 4 [.ref q1, .ref q2, .int 0, .ref (t3 0), .int 0, .int 0, .int 0, .ref q6, .null], zI (G.2.1) q1 4, zR ((G.2.1) 12) q2 4 (fun i => some (q2 + 1 + i)), zI (G.2.1) (q2 + 1 + 0) 4, zI (G.2.1) (q2 + 1 + 1) 4, zI (G.2.1) (q2 + 1 + 2) 4, zI (G.2.1) (q2 + 1 + 3) 4, zO (t3 0) 5 [.ref (t3 1), .int 0], zI (G.2.1) (t3 1) 4, zR ((G.2.1) 12) q6 6 (fun i => some (q6 + 1 + i)), zI (G.2.1) (q6 + 1 + 0) 4, zI (G.2.1) (q6 + 1 + 1) 4, zI (G.2.1) (q6 + 1 + 2) 4, zI (G.2.1) (q6 + 1 + 3) 4, zI (G.2.1) (q6 + 1 + 4) 4, zI (G.2.1) (q6 + 1 + 5) 4, zR ((G.2.1) 12) q7 6 (fun i => some (q7 + 1 + i)), zI (G.2.1) (q7 + 1 + 0) 9, zI (G.2.1) (q7 + 1 + 1) 9, zI (G.2.1) (q7 + 1 + 2) 9, zI (G.2.1) (q7 + 1 + 3) 9, zI (G.2.1) (q7 + 1 + 4) 9, zI (G.2.1) (q7 + 1 + 5) 9]) rfl ?_
  refine ei_putF (pc := 52) (fs' := [.ref q1, .ref q2, .int 0, .ref (t3 0), .int 0, .int 0, .int 0, .ref q6, .ref q7]) dX4_init_52 fr_X4_30 (Nat.le_of_ble_eq_true rfl) rfl ?_
  refine ei_refs (q0 := 2) (fun i => some (([h0, q1, q2, q2 + 1 + 0, q2 + 1 + 1, q2 + 1 + 2, q2 + 1 + 3, t3 0, t3 1, q6, q6 + 1 + 0, q6 + 1 + 1, q6 + 1 + 2, q6 + 1 + 3, q6 + 1 + 4, q6 + 1 + 5, q7, q7 + 1 + 0, q7 + 1 + 1, q7 + 1 + 2, q7 + 1 + 3, q7 + 1 + 4, q7 + 1 + 5] : List Nat).getD (3 + i) 0)) (ws' := [zO h0 4 [.ref q1, .ref q2, .int 0, .ref (t3 0), .int 0, .int 0, .int 0, .ref q6, .ref q7], zI (G.2.1) q1 4, zR ((G.2.1) 12) q2 4 (fun i => some (([h0, q1, q2, q2 + 1 + 0, q2 + 1 + 1, q2 + 1 + 2, q2 + 1 + 3, t3 0, t3 1, q6, q6 + 1 + 0, q6 + 1 + 1, q6 + 1 + 2, q6 + 1 + 3, q6 + 1 + 4, q6 + 1 + 5, q7, q7 + 1 + 0, q7 + 1 + 1, q7 + 1 + 2, q7 + 1 + 3, q7 + 1 + 4, q7 + 1 + 5] : List Nat).getD (3 + i) 0)), zI (G.2.1) (q2 + 1 + 0) 4, zI (G.2.1) (q2 + 1 + 1) 4, zI (G.2.1) (q2 + 1 + 2) 4, zI (G.2.1) (q2 + 1 + 3) 4, zO (t3 0) 5 [.ref (t3 1), .int 0], zI (G.2.1) (t3 1) 4, zR ((G.2.1) 12) q6 6 (fun i => some (q6 + 1 + i)), zI (G.2.1) (q6 + 1 + 0) 4, zI (G.2.1) (q6 + 1 + 1) 4, zI (G.2.1) (q6 + 1 + 2) 4, zI (G.2.1) (q6 + 1 + 3) 4, zI (G.2.1) (q6 + 1 + 4) 4, zI (G.2.1) (q6 + 1 + 5) 4, zR ((G.2.1) 12) q7 6 (fun i => some (q7 + 1 + i)), zI (G.2.1) (q7 + 1 + 0) 9, zI (G.2.1) (q7 + 1 + 1) 9, zI (G.2.1) (q7 + 1 + 2) 9, zI (G.2.1) (q7 + 1 + 3) 9, zI (G.2.1) (q7 + 1 + 4) 9, zI (G.2.1) (q7 + 1 + 5) 9]) rfl (fun i hi => by rcases (show i = 0 ∨ i = 1 ∨ i = 2 ∨ i = 3 by omega) with rfl | rfl | rfl | rfl <;> rfl) rfl ?_
  refine ei_refs (q0 := 9) (fun i => some (([h0, q1, q2, q2 + 1 + 0, q2 + 1 + 1, q2 + 1 + 2, q2 + 1 + 3, t3 0, t3 1, q6, q6 + 1 + 0, q6 + 1 + 1, q6 + 1 + 2, q6 + 1 + 3, q6 + 1 + 4, q6 + 1 + 5, q7, q7 + 1 + 0, q7 + 1 + 1, q7 + 1 + 2, q7 + 1 + 3, q7 + 1 + 4, q7 + 1 + 5] : List Nat).getD (10 + i) 0)) (ws' := [zO h0 4 [.ref q1, .ref q2, .int 0, .ref (t3 0), .int 0, .int 0, .int 0, .ref q6, .ref q7], zI (G.2.1) q1 4, zR ((G.2.1) 12) q2 4 (fun i => some (([h0, q1, q2, q2 + 1 + 0, q2 + 1 + 1, q2 + 1 + 2, q2 + 1 + 3, t3 0, t3 1, q6, q6 + 1 + 0, q6 + 1 + 1, q6 + 1 + 2, q6 + 1 + 3, q6 + 1 + 4, q6 + 1 + 5, q7, q7 + 1 + 0, q7 + 1 + 1, q7 + 1 + 2, q7 + 1 + 3, q7 + 1 + 4, q7 + 1 + 5] : List Nat).getD (3 + i) 0)), zI (G.2.1) (q2 + 1 + 0) 4, zI (G.2.1) (q2 + 1 + 1) 4, zI (G.2.1) (q2 + 1 + 2) 4, zI (G.2.1) (q2 + 1 + 3) 4, zO (t3 0) 5 [.ref (t3 1), .int 0], zI (G.2.1) (t3 1) 4, zR ((G.2.1) 12) q6 6 (fun i => some (([h0, q1, q2, q2 + 1 + 0, q2 + 1 + 1, q2 + 1 + 2, q2 + 1 + 3, t3 0, t3 1, q6, q6 + 1 + 0, q6 + 1 + 1, q6 + 1 + 2, q6 + 1 + 3, q6 + 1 + 4, q6 + 1 + 5, q7, q7 + 1 + 0, q7 + 1 + 1, q7 + 1 + 2, q7 + 1 + 3, q7 + 1 + 4, q7 + 1 + 5] : List Nat).getD (10 + i) 0)), zI (G.2.1) (q6 + 1 + 0) 4, zI (G.2.1) (q6 + 1 + 1) 4, zI (G.2.1) (q6 + 1 + 2) 4, zI (G.2.1) (q6 + 1 + 3) 4, zI (G.2.1) (q6 + 1 + 4) 4, zI (G.2.1) (q6 + 1 + 5) 4, zR ((G.2.1) 12) q7 6 (fun i => some (q7 + 1 + i)), zI (G.2.1) (q7 + 1 + 0) 9, zI (G.2.1) (q7 + 1 + 1) 9, zI (G.2.1) (q7 + 1 + 2) 9, zI (G.2.1) (q7 + 1 + 3) 9, zI (G.2.1) (q7 + 1 + 4) 9, zI (G.2.1) (q7 + 1 + 5) 9]) rfl (fun i hi => by rcases (show i = 0 ∨ i = 1 ∨ i = 2 ∨ i = 3 ∨ i = 4 ∨ i = 5 by omega) with rfl | rfl | rfl | rfl | rfl | rfl <;> rfl) rfl ?_
  refine ei_refs (q0 := 16) (fun i => some (([h0, q1, q2, q2 + 1 + 0, q2 + 1 + 1, q2 + 1 + 2, q2 + 1 + 3, t3 0, t3 1, q6, q6 + 1 + 0, q6 + 1 + 1, q6 + 1 + 2, q6 + 1 + 3, q6 + 1 + 4, q6 + 1 + 5, q7, q7 + 1 + 0, q7 + 1 + 1, q7 + 1 + 2, q7 + 1 + 3, q7 + 1 + 4, q7 + 1 + 5] : List Nat).getD (17 + i) 0)) (ws' := [zO h0 4 [.ref q1, .ref q2, .int 0, .ref (t3 0), .int 0, .int 0, .int 0, .ref q6, .ref q7], zI (G.2.1) q1 4, zR ((G.2.1) 12) q2 4 (fun i => some (([h0, q1, q2, q2 + 1 + 0, q2 + 1 + 1, q2 + 1 + 2, q2 + 1 + 3, t3 0, t3 1, q6, q6 + 1 + 0, q6 + 1 + 1, q6 + 1 + 2, q6 + 1 + 3, q6 + 1 + 4, q6 + 1 + 5, q7, q7 + 1 + 0, q7 + 1 + 1, q7 + 1 + 2, q7 + 1 + 3, q7 + 1 + 4, q7 + 1 + 5] : List Nat).getD (3 + i) 0)), zI (G.2.1) (q2 + 1 + 0) 4, zI (G.2.1) (q2 + 1 + 1) 4, zI (G.2.1) (q2 + 1 + 2) 4, zI (G.2.1) (q2 + 1 + 3) 4, zO (t3 0) 5 [.ref (t3 1), .int 0], zI (G.2.1) (t3 1) 4, zR ((G.2.1) 12) q6 6 (fun i => some (([h0, q1, q2, q2 + 1 + 0, q2 + 1 + 1, q2 + 1 + 2, q2 + 1 + 3, t3 0, t3 1, q6, q6 + 1 + 0, q6 + 1 + 1, q6 + 1 + 2, q6 + 1 + 3, q6 + 1 + 4, q6 + 1 + 5, q7, q7 + 1 + 0, q7 + 1 + 1, q7 + 1 + 2, q7 + 1 + 3, q7 + 1 + 4, q7 + 1 + 5] : List Nat).getD (10 + i) 0)), zI (G.2.1) (q6 + 1 + 0) 4, zI (G.2.1) (q6 + 1 + 1) 4, zI (G.2.1) (q6 + 1 + 2) 4, zI (G.2.1) (q6 + 1 + 3) 4, zI (G.2.1) (q6 + 1 + 4) 4, zI (G.2.1) (q6 + 1 + 5) 4, zR ((G.2.1) 12) q7 6 (fun i => some (([h0, q1, q2, q2 + 1 + 0, q2 + 1 + 1, q2 + 1 + 2, q2 + 1 + 3, t3 0, t3 1, q6, q6 + 1 + 0, q6 + 1 + 1, q6 + 1 + 2, q6 + 1 + 3, q6 + 1 + 4, q6 + 1 + 5, q7, q7 + 1 + 0, q7 + 1 + 1, q7 + 1 + 2, q7 + 1 + 3, q7 + 1 + 4, q7 + 1 + 5] : List Nat).getD (17 + i) 0)), zI (G.2.1) (q7 + 1 + 0) 9, zI (G.2.1) (q7 + 1 + 1) 9, zI (G.2.1) (q7 + 1 + 2) 9, zI (G.2.1) (q7 + 1 + 3) 9, zI (G.2.1) (q7 + 1 + 4) 9, zI (G.2.1) (q7 + 1 + 5) 9]) rfl (fun i hi => by rcases (show i = 0 ∨ i = 1 ∨ i = 2 ∨ i = 3 ∨ i = 4 ∨ i = 5 by omega) with rfl | rfl | rfl | rfl | rfl | rfl <;> rfl) rfl ?_
  exact ei_return (pc := 55) dX4_init_55 rfl rfl ⟨fun j => ([h0, q1, q2, q2 + 1 + 0, q2 + 1 + 1, q2 + 1 + 2, q2 + 1 + 3, t3 0, t3 1, q6, q6 + 1 + 0, q6 + 1 + 1, q6 + 1 + 2, q6 + 1 + 3, q6 + 1 + 4, q6 + 1 + 5, q7, q7 + 1 + 0, q7 + 1 + 1, q7 + 1 + 2, q7 + 1 + 3, q7 + 1 + 4, q7 + 1 + 5] : List Nat).getD j 0, rfl, rfl⟩
