section EVR
variable {S : Scr} {own : String} {cc : ByteArray} {nL : Nat} {rt : Option FieldType} {d pc : Nat} {ls st : List Value} {σ : Sto} {Q : Option Value → Sto → Prop}
theorem ev_iconst {n : Int} {v : Int32} (hd : decode cc pc = .ok (.iconst n, 1)) (hv : Int32.ofInt n = v) (kk : Ev S own cc nL rt d (pc + 1) ls (.int v :: st) σ Q) : Ev S own cc nL rt d pc ls st σ Q := by
  intro E p l e R s m args below meth co cells slots QQ F H locs lsA hR hS hL
  obtain ⟨hx, hb, hml, hown, hts, hinj, hw, hfr, hlo, hce, hsl, hq⟩ := id F
  exact lv_iconst hx hb hd hv (kk E p l e R s m args below meth co cells slots QQ F H locs lsA hR hS hL)
theorem ev_bipush {n : Int} {v : Int32} (hd : decode cc pc = .ok (.bipush n, 2)) (hv : (Int8.ofInt n).toInt32 = v) (kk : Ev S own cc nL rt d (pc + 2) ls (.int v :: st) σ Q) : Ev S own cc nL rt d pc ls st σ Q := by
  intro E p l e R s m args below meth co cells slots QQ F H locs lsA hR hS hL
  obtain ⟨hx, hb, hml, hown, hts, hinj, hw, hfr, hlo, hce, hsl, hq⟩ := id F
  exact lv_bipush hx hb hd hv (kk E p l e R s m args below meth co cells slots QQ F H locs lsA hR hS hL)
theorem ev_sipush {n : Int} {v : Int32} (hd : decode cc pc = .ok (.sipush n, 3)) (hv : (Int16.ofInt n).toInt32 = v) (kk : Ev S own cc nL rt d (pc + 3) ls (.int v :: st) σ Q) : Ev S own cc nL rt d pc ls st σ Q := by
  intro E p l e R s m args below meth co cells slots QQ F H locs lsA hR hS hL
  obtain ⟨hx, hb, hml, hown, hts, hinj, hw, hfr, hlo, hce, hsl, hq⟩ := id F
  exact lv_sipush hx hb hd hv (kk E p l e R s m args below meth co cells slots QQ F H locs lsA hR hS hL)
theorem ev_lconst {n : Fin 2} {v : Int64} (hd : decode cc pc = .ok (.lconst n, 1)) (hv : Int64.ofNat (n : Nat) = v) (kk : Ev S own cc nL rt d (pc + 1) ls (.long v :: st) σ Q) : Ev S own cc nL rt d pc ls st σ Q := by
  intro E p l e R s m args below meth co cells slots QQ F H locs lsA hR hS hL
  obtain ⟨hx, hb, hml, hown, hts, hinj, hw, hfr, hlo, hce, hsl, hq⟩ := id F
  exact lv_lconst hx hb hd hv (kk E p l e R s m args below meth co cells slots QQ F H locs lsA hR hS hL)
theorem ev_ldc {index : Nat} {v : Int32} (hd : decode cc pc = .ok (.ldc index, 2)) (hk : Cond.constant own index v ∈ TBg) (kk : Ev S own cc nL rt d (pc + 2) ls (.int v :: st) σ Q) : Ev S own cc nL rt d pc ls st σ Q := by
  intro E p l e R s m args below meth co cells slots QQ F H locs lsA hR hS hL
  obtain ⟨hx, hb, hml, hown, hts, hinj, hw, hfr, hlo, hce, hsl, hq⟩ := id F
  exact lv_ldc hx hb hown (hts _ hk) hd (kk E p l e R s m args below meth co cells slots QQ F H locs lsA hR hS hL)
theorem ev_ldcw {index : Nat} {v : Int32} (hd : decode cc pc = .ok (.ldc_w index, 3)) (hk : Cond.constant own index v ∈ TBg) (kk : Ev S own cc nL rt d (pc + 3) ls (.int v :: st) σ Q) : Ev S own cc nL rt d pc ls st σ Q := by
  intro E p l e R s m args below meth co cells slots QQ F H locs lsA hR hS hL
  obtain ⟨hx, hb, hml, hown, hts, hinj, hw, hfr, hlo, hce, hsl, hq⟩ := id F
  exact lv_ldcw hx hb hown (hts _ hk) hd (kk E p l e R s m args below meth co cells slots QQ F H locs lsA hR hS hL)
theorem ev_ldc2 {index : Nat} {v : Int64} (hd : decode cc pc = .ok (.ldc2_w index, 3)) (hk : Cond.constantLong own index v ∈ TBg) (kk : Ev S own cc nL rt d (pc + 3) ls (.long v :: st) σ Q) : Ev S own cc nL rt d pc ls st σ Q := by
  intro E p l e R s m args below meth co cells slots QQ F H locs lsA hR hS hL
  obtain ⟨hx, hb, hml, hown, hts, hinj, hw, hfr, hlo, hce, hsl, hq⟩ := id F
  exact lv_ldc2 hx hb hown (hts _ hk) hd (kk E p l e R s m args below meth co cells slots QQ F H locs lsA hR hS hL)
theorem ev_iload_n {k : Fin 4} {x : Int32} (hd : decode cc pc = .ok (.iload_n k, 1)) (h : ls[(k : Nat)]? = some (.int x)) (kk : Ev S own cc nL rt d (pc + 1) ls (.int x :: st) σ Q) : Ev S own cc nL rt d pc ls st σ Q := by
  intro E p l e R s m args below meth co cells slots QQ F H locs lsA hR hS hL
  obtain ⟨hx, hb, hml, hown, hts, hinj, hw, hfr, hlo, hce, hsl, hq⟩ := id F
  exact lv_iload_n hx hb hd rfl (hL.at h (fun z => by cases z)) (kk E p l e R s m args below meth co cells slots QQ F H locs lsA hR hS hL)
theorem ev_iload {k : Nat} {x : Int32} (hd : decode cc pc = .ok (.iload k, 2)) (h : ls[k]? = some (.int x)) (kk : Ev S own cc nL rt d (pc + 2) ls (.int x :: st) σ Q) : Ev S own cc nL rt d pc ls st σ Q := by
  intro E p l e R s m args below meth co cells slots QQ F H locs lsA hR hS hL
  obtain ⟨hx, hb, hml, hown, hts, hinj, hw, hfr, hlo, hce, hsl, hq⟩ := id F
  exact lv_iload hx hb hd (hL.at h (fun z => by cases z)) (kk E p l e R s m args below meth co cells slots QQ F H locs lsA hR hS hL)
theorem ev_aload_n {k : Fin 4} {x : Nat} (hd : decode cc pc = .ok (.aload_n k, 1)) (h : ls[(k : Nat)]? = some (.ref x)) (kk : Ev S own cc nL rt d (pc + 1) ls (.ref x :: st) σ Q) : Ev S own cc nL rt d pc ls st σ Q := by
  intro E p l e R s m args below meth co cells slots QQ F H locs lsA hR hS hL
  obtain ⟨hx, hb, hml, hown, hts, hinj, hw, hfr, hlo, hce, hsl, hq⟩ := id F
  exact lv_aload_n hx hb hd rfl (hL.at h (fun z => by cases z)) (kk E p l e R s m args below meth co cells slots QQ F H locs lsA hR hS hL)
theorem ev_aload {k : Nat} {x : Nat} (hd : decode cc pc = .ok (.aload k, 2)) (h : ls[k]? = some (.ref x)) (kk : Ev S own cc nL rt d (pc + 2) ls (.ref x :: st) σ Q) : Ev S own cc nL rt d pc ls st σ Q := by
  intro E p l e R s m args below meth co cells slots QQ F H locs lsA hR hS hL
  obtain ⟨hx, hb, hml, hown, hts, hinj, hw, hfr, hlo, hce, hsl, hq⟩ := id F
  exact lv_aload hx hb hd (hL.at h (fun z => by cases z)) (kk E p l e R s m args below meth co cells slots QQ F H locs lsA hR hS hL)
theorem ev_istore_n {k : Fin 4} {x : Int32} {ls' : List Value} (hd : decode cc pc = .ok (.istore_n k, 1)) (hn : (k : Nat) < nL) (hs : ls.set (k : Nat) (.int x) = ls') (kk : Ev S own cc nL rt d (pc + 1) ls' st σ Q) : Ev S own cc nL rt d pc ls (.int x :: st) σ Q := by
  subst hs
  intro E p l e R s m args below meth co cells slots QQ F H locs lsA hR hS hL
  obtain ⟨hx, hb, hml, hown, hts, hinj, hw, hfr, hlo, hce, hsl, hq⟩ := id F
  exact lv_istore_n hx hb hd rfl hL.has hn rfl (fun lsB hB => kk E p l e R s m args below meth co cells slots QQ F H locs lsB hR hS (hL.store (v := .int x) rfl hB))
theorem ev_istore {k : Nat} {x : Int32} {ls' : List Value} (hd : decode cc pc = .ok (.istore k, 2)) (hn : k < nL) (hs : ls.set k (.int x) = ls') (kk : Ev S own cc nL rt d (pc + 2) ls' st σ Q) : Ev S own cc nL rt d pc ls (.int x :: st) σ Q := by
  subst hs
  intro E p l e R s m args below meth co cells slots QQ F H locs lsA hR hS hL
  obtain ⟨hx, hb, hml, hown, hts, hinj, hw, hfr, hlo, hce, hsl, hq⟩ := id F
  exact lv_istore hx hb hd hL.has hn rfl (fun lsB hB => kk E p l e R s m args below meth co cells slots QQ F H locs lsB hR hS (hL.store (v := .int x) rfl hB))
theorem ev_astore_n {k : Fin 4} {x : Nat} {ls' : List Value} (hd : decode cc pc = .ok (.astore_n k, 1)) (hn : (k : Nat) < nL) (hs : ls.set (k : Nat) (.ref x) = ls') (kk : Ev S own cc nL rt d (pc + 1) ls' st σ Q) : Ev S own cc nL rt d pc ls (.ref x :: st) σ Q := by
  subst hs
  intro E p l e R s m args below meth co cells slots QQ F H locs lsA hR hS hL
  obtain ⟨hx, hb, hml, hown, hts, hinj, hw, hfr, hlo, hce, hsl, hq⟩ := id F
  exact lv_astore_n hx hb hd rfl hL.has hn rfl (fun lsB hB => kk E p l e R s m args below meth co cells slots QQ F H locs lsB hR hS (hL.store (v := .ref x) rfl hB))
theorem ev_astore {k : Nat} {x : Nat} {ls' : List Value} (hd : decode cc pc = .ok (.astore k, 2)) (hn : k < nL) (hs : ls.set k (.ref x) = ls') (kk : Ev S own cc nL rt d (pc + 2) ls' st σ Q) : Ev S own cc nL rt d pc ls (.ref x :: st) σ Q := by
  subst hs
  intro E p l e R s m args below meth co cells slots QQ F H locs lsA hR hS hL
  obtain ⟨hx, hb, hml, hown, hts, hinj, hw, hfr, hlo, hce, hsl, hq⟩ := id F
  exact lv_astore hx hb hd hL.has hn rfl (fun lsB hB => kk E p l e R s m args below meth co cells slots QQ F H locs lsB hR hS (hL.store (v := .ref x) rfl hB))
theorem ev_iinc {k : Nat} {n : Int} {x v : Int32} {ls' : List Value} (hd : decode cc pc = .ok (.iinc k n, 3)) (h : ls[k]? = some (.int x)) (hv : x + Int32.ofInt n = v) (hn : k < nL) (hs : ls.set k (.int v) = ls') (kk : Ev S own cc nL rt d (pc + 3) ls' st σ Q) : Ev S own cc nL rt d pc ls st σ Q := by
  subst hs
  intro E p l e R s m args below meth co cells slots QQ F H locs lsA hR hS hL
  obtain ⟨hx, hb, hml, hown, hts, hinj, hw, hfr, hlo, hce, hsl, hq⟩ := id F
  obtain ⟨j, hj⟩ := List.getElem?_of_mem (lvl_mem (ρ := E.2.2) h (fun z => by cases z))
  exact lv_iinc hx hb hd hL.has hj hv hn rfl (fun lsB hB => kk E p l e R s m args below meth co cells slots QQ F H locs lsB hR hS (hL.store (v := .int v) rfl hB))
theorem ev_iadd {x y : Int32} (hd : decode cc pc = .ok (.iadd, 1)) (kk : Ev S own cc nL rt d (pc + 1) ls (.int (x + y) :: st) σ Q) : Ev S own cc nL rt d pc ls (.int y :: .int x :: st) σ Q := by
  intro E p l e R s m args below meth co cells slots QQ F H locs lsA hR hS hL
  obtain ⟨hx, hb, hml, hown, hts, hinj, hw, hfr, hlo, hce, hsl, hq⟩ := id F
  exact lv_iadd hx hb hd (kk E p l e R s m args below meth co cells slots QQ F H locs lsA hR hS hL)
theorem ev_isub {x y : Int32} (hd : decode cc pc = .ok (.isub, 1)) (kk : Ev S own cc nL rt d (pc + 1) ls (.int (x - y) :: st) σ Q) : Ev S own cc nL rt d pc ls (.int y :: .int x :: st) σ Q := by
  intro E p l e R s m args below meth co cells slots QQ F H locs lsA hR hS hL
  obtain ⟨hx, hb, hml, hown, hts, hinj, hw, hfr, hlo, hce, hsl, hq⟩ := id F
  exact lv_isub hx hb hd (kk E p l e R s m args below meth co cells slots QQ F H locs lsA hR hS hL)
theorem ev_imul {x y : Int32} (hd : decode cc pc = .ok (.imul, 1)) (kk : Ev S own cc nL rt d (pc + 1) ls (.int (x * y) :: st) σ Q) : Ev S own cc nL rt d pc ls (.int y :: .int x :: st) σ Q := by
  intro E p l e R s m args below meth co cells slots QQ F H locs lsA hR hS hL
  obtain ⟨hx, hb, hml, hown, hts, hinj, hw, hfr, hlo, hce, hsl, hq⟩ := id F
  exact lv_imul hx hb hd (kk E p l e R s m args below meth co cells slots QQ F H locs lsA hR hS hL)
theorem ev_iand {x y : Int32} (hd : decode cc pc = .ok (.iand, 1)) (kk : Ev S own cc nL rt d (pc + 1) ls (.int (x &&& y) :: st) σ Q) : Ev S own cc nL rt d pc ls (.int y :: .int x :: st) σ Q := by
  intro E p l e R s m args below meth co cells slots QQ F H locs lsA hR hS hL
  obtain ⟨hx, hb, hml, hown, hts, hinj, hw, hfr, hlo, hce, hsl, hq⟩ := id F
  exact lv_iand hx hb hd (kk E p l e R s m args below meth co cells slots QQ F H locs lsA hR hS hL)
theorem ev_ior {x y : Int32} (hd : decode cc pc = .ok (.ior, 1)) (kk : Ev S own cc nL rt d (pc + 1) ls (.int (x ||| y) :: st) σ Q) : Ev S own cc nL rt d pc ls (.int y :: .int x :: st) σ Q := by
  intro E p l e R s m args below meth co cells slots QQ F H locs lsA hR hS hL
  obtain ⟨hx, hb, hml, hown, hts, hinj, hw, hfr, hlo, hce, hsl, hq⟩ := id F
  exact lv_ior hx hb hd (kk E p l e R s m args below meth co cells slots QQ F H locs lsA hR hS hL)
theorem ev_ixor {x y : Int32} (hd : decode cc pc = .ok (.ixor, 1)) (kk : Ev S own cc nL rt d (pc + 1) ls (.int (x ^^^ y) :: st) σ Q) : Ev S own cc nL rt d pc ls (.int y :: .int x :: st) σ Q := by
  intro E p l e R s m args below meth co cells slots QQ F H locs lsA hR hS hL
  obtain ⟨hx, hb, hml, hown, hts, hinj, hw, hfr, hlo, hce, hsl, hq⟩ := id F
  exact lv_ixor hx hb hd (kk E p l e R s m args below meth co cells slots QQ F H locs lsA hR hS hL)
theorem ev_ishl {x y : Int32} (hd : decode cc pc = .ok (.ishl, 1)) (kk : Ev S own cc nL rt d (pc + 1) ls (.int (x <<< (y &&& 31)) :: st) σ Q) : Ev S own cc nL rt d pc ls (.int y :: .int x :: st) σ Q := by
  intro E p l e R s m args below meth co cells slots QQ F H locs lsA hR hS hL
  obtain ⟨hx, hb, hml, hown, hts, hinj, hw, hfr, hlo, hce, hsl, hq⟩ := id F
  exact lv_ishl hx hb hd (kk E p l e R s m args below meth co cells slots QQ F H locs lsA hR hS hL)
theorem ev_ishr {x y : Int32} (hd : decode cc pc = .ok (.ishr, 1)) (kk : Ev S own cc nL rt d (pc + 1) ls (.int (x >>> (y &&& 31)) :: st) σ Q) : Ev S own cc nL rt d pc ls (.int y :: .int x :: st) σ Q := by
  intro E p l e R s m args below meth co cells slots QQ F H locs lsA hR hS hL
  obtain ⟨hx, hb, hml, hown, hts, hinj, hw, hfr, hlo, hce, hsl, hq⟩ := id F
  exact lv_ishr hx hb hd (kk E p l e R s m args below meth co cells slots QQ F H locs lsA hR hS hL)
theorem ev_iushr {x y v : Int32} (hd : decode cc pc = .ok (.iushr, 1)) (hv : (x.toUInt32 >>> (y.toUInt32 &&& Int32.toUInt32 31)).toInt32 = v) (kk : Ev S own cc nL rt d (pc + 1) ls (.int v :: st) σ Q) : Ev S own cc nL rt d pc ls (.int y :: .int x :: st) σ Q := by
  intro E p l e R s m args below meth co cells slots QQ F H locs lsA hR hS hL
  obtain ⟨hx, hb, hml, hown, hts, hinj, hw, hfr, hlo, hce, hsl, hq⟩ := id F
  exact lv_iushr hx hb hd hv (kk E p l e R s m args below meth co cells slots QQ F H locs lsA hR hS hL)
theorem ev_idiv {x y : Int32} (hd : decode cc pc = .ok (.idiv, 1)) (hne : ¬ y = 0) (kk : Ev S own cc nL rt d (pc + 1) ls (.int (x / y) :: st) σ Q) : Ev S own cc nL rt d pc ls (.int y :: .int x :: st) σ Q := by
  intro E p l e R s m args below meth co cells slots QQ F H locs lsA hR hS hL
  obtain ⟨hx, hb, hml, hown, hts, hinj, hw, hfr, hlo, hce, hsl, hq⟩ := id F
  exact lv_idiv hx hb hd hne (kk E p l e R s m args below meth co cells slots QQ F H locs lsA hR hS hL)
theorem ev_irem {x y : Int32} (hd : decode cc pc = .ok (.irem, 1)) (hne : ¬ y = 0) (kk : Ev S own cc nL rt d (pc + 1) ls (.int (x - x / y * y) :: st) σ Q) : Ev S own cc nL rt d pc ls (.int y :: .int x :: st) σ Q := by
  intro E p l e R s m args below meth co cells slots QQ F H locs lsA hR hS hL
  obtain ⟨hx, hb, hml, hown, hts, hinj, hw, hfr, hlo, hce, hsl, hq⟩ := id F
  exact lv_irem hx hb hd hne (kk E p l e R s m args below meth co cells slots QQ F H locs lsA hR hS hL)
theorem ev_ineg {x : Int32} (hd : decode cc pc = .ok (.ineg, 1)) (kk : Ev S own cc nL rt d (pc + 1) ls (.int (-x) :: st) σ Q) : Ev S own cc nL rt d pc ls (.int x :: st) σ Q := by
  intro E p l e R s m args below meth co cells slots QQ F H locs lsA hR hS hL
  obtain ⟨hx, hb, hml, hown, hts, hinj, hw, hfr, hlo, hce, hsl, hq⟩ := id F
  exact lv_ineg hx hb hd (kk E p l e R s m args below meth co cells slots QQ F H locs lsA hR hS hL)
theorem ev_ladd {x y : Int64} (hd : decode cc pc = .ok (.ladd, 1)) (kk : Ev S own cc nL rt d (pc + 1) ls (.long (x + y) :: st) σ Q) : Ev S own cc nL rt d pc ls (.long y :: .long x :: st) σ Q := by
  intro E p l e R s m args below meth co cells slots QQ F H locs lsA hR hS hL
  obtain ⟨hx, hb, hml, hown, hts, hinj, hw, hfr, hlo, hce, hsl, hq⟩ := id F
  exact lv_ladd hx hb hd (kk E p l e R s m args below meth co cells slots QQ F H locs lsA hR hS hL)
theorem ev_lcmp {x y : Int64} (hd : decode cc pc = .ok (.lcmp, 1)) (kk : Ev S own cc nL rt d (pc + 1) ls (.int (lg_cmp x y) :: st) σ Q) : Ev S own cc nL rt d pc ls (.long y :: .long x :: st) σ Q := by
  intro E p l e R s m args below meth co cells slots QQ F H locs lsA hR hS hL
  obtain ⟨hx, hb, hml, hown, hts, hinj, hw, hfr, hlo, hce, hsl, hq⟩ := id F
  exact W.lcmp hx hb hd (kk E p l e R s m args below meth co cells slots QQ F H locs lsA hR hS hL)
theorem ev_dup {v : Value} (hd : decode cc pc = .ok (.dup, 1)) (hc : v.category = 1) (kk : Ev S own cc nL rt d (pc + 1) ls (v :: v :: st) σ Q) : Ev S own cc nL rt d pc ls (v :: st) σ Q := by
  intro E p l e R s m args below meth co cells slots QQ F H locs lsA hR hS hL
  obtain ⟨hx, hb, hml, hown, hts, hinj, hw, hfr, hlo, hce, hsl, hq⟩ := id F
  exact lv_dup hx hb hd (by rw [tv_cat]; exact hc) (kk E p l e R s m args below meth co cells slots QQ F H locs lsA hR hS hL)
theorem ev_pop {v : Value} (hd : decode cc pc = .ok (.pop, 1)) (hc : v.category = 1) (kk : Ev S own cc nL rt d (pc + 1) ls st σ Q) : Ev S own cc nL rt d pc ls (v :: st) σ Q := by
  intro E p l e R s m args below meth co cells slots QQ F H locs lsA hR hS hL
  obtain ⟨hx, hb, hml, hown, hts, hinj, hw, hfr, hlo, hce, hsl, hq⟩ := id F
  exact lv_pop hx hb hd (by rw [tv_cat]; exact hc) (kk E p l e R s m args below meth co cells slots QQ F H locs lsA hR hS hL)
theorem ev_dup2 {v w : Value} (hd : decode cc pc = .ok (.dup2, 1)) (hc : v.category = 1) (hc' : w.category = 1) (kk : Ev S own cc nL rt d (pc + 1) ls (v :: w :: v :: w :: st) σ Q) : Ev S own cc nL rt d pc ls (v :: w :: st) σ Q := by
  intro E p l e R s m args below meth co cells slots QQ F H locs lsA hR hS hL
  obtain ⟨hx, hb, hml, hown, hts, hinj, hw, hfr, hlo, hce, hsl, hq⟩ := id F
  exact lv_dup2_11 hx hb hd (by rw [tv_cat]; exact hc) (by rw [tv_cat]; exact hc') (kk E p l e R s m args below meth co cells slots QQ F H locs lsA hR hS hL)
theorem ev_if_eq {x : Int32} {off : Int} {tgt : Nat} (hd : decode cc pc = .ok (.ifCond .eq off, 3)) (ht : (pc : Int) + off = (tgt : Int)) (kt : x = 0 → Ev S own cc nL rt d tgt ls st σ Q) (kf : ¬ (x = 0) → Ev S own cc nL rt d (pc + 3) ls st σ Q) : Ev S own cc nL rt d pc ls (.int x :: st) σ Q := by
  intro E p l e R s m args below meth co cells slots QQ F H locs lsA hR hS hL
  obtain ⟨hx, hb, hml, hown, hts, hinj, hw, hfr, hlo, hce, hsl, hq⟩ := id F
  exact lv_if_eq hx hb hd ht (fun h => kt h E p l e R s m args below meth co cells slots QQ F H locs lsA hR hS hL) (fun h => kf h E p l e R s m args below meth co cells slots QQ F H locs lsA hR hS hL)
theorem ev_icmp_eq {x y : Int32} {off : Int} {tgt : Nat} (hd : decode cc pc = .ok (.if_icmp .eq off, 3)) (ht : (pc : Int) + off = (tgt : Int)) (kt : x = y → Ev S own cc nL rt d tgt ls st σ Q) (kf : ¬ (x = y) → Ev S own cc nL rt d (pc + 3) ls st σ Q) : Ev S own cc nL rt d pc ls (.int y :: .int x :: st) σ Q := by
  intro E p l e R s m args below meth co cells slots QQ F H locs lsA hR hS hL
  obtain ⟨hx, hb, hml, hown, hts, hinj, hw, hfr, hlo, hce, hsl, hq⟩ := id F
  exact lv_icmp_eq hx hb hd ht (fun h => kt h E p l e R s m args below meth co cells slots QQ F H locs lsA hR hS hL) (fun h => kf h E p l e R s m args below meth co cells slots QQ F H locs lsA hR hS hL)
theorem ev_if_ne {x : Int32} {off : Int} {tgt : Nat} (hd : decode cc pc = .ok (.ifCond .ne off, 3)) (ht : (pc : Int) + off = (tgt : Int)) (kt : ¬ x = 0 → Ev S own cc nL rt d tgt ls st σ Q) (kf : x = 0 → Ev S own cc nL rt d (pc + 3) ls st σ Q) : Ev S own cc nL rt d pc ls (.int x :: st) σ Q := by
  intro E p l e R s m args below meth co cells slots QQ F H locs lsA hR hS hL
  obtain ⟨hx, hb, hml, hown, hts, hinj, hw, hfr, hlo, hce, hsl, hq⟩ := id F
  exact lv_if_ne hx hb hd ht (fun h => kt h E p l e R s m args below meth co cells slots QQ F H locs lsA hR hS hL) (fun h => kf h E p l e R s m args below meth co cells slots QQ F H locs lsA hR hS hL)
theorem ev_icmp_ne {x y : Int32} {off : Int} {tgt : Nat} (hd : decode cc pc = .ok (.if_icmp .ne off, 3)) (ht : (pc : Int) + off = (tgt : Int)) (kt : ¬ x = y → Ev S own cc nL rt d tgt ls st σ Q) (kf : x = y → Ev S own cc nL rt d (pc + 3) ls st σ Q) : Ev S own cc nL rt d pc ls (.int y :: .int x :: st) σ Q := by
  intro E p l e R s m args below meth co cells slots QQ F H locs lsA hR hS hL
  obtain ⟨hx, hb, hml, hown, hts, hinj, hw, hfr, hlo, hce, hsl, hq⟩ := id F
  exact lv_icmp_ne hx hb hd ht (fun h => kt h E p l e R s m args below meth co cells slots QQ F H locs lsA hR hS hL) (fun h => kf h E p l e R s m args below meth co cells slots QQ F H locs lsA hR hS hL)
theorem ev_if_lt {x : Int32} {off : Int} {tgt : Nat} (hd : decode cc pc = .ok (.ifCond .lt off, 3)) (ht : (pc : Int) + off = (tgt : Int)) (kt : x < 0 → Ev S own cc nL rt d tgt ls st σ Q) (kf : ¬ (x < 0) → Ev S own cc nL rt d (pc + 3) ls st σ Q) : Ev S own cc nL rt d pc ls (.int x :: st) σ Q := by
  intro E p l e R s m args below meth co cells slots QQ F H locs lsA hR hS hL
  obtain ⟨hx, hb, hml, hown, hts, hinj, hw, hfr, hlo, hce, hsl, hq⟩ := id F
  exact lv_if_lt hx hb hd ht (fun h => kt h E p l e R s m args below meth co cells slots QQ F H locs lsA hR hS hL) (fun h => kf h E p l e R s m args below meth co cells slots QQ F H locs lsA hR hS hL)
theorem ev_icmp_lt {x y : Int32} {off : Int} {tgt : Nat} (hd : decode cc pc = .ok (.if_icmp .lt off, 3)) (ht : (pc : Int) + off = (tgt : Int)) (kt : x < y → Ev S own cc nL rt d tgt ls st σ Q) (kf : ¬ (x < y) → Ev S own cc nL rt d (pc + 3) ls st σ Q) : Ev S own cc nL rt d pc ls (.int y :: .int x :: st) σ Q := by
  intro E p l e R s m args below meth co cells slots QQ F H locs lsA hR hS hL
  obtain ⟨hx, hb, hml, hown, hts, hinj, hw, hfr, hlo, hce, hsl, hq⟩ := id F
  exact lv_icmp_lt hx hb hd ht (fun h => kt h E p l e R s m args below meth co cells slots QQ F H locs lsA hR hS hL) (fun h => kf h E p l e R s m args below meth co cells slots QQ F H locs lsA hR hS hL)
theorem ev_if_ge {x : Int32} {off : Int} {tgt : Nat} (hd : decode cc pc = .ok (.ifCond .ge off, 3)) (ht : (pc : Int) + off = (tgt : Int)) (kt : 0 ≤ x → Ev S own cc nL rt d tgt ls st σ Q) (kf : ¬ (0 ≤ x) → Ev S own cc nL rt d (pc + 3) ls st σ Q) : Ev S own cc nL rt d pc ls (.int x :: st) σ Q := by
  intro E p l e R s m args below meth co cells slots QQ F H locs lsA hR hS hL
  obtain ⟨hx, hb, hml, hown, hts, hinj, hw, hfr, hlo, hce, hsl, hq⟩ := id F
  exact lv_if_ge hx hb hd ht (fun h => kt h E p l e R s m args below meth co cells slots QQ F H locs lsA hR hS hL) (fun h => kf h E p l e R s m args below meth co cells slots QQ F H locs lsA hR hS hL)
theorem ev_icmp_ge {x y : Int32} {off : Int} {tgt : Nat} (hd : decode cc pc = .ok (.if_icmp .ge off, 3)) (ht : (pc : Int) + off = (tgt : Int)) (kt : y ≤ x → Ev S own cc nL rt d tgt ls st σ Q) (kf : ¬ (y ≤ x) → Ev S own cc nL rt d (pc + 3) ls st σ Q) : Ev S own cc nL rt d pc ls (.int y :: .int x :: st) σ Q := by
  intro E p l e R s m args below meth co cells slots QQ F H locs lsA hR hS hL
  obtain ⟨hx, hb, hml, hown, hts, hinj, hw, hfr, hlo, hce, hsl, hq⟩ := id F
  exact lv_icmp_ge hx hb hd ht (fun h => kt h E p l e R s m args below meth co cells slots QQ F H locs lsA hR hS hL) (fun h => kf h E p l e R s m args below meth co cells slots QQ F H locs lsA hR hS hL)
theorem ev_if_gt {x : Int32} {off : Int} {tgt : Nat} (hd : decode cc pc = .ok (.ifCond .gt off, 3)) (ht : (pc : Int) + off = (tgt : Int)) (kt : 0 < x → Ev S own cc nL rt d tgt ls st σ Q) (kf : ¬ (0 < x) → Ev S own cc nL rt d (pc + 3) ls st σ Q) : Ev S own cc nL rt d pc ls (.int x :: st) σ Q := by
  intro E p l e R s m args below meth co cells slots QQ F H locs lsA hR hS hL
  obtain ⟨hx, hb, hml, hown, hts, hinj, hw, hfr, hlo, hce, hsl, hq⟩ := id F
  exact lv_if_gt hx hb hd ht (fun h => kt h E p l e R s m args below meth co cells slots QQ F H locs lsA hR hS hL) (fun h => kf h E p l e R s m args below meth co cells slots QQ F H locs lsA hR hS hL)
theorem ev_icmp_gt {x y : Int32} {off : Int} {tgt : Nat} (hd : decode cc pc = .ok (.if_icmp .gt off, 3)) (ht : (pc : Int) + off = (tgt : Int)) (kt : y < x → Ev S own cc nL rt d tgt ls st σ Q) (kf : ¬ (y < x) → Ev S own cc nL rt d (pc + 3) ls st σ Q) : Ev S own cc nL rt d pc ls (.int y :: .int x :: st) σ Q := by
  intro E p l e R s m args below meth co cells slots QQ F H locs lsA hR hS hL
  obtain ⟨hx, hb, hml, hown, hts, hinj, hw, hfr, hlo, hce, hsl, hq⟩ := id F
  exact lv_icmp_gt hx hb hd ht (fun h => kt h E p l e R s m args below meth co cells slots QQ F H locs lsA hR hS hL) (fun h => kf h E p l e R s m args below meth co cells slots QQ F H locs lsA hR hS hL)
theorem ev_if_le {x : Int32} {off : Int} {tgt : Nat} (hd : decode cc pc = .ok (.ifCond .le off, 3)) (ht : (pc : Int) + off = (tgt : Int)) (kt : x ≤ 0 → Ev S own cc nL rt d tgt ls st σ Q) (kf : ¬ (x ≤ 0) → Ev S own cc nL rt d (pc + 3) ls st σ Q) : Ev S own cc nL rt d pc ls (.int x :: st) σ Q := by
  intro E p l e R s m args below meth co cells slots QQ F H locs lsA hR hS hL
  obtain ⟨hx, hb, hml, hown, hts, hinj, hw, hfr, hlo, hce, hsl, hq⟩ := id F
  exact lv_if_le hx hb hd ht (fun h => kt h E p l e R s m args below meth co cells slots QQ F H locs lsA hR hS hL) (fun h => kf h E p l e R s m args below meth co cells slots QQ F H locs lsA hR hS hL)
theorem ev_icmp_le {x y : Int32} {off : Int} {tgt : Nat} (hd : decode cc pc = .ok (.if_icmp .le off, 3)) (ht : (pc : Int) + off = (tgt : Int)) (kt : x ≤ y → Ev S own cc nL rt d tgt ls st σ Q) (kf : ¬ (x ≤ y) → Ev S own cc nL rt d (pc + 3) ls st σ Q) : Ev S own cc nL rt d pc ls (.int y :: .int x :: st) σ Q := by
  intro E p l e R s m args below meth co cells slots QQ F H locs lsA hR hS hL
  obtain ⟨hx, hb, hml, hown, hts, hinj, hw, hfr, hlo, hce, hsl, hq⟩ := id F
  exact lv_icmp_le hx hb hd ht (fun h => kt h E p l e R s m args below meth co cells slots QQ F H locs lsA hR hS hL) (fun h => kf h E p l e R s m args below meth co cells slots QQ F H locs lsA hR hS hL)
theorem ev_goto {off : Int} {tgt : Nat} (hd : decode cc pc = .ok (.goto off, 3)) (ht : (pc : Int) + off = (tgt : Int)) (kk : Ev S own cc nL rt d tgt ls st σ Q) : Ev S own cc nL rt d pc ls st σ Q := by
  intro E p l e R s m args below meth co cells slots QQ F H locs lsA hR hS hL
  obtain ⟨hx, hb, hml, hown, hts, hinj, hw, hfr, hlo, hce, hsl, hq⟩ := id F
  exact lv_goto hx hb hd ht (kk E p l e R s m args below meth co cells slots QQ F H locs lsA hR hS hL)
theorem ev_tableOut {dflt lo hi : Int} {offs : Array Int} {len : Nat} {x : Int32} {tgt : Nat} (hd : decode cc pc = .ok (.tableswitch dflt lo hi offs, len)) (h : x.toInt < lo ∨ hi < x.toInt) (ht : (pc : Int) + dflt = (tgt : Int)) (kk : Ev S own cc nL rt d tgt ls st σ Q) : Ev S own cc nL rt d pc ls (.int x :: st) σ Q := by
  intro E p l e R s m args below meth co cells slots QQ F H locs lsA hR hS hL
  obtain ⟨hx, hb, hml, hown, hts, hinj, hw, hfr, hlo, hce, hsl, hq⟩ := id F
  exact lv_tableOut hx hb hd h ht (kk E p l e R s m args below meth co cells slots QQ F H locs lsA hR hS hL)
theorem ev_tableIn {dflt lo hi : Int} {offs : Array Int} {len : Nat} {x : Int32} {off : Int} {tgt : Nat} (hd : decode cc pc = .ok (.tableswitch dflt lo hi offs, len)) (h1 : ¬ x.toInt < lo) (h2 : ¬ hi < x.toInt) (ho : offs[(x.toInt - lo).toNat]? = some off) (ht : (pc : Int) + off = (tgt : Int)) (kk : Ev S own cc nL rt d tgt ls st σ Q) : Ev S own cc nL rt d pc ls (.int x :: st) σ Q := by
  intro E p l e R s m args below meth co cells slots QQ F H locs lsA hR hS hL
  obtain ⟨hx, hb, hml, hown, hts, hinj, hw, hfr, hlo, hce, hsl, hq⟩ := id F
  exact lv_tableIn hx hb hd h1 h2 ho ht (kk E p l e R s m args below meth co cells slots QQ F H locs lsA hR hS hL)
/-- a field's link, and its class's tables -/
def FL (own : String) (idx c j : Nat) : Prop := ∃ (C : String) (T : u_T) (N : Nat) (ty0 : Nat → FieldType), vwCl[c]? = some (C, T, N) ∧ c < 9 ∧ N = nfl c ∧ (∀ w ∈ u_ws C T N, w ∈ TBg) ∧ j < N ∧ Cond.fieldLink own idx C (T j).2.1 (T j).2.2.1 ∈ TBg ∧ (∀ k, k < N → parseFieldDescriptor (T k).2.2.1 = some (ty0 k)) ∧ (∀ a, a < N → ∀ b, b < N → a ≠ b → (T a).2.1 ≠ (T b).2.1) ∧ (T j).1 = C ∧ (fty c j < 3 → (T j).2.2.2 = false) ∧ (fty c j = 0 → ty0 j = .int) ∧ (fty c j = 1 → ty0 j = .boolean) ∧ (fty c j = 2 → ty0 j = .long)
theorem ev_getI {idx c j k : Nat} (hd : decode cc pc = .ok (.getfield idx, 3)) (hF : FL own idx c j) (hk : k < NC) (hc : kd k = c) (ht : fty c j = 0 ∨ fty c j = 1) (kk : Ev S own cc nL rt d (pc + 3) ls (.int (σ.1 k j) :: st) σ Q) : Ev S own cc nL rt d pc ls (.ref k :: st) σ Q := by
  intro E p l e R s m args below meth co cells slots QQ F H locs lsA hR hS hL
  obtain ⟨hx, hb, hml, hown, hts, hinj, hw, hfr, hlo, hce, hsl, hq⟩ := id F
  obtain ⟨C, T, N, ty0, f1, f2, f3, f4, f5, f6, f7, f8, f9, -⟩ := hF
  have ha := wsO_at (ka := E.2.1) (ρ := E.2.2) (σ := σ) hk
  rw [ce_obj hc f2] at ha
  have hv : ((List.range (nfl c)).map (fv E.2.2 σ k))[j]? = some (tv E.2.2 (.int (σ.1 k j))) := by
    rw [List.getElem?_map, List.getElem?_range (by omega)]
    subst hc
    rcases ht with ht | ht <;> simp [fv, ht, tv]
  exact va_get (v := tv E.2.2 (.int (σ.1 k j))) hx hb hts f4 hown hw.1 hR k ha f1 j f5 (hts _ f6) (fun x h => by rw [f9] at h; exact h) hv hd (kk E p l e R s m args below meth co cells slots QQ F H locs lsA hR hS hL)
theorem ev_getL {idx c j k : Nat} (hd : decode cc pc = .ok (.getfield idx, 3)) (hF : FL own idx c j) (hk : k < NC) (hc : kd k = c) (ht : fty c j = 2) (kk : Ev S own cc nL rt d (pc + 3) ls (.long (σ.2 k) :: st) σ Q) : Ev S own cc nL rt d pc ls (.ref k :: st) σ Q := by
  intro E p l e R s m args below meth co cells slots QQ F H locs lsA hR hS hL
  obtain ⟨hx, hb, hml, hown, hts, hinj, hw, hfr, hlo, hce, hsl, hq⟩ := id F
  obtain ⟨C, T, N, ty0, f1, f2, f3, f4, f5, f6, f7, f8, f9, -⟩ := hF
  have ha := wsO_at (ka := E.2.1) (ρ := E.2.2) (σ := σ) hk
  rw [ce_obj hc f2] at ha
  have hv : ((List.range (nfl c)).map (fv E.2.2 σ k))[j]? = some (tv E.2.2 (.long (σ.2 k))) := by
    rw [List.getElem?_map, List.getElem?_range (by omega)]
    subst hc
    simp [fv, ht, tv]
  exact va_get (v := tv E.2.2 (.long (σ.2 k))) hx hb hts f4 hown hw.1 hR k ha f1 j f5 (hts _ f6) (fun x h => by rw [f9] at h; exact h) hv hd (kk E p l e R s m args below meth co cells slots QQ F H locs lsA hR hS hL)
theorem ev_getR {idx c j k r : Nat} (hd : decode cc pc = .ok (.getfield idx, 3)) (hF : FL own idx c j) (hk : k < NC) (hc : kd k = c) (ht : fty c j = 3) (hr : rf k j = r) (kk : Ev S own cc nL rt d (pc + 3) ls (.ref r :: st) σ Q) : Ev S own cc nL rt d pc ls (.ref k :: st) σ Q := by
  intro E p l e R s m args below meth co cells slots QQ F H locs lsA hR hS hL
  obtain ⟨hx, hb, hml, hown, hts, hinj, hw, hfr, hlo, hce, hsl, hq⟩ := id F
  obtain ⟨C, T, N, ty0, f1, f2, f3, f4, f5, f6, f7, f8, f9, -⟩ := hF
  have ha := wsO_at (ka := E.2.1) (ρ := E.2.2) (σ := σ) hk
  rw [ce_obj hc f2] at ha
  have hv : ((List.range (nfl c)).map (fv E.2.2 σ k))[j]? = some (tv E.2.2 (.ref r)) := by
    rw [List.getElem?_map, List.getElem?_range (by omega)]
    subst hc
    simp [fv, ht, tv, hr]
  exact va_get (v := tv E.2.2 (.ref r)) hx hb hts f4 hown hw.1 hR k ha f1 j f5 (hts _ f6) (fun x h => by rw [f9] at h; exact h) hv hd (kk E p l e R s m args below meth co cells slots QQ F H locs lsA hR hS hL)
theorem ev_putI {idx c j k : Nat} {x : Int32} (hd : decode cc pc = .ok (.putfield idx, 3)) (hF : FL own idx c j) (hk : k < NC) (hc : kd k = c) (ht : fty c j = 0) (kk : Ev S own cc nL rt d (pc + 3) ls st (wr σ k j x) Q) : Ev S own cc nL rt d pc ls (.int x :: .ref k :: st) σ Q := by
  intro E p l e R s m args below meth co cells slots QQ F H locs lsA hR hS hL
  obtain ⟨hx, hb, hml, hown, hts, hinj, hw, hfr, hlo, hce, hsl, hq⟩ := id F
  obtain ⟨C, T, N, ty0, f1, f2, f3, f4, f5, f6, f7, f8, f9, g1, g2, g3, g4⟩ := hF
  have ha := wsO_at (ka := E.2.1) (ρ := E.2.2) (σ := σ) hk
  rw [ce_obj hc f2] at ha
  refine va_put (v := .int x) (ty := .int) hx hb hts f4 ty0 f7 f8 hown hw.1 hR (wsO_D hinj) hS k ha f1 j f5 (hts _ f6) (fun z h => by rw [f9] at h; exact h) (g1 (by omega)) (by rw [f7 j f5]; first | rw [g2 ht] | rw [g3 ht] | rw [g4 ht]) rfl rfl (by simp; omega) hd (fun H1 locs1 hP1 hD1 hS1 => ?_)
  have hse := wsO_set (ka := E.2.1) (ρ := E.2.2) (σ := σ) (σ' := (wr σ k j x)) (k := k) (q := (E.2.2 k, .inr (c, ((List.range (nfl c)).map (fv E.2.2 σ k)).set j (.int x)))) hk (by
    rw [ce_obj hc f2]
    congr 3
    apply List.ext_getElem?
    intro i
    rw [List.getElem?_set]
    by_cases hi : i < nfl c
    · rw [List.getElem?_map, List.getElem?_map, List.getElem?_range hi]
      subst hc
      by_cases hij : j = i
      · subst hij
        simp [hi, fv, ht, wr]
      · simp [hij, fv, wr, Ne.symm hij, fun z => hij z]
        first | done | (intro z; exact absurd z.symm hij) | skip
    · have h1 : ((List.range (nfl c)).map (fv E.2.2 ((wr σ k j x)) k))[i]? = none := List.getElem?_eq_none (by simp; omega)
      have h2 : ((List.range (nfl c)).map (fv E.2.2 σ k))[i]? = none := List.getElem?_eq_none (by simp; omega)
      rw [h1, h2]
      by_cases hij : j = i
      · subst hij
        simp [hi]
      · simp [hij]) (fun i _ hi => by first | exact ce_wr_ne hi | exact ce_wrL_ne hi)
  rw [hse] at hP1
  exact kk E p l e R s m args below meth co cells slots QQ F H1 locs1 lsA hP1 hS1 hL
theorem ev_putZ {idx c j k : Nat} {x : Int32} (hd : decode cc pc = .ok (.putfield idx, 3)) (hF : FL own idx c j) (hk : k < NC) (hc : kd k = c) (ht : fty c j = 1) (hx01 : x = 0 ∨ x = 1) (kk : Ev S own cc nL rt d (pc + 3) ls st (wr σ k j x) Q) : Ev S own cc nL rt d pc ls (.int x :: .ref k :: st) σ Q := by
  intro E p l e R s m args below meth co cells slots QQ F H locs lsA hR hS hL
  obtain ⟨hx, hb, hml, hown, hts, hinj, hw, hfr, hlo, hce, hsl, hq⟩ := id F
  obtain ⟨C, T, N, ty0, f1, f2, f3, f4, f5, f6, f7, f8, f9, g1, g2, g3, g4⟩ := hF
  have ha := wsO_at (ka := E.2.1) (ρ := E.2.2) (σ := σ) hk
  rw [ce_obj hc f2] at ha
  refine va_put (v := .int x) (ty := .boolean) hx hb hts f4 ty0 f7 f8 hown hw.1 hR (wsO_D hinj) hS k ha f1 j f5 (hts _ f6) (fun z h => by rw [f9] at h; exact h) (g1 (by omega)) (by rw [f7 j f5]; first | rw [g2 ht] | rw [g3 ht] | rw [g4 ht]) (by rcases hx01 with h | h <;> subst h <;> rfl) (by rcases hx01 with h | h <;> subst h <;> rfl) (by simp; omega) hd (fun H1 locs1 hP1 hD1 hS1 => ?_)
  have hse := wsO_set (ka := E.2.1) (ρ := E.2.2) (σ := σ) (σ' := (wr σ k j x)) (k := k) (q := (E.2.2 k, .inr (c, ((List.range (nfl c)).map (fv E.2.2 σ k)).set j (.int x)))) hk (by
    rw [ce_obj hc f2]
    congr 3
    apply List.ext_getElem?
    intro i
    rw [List.getElem?_set]
    by_cases hi : i < nfl c
    · rw [List.getElem?_map, List.getElem?_map, List.getElem?_range hi]
      subst hc
      by_cases hij : j = i
      · subst hij
        simp [hi, fv, ht, wr]
      · simp [hij, fv, wr, Ne.symm hij, fun z => hij z]
        first | done | (intro z; exact absurd z.symm hij) | skip
    · have h1 : ((List.range (nfl c)).map (fv E.2.2 ((wr σ k j x)) k))[i]? = none := List.getElem?_eq_none (by simp; omega)
      have h2 : ((List.range (nfl c)).map (fv E.2.2 σ k))[i]? = none := List.getElem?_eq_none (by simp; omega)
      rw [h1, h2]
      by_cases hij : j = i
      · subst hij
        simp [hi]
      · simp [hij]) (fun i _ hi => by first | exact ce_wr_ne hi | exact ce_wrL_ne hi)
  rw [hse] at hP1
  exact kk E p l e R s m args below meth co cells slots QQ F H1 locs1 lsA hP1 hS1 hL
theorem ev_putL {idx c j k : Nat} {x : Int64} (hd : decode cc pc = .ok (.putfield idx, 3)) (hF : FL own idx c j) (hk : k < NC) (hc : kd k = c) (ht : fty c j = 2) (hone : ∀ i, i < nfl c → fty c i = 2 → i = j) (kk : Ev S own cc nL rt d (pc + 3) ls st (wrL σ k x) Q) : Ev S own cc nL rt d pc ls (.long x :: .ref k :: st) σ Q := by
  intro E p l e R s m args below meth co cells slots QQ F H locs lsA hR hS hL
  obtain ⟨hx, hb, hml, hown, hts, hinj, hw, hfr, hlo, hce, hsl, hq⟩ := id F
  obtain ⟨C, T, N, ty0, f1, f2, f3, f4, f5, f6, f7, f8, f9, g1, g2, g3, g4⟩ := hF
  have ha := wsO_at (ka := E.2.1) (ρ := E.2.2) (σ := σ) hk
  rw [ce_obj hc f2] at ha
  refine va_put (v := .long x) (ty := .long) hx hb hts f4 ty0 f7 f8 hown hw.1 hR (wsO_D hinj) hS k ha f1 j f5 (hts _ f6) (fun z h => by rw [f9] at h; exact h) (g1 (by omega)) (by rw [f7 j f5]; first | rw [g2 ht] | rw [g3 ht] | rw [g4 ht]) rfl rfl (by simp; omega) hd (fun H1 locs1 hP1 hD1 hS1 => ?_)
  have hse := wsO_set (ka := E.2.1) (ρ := E.2.2) (σ := σ) (σ' := (wrL σ k x)) (k := k) (q := (E.2.2 k, .inr (c, ((List.range (nfl c)).map (fv E.2.2 σ k)).set j (.long x)))) hk (by
    rw [ce_obj hc f2]
    congr 3
    apply List.ext_getElem?
    intro i
    rw [List.getElem?_set]
    by_cases hi : i < nfl c
    · rw [List.getElem?_map, List.getElem?_map, List.getElem?_range hi]
      subst hc
      by_cases hij : j = i
      · subst hij
        simp [hi, fv, ht, wrL]
      · simp only [hij, fv, wrL, if_false]
        have hne : ¬ fty (kd k) i = 2 := fun z => hij (hone i hi z).symm
        simp [fv, hne]
    · have h1 : ((List.range (nfl c)).map (fv E.2.2 ((wrL σ k x)) k))[i]? = none := List.getElem?_eq_none (by simp; omega)
      have h2 : ((List.range (nfl c)).map (fv E.2.2 σ k))[i]? = none := List.getElem?_eq_none (by simp; omega)
      rw [h1, h2]
      by_cases hij : j = i
      · subst hij
        simp [hi]
      · simp [hij]) (fun i _ hi => by first | exact ce_wr_ne hi | exact ce_wrL_ne hi)
  rw [hse] at hP1
  exact kk E p l e R s m args below meth co cells slots QQ F H1 locs1 lsA hP1 hS1 hL
theorem ev_iaload {k : Nat} {i : Int32} (hd : decode cc pc = .ok (.iaload, 1)) (hk : k < NC) (hc : kd k = 10) (hin : vp_in i (ln k)) (kk : Ev S own cc nL rt d (pc + 1) ls (.int (σ.1 k i.toNatClampNeg) :: st) σ Q) : Ev S own cc nL rt d pc ls (.int i :: .ref k :: st) σ Q := by
  intro E p l e R s m args below meth co cells slots QQ F H locs lsA hR hS hL
  obtain ⟨hx, hb, hml, hown, hts, hinj, hw, hfr, hlo, hce, hsl, hq⟩ := id F
  have ha := wsO_at (ka := E.2.1) (ρ := E.2.2) (σ := σ) hk
  rw [ce_int hc (by omega) (by omega)] at ha
  exact va_iald hx hb hw.1 hR k 0 ha rfl hin hd (kk E p l e R s m args below meth co cells slots QQ F H locs lsA hR hS hL)
theorem ev_baload {k : Nat} {i : Int32} (hd : decode cc pc = .ok (.baload, 1)) (hk : k < NC) (hc : kd k = 11) (hin : vp_in i (ln k)) (kk : Ev S own cc nL rt d (pc + 1) ls (.int (σ.1 k i.toNatClampNeg) :: st) σ Q) : Ev S own cc nL rt d pc ls (.int i :: .ref k :: st) σ Q := by
  intro E p l e R s m args below meth co cells slots QQ F H locs lsA hR hS hL
  obtain ⟨hx, hb, hml, hown, hts, hinj, hw, hfr, hlo, hce, hsl, hq⟩ := id F
  have ha := wsO_at (ka := E.2.1) (ρ := E.2.2) (σ := σ) hk
  rw [ce_int hc (by omega) (by omega)] at ha
  exact va_zald hx hb hw.1 hR k 1 ha rfl hin hd (kk E p l e R s m args below meth co cells slots QQ F H locs lsA hR hS hL)
theorem ev_aaload {k c t r : Nat} {i : Int32} (hd : decode cc pc = .ok (.aaload, 1)) (hk : k < NC) (hc : kd k = c) (h12 : 12 ≤ c) (h15 : c < 15) (hin : vp_in i (ln k)) (hr : rf k i.toNatClampNeg = r) (kk : Ev S own cc nL rt d (pc + 1) ls (.ref r :: st) σ Q) : Ev S own cc nL rt d pc ls (.int i :: .ref k :: st) σ Q := by
  intro E p l e R s m args below meth co cells slots QQ F H locs lsA hR hS hL
  obtain ⟨hx, hb, hml, hown, hts, hinj, hw, hfr, hlo, hce, hsl, hq⟩ := id F
  subst hr
  have ha := wsO_at (ka := E.2.1) (ρ := E.2.2) (σ := σ) hk
  rw [ce_ref hc h12] at ha
  have hlt : i.toNatClampNeg < ln k := Nat.not_le.mp fun q => hin (Or.inr q)
  obtain ⟨ty, hty, t0, ht0⟩ : ∃ ty : FieldType, ty.isReference = true ∧ ∃ t0 : Nat, (tysOf E.2.1)[t0]? = some (E.2.1 c, ty) := by
    rcases (show c = 12 ∨ c = 13 ∨ c = 14 by omega) with rfl | rfl | rfl
    · exact ⟨_, rfl, 2, rfl⟩
    · exact ⟨_, rfl, 3, rfl⟩
    · exact ⟨_, rfl, 4, rfl⟩
  exact W.aald (v := .ref (E.2.2 (rf k i.toNatClampNeg))) (ty := ty) hx hb (hR k _ ha) ((hw.1.2 t0 _ ht0).1 (ln k) (fun j => va_rf (some (E.2.2 (rf k j))))) hty (fun q => by cases q) (by show ¬ (i < 0 ∨ (arrV _ _ _).slots.size ≤ _); rw [arrV_size]; exact hin) (by show (arrV _ _ _).slots[_]? = _; rw [arrV_read _ _ hlt]; rfl) rfl rfl hd (kk E p l e R s m args below meth co cells slots QQ F H locs lsA hR hS hL)
theorem ev_iastore {k : Nat} {i x : Int32} (hd : decode cc pc = .ok (.iastore, 1)) (hk : k < NC) (hc : kd k = 10) (hin : vp_in i (ln k))  (kk : Ev S own cc nL rt d (pc + 1) ls st (wr σ k i.toNatClampNeg x) Q) : Ev S own cc nL rt d pc ls (.int x :: .int i :: .ref k :: st) σ Q := by
  intro E p l e R s m args below meth co cells slots QQ F H locs lsA hR hS hL
  obtain ⟨hx, hb, hml, hown, hts, hinj, hw, hfr, hlo, hce, hsl, hq⟩ := id F
  have ha := wsO_at (ka := E.2.1) (ρ := E.2.2) (σ := σ) hk
  rw [ce_int hc (by omega) (by omega)] at ha
  refine va_iast hx hb hw.1 hR (wsO_D hinj) hS k 0 ha rfl hin hd (fun H1 locs1 hP1 hD1 hS1 => ?_)
  skip
  have hfe : upd (σ.1 k) i.toNatClampNeg x = (wr σ k i.toNatClampNeg x).1 k := by
    funext b
    by_cases hb : b = i.toNatClampNeg
    · simp [upd, wr, hb]
    · simp [upd, wr, hb]
  rw [wsO_set (σ' := wr σ k i.toNatClampNeg x) hk (by rw [ce_int hc (by omega) (by omega), hfe]) (fun j _ hj => ce_wr_ne hj)] at hP1
  exact kk E p l e R s m args below meth co cells slots QQ F H1 locs1 lsA hP1 hS1 hL
theorem ev_bastore {k : Nat} {i x : Int32} (hd : decode cc pc = .ok (.bastore, 1)) (hk : k < NC) (hc : kd k = 11) (hin : vp_in i (ln k)) (hx01 : x = 0 ∨ x = 1) (kk : Ev S own cc nL rt d (pc + 1) ls st (wr σ k i.toNatClampNeg x) Q) : Ev S own cc nL rt d pc ls (.int x :: .int i :: .ref k :: st) σ Q := by
  intro E p l e R s m args below meth co cells slots QQ F H locs lsA hR hS hL
  obtain ⟨hx, hb, hml, hown, hts, hinj, hw, hfr, hlo, hce, hsl, hq⟩ := id F
  have ha := wsO_at (ka := E.2.1) (ρ := E.2.2) (σ := σ) hk
  rw [ce_int hc (by omega) (by omega)] at ha
  refine va_zast hx hb hw.1 hR (wsO_D hinj) hS k 1 ha rfl hin hd (fun H1 locs1 hP1 hD1 hS1 => ?_)
  rw [show vp_nar .boolean x = x by rcases hx01 with h | h <;> subst h <;> rfl] at hP1
  have hfe : upd (σ.1 k) i.toNatClampNeg x = (wr σ k i.toNatClampNeg x).1 k := by
    funext b
    by_cases hb : b = i.toNatClampNeg
    · simp [upd, wr, hb]
    · simp [upd, wr, hb]
  rw [wsO_set (σ' := wr σ k i.toNatClampNeg x) hk (by rw [ce_int hc (by omega) (by omega), hfe]) (fun j _ hj => ce_wr_ne hj)] at hP1
  exact kk E p l e R s m args below meth co cells slots QQ F H1 locs1 lsA hP1 hS1 hL
theorem ev_arraylength {k c : Nat} {v : Int32} (hd : decode cc pc = .ok (.arraylength, 1)) (hk : k < NC) (hc : kd k = c) (hci : c = 10 ∨ c = 11) (hv : Int32.ofNat (ln k) = v) (kk : Ev S own cc nL rt d (pc + 1) ls (.int v :: st) σ Q) : Ev S own cc nL rt d pc ls (.ref k :: st) σ Q := by
  intro E p l e R s m args below meth co cells slots QQ F H locs lsA hR hS hL
  obtain ⟨hx, hb, hml, hown, hts, hinj, hw, hfr, hlo, hce, hsl, hq⟩ := id F
  have ha := wsO_at (ka := E.2.1) (ρ := E.2.2) (σ := σ) hk
  rw [ce_int hc (by omega) (by omega)] at ha
  rcases hci with rfl | rfl
  · exact va_alen hx hb hw.1 hR k 0 ha rfl hv hd (kk E p l e R s m args below meth co cells slots QQ F H locs lsA hR hS hL)
  · exact va_alen hx hb hw.1 hR k 1 ha rfl hv hd (kk E p l e R s m args below meth co cells slots QQ F H locs lsA hR hS hL)
theorem ev_getLim (hd : decode cc pc = .ok (.getstatic 15, 3)) (ho : own = RX6) (kk : Ev S own cc nL rt d (pc + 3) ls (.ref 131 :: st) σ Q) : Ev S own cc nL rt d pc ls st σ Q := by
  intro E p l e R s m args below meth co cells slots QQ F H locs lsA hR hS hL
  obtain ⟨hx, hb, hml, hown, hts, hinj, hw, hfr, hlo, hce, hsl, hq⟩ := id F
  subst ho
  exact va_getsN hx hb hw.2.2.1 hS hown (va_Nw.use rfl (hw.2.1 _ List.mem_cons_self)) (fun _ h => h) hd (kk E p l e R s m args below meth co cells slots QQ F H locs lsA hR hS hL)
theorem ev_limld {i : Int32} {v : Int32} (hd : decode cc pc = .ok (.iaload, 1)) (hin : vp_in i 6) (hv : ([5, 5, 5, 5, 2, 1] : List Int32).getD i.toNatClampNeg 0 = v) (kk : Ev S own cc nL rt d (pc + 1) ls (.int v :: st) σ Q) : Ev S own cc nL rt d pc ls (.int i :: .ref 131 :: st) σ Q := by
  intro E p l e R s m args below meth co cells slots QQ F H locs lsA hR hS hL
  obtain ⟨hx, hb, hml, hown, hts, hinj, hw, hfr, hlo, hce, hsl, hq⟩ := id F
  exact va_ti hx hb hw.2.2.2.1 hS hin (v := .int v) (by unfold limV; rw [hv]) hd (kk E p l e R s m args below meth co cells slots QQ F H locs lsA hR hS hL)
theorem ev_limlen {v : Int32} (hd : decode cc pc = .ok (.arraylength, 1)) (hv : Int32.ofNat 6 = v) (kk : Ev S own cc nL rt d (pc + 1) ls (.int v :: st) σ Q) : Ev S own cc nL rt d pc ls (.ref 131 :: st) σ Q := by
  intro E p l e R s m args below meth co cells slots QQ F H locs lsA hR hS hL
  obtain ⟨hx, hb, hml, hown, hts, hinj, hw, hfr, hlo, hce, hsl, hq⟩ := id F
  exact va_tlen hx hb hw.2.2.2.1 hS hv hd (kk E p l e R s m args below meth co cells slots QQ F H locs lsA hR hS hL)
theorem ev_scrld {i : Int32} (hd : decode cc pc = .ok (.iaload, 1)) (hin : vp_in i S.1) (kk : Ev S own cc nL rt d (pc + 1) ls (.int (S.2 i.toNatClampNeg) :: st) σ Q) : Ev S own cc nL rt d pc ls (.int i :: .ref 132 :: st) σ Q := by
  intro E p l e R s m args below meth co cells slots QQ F H locs lsA hR hS hL
  obtain ⟨hx, hb, hml, hown, hts, hinj, hw, hfr, hlo, hce, hsl, hq⟩ := id F
  exact va_sld hx hb hw.2.2.2.2.1 hw.2.2.2.2.2.1 hw.2.2.2.2.2.2 hS hin hd (kk E p l e R s m args below meth co cells slots QQ F H locs lsA hR hS hL)
theorem ev_scrlen (hd : decode cc pc = .ok (.arraylength, 1)) (kk : Ev S own cc nL rt d (pc + 1) ls (.int (Int32.ofNat S.1) :: st) σ Q) : Ev S own cc nL rt d pc ls (.ref 132 :: st) σ Q := by
  intro E p l e R s m args below meth co cells slots QQ F H locs lsA hR hS hL
  obtain ⟨hx, hb, hml, hown, hts, hinj, hw, hfr, hlo, hce, hsl, hq⟩ := id F
  exact va_slen hx hb hw.2.2.2.2.1 hw.2.2.2.2.2.1 hw.2.2.2.2.2.2 hS hd (kk E p l e R s m args below meth co cells slots QQ F H locs lsA hR hS hL)
def LM (own : String) (idx : Nat) (y : MethodName) (b : ByteArray) (n : Nat) : Prop := Cond.methodLink own idx y ∈ TBg ∧ Cond.static y ∈ TBg ∧ Cond.initialized "java/lang/Math" ∈ TBg ∧ Cond.code y b n (some .int) ∈ TBg
theorem st_sum (ρ : Nat → Nat) (st : List Value) : ((st.map (tv ρ)).map fun v => v.category).sum = (st.map fun v => v.category).sum := by
  rw [List.map_map]; congr 1; apply List.map_congr_left; intro v _; exact tv_cat ρ v
theorem ev_mmax {idx : Nat} {x y : Int32} (hd : decode cc pc = .ok (.invokestatic idx, 3)) (hM : LM own idx Lib.Math.max.name Lib.Math.max.code 2) (h1 : 0 < d) (h8 : (st.map fun v => v.category).sum ≤ 8) (kk : Ev S own cc nL rt d (pc + 3) ls (.int (if x < y then y else x) :: st) σ Q) : Ev S own cc nL rt d pc ls (.int y :: .int x :: st) σ Q := by
  intro E p l e R s m args below meth co cells slots QQ F H locs lsA hR hS hL
  obtain ⟨hx, hb, hml, hown, hts, hinj, hw, hfr, hlo, hce, hsl, hq⟩ := id F
  exact va_mmax hx hb (by rw [hml]; exact hL.1.symm) hown (hts _ hM.1) (hts _ hM.2.1) (hts _ hM.2.2.1) (hts _ hM.2.2.2) (by omega) (by rw [st_sum]; omega) hce hsl hd (kk E p l e R s m args below meth co cells slots QQ F H locs lsA hR hS hL)
theorem ev_mmin {idx : Nat} {x y : Int32} (hd : decode cc pc = .ok (.invokestatic idx, 3)) (hM : LM own idx Lib.Math.min.name Lib.Math.min.code 2) (h1 : 0 < d) (h8 : (st.map fun v => v.category).sum ≤ 8) (kk : Ev S own cc nL rt d (pc + 3) ls (.int (if y < x then y else x) :: st) σ Q) : Ev S own cc nL rt d pc ls (.int y :: .int x :: st) σ Q := by
  intro E p l e R s m args below meth co cells slots QQ F H locs lsA hR hS hL
  obtain ⟨hx, hb, hml, hown, hts, hinj, hw, hfr, hlo, hce, hsl, hq⟩ := id F
  exact va_mmin hx hb (by rw [hml]; exact hL.1.symm) hown (hts _ hM.1) (hts _ hM.2.1) (hts _ hM.2.2.1) (hts _ hM.2.2.2) (by omega) (by rw [st_sum]; omega) hce hsl hd (kk E p l e R s m args below meth co cells slots QQ F H locs lsA hR hS hL)
theorem ev_mabs {idx : Nat} {x : Int32} (hd : decode cc pc = .ok (.invokestatic idx, 3)) (hM : LM own idx Lib.Math.abs.name Lib.Math.abs.code 1) (h1 : 0 < d) (h8 : (st.map fun v => v.category).sum ≤ 8) (kk : Ev S own cc nL rt d (pc + 3) ls (.int (if 0 ≤ x then x else 0 - x) :: st) σ Q) : Ev S own cc nL rt d pc ls (.int x :: st) σ Q := by
  intro E p l e R s m args below meth co cells slots QQ F H locs lsA hR hS hL
  obtain ⟨hx, hb, hml, hown, hts, hinj, hw, hfr, hlo, hce, hsl, hq⟩ := id F
  exact va_mabs hx hb (by rw [hml]; exact hL.1.symm) hown (hts _ hM.1) (hts _ hM.2.1) (hts _ hM.2.2.1) (hts _ hM.2.2.2) (by omega) (by rw [st_sum]; omega) hce hsl hd (kk E p l e R s m args below meth co cells slots QQ F H locs lsA hR hS hL)
def LC (own : String) (idx : Nat) : Prop := Cond.methodLink own idx arraycopyName ∈ TBg ∧ Cond.native arraycopyName ∈ TBg ∧ Cond.static arraycopyName ∈ TBg ∧ Cond.initialized "java/lang/System" ∈ TBg
theorem ev_copy {idx k0 k1 : Nat} {n dp sp : Int32} (hd : decode cc pc = .ok (.invokestatic idx, 3)) (hM : LC own idx) (h1 : 0 < d) (h8 : (st.map fun v => v.category).sum ≤ 8) (hk0 : k0 < NC) (hk1 : k1 < NC) (hc0 : kd k0 = 10) (hc1 : kd k1 = 10)
    (n0 : ¬ sp < 0) (n1 : ¬ dp < 0) (n2 : ¬ n < 0) (b0 : sp.toNatClampNeg + n.toNatClampNeg ≤ ln k0) (b1 : dp.toNatClampNeg + n.toNatClampNeg ≤ ln k1) (kk : Ev S own cc nL rt d (pc + 3) ls st (cpy σ k0 sp.toNatClampNeg k1 dp.toNatClampNeg n.toNatClampNeg) Q) : Ev S own cc nL rt d pc ls (.int n :: .int dp :: .ref k1 :: .int sp :: .ref k0 :: st) σ Q := by
  intro E p l e R s m args below meth co cells slots QQ F H locs lsA hR hS hL
  obtain ⟨hx, hb, hml, hown, hts, hinj, hw, hfr, hlo, hce, hsl, hq⟩ := id F
  have ha := wsO_at (ka := E.2.1) (ρ := E.2.2) (σ := σ) hk0
  rw [ce_int hc0 (by omega) (by omega)] at ha
  have ha1 := wsO_at (ka := E.2.1) (ρ := E.2.2) (σ := σ) hk1
  rw [ce_int hc1 (by omega) (by omega)] at ha1
  refine va_copyi hx hb (by rw [hml]; exact hL.1.symm) hown (hts _ hM.1) (hts _ hM.2.1) (hts _ hM.2.2.1) (hts _ hM.2.2.2) hw.1 hR (wsO_D hinj) hS k0 k1 0 0 ha ha1 rfl rfl rfl n0 n1 n2 b0 b1 (fun _ _ => rfl) (by omega) (by rw [st_sum, show nativeFrameWords "java/lang/System" "arraycopy" 5 = 7 from by decide +kernel]; omega) hd (fun H1 locs1 hP1 hD1 hS1 => ?_)
  have hfe : va_cpy (σ.1 k0) (σ.1 k1) sp.toNatClampNeg dp.toNatClampNeg n.toNatClampNeg = (cpy σ k0 sp.toNatClampNeg k1 dp.toNatClampNeg n.toNatClampNeg).1 k1 := by
    funext b
    simp [va_cpy, cpy]
  rw [wsO_set (σ' := cpy σ k0 sp.toNatClampNeg k1 dp.toNatClampNeg n.toNatClampNeg) hk1 (by rw [ce_int hc1 (by omega) (by omega), hfe]) (fun j _ hj => ce_cpy_ne hj)] at hP1
  exact kk E p l e R s m args below meth co cells slots QQ F H1 locs1 lsA hP1 hS1 hL
theorem ev_ireturn {v : Int32} {ty : FieldType} (hd : decode cc pc = .ok (.ireturn, 1)) (hr : rt = some ty) (hn : narrow ty (.int v) = .int v) (hQ : Q (some (.int v)) σ) : Ev S own cc nL rt d pc ls [.int v] σ Q := by
  intro E p l e R s m args below meth co cells slots QQ F H locs lsA hR hS hL
  obtain ⟨hx, hb, hml, hown, hts, hinj, hw, hfr, hlo, hce, hsl, hq⟩ := id F
  exact hq (some (.int v)) σ H locs pc lsA hQ hR hS (Or.inr (Or.inl ⟨v, ty, rfl, hr, hn, hd⟩))
theorem ev_lreturn {v : Int64} (hd : decode cc pc = .ok (.lreturn, 1)) (hr : rt = some .long) (hQ : Q (some (.long v)) σ) : Ev S own cc nL rt d pc ls [.long v] σ Q := by
  intro E p l e R s m args below meth co cells slots QQ F H locs lsA hR hS hL
  obtain ⟨hx, hb, hml, hown, hts, hinj, hw, hfr, hlo, hce, hsl, hq⟩ := id F
  exact hq (some (.long v)) σ H locs pc lsA hQ hR hS (Or.inr (Or.inr ⟨v, rfl, hr, hd⟩))
theorem ev_return (hd : decode cc pc = .ok (.return_, 1)) (hr : rt = none) (hQ : Q none σ) : Ev S own cc nL rt d pc ls [] σ Q := by
  intro E p l e R s m args below meth co cells slots QQ F H locs lsA hR hS hL
  obtain ⟨hx, hb, hml, hown, hts, hinj, hw, hfr, hlo, hce, hsl, hq⟩ := id F
  exact hq none σ H locs pc lsA hQ hR hS (Or.inl ⟨rfl, hr, hd⟩)
theorem ev_post {Q' : Option Value → Sto → Prop} (h : Ev S own cc nL rt d pc ls st σ Q') (hQ : ∀ r σ', Q' r σ' → Q r σ') : Ev S own cc nL rt d pc ls st σ Q := by
  intro E p l e R s m args below meth co cells slots QQ F H locs lsA hR hS hL
  obtain ⟨hx, hb, hml, hown, hts, hinj, hw, hfr, hlo, hce, hsl, hq⟩ := id F
  exact h E p l e R s m args below meth co cells slots QQ ⟨hx, hb, hml, hown, hts, hinj, hw, hfr, hlo, hce, hsl, fun r σ' H' locs' pc' lsA' h1 => hq r σ' H' locs' pc' lsA' (hQ r σ' h1)⟩ H locs lsA hR hS hL
def LB (own : String) (idx : Nat) (y : MethodName) (b : ByteArray) (mL : Nat) (r : Option FieldType) (n : Nat) : Prop := Cond.methodLink own idx y ∈ TBg ∧ Cond.code y b mL r ∈ TBg ∧ Cond.initialized y.cls ∈ TBg ∧ (y.cls ≠ "java/lang/invoke/MethodHandle" ∧ y.cls ≠ "java/lang/invoke/VarHandle" ∧ (parseMethodDescriptor y.desc).map (fun d => d.parameters.length) = some n) ∧ mL ≤ 17
def LV (own : String) (idx : Nat) (y : MethodName) (b : ByteArray) (mL : Nat) (r : Option FieldType) (n : Nat) : Prop := LB own idx y b mL r n ∧ Cond.instanceMethod y ∈ TBg ∧ Cond.selects y.cls y y ∈ TBg
def LSt (own : String) (idx : Nat) (y : MethodName) (b : ByteArray) (mL : Nat) (r : Option FieldType) (n : Nat) : Prop := LB own idx y b mL r n ∧ Cond.static y ∈ TBg
def LN (own : String) (idx : Nat) (y : MethodName) (b : ByteArray) (mL : Nat) (r : Option FieldType) (n : Nat) : Prop := Cond.methodLinkNest own idx y RX7 ∈ NW ∧ Cond.code y b mL r ∈ TBg ∧ Cond.initialized y.cls ∈ TBg ∧ (y.cls ≠ "java/lang/invoke/MethodHandle" ∧ y.cls ≠ "java/lang/invoke/VarHandle" ∧ (parseMethodDescriptor y.desc).map (fun d => d.parameters.length) = some n) ∧ mL ≤ 17 ∧ Cond.static y ∈ TBg
theorem nw_tab : ∀ w ∈ NW, w.onTables = true := by decide +kernel
theorem nw_warm {s U : State} (hW : s.WarmedH U.vm) (h : ∀ w ∈ NW, va_Nw w s) : ∀ w ∈ NW, va_Nw w U := by
  intro w hw
  have h0 := h w hw
  simp only [NW, List.mem_cons, List.not_mem_nil, or_false] at hw
  rcases hw with rfl | rfl | rfl | rfl | rfl | rfl
  · exact va_Nw.warmF hW h0
  all_goals exact va_Nw.warmM hW h0
theorem Wd.on {S : Scr} {E : En} {s U : State} {H : Heap} {locs : List Loc} (h : Wd S E s) (hS : va_S (Ar E.2.2) s.heap H locs) (hU : U.heap = H) (hW : s.WarmedH U.vm) : Wd S E U := by
  obtain ⟨h1, h2, h3, h4, h5, h6, h7⟩ := h
  have hq : ∀ a : Nat, a < s.heap.size → ¬ Ar E.2.2 a → U.heap[a]? = s.heap[a]? := fun a ha hn => by rw [hU]; exact hS.2.1 a ha hn
  exact ⟨h1.moved hW.alike, nw_warm hW h2, (h3.moved hW.alike).kept hq, (h4.moved hW.alike).kept hq, (h5.moved hW.alike).kept (hq _ h6 h7), by rw [hU]; exact Nat.lt_of_lt_of_le h6 hS.1, h7⟩
theorem Wd.calling {S : Scr} {E : En} {U : State} {g : JFrame} {mk : MethodId} {a : Array Value} (h : Wd S E U) : Wd S E (U.calling g mk a) := by
  obtain ⟨h1, h2, h3, h4, h5, h6, h7⟩ := h
  exact ⟨va_K.moved (u := U) (U := U.calling g mk a) (Vm.Alike.refl U.vm) h1, fun w hw => va_Nw.same (nw_tab w hw) (u := U) (U := U.calling g mk a) rfl (h2 w hw), va_Z.moved (u := U) (U := U.calling g mk a) (Vm.Alike.refl U.vm) h3, va_T.moved (u := U) (U := U.calling g mk a) (Vm.Alike.refl U.vm) h4, va_X.moved (u := U) (U := U.calling g mk a) (Vm.Alike.refl U.vm) h5, h6, h7⟩
theorem pcM_blind {S : Scr} {E : En} {av : List Value} {σ : Sto} : FrameBlind (PcM S E av σ) := fun a U g mk q => ⟨q.1, q.2.1.calling, q.2.2⟩
/-- behind a call's run -/
theorem ev_run {E : En} {p : Program} {l : Launch} {e : Env} {R : Room} {s : State} {m : MethodId} {args : Array Value} {below : List Frame} {meth : Method} {c : Code} {H : Heap} {locs : List Loc} {cells slots : Nat} {QQ : State → Prop} {pc : Nat} {lsA : Array Slot} {st0 rest : List Value} {Q' : Option Value → Sto → Prop} {a : Array Value}
    (hr : va_Run p l e R s m args below meth c H locs cells slots 0 0 (F0 m pc lsA st0) rest (QcM E Q' a) (Ar E.2.2)) (hS : va_S (Ar E.2.2) s.heap H locs)
    (kk : ∀ (r : Option Value) (σ' : Sto) (H1 : Heap) (locs1 : List Loc), Q' r σ' → Rp E σ' H1 → va_S (Ar E.2.2) s.heap H1 locs1 → W p l e R s m args below meth c H1 locs1 cells slots QQ (F0 m (pc + 3) lsA ((r.map (tv E.2.2)).toList ++ rest))) : W p l e R s m args below meth c H locs cells slots QQ (F0 m pc lsA st0) := by
  intro T hT X
  obtain ⟨v, st₀, t, T', L, h0, X', hL, e1, e2, ⟨⟨r, σ', hv, hp, hb⟩, hz, hk⟩, stp⟩ := hr T hT X
  cases hv
  rw [h0] at hz hk
  obtain ⟨t2, a1, b1⟩ := kk r σ' T'.heap (locs ++ L) hp (by rw [e1]; exact hb) ⟨Nat.le_trans hS.1 (by rw [e1]; exact hz), fun q h1 h2 => by rw [e1, hk q (Nat.lt_of_lt_of_le h1 hS.1) h2]; exact hS.2.1 q h1 h2, fun q hq => by
      rcases List.mem_append.mp hq with h | h
      · exact hS.2.2 q h
      · exact hL q h⟩ T' rfl X'
  exact ⟨t2, stp t2 a1, b1⟩
theorem opt_map (ρ : Nat → Nat) (r : Option Value) (st : List Value) : (r.map (tv ρ)).toList ++ st.map (tv ρ) = (r.toList ++ st).map (tv ρ) := by cases r <;> rfl
theorem ev_callV {idx k n mL d' : Nat} {y : MethodName} {b : ByteArray} {r : Option FieldType} {As stk : List Value} {Q' : Option Value → Sto → Prop} (hd : decode cc pc = .ok (.invokevirtual idx, 3)) (hM : LV own idx y b mL r n) (hT : Mt S y b mL r d' (.ref k :: As) σ Q') (hk : k < NC) (hc : ∃ q, vwCl[kd k]? = some q ∧ q.1 = y.cls) (hstk : stk = As.reverse ++ .ref k :: st) (hd' : d' < d) (hn : As.length = n) (h8 : (st.map fun v => v.category).sum ≤ 8) (kk : ∀ rv σ', Q' rv σ' → Ev S own cc nL rt d (pc + 3) ls (rv.toList ++ st) σ' Q) : Ev S own cc nL rt d pc ls stk σ Q := by
  intro E p l e R s m args below meth co cells slots QQ F H locs lsA hR hS hL
  obtain ⟨hx, hb, hml, hown, hts, hinj, hw, hfr, hlo, hce, hsl, hq⟩ := id F
  subst hstk
  obtain ⟨⟨m1, m2, m3, m4, m5⟩, m6, m7⟩ := hM
  obtain ⟨q, hq1, hq2⟩ := hc
  have hk9 : kd k < 9 := by
    have := (List.getElem?_eq_some_iff.mp hq1).1
    simpa [vwCl] using this
  have ha := wsO_at (ka := E.2.1) (ρ := E.2.2) (σ := σ) hk
  rw [ce_obj rfl hk9] at ha
  have hrecv := va_recv hw.1 hR hq1 ha
  rw [hq2] at hrecv
  refine ev_run (st0 := List.map (tv E.2.2) (As.reverse ++ .ref k :: st)) (rest := st.map (tv E.2.2)) (va_runV (As := As.map (tv E.2.2)) (b := E.2.2 k) (C := y.cls) (n := n) ⟨hx, hb, hml, hown, hts⟩ (hT E l hinj) ⟨callB_of n hts (good_wsM m2) rfl rfl rfl (hts _ m3) (hts _ m1) m4 ⟨by show d' + 1 ≤ _; omega, by show 8 + (mL + 11) + 36 * d' ≤ _; omega⟩, hts _ m6, hts _ m7⟩ ⟨pcM_blind, hrecv, fun U hU hW => ⟨rfl, hw.on hS hU hW, by rw [hU]; exact hR⟩⟩ rfl (by rw [List.length_map]; exact hn) hL.1 (by simp [tv]) (lv_room (by rw [st_sum]; exact h8)) hd ⟨by omega, by omega⟩) hS (fun rv σ' H1 locs1 h1 h2 h3 => ?_)
  rw [opt_map]
  exact kk rv σ' h1 E p l e R s m args below meth co cells slots QQ F H1 locs1 lsA h2 h3 hL
theorem ev_callS {idx n mL d' : Nat} {y : MethodName} {b : ByteArray} {r : Option FieldType} {As stk : List Value} {Q' : Option Value → Sto → Prop} (hd : decode cc pc = .ok (.invokestatic idx, 3)) (hM : LSt own idx y b mL r n) (hT : Mt S y b mL r d' As σ Q') (hstk : stk = As.reverse ++ st) (hd' : d' < d) (hn : As.length = n) (h8 : (st.map fun v => v.category).sum ≤ 8) (kk : ∀ rv σ', Q' rv σ' → Ev S own cc nL rt d (pc + 3) ls (rv.toList ++ st) σ' Q) : Ev S own cc nL rt d pc ls stk σ Q := by
  intro E p l e R s m args below meth co cells slots QQ F H locs lsA hR hS hL
  obtain ⟨hx, hb, hml, hown, hts, hinj, hw, hfr, hlo, hce, hsl, hq⟩ := id F
  subst hstk
  obtain ⟨⟨m1, m2, m3, m4, m5⟩, m6⟩ := hM
  refine ev_run (st0 := List.map (tv E.2.2) (As.reverse ++ st)) (rest := st.map (tv E.2.2)) (va_runS (As := As.map (tv E.2.2)) (n := n) ⟨hx, hb, hml, hown, hts⟩ (hT E l hinj) ⟨callB_of n hts (good_wsM m2) rfl rfl rfl (hts _ m3) (hts _ m1) m4 ⟨by show d' + 1 ≤ _; omega, by show 8 + (mL + 11) + 36 * d' ≤ _; omega⟩, hts _ m6⟩ ⟨pcM_blind, fun U hU hW => ⟨rfl, hw.on hS hU hW, by rw [hU]; exact hR⟩⟩ rfl (by rw [List.length_map]; exact hn) hL.1 (by simp) (lv_room (by rw [st_sum]; exact h8)) hd ⟨by omega, by omega⟩) hS (fun rv σ' H1 locs1 h1 h2 h3 => ?_)
  rw [opt_map]
  exact kk rv σ' h1 E p l e R s m args below meth co cells slots QQ F H1 locs1 lsA h2 h3 hL
theorem ev_callN {idx n mL d' : Nat} {y : MethodName} {b : ByteArray} {r : Option FieldType} {As stk : List Value} {Q' : Option Value → Sto → Prop} (hd : decode cc pc = .ok (.invokestatic idx, 3)) (hM : LN own idx y b mL r n) (hT : Mt S y b mL r d' As σ Q') (hstk : stk = As.reverse ++ st) (hd' : d' < d) (hn : As.length = n) (h8 : (st.map fun v => v.category).sum ≤ 8) (kk : ∀ rv σ', Q' rv σ' → Ev S own cc nL rt d (pc + 3) ls (rv.toList ++ st) σ' Q) : Ev S own cc nL rt d pc ls stk σ Q := by
  intro E p l e R s m args below meth co cells slots QQ F H locs lsA hR hS hL
  obtain ⟨hx, hb, hml, hown, hts, hinj, hw, hfr, hlo, hce, hsl, hq⟩ := id F
  subst hstk
  obtain ⟨m1, m2, m3, m4, m5, m6⟩ := hM
  refine ev_run (st0 := List.map (tv E.2.2) (As.reverse ++ st)) (rest := st.map (tv E.2.2)) (va_runSN (As := As.map (tv E.2.2)) (n := n) (host := RX7) ⟨hx, hb, hml, hown, hts⟩ (hT E l hinj) ⟨va_cnB n hts (good_wsM m2) rfl rfl rfl (hw.2.1 _ m1) (hts _ m3) m4 ⟨by show d' + 1 ≤ _; omega, by show 8 + (mL + 11) + 36 * d' ≤ _; omega⟩, hts _ m6, trivial⟩ ⟨pcM_blind, fun U hU hW => ⟨rfl, hw.on hS hU hW, by rw [hU]; exact hR⟩⟩ rfl (by rw [List.length_map]; exact hn) hL.1 (by simp) (lv_room (by rw [st_sum]; exact h8)) hd ⟨by omega, by omega⟩) hS (fun rv σ' H1 locs1 h1 h2 h3 => ?_)
  rw [opt_map]
  exact kk rv σ' h1 E p l e R s m args below meth co cells slots QQ F H1 locs1 lsA h2 h3 hL
end EVR
/-- a method's contract out of its walk -/
theorem mt_of {S : Scr} {y : MethodName} {cc : ByteArray} {nL : Nat} {rt : Option FieldType} {d : Nat} {av ls : List Value} {σ : Sto} {Q : Option Value → Sto → Prop} (hy : plainName y.cls = true) (hls : ls = av ++ List.replicate (nL - av.length) .null) (hlen : av.length ≤ nL) (hcat : ∀ v ∈ av, v.category = 1) (h : Ev S y.cls cc nL rt d 0 ls [] σ Q) : Mt S y cc nL rt d av σ Q := by
  intro E l hinj
  refine Met.ofW (cc := cc) (maxL := nL) (ret := rt) hy rfl ?_
  intro p e s m args below meth c s₁ B hml hv
  obtain ⟨rfl, hw, hR⟩ := hv
  have hr := B.returns
  have hlocks := B.notSynchronized
  have hts0 := atoms_spec (ws := wsM y cc nL rt) B.pre
  have hts : ∀ w ∈ TBg, w.before (av.map (tv E.2.2)).toArray s = true := fun w h => hts0 w (List.mem_cons_of_mem _ h)
  have hsl : (lg_sl (av.map (tv E.2.2))).length = av.length := by
    clear hls hlen h hw hR hr hlocks hts0 hts B
    induction av with
    | nil => rfl
    | cons a r ih =>
      have ha := hcat a List.mem_cons_self
      have := ih (fun v hv => hcat v (List.mem_cons_of_mem _ hv))
      have h2 : lg_sl ((a :: r).map (tv E.2.2)) = .val (tv E.2.2 a) :: lg_sl (r.map (tv E.2.2)) := by
        unfold lg_sl
        rw [List.map_cons, List.flatMap_cons, tv_cat, ha, if_neg (by decide)]
        rfl
      rw [h2, List.length_cons, this, List.length_cons]
  have hl := lv_entry (av.map (tv E.2.2)) (n := nL) (by rw [hsl]; exact hlen)
  rw [lg_entry_eq]
  generalize (lg_sl (av.map (tv E.2.2)) ++ List.replicate (nL - (lg_sl (av.map (tv E.2.2))).length) Slot.unset).toArray = lsA at hl ⊢
  have hLo : Lo E.2.2 lsA nL ls := by
    refine ⟨hl.1, hl.2.1, fun i v hi hn => ?_, fun v hv => ?_⟩
    · subst hls
      have hlt : i < av.length := by
        rcases Nat.lt_or_ge i av.length with q | q
        · exact q
        · rw [List.getElem?_append_right q] at hi
          exact absurd (List.eq_of_mem_replicate (List.mem_of_getElem? hi)) hn
      rw [List.getElem?_append_left hlt] at hi
      have key : ∀ (n0 : Nat) (as : List Value) (j : Nat) (w : Value), (∀ v ∈ as, v.category = 1) → as[j]? = some w → (n0 + j, tv E.2.2 w) ∈ lv_args n0 (as.map (tv E.2.2)) := by
        intro n0 as
        induction as generalizing n0 with
        | nil => intro j w _ hj; simp at hj
        | cons a r ih =>
          intro j w hc hj
          have ha := hc a List.mem_cons_self
          cases j with
          | zero =>
            simp at hj; subst hj
            simp [lv_args]
          | succ j =>
            simp at hj
            have := ih (n0 + 1) j w (fun v hv => hc v (List.mem_cons_of_mem _ hv)) hj
            simp only [List.map_cons, lv_args, tv_cat, ha]
            refine List.mem_cons_of_mem _ ?_
            rw [show n0 + (j + 1) = n0 + 1 + j by omega]
            exact this
      have := hl.2.2 _ (key 0 av i v hcat hi)
      simpa using this
    · subst hls
      rcases List.mem_append.mp hv with q | q
      · exact hcat v q
      · rw [List.eq_of_mem_replicate q]; rfl
  refine h E p l e _ s m _ below meth c 0 0 _ ⟨B.exec, B.bytes, hml, findClass_of_methodNamed B.named, hts, hinj, hw, Nat.le_refl _, Nat.le_refl _, Nat.zero_le _, Nat.zero_le _, ?_⟩ s.heap [] lsA hR va_S.rf hLo
  intro r σ' H' locs' pc' lsA' hQ hR' hS' hret
  rcases hret with ⟨rfl, hrt, hdec⟩ | ⟨v, ty, rfl, hrt, hn, hdec⟩ | ⟨v, rfl, hrt, hdec⟩
  · exact W.vret B.exec B.bytes (by rw [hr, hrt]) (fun t ht hW => ⟨⟨none, σ', rfl, hQ, by rw [ht]; exact hR'⟩, hS'.F ht⟩) hS'.2.2 hdec hlocks
  · exact W.zret B.exec B.bytes (by rw [hr, hrt]) hn (fun t ht hW => ⟨⟨some (.int v), σ', rfl, hQ, by rw [ht]; exact hR'⟩, hS'.F ht⟩) hS'.2.2 hdec hlocks
  · exact W.lret B.exec B.bytes (by rw [hr, hrt]) (fun t ht hW => ⟨⟨some (.long v), σ', rfl, hQ, by rw [ht]; exact hR'⟩, hS'.F ht⟩) hS'.2.2 hdec hlocks
