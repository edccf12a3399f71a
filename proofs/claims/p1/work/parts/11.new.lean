def wm_X0_init : List Cond := .code yX0_init cX0_init 1 none :: ([.methodLink RX0 3 objectInit, .instanceMethod objectInit, .code objectInit ⟨#[0xb1]⟩ 1 none, .fieldLink RX0 9 "DrawStreams$Block" "madeSort" "I"] ++ wsX00)
theorem kX0_init_0 : Cond.methodLink RX0 3 objectInit ∈ wm_X0_init := by decide +kernel
theorem kX0_init_1 : Cond.instanceMethod objectInit ∈ wm_X0_init := by decide +kernel
theorem kX0_init_2 : Cond.code objectInit ⟨#[0xb1]⟩ 1 none ∈ wm_X0_init := by decide +kernel
theorem iX0_init_X0 : ∀ w ∈ wsX00, w ∈ wm_X0_init := by decide +kernel
theorem kX0_init_4 : Cond.fieldLink RX0 9 "DrawStreams$Block" "madeSort" "I" ∈ wm_X0_init := by decide +kernel
set_option maxHeartbeats 4000000 in
set_option maxRecDepth 100000 in
theorem mt_X0_init (l : Launch) (dC : Nat → ClassId) (dI : Nat → Nat → Nat) (sz : Nat) (h0 : Nat)  : Met l yX0_init wm_X0_init ({ frames := 1, cells := 0, slots := 0, locals := 12 }) (va_Pc [.ref h0] (fun U => U.heap.size = sz ∧ va_P (dC, dI) vwCl [(h0, .inr (2, [.long 0, .long 0, .long 0, .long 0, .long 0, .long 0, .int 0, .int 0]))] U.heap ∧ va_K (dC, dI) vwCl [] U ∧ va_D (fun _ => True) [(h0, .inr (2, [.long 0, .long 0, .long 0, .long 0, .long 0, .long 0, .int 0, .int 0]))])) (va_Qv (fun (u : Unit) => True) (fun (u : Unit) t => va_P (dC, dI) vwCl [] t.heap ∧ va_K (dC, dI) vwCl [] t ∧ va_D (va_A [(h0, .inr (2, [.long 0, .long 0, .long 0, .long 0, .long 0, .long 0, .int 0, .int 0]))] sz) []) (va_A [(h0, .inr (2, [.long 0, .long 0, .long 0, .long 0, .long 0, .long 0, .int 0, .int 0]))] sz)) 0 0 (va_A [(h0, .inr (2, [.long 0, .long 0, .long 0, .long 0, .long 0, .long 0, .int 0, .int 0]))] sz) := by
  refine Met.ofW (cc := cX0_init) (maxL := 1) (ret := none) (by decide) rfl ?_
  intro p e s m args below meth c s₁ B hml hv
  obtain ⟨rfl, hsz, hP, hK, hD0⟩ := hv
  have hx := B.exec
  have hb := B.bytes
  have hr := B.returns
  have hts := atoms_spec (ws := wm_X0_init) B.pre
  have hown : s.vm.findClass RX0 = some m.cls := findClass_of_methodNamed B.named
  have hlocks := B.notSynchronized
  have hin : meth.name = "<init>" := (name_of_methodNamed B.named B.method).1
  subst hsz
  have hD := hD0.self (sz := s.heap.size)
  generalize hAe : va_A [(h0, .inr (2, [.long 0, .long 0, .long 0, .long 0, .long 0, .long 0, .int 0, .int 0]))] s.heap.size = A at hD ⊢
  have hA : ∀ q : Nat, s.heap.size ≤ q → A q := fun q h => by rw [← hAe]; exact Or.inr h
  have hS : va_S A s.heap s.heap [] := va_S.rf
  obtain ⟨H, hHe⟩ : ∃ H : Heap, H = s.heap := ⟨_, rfl⟩
  have hP : va_P (dC, dI) vwCl [(h0, .inr (2, [.long 0, .long 0, .long 0, .long 0, .long 0, .long 0, .int 0, .int 0]))] H := by rw [hHe]; exact hP
  have hS : va_S A s.heap H [] := by rw [hHe]; exact hS
  have hl := lv_entry ([.ref h0]) (n := 1) (Nat.le_of_ble_eq_true rfl)
  rw [lg_entry_eq, ← hHe]
  generalize (lg_sl ([.ref h0]) ++ List.replicate (1 - (lg_sl ([.ref h0])).length) Slot.unset).toArray = ls at hl ⊢
  have hl : lv_has ls 1 [(0, .ref h0)] := hl
  refine lv_aload_n hx hb dX0_init_0 rfl (lv_at hl 0 rfl) ?_
  refine W.objInit hx hb hown (hts _ kX0_init_0) (hts _ kX0_init_1) (hts _ kX0_init_2) rfl (by rw [hml]; exact hl.1) rfl dX0_init_1 (Nat.le_of_ble_eq_true rfl) (Nat.le_of_ble_eq_true rfl) ?_
  refine W.eq (g2 := F0 m 4 ls []) rfl ?_
  refine lv_aload_n hx hb dX0_init_4 rfl (lv_at hl 0 rfl) ?_
  refine lv_iconst (v := -1) hx hb dX0_init_5 (by decide) ?_
  refine va_put (D := (dC, dI)) (ci := 2) (v := .int ((-1))) (ty := .int) (C := RX0) (T := TX0) (N := 8) hx hb hts iX0_init_X0 tyX0 tyX0_ok nmX0 hown hK hP hD hS 0 rfl rfl 7 (by decide) (hts _ kX0_init_4) (fun _ h9 => h9) rfl (by decide +kernel) rfl rfl (Nat.le_of_ble_eq_true rfl) dX0_init_6 (fun H locs hP hD hS => ?_)
  have hP : va_P (dC, dI) vwCl [(h0, .inr (2, [.long 0, .long 0, .long 0, .long 0, .long 0, .long 0, .int 0, .int ((-1))]))] H := hP
  have hD : va_D A [(h0, .inr (2, [.long 0, .long 0, .long 0, .long 0, .long 0, .long 0, .int 0, .int ((-1))]))] := hD
  have hP9 := hP.sub (ws' := []) [] rfl
  have hD9 := hD.sub (ws' := []) [] (by decide) rfl
  have hK9 := hK.sub (tys' := []) [] rfl
  exact W.vret hx hb hr (fun t ht hW => ⟨⟨(), rfl, trivial, by rw [ht]; exact hP9, va_K.moved hW.alike hK9, hD9⟩, hS.F ht⟩) hS.2.2 dX0_init_9
def wm_X1_init : List Cond := .code yX1_init cX1_init 1 none :: ([.methodLink RX1 1 objectInit, .instanceMethod objectInit, .code objectInit ⟨#[0xb1]⟩ 1 none, .arrayClass .long, .fieldLink RX1 9 "DrawStreams$Deviate" "digits" "[J"] ++ wsX10)
theorem kX1_init_0 : Cond.methodLink RX1 1 objectInit ∈ wm_X1_init := by decide +kernel
theorem kX1_init_1 : Cond.instanceMethod objectInit ∈ wm_X1_init := by decide +kernel
theorem kX1_init_2 : Cond.code objectInit ⟨#[0xb1]⟩ 1 none ∈ wm_X1_init := by decide +kernel
theorem kX1_init_3 : Cond.arrayClass .long ∈ wm_X1_init := by decide +kernel
theorem iX1_init_X1 : ∀ w ∈ wsX10, w ∈ wm_X1_init := by decide +kernel
theorem kX1_init_5 : Cond.fieldLink RX1 9 "DrawStreams$Deviate" "digits" "[J" ∈ wm_X1_init := by decide +kernel
set_option maxHeartbeats 4000000 in
set_option maxRecDepth 100000 in
theorem mt_X1_init (l : Launch) (dC : Nat → ClassId) (dI : Nat → Nat → Nat) (sz : Nat) (h0 : Nat)  : Met l yX1_init wm_X1_init ({ frames := 1, cells := 1, slots := 4, locals := 12 }) (va_Pc [.ref h0] (fun U => U.heap.size = sz ∧ va_P (dC, dI) vwCl [(h0, .inr (3, [.null, .int 0]))] U.heap ∧ va_K (dC, dI) vwCl [] U ∧ va_D (fun _ => True) [(h0, .inr (3, [.null, .int 0]))])) (va_Qv (fun (u : Unit) => True) (fun (u : Unit) t => va_P (dC, dI) vwCl [] t.heap ∧ va_K (dC, dI) vwCl [] t ∧ va_D (va_A [(h0, .inr (3, [.null, .int 0]))] sz) []) (va_A [(h0, .inr (3, [.null, .int 0]))] sz)) 1 4 (va_A [(h0, .inr (3, [.null, .int 0]))] sz) := by
  refine Met.ofW (cc := cX1_init) (maxL := 1) (ret := none) (by decide) rfl ?_
  intro p e s m args below meth c s₁ B hml hv
  obtain ⟨rfl, hsz, hP, hK, hD0⟩ := hv
  have hx := B.exec
  have hb := B.bytes
  have hr := B.returns
  have hts := atoms_spec (ws := wm_X1_init) B.pre
  have hown : s.vm.findClass RX1 = some m.cls := findClass_of_methodNamed B.named
  have hlocks := B.notSynchronized
  have hin : meth.name = "<init>" := (name_of_methodNamed B.named B.method).1
  subst hsz
  have hD := hD0.self (sz := s.heap.size)
  generalize hAe : va_A [(h0, .inr (3, [.null, .int 0]))] s.heap.size = A at hD ⊢
  have hA : ∀ q : Nat, s.heap.size ≤ q → A q := fun q h => by rw [← hAe]; exact Or.inr h
  have hS : va_S A s.heap s.heap [] := va_S.rf
  obtain ⟨H, hHe⟩ : ∃ H : Heap, H = s.heap := ⟨_, rfl⟩
  have hP : va_P (dC, dI) vwCl [(h0, .inr (3, [.null, .int 0]))] H := by rw [hHe]; exact hP
  have hS : va_S A s.heap H [] := by rw [hHe]; exact hS
  have hl := lv_entry ([.ref h0]) (n := 1) (Nat.le_of_ble_eq_true rfl)
  rw [lg_entry_eq, ← hHe]
  generalize (lg_sl ([.ref h0]) ++ List.replicate (1 - (lg_sl ([.ref h0])).length) Slot.unset).toArray = ls at hl ⊢
  have hl : lv_has ls 1 [(0, .ref h0)] := hl
  refine lv_aload_n hx hb dX1_init_0 rfl (lv_at hl 0 rfl) ?_
  refine W.objInit hx hb hown (hts _ kX1_init_0) (hts _ kX1_init_1) (hts _ kX1_init_2) rfl (by rw [hml]; exact hl.1) rfl dX1_init_1 (Nat.le_of_ble_eq_true rfl) (Nat.le_of_ble_eq_true rfl) ?_
  refine W.eq (g2 := F0 m 4 ls []) rfl ?_
  refine lv_aload_n hx hb dX1_init_4 rfl (lv_at hl 0 rfl) ?_
  refine lv_iconst (v := 4) hx hb dX1_init_5 (by decide) ?_
  refine va_newa (atype := .long) (ty := .long) (N' := 4) (a0 := (4, .inr (.inl (fun _ => 0)))) hx hb (hts _ kX1_init_3) rfl hK hP hD hS hA (fun _ => rfl) (by decide) rfl (Nat.le_of_ble_eq_true rfl) (Nat.le_of_ble_eq_true rfl) (Nat.le_of_ble_eq_true rfl) dX1_init_6 (fun q_1 y_2 H hK hP hD hS => ?_)
  have hK : va_K (dC, dI) vwCl [(y_2, .long)] s := hK
  have hP : va_P (dC, dI) vwCl [(h0, .inr (3, [.null, .int 0])), (q_1, .inl (y_2, 4, .inr (.inl (fun _ => 0))))] H := hP
  have hD : va_D A [(h0, .inr (3, [.null, .int 0])), (q_1, .inl (y_2, 4, .inr (.inl (fun _ => 0))))] := hD
  refine W.widen (k := 1) (n := 4) (Nat.le_of_ble_eq_true rfl) (Nat.le_of_ble_eq_true rfl) ?_
  refine va_putF (D := (dC, dI)) (ci := 3) (v := .ref q_1) (ty := .array .long) (C := RX1) (T := TX1) (N := 2) hx hb hts iX1_init_X1 tyX1 tyX1_ok nmX1 hown hK hP hD hS 0 rfl rfl 0 (by decide) (hts _ kX1_init_5) (fun _ h9 => h9) rfl hin rfl (by decide +kernel) rfl rfl (Nat.le_of_ble_eq_true rfl) dX1_init_8 (fun H locs hP hD hS => ?_)
  have hP : va_P (dC, dI) vwCl [(h0, .inr (3, [.ref q_1, .int 0])), (q_1, .inl (y_2, 4, .inr (.inl (fun _ => 0))))] H := hP
  have hD : va_D A [(h0, .inr (3, [.ref q_1, .int 0])), (q_1, .inl (y_2, 4, .inr (.inl (fun _ => 0))))] := hD
  have hP9 := hP.sub (ws' := []) [] rfl
  have hD9 := hD.sub (ws' := []) [] (by decide) rfl
  have hK9 := hK.sub (tys' := []) [] rfl
  refine W.widen (k := 1) (n := 4) (Nat.le_of_ble_eq_true rfl) (Nat.le_of_ble_eq_true rfl) ?_
  exact W.vret hx hb hr (fun t ht hW => ⟨⟨(), rfl, trivial, by rw [ht]; exact hP9, va_K.moved hW.alike hK9, hD9⟩, hS.F ht⟩) hS.2.2 dX1_init_11
def wm_X3_init : List Cond := .code yX3_init cX3_init 1 none :: ([.methodLink RX3 3 objectInit, .instanceMethod objectInit, .code objectInit ⟨#[0xb1]⟩ 1 none, .classLink RX3 9 RX1, .instantiable RX1 2, .initialized RX1, .instanceMethod yX1_init, .fieldLink RX3 12 "DrawStreams$Normals" "x" "LDrawStreams$Deviate;", .fieldLink RX3 18 "DrawStreams$Normals" "\x72" "LDrawStreams$Deviate;", .fieldLink RX3 21 "DrawStreams$Normals" "evenLink" "LDrawStreams$Deviate;", .fieldLink RX3 24 "DrawStreams$Normals" "oddLink" "LDrawStreams$Deviate;", .fieldLink RX3 27 "DrawStreams$Normals" "a" "LDrawStreams$Deviate;", .fieldLink RX3 30 "DrawStreams$Normals" "b" "LDrawStreams$Deviate;"] ++ wsX30 ++ wsX10 ++ wm_X1_init)
theorem gm_X3_init_X1_init : GoodIn wm_X3_init wm_X1_init := goodIn_of _ (by decide +kernel)
theorem kX3_init_0 : Cond.methodLink RX3 3 objectInit ∈ wm_X3_init := by decide +kernel
theorem kX3_init_1 : Cond.instanceMethod objectInit ∈ wm_X3_init := by decide +kernel
theorem kX3_init_2 : Cond.code objectInit ⟨#[0xb1]⟩ 1 none ∈ wm_X3_init := by decide +kernel
theorem iX3_init_X1 : ∀ w ∈ wsX10, w ∈ wm_X3_init := by decide +kernel
theorem kX3_init_4 : Cond.classLink RX3 9 RX1 ∈ wm_X3_init := by decide +kernel
theorem kX3_init_5 : Cond.instantiable RX1 2 ∈ wm_X3_init := by decide +kernel
theorem kX3_init_6 : Cond.initialized RX1 ∈ wm_X3_init := by decide +kernel
theorem kX3_init_7 : Cond.instanceMethod yX1_init ∈ wm_X3_init := by decide +kernel
theorem iX3_init_X3 : ∀ w ∈ wsX30, w ∈ wm_X3_init := by decide +kernel
theorem kX3_init_9 : Cond.fieldLink RX3 12 "DrawStreams$Normals" "x" "LDrawStreams$Deviate;" ∈ wm_X3_init := by decide +kernel
theorem kX3_init_10 : Cond.fieldLink RX3 18 "DrawStreams$Normals" "\x72" "LDrawStreams$Deviate;" ∈ wm_X3_init := by decide +kernel
theorem kX3_init_11 : Cond.fieldLink RX3 21 "DrawStreams$Normals" "evenLink" "LDrawStreams$Deviate;" ∈ wm_X3_init := by decide +kernel
theorem kX3_init_12 : Cond.fieldLink RX3 24 "DrawStreams$Normals" "oddLink" "LDrawStreams$Deviate;" ∈ wm_X3_init := by decide +kernel
theorem kX3_init_13 : Cond.fieldLink RX3 27 "DrawStreams$Normals" "a" "LDrawStreams$Deviate;" ∈ wm_X3_init := by decide +kernel
theorem kX3_init_14 : Cond.fieldLink RX3 30 "DrawStreams$Normals" "b" "LDrawStreams$Deviate;" ∈ wm_X3_init := by decide +kernel
set_option maxHeartbeats 4000000 in
set_option maxRecDepth 100000 in
theorem mt_X3_init (l : Launch) (dC : Nat → ClassId) (dI : Nat → Nat → Nat) (sz : Nat) (h0 : Nat)  : Met l yX3_init wm_X3_init ({ frames := 2, cells := 12, slots := 36, locals := 32 }) (va_Pc [.ref h0] (fun U => U.heap.size = sz ∧ va_P (dC, dI) vwCl [(h0, .inr (5, [.null, .null, .null, .null, .null, .null]))] U.heap ∧ va_K (dC, dI) vwCl [] U ∧ va_D (fun _ => True) [(h0, .inr (5, [.null, .null, .null, .null, .null, .null]))] ∧ va_Nw (.methodLinkNest RX3 11 yX1_init RX4) U)) (va_Qv (fun (u : Unit) => True) (fun (u : Unit) t => va_P (dC, dI) vwCl [] t.heap ∧ va_K (dC, dI) vwCl [] t ∧ va_D (va_A [(h0, .inr (5, [.null, .null, .null, .null, .null, .null]))] sz) []) (va_A [(h0, .inr (5, [.null, .null, .null, .null, .null, .null]))] sz)) 12 36 (va_A [(h0, .inr (5, [.null, .null, .null, .null, .null, .null]))] sz) := by
  refine Met.ofW (cc := cX3_init) (maxL := 1) (ret := none) (by decide) rfl ?_
  intro p e s m args below meth c s₁ B hml hv
  obtain ⟨rfl, hsz, hP, hK, hD0, hN11⟩ := hv
  have hx := B.exec
  have hb := B.bytes
  have hr := B.returns
  have hts := atoms_spec (ws := wm_X3_init) B.pre
  have hown : s.vm.findClass RX3 = some m.cls := findClass_of_methodNamed B.named
  have hlocks := B.notSynchronized
  have hin : meth.name = "<init>" := (name_of_methodNamed B.named B.method).1
  subst hsz
  have hD := hD0.self (sz := s.heap.size)
  generalize hAe : va_A [(h0, .inr (5, [.null, .null, .null, .null, .null, .null]))] s.heap.size = A at hD ⊢
  have hA : ∀ q : Nat, s.heap.size ≤ q → A q := fun q h => by rw [← hAe]; exact Or.inr h
  have hS : va_S A s.heap s.heap [] := va_S.rf
  obtain ⟨H, hHe⟩ : ∃ H : Heap, H = s.heap := ⟨_, rfl⟩
  have hP : va_P (dC, dI) vwCl [(h0, .inr (5, [.null, .null, .null, .null, .null, .null]))] H := by rw [hHe]; exact hP
  have hS : va_S A s.heap H [] := by rw [hHe]; exact hS
  have hl := lv_entry ([.ref h0]) (n := 1) (Nat.le_of_ble_eq_true rfl)
  rw [lg_entry_eq, ← hHe]
  generalize (lg_sl ([.ref h0]) ++ List.replicate (1 - (lg_sl ([.ref h0])).length) Slot.unset).toArray = ls at hl ⊢
  have hl : lv_has ls 1 [(0, .ref h0)] := hl
  refine lv_aload_n hx hb dX3_init_0 rfl (lv_at hl 0 rfl) ?_
  refine W.objInit hx hb hown (hts _ kX3_init_0) (hts _ kX3_init_1) (hts _ kX3_init_2) rfl (by rw [hml]; exact hl.1) rfl dX3_init_1 (Nat.le_of_ble_eq_true rfl) (Nat.le_of_ble_eq_true rfl) ?_
  refine W.eq (g2 := F0 m 4 ls []) rfl ?_
  refine lv_aload_n hx hb dX3_init_4 rfl (lv_at hl 0 rfl) ?_
  refine va_new (ci := 3) (fs := [.null, .int 0]) (C := RX1) (T := TX1) (N := 2) hx hb hts iX3_init_X1 tyX1 tyX1_ok hown (hts _ kX3_init_4) (hts _ kX3_init_5) (hts _ kX3_init_6) hK hP hD hS hA rfl (fun j hj => by rcases (show j = 0 ∨ j = 1 by omega) with rfl | rfl <;> rfl) (Nat.le_of_ble_eq_true rfl) (Nat.le_of_ble_eq_true rfl) dX3_init_5 (fun q_1 H hP hD hS => ?_)
  have hP : va_P (dC, dI) vwCl [(h0, .inr (5, [.null, .null, .null, .null, .null, .null])), (q_1, .inr (3, [.null, .int 0]))] H := hP
  have hD : va_D A [(h0, .inr (5, [.null, .null, .null, .null, .null, .null])), (q_1, .inr (3, [.null, .int 0]))] := hD
  refine W.widen (k := 1) (n := 2) (Nat.le_of_ble_eq_true rfl) (Nat.le_of_ble_eq_true rfl) ?_
  refine lv_dup hx hb dX3_init_8 rfl ?_
  have hPc := hP.sub (ws' := [(q_1, .inr (3, [.null, .int 0]))]) [1] rfl
  have hDc := hD.sub (ws' := [(q_1, .inr (3, [.null, .int 0]))]) [1] (by decide) rfl
  have hKc := hK.sub (tys' := []) [] rfl
  have hFc := va_free (wc := [(q_1, .inr (3, [.null, .int 0]))]) hD hS hA [1] rfl
  refine va_callv (va_runIN (As := []) (rest := [.ref q_1, .ref h0]) ⟨hx, hb, hml, hown, hts⟩ (mt_X1_init l dC dI H.size q_1) ⟨va_cnB 0 hts gm_X3_init_X1_init rfl rfl rfl hN11 (hts _ kX3_init_6) (by decide +kernel) ⟨Nat.le_of_ble_eq_true rfl, Nat.le_of_ble_eq_true rfl⟩, rfl, (hts _ kX3_init_7)⟩ ⟨fun a U g mk q => by obtain ⟨q0, q1, qP, qK, qD⟩ := q; exact ⟨q0, q1, qP, va_K.moved (u := U) (U := U.calling g mk a) (Vm.Alike.refl U.vm) qK, qD⟩, fun U hU hW => ⟨rfl, by rw [hU], by rw [hU]; exact hPc, va_K.moved hW.alike hKc, hDc.weaken (fun _ _ _ _ => trivial)⟩⟩ rfl rfl hl.1 rfl (lv_room (Nat.le_of_ble_eq_true rfl)) dX3_init_9 ⟨Nat.le_of_ble_eq_true rfl, Nat.le_of_ble_eq_true rfl⟩) hS (fun q _ h => hFc q h) hFc (fun u t H1 locs ht hvm hw hB hz1 hk1 hS => ?_)
  obtain ⟨hP1, hK1, hD1⟩ := hB
  rw [ht] at hP1
  have hK1 := va_K.moved hvm.symm hK1
  obtain ⟨hP, hD⟩ := va_join (wr := [(h0, .inr (5, [.null, .null, .null, .null, .null, .null]))]) (w1 := []) hP hD [1] [0] rfl rfl (by decide) (by decide) hk1 hFc hP1 hD1
  generalize H1 = H at hP hS ⊢
  have hP : va_P (dC, dI) vwCl [(h0, .inr (5, [.null, .null, .null, .null, .null, .null]))] H := hP
  have hD : va_D A [(h0, .inr (5, [.null, .null, .null, .null, .null, .null]))] := hD
  refine W.widen (k := 2) (n := 6) (Nat.le_of_ble_eq_true rfl) (Nat.le_of_ble_eq_true rfl) ?_
  refine va_putF (D := (dC, dI)) (ci := 5) (v := .ref q_1) (ty := .object "DrawStreams$Deviate") (C := RX3) (T := TX3) (N := 6) hx hb hts iX3_init_X3 tyX3 tyX3_ok nmX3 hown hK hP hD hS 0 rfl rfl 0 (by decide) (hts _ kX3_init_9) (fun _ h9 => h9) rfl hin rfl (by decide +kernel) rfl rfl (Nat.le_of_ble_eq_true rfl) dX3_init_12 (fun H locs hP hD hS => ?_)
  have hP : va_P (dC, dI) vwCl [(h0, .inr (5, [.ref q_1, .null, .null, .null, .null, .null]))] H := hP
  have hD : va_D A [(h0, .inr (5, [.ref q_1, .null, .null, .null, .null, .null]))] := hD
  refine lv_aload_n hx hb dX3_init_15 rfl (lv_at hl 0 rfl) ?_
  refine va_new (ci := 3) (fs := [.null, .int 0]) (C := RX1) (T := TX1) (N := 2) hx hb hts iX3_init_X1 tyX1 tyX1_ok hown (hts _ kX3_init_4) (hts _ kX3_init_5) (hts _ kX3_init_6) hK hP hD hS hA rfl (fun j hj => by rcases (show j = 0 ∨ j = 1 by omega) with rfl | rfl <;> rfl) (Nat.le_of_ble_eq_true rfl) (Nat.le_of_ble_eq_true rfl) dX3_init_16 (fun q_3 H hP hD hS => ?_)
  have hP : va_P (dC, dI) vwCl [(h0, .inr (5, [.ref q_1, .null, .null, .null, .null, .null])), (q_3, .inr (3, [.null, .int 0]))] H := hP
  have hD : va_D A [(h0, .inr (5, [.ref q_1, .null, .null, .null, .null, .null])), (q_3, .inr (3, [.null, .int 0]))] := hD
  refine W.widen (k := 3) (n := 8) (Nat.le_of_ble_eq_true rfl) (Nat.le_of_ble_eq_true rfl) ?_
  refine lv_dup hx hb dX3_init_19 rfl ?_
  have hPc := hP.sub (ws' := [(q_3, .inr (3, [.null, .int 0]))]) [1] rfl
  have hDc := hD.sub (ws' := [(q_3, .inr (3, [.null, .int 0]))]) [1] (by decide) rfl
  have hKc := hK.sub (tys' := []) [] rfl
  have hFc := va_free (wc := [(q_3, .inr (3, [.null, .int 0]))]) hD hS hA [1] rfl
  refine va_callv (va_runIN (As := []) (rest := [.ref q_3, .ref h0]) ⟨hx, hb, hml, hown, hts⟩ (mt_X1_init l dC dI H.size q_3) ⟨va_cnB 0 hts gm_X3_init_X1_init rfl rfl rfl hN11 (hts _ kX3_init_6) (by decide +kernel) ⟨Nat.le_of_ble_eq_true rfl, Nat.le_of_ble_eq_true rfl⟩, rfl, (hts _ kX3_init_7)⟩ ⟨fun a U g mk q => by obtain ⟨q0, q1, qP, qK, qD⟩ := q; exact ⟨q0, q1, qP, va_K.moved (u := U) (U := U.calling g mk a) (Vm.Alike.refl U.vm) qK, qD⟩, fun U hU hW => ⟨rfl, by rw [hU], by rw [hU]; exact hPc, va_K.moved hW.alike hKc, hDc.weaken (fun _ _ _ _ => trivial)⟩⟩ rfl rfl hl.1 rfl (lv_room (Nat.le_of_ble_eq_true rfl)) dX3_init_20 ⟨Nat.le_of_ble_eq_true rfl, Nat.le_of_ble_eq_true rfl⟩) hS (fun q _ h => hFc q h) hFc (fun u t H1 locs ht hvm hw hB hz1 hk1 hS => ?_)
  obtain ⟨hP1, hK1, hD1⟩ := hB
  rw [ht] at hP1
  have hK1 := va_K.moved hvm.symm hK1
  obtain ⟨hP, hD⟩ := va_join (wr := [(h0, .inr (5, [.ref q_1, .null, .null, .null, .null, .null]))]) (w1 := []) hP hD [1] [0] rfl rfl (by decide) (by decide) hk1 hFc hP1 hD1
  generalize H1 = H at hP hS ⊢
  have hP : va_P (dC, dI) vwCl [(h0, .inr (5, [.ref q_1, .null, .null, .null, .null, .null]))] H := hP
  have hD : va_D A [(h0, .inr (5, [.ref q_1, .null, .null, .null, .null, .null]))] := hD
  refine W.widen (k := 4) (n := 12) (Nat.le_of_ble_eq_true rfl) (Nat.le_of_ble_eq_true rfl) ?_
  refine va_putF (D := (dC, dI)) (ci := 5) (v := .ref q_3) (ty := .object "DrawStreams$Deviate") (C := RX3) (T := TX3) (N := 6) hx hb hts iX3_init_X3 tyX3 tyX3_ok nmX3 hown hK hP hD hS 0 rfl rfl 1 (by decide) (hts _ kX3_init_10) (fun _ h9 => h9) rfl hin rfl (by decide +kernel) rfl rfl (Nat.le_of_ble_eq_true rfl) dX3_init_23 (fun H locs hP hD hS => ?_)
  have hP : va_P (dC, dI) vwCl [(h0, .inr (5, [.ref q_1, .ref q_3, .null, .null, .null, .null]))] H := hP
  have hD : va_D A [(h0, .inr (5, [.ref q_1, .ref q_3, .null, .null, .null, .null]))] := hD
  refine lv_aload_n hx hb dX3_init_26 rfl (lv_at hl 0 rfl) ?_
  refine va_new (ci := 3) (fs := [.null, .int 0]) (C := RX1) (T := TX1) (N := 2) hx hb hts iX3_init_X1 tyX1 tyX1_ok hown (hts _ kX3_init_4) (hts _ kX3_init_5) (hts _ kX3_init_6) hK hP hD hS hA rfl (fun j hj => by rcases (show j = 0 ∨ j = 1 by omega) with rfl | rfl <;> rfl) (Nat.le_of_ble_eq_true rfl) (Nat.le_of_ble_eq_true rfl) dX3_init_27 (fun q_5 H hP hD hS => ?_)
  have hP : va_P (dC, dI) vwCl [(h0, .inr (5, [.ref q_1, .ref q_3, .null, .null, .null, .null])), (q_5, .inr (3, [.null, .int 0]))] H := hP
  have hD : va_D A [(h0, .inr (5, [.ref q_1, .ref q_3, .null, .null, .null, .null])), (q_5, .inr (3, [.null, .int 0]))] := hD
  refine W.widen (k := 5) (n := 14) (Nat.le_of_ble_eq_true rfl) (Nat.le_of_ble_eq_true rfl) ?_
  refine lv_dup hx hb dX3_init_30 rfl ?_
  have hPc := hP.sub (ws' := [(q_5, .inr (3, [.null, .int 0]))]) [1] rfl
  have hDc := hD.sub (ws' := [(q_5, .inr (3, [.null, .int 0]))]) [1] (by decide) rfl
  have hKc := hK.sub (tys' := []) [] rfl
  have hFc := va_free (wc := [(q_5, .inr (3, [.null, .int 0]))]) hD hS hA [1] rfl
  refine va_callv (va_runIN (As := []) (rest := [.ref q_5, .ref h0]) ⟨hx, hb, hml, hown, hts⟩ (mt_X1_init l dC dI H.size q_5) ⟨va_cnB 0 hts gm_X3_init_X1_init rfl rfl rfl hN11 (hts _ kX3_init_6) (by decide +kernel) ⟨Nat.le_of_ble_eq_true rfl, Nat.le_of_ble_eq_true rfl⟩, rfl, (hts _ kX3_init_7)⟩ ⟨fun a U g mk q => by obtain ⟨q0, q1, qP, qK, qD⟩ := q; exact ⟨q0, q1, qP, va_K.moved (u := U) (U := U.calling g mk a) (Vm.Alike.refl U.vm) qK, qD⟩, fun U hU hW => ⟨rfl, by rw [hU], by rw [hU]; exact hPc, va_K.moved hW.alike hKc, hDc.weaken (fun _ _ _ _ => trivial)⟩⟩ rfl rfl hl.1 rfl (lv_room (Nat.le_of_ble_eq_true rfl)) dX3_init_31 ⟨Nat.le_of_ble_eq_true rfl, Nat.le_of_ble_eq_true rfl⟩) hS (fun q _ h => hFc q h) hFc (fun u t H1 locs ht hvm hw hB hz1 hk1 hS => ?_)
  obtain ⟨hP1, hK1, hD1⟩ := hB
  rw [ht] at hP1
  have hK1 := va_K.moved hvm.symm hK1
  obtain ⟨hP, hD⟩ := va_join (wr := [(h0, .inr (5, [.ref q_1, .ref q_3, .null, .null, .null, .null]))]) (w1 := []) hP hD [1] [0] rfl rfl (by decide) (by decide) hk1 hFc hP1 hD1
  generalize H1 = H at hP hS ⊢
  have hP : va_P (dC, dI) vwCl [(h0, .inr (5, [.ref q_1, .ref q_3, .null, .null, .null, .null]))] H := hP
  have hD : va_D A [(h0, .inr (5, [.ref q_1, .ref q_3, .null, .null, .null, .null]))] := hD
  refine W.widen (k := 6) (n := 18) (Nat.le_of_ble_eq_true rfl) (Nat.le_of_ble_eq_true rfl) ?_
  refine va_putF (D := (dC, dI)) (ci := 5) (v := .ref q_5) (ty := .object "DrawStreams$Deviate") (C := RX3) (T := TX3) (N := 6) hx hb hts iX3_init_X3 tyX3 tyX3_ok nmX3 hown hK hP hD hS 0 rfl rfl 2 (by decide) (hts _ kX3_init_11) (fun _ h9 => h9) rfl hin rfl (by decide +kernel) rfl rfl (Nat.le_of_ble_eq_true rfl) dX3_init_34 (fun H locs hP hD hS => ?_)
  have hP : va_P (dC, dI) vwCl [(h0, .inr (5, [.ref q_1, .ref q_3, .ref q_5, .null, .null, .null]))] H := hP
  have hD : va_D A [(h0, .inr (5, [.ref q_1, .ref q_3, .ref q_5, .null, .null, .null]))] := hD
  refine lv_aload_n hx hb dX3_init_37 rfl (lv_at hl 0 rfl) ?_
  refine va_new (ci := 3) (fs := [.null, .int 0]) (C := RX1) (T := TX1) (N := 2) hx hb hts iX3_init_X1 tyX1 tyX1_ok hown (hts _ kX3_init_4) (hts _ kX3_init_5) (hts _ kX3_init_6) hK hP hD hS hA rfl (fun j hj => by rcases (show j = 0 ∨ j = 1 by omega) with rfl | rfl <;> rfl) (Nat.le_of_ble_eq_true rfl) (Nat.le_of_ble_eq_true rfl) dX3_init_38 (fun q_7 H hP hD hS => ?_)
  have hP : va_P (dC, dI) vwCl [(h0, .inr (5, [.ref q_1, .ref q_3, .ref q_5, .null, .null, .null])), (q_7, .inr (3, [.null, .int 0]))] H := hP
  have hD : va_D A [(h0, .inr (5, [.ref q_1, .ref q_3, .ref q_5, .null, .null, .null])), (q_7, .inr (3, [.null, .int 0]))] := hD
  refine W.widen (k := 7) (n := 20) (Nat.le_of_ble_eq_true rfl) (Nat.le_of_ble_eq_true rfl) ?_
  refine lv_dup hx hb dX3_init_41 rfl ?_
  have hPc := hP.sub (ws' := [(q_7, .inr (3, [.null, .int 0]))]) [1] rfl
  have hDc := hD.sub (ws' := [(q_7, .inr (3, [.null, .int 0]))]) [1] (by decide) rfl
  have hKc := hK.sub (tys' := []) [] rfl
  have hFc := va_free (wc := [(q_7, .inr (3, [.null, .int 0]))]) hD hS hA [1] rfl
  refine va_callv (va_runIN (As := []) (rest := [.ref q_7, .ref h0]) ⟨hx, hb, hml, hown, hts⟩ (mt_X1_init l dC dI H.size q_7) ⟨va_cnB 0 hts gm_X3_init_X1_init rfl rfl rfl hN11 (hts _ kX3_init_6) (by decide +kernel) ⟨Nat.le_of_ble_eq_true rfl, Nat.le_of_ble_eq_true rfl⟩, rfl, (hts _ kX3_init_7)⟩ ⟨fun a U g mk q => by obtain ⟨q0, q1, qP, qK, qD⟩ := q; exact ⟨q0, q1, qP, va_K.moved (u := U) (U := U.calling g mk a) (Vm.Alike.refl U.vm) qK, qD⟩, fun U hU hW => ⟨rfl, by rw [hU], by rw [hU]; exact hPc, va_K.moved hW.alike hKc, hDc.weaken (fun _ _ _ _ => trivial)⟩⟩ rfl rfl hl.1 rfl (lv_room (Nat.le_of_ble_eq_true rfl)) dX3_init_42 ⟨Nat.le_of_ble_eq_true rfl, Nat.le_of_ble_eq_true rfl⟩) hS (fun q _ h => hFc q h) hFc (fun u t H1 locs ht hvm hw hB hz1 hk1 hS => ?_)
  obtain ⟨hP1, hK1, hD1⟩ := hB
  rw [ht] at hP1
  have hK1 := va_K.moved hvm.symm hK1
  obtain ⟨hP, hD⟩ := va_join (wr := [(h0, .inr (5, [.ref q_1, .ref q_3, .ref q_5, .null, .null, .null]))]) (w1 := []) hP hD [1] [0] rfl rfl (by decide) (by decide) hk1 hFc hP1 hD1
  generalize H1 = H at hP hS ⊢
  have hP : va_P (dC, dI) vwCl [(h0, .inr (5, [.ref q_1, .ref q_3, .ref q_5, .null, .null, .null]))] H := hP
  have hD : va_D A [(h0, .inr (5, [.ref q_1, .ref q_3, .ref q_5, .null, .null, .null]))] := hD
  refine W.widen (k := 8) (n := 24) (Nat.le_of_ble_eq_true rfl) (Nat.le_of_ble_eq_true rfl) ?_
  refine va_putF (D := (dC, dI)) (ci := 5) (v := .ref q_7) (ty := .object "DrawStreams$Deviate") (C := RX3) (T := TX3) (N := 6) hx hb hts iX3_init_X3 tyX3 tyX3_ok nmX3 hown hK hP hD hS 0 rfl rfl 3 (by decide) (hts _ kX3_init_12) (fun _ h9 => h9) rfl hin rfl (by decide +kernel) rfl rfl (Nat.le_of_ble_eq_true rfl) dX3_init_45 (fun H locs hP hD hS => ?_)
  have hP : va_P (dC, dI) vwCl [(h0, .inr (5, [.ref q_1, .ref q_3, .ref q_5, .ref q_7, .null, .null]))] H := hP
  have hD : va_D A [(h0, .inr (5, [.ref q_1, .ref q_3, .ref q_5, .ref q_7, .null, .null]))] := hD
  refine lv_aload_n hx hb dX3_init_48 rfl (lv_at hl 0 rfl) ?_
  refine va_new (ci := 3) (fs := [.null, .int 0]) (C := RX1) (T := TX1) (N := 2) hx hb hts iX3_init_X1 tyX1 tyX1_ok hown (hts _ kX3_init_4) (hts _ kX3_init_5) (hts _ kX3_init_6) hK hP hD hS hA rfl (fun j hj => by rcases (show j = 0 ∨ j = 1 by omega) with rfl | rfl <;> rfl) (Nat.le_of_ble_eq_true rfl) (Nat.le_of_ble_eq_true rfl) dX3_init_49 (fun q_9 H hP hD hS => ?_)
  have hP : va_P (dC, dI) vwCl [(h0, .inr (5, [.ref q_1, .ref q_3, .ref q_5, .ref q_7, .null, .null])), (q_9, .inr (3, [.null, .int 0]))] H := hP
  have hD : va_D A [(h0, .inr (5, [.ref q_1, .ref q_3, .ref q_5, .ref q_7, .null, .null])), (q_9, .inr (3, [.null, .int 0]))] := hD
  refine W.widen (k := 9) (n := 26) (Nat.le_of_ble_eq_true rfl) (Nat.le_of_ble_eq_true rfl) ?_
  refine lv_dup hx hb dX3_init_52 rfl ?_
  have hPc := hP.sub (ws' := [(q_9, .inr (3, [.null, .int 0]))]) [1] rfl
  have hDc := hD.sub (ws' := [(q_9, .inr (3, [.null, .int 0]))]) [1] (by decide) rfl
  have hKc := hK.sub (tys' := []) [] rfl
  have hFc := va_free (wc := [(q_9, .inr (3, [.null, .int 0]))]) hD hS hA [1] rfl
  refine va_callv (va_runIN (As := []) (rest := [.ref q_9, .ref h0]) ⟨hx, hb, hml, hown, hts⟩ (mt_X1_init l dC dI H.size q_9) ⟨va_cnB 0 hts gm_X3_init_X1_init rfl rfl rfl hN11 (hts _ kX3_init_6) (by decide +kernel) ⟨Nat.le_of_ble_eq_true rfl, Nat.le_of_ble_eq_true rfl⟩, rfl, (hts _ kX3_init_7)⟩ ⟨fun a U g mk q => by obtain ⟨q0, q1, qP, qK, qD⟩ := q; exact ⟨q0, q1, qP, va_K.moved (u := U) (U := U.calling g mk a) (Vm.Alike.refl U.vm) qK, qD⟩, fun U hU hW => ⟨rfl, by rw [hU], by rw [hU]; exact hPc, va_K.moved hW.alike hKc, hDc.weaken (fun _ _ _ _ => trivial)⟩⟩ rfl rfl hl.1 rfl (lv_room (Nat.le_of_ble_eq_true rfl)) dX3_init_53 ⟨Nat.le_of_ble_eq_true rfl, Nat.le_of_ble_eq_true rfl⟩) hS (fun q _ h => hFc q h) hFc (fun u t H1 locs ht hvm hw hB hz1 hk1 hS => ?_)
  obtain ⟨hP1, hK1, hD1⟩ := hB
  rw [ht] at hP1
  have hK1 := va_K.moved hvm.symm hK1
  obtain ⟨hP, hD⟩ := va_join (wr := [(h0, .inr (5, [.ref q_1, .ref q_3, .ref q_5, .ref q_7, .null, .null]))]) (w1 := []) hP hD [1] [0] rfl rfl (by decide) (by decide) hk1 hFc hP1 hD1
  generalize H1 = H at hP hS ⊢
  have hP : va_P (dC, dI) vwCl [(h0, .inr (5, [.ref q_1, .ref q_3, .ref q_5, .ref q_7, .null, .null]))] H := hP
  have hD : va_D A [(h0, .inr (5, [.ref q_1, .ref q_3, .ref q_5, .ref q_7, .null, .null]))] := hD
  refine W.widen (k := 10) (n := 30) (Nat.le_of_ble_eq_true rfl) (Nat.le_of_ble_eq_true rfl) ?_
  refine va_putF (D := (dC, dI)) (ci := 5) (v := .ref q_9) (ty := .object "DrawStreams$Deviate") (C := RX3) (T := TX3) (N := 6) hx hb hts iX3_init_X3 tyX3 tyX3_ok nmX3 hown hK hP hD hS 0 rfl rfl 4 (by decide) (hts _ kX3_init_13) (fun _ h9 => h9) rfl hin rfl (by decide +kernel) rfl rfl (Nat.le_of_ble_eq_true rfl) dX3_init_56 (fun H locs hP hD hS => ?_)
  have hP : va_P (dC, dI) vwCl [(h0, .inr (5, [.ref q_1, .ref q_3, .ref q_5, .ref q_7, .ref q_9, .null]))] H := hP
  have hD : va_D A [(h0, .inr (5, [.ref q_1, .ref q_3, .ref q_5, .ref q_7, .ref q_9, .null]))] := hD
  refine lv_aload_n hx hb dX3_init_59 rfl (lv_at hl 0 rfl) ?_
  refine va_new (ci := 3) (fs := [.null, .int 0]) (C := RX1) (T := TX1) (N := 2) hx hb hts iX3_init_X1 tyX1 tyX1_ok hown (hts _ kX3_init_4) (hts _ kX3_init_5) (hts _ kX3_init_6) hK hP hD hS hA rfl (fun j hj => by rcases (show j = 0 ∨ j = 1 by omega) with rfl | rfl <;> rfl) (Nat.le_of_ble_eq_true rfl) (Nat.le_of_ble_eq_true rfl) dX3_init_60 (fun q_11 H hP hD hS => ?_)
  have hP : va_P (dC, dI) vwCl [(h0, .inr (5, [.ref q_1, .ref q_3, .ref q_5, .ref q_7, .ref q_9, .null])), (q_11, .inr (3, [.null, .int 0]))] H := hP
  have hD : va_D A [(h0, .inr (5, [.ref q_1, .ref q_3, .ref q_5, .ref q_7, .ref q_9, .null])), (q_11, .inr (3, [.null, .int 0]))] := hD
  refine W.widen (k := 11) (n := 32) (Nat.le_of_ble_eq_true rfl) (Nat.le_of_ble_eq_true rfl) ?_
  refine lv_dup hx hb dX3_init_63 rfl ?_
  have hPc := hP.sub (ws' := [(q_11, .inr (3, [.null, .int 0]))]) [1] rfl
  have hDc := hD.sub (ws' := [(q_11, .inr (3, [.null, .int 0]))]) [1] (by decide) rfl
  have hKc := hK.sub (tys' := []) [] rfl
  have hFc := va_free (wc := [(q_11, .inr (3, [.null, .int 0]))]) hD hS hA [1] rfl
  refine va_callv (va_runIN (As := []) (rest := [.ref q_11, .ref h0]) ⟨hx, hb, hml, hown, hts⟩ (mt_X1_init l dC dI H.size q_11) ⟨va_cnB 0 hts gm_X3_init_X1_init rfl rfl rfl hN11 (hts _ kX3_init_6) (by decide +kernel) ⟨Nat.le_of_ble_eq_true rfl, Nat.le_of_ble_eq_true rfl⟩, rfl, (hts _ kX3_init_7)⟩ ⟨fun a U g mk q => by obtain ⟨q0, q1, qP, qK, qD⟩ := q; exact ⟨q0, q1, qP, va_K.moved (u := U) (U := U.calling g mk a) (Vm.Alike.refl U.vm) qK, qD⟩, fun U hU hW => ⟨rfl, by rw [hU], by rw [hU]; exact hPc, va_K.moved hW.alike hKc, hDc.weaken (fun _ _ _ _ => trivial)⟩⟩ rfl rfl hl.1 rfl (lv_room (Nat.le_of_ble_eq_true rfl)) dX3_init_64 ⟨Nat.le_of_ble_eq_true rfl, Nat.le_of_ble_eq_true rfl⟩) hS (fun q _ h => hFc q h) hFc (fun u t H1 locs ht hvm hw hB hz1 hk1 hS => ?_)
  obtain ⟨hP1, hK1, hD1⟩ := hB
  rw [ht] at hP1
  have hK1 := va_K.moved hvm.symm hK1
  obtain ⟨hP, hD⟩ := va_join (wr := [(h0, .inr (5, [.ref q_1, .ref q_3, .ref q_5, .ref q_7, .ref q_9, .null]))]) (w1 := []) hP hD [1] [0] rfl rfl (by decide) (by decide) hk1 hFc hP1 hD1
  generalize H1 = H at hP hS ⊢
  have hP : va_P (dC, dI) vwCl [(h0, .inr (5, [.ref q_1, .ref q_3, .ref q_5, .ref q_7, .ref q_9, .null]))] H := hP
  have hD : va_D A [(h0, .inr (5, [.ref q_1, .ref q_3, .ref q_5, .ref q_7, .ref q_9, .null]))] := hD
  refine W.widen (k := 12) (n := 36) (Nat.le_of_ble_eq_true rfl) (Nat.le_of_ble_eq_true rfl) ?_
  refine va_putF (D := (dC, dI)) (ci := 5) (v := .ref q_11) (ty := .object "DrawStreams$Deviate") (C := RX3) (T := TX3) (N := 6) hx hb hts iX3_init_X3 tyX3 tyX3_ok nmX3 hown hK hP hD hS 0 rfl rfl 5 (by decide) (hts _ kX3_init_14) (fun _ h9 => h9) rfl hin rfl (by decide +kernel) rfl rfl (Nat.le_of_ble_eq_true rfl) dX3_init_67 (fun H locs hP hD hS => ?_)
  have hP : va_P (dC, dI) vwCl [(h0, .inr (5, [.ref q_1, .ref q_3, .ref q_5, .ref q_7, .ref q_9, .ref q_11]))] H := hP
  have hD : va_D A [(h0, .inr (5, [.ref q_1, .ref q_3, .ref q_5, .ref q_7, .ref q_9, .ref q_11]))] := hD
  have hP9 := hP.sub (ws' := []) [] rfl
  have hD9 := hD.sub (ws' := []) [] (by decide) rfl
  have hK9 := hK.sub (tys' := []) [] rfl
  refine W.widen (k := 12) (n := 36) (Nat.le_of_ble_eq_true rfl) (Nat.le_of_ble_eq_true rfl) ?_
  exact W.vret hx hb hr (fun t ht hW => ⟨⟨(), rfl, trivial, by rw [ht]; exact hP9, va_K.moved hW.alike hK9, hD9⟩, hS.F ht⟩) hS.2.2 dX3_init_70
def wm_X4_init : List Cond := .code yX4_init cX4_init 1 none :: ([.methodLink RX4 1 objectInit, .instanceMethod objectInit, .code objectInit ⟨#[0xb1]⟩ 1 none, .classLink RX4 7 RX0, .instantiable RX0 8, .initialized RX0, .instanceMethod yX0_init, .fieldLink RX4 10 "DrawStreams" "block" "LDrawStreams$Block;", .classLink RX4 16 RX3, .instantiable RX3 6, .initialized RX3, .instanceMethod yX3_init, .fieldLink RX4 19 "DrawStreams" "normals" "LDrawStreams$Normals;", .arrayClass .long, .fieldLink RX4 23 "DrawStreams" "keys" "[J", .classLink RX4 27 RX2, .fieldLink RX4 29 "DrawStreams" "drawers" "[LDrawStreams$Drawer;", .arrayClass .int, .fieldLink RX4 33 "DrawStreams" "row" "[I", .fieldLink RX4 37 "DrawStreams" "weights" "[J"] ++ wsX30 ++ wsX40 ++ wsX00 ++ wm_X0_init ++ wm_X3_init)
theorem gm_X4_init_X0_init : GoodIn wm_X4_init wm_X0_init := goodIn_of _ (by decide +kernel)
theorem gm_X4_init_X3_init : GoodIn wm_X4_init wm_X3_init := goodIn_of _ (by decide +kernel)
theorem kX4_init_0 : Cond.methodLink RX4 1 objectInit ∈ wm_X4_init := by decide +kernel
theorem kX4_init_1 : Cond.instanceMethod objectInit ∈ wm_X4_init := by decide +kernel
theorem kX4_init_2 : Cond.code objectInit ⟨#[0xb1]⟩ 1 none ∈ wm_X4_init := by decide +kernel
theorem iX4_init_X0 : ∀ w ∈ wsX00, w ∈ wm_X4_init := by decide +kernel
theorem kX4_init_4 : Cond.classLink RX4 7 RX0 ∈ wm_X4_init := by decide +kernel
theorem kX4_init_5 : Cond.instantiable RX0 8 ∈ wm_X4_init := by decide +kernel
theorem kX4_init_6 : Cond.initialized RX0 ∈ wm_X4_init := by decide +kernel
theorem kX4_init_7 : Cond.instanceMethod yX0_init ∈ wm_X4_init := by decide +kernel
theorem iX4_init_X4 : ∀ w ∈ wsX40, w ∈ wm_X4_init := by decide +kernel
theorem kX4_init_9 : Cond.fieldLink RX4 10 "DrawStreams" "block" "LDrawStreams$Block;" ∈ wm_X4_init := by decide +kernel
theorem iX4_init_X3 : ∀ w ∈ wsX30, w ∈ wm_X4_init := by decide +kernel
theorem kX4_init_11 : Cond.classLink RX4 16 RX3 ∈ wm_X4_init := by decide +kernel
theorem kX4_init_12 : Cond.instantiable RX3 6 ∈ wm_X4_init := by decide +kernel
theorem kX4_init_13 : Cond.initialized RX3 ∈ wm_X4_init := by decide +kernel
theorem kX4_init_14 : Cond.instanceMethod yX3_init ∈ wm_X4_init := by decide +kernel
theorem kX4_init_15 : Cond.fieldLink RX4 19 "DrawStreams" "normals" "LDrawStreams$Normals;" ∈ wm_X4_init := by decide +kernel
theorem kX4_init_16 : Cond.arrayClass .long ∈ wm_X4_init := by decide +kernel
theorem kX4_init_17 : Cond.fieldLink RX4 23 "DrawStreams" "keys" "[J" ∈ wm_X4_init := by decide +kernel
theorem kX4_init_18 : Cond.classLink RX4 27 RX2 ∈ wm_X4_init := by decide +kernel
theorem kX4_init_19 : Cond.fieldLink RX4 29 "DrawStreams" "drawers" "[LDrawStreams$Drawer;" ∈ wm_X4_init := by decide +kernel
theorem kX4_init_20 : Cond.arrayClass .int ∈ wm_X4_init := by decide +kernel
theorem kX4_init_21 : Cond.fieldLink RX4 33 "DrawStreams" "row" "[I" ∈ wm_X4_init := by decide +kernel
theorem kX4_init_22 : Cond.fieldLink RX4 37 "DrawStreams" "weights" "[J" ∈ wm_X4_init := by decide +kernel
set_option maxHeartbeats 4000000 in
set_option maxRecDepth 100000 in
theorem mt_X4_init (l : Launch) (dC : Nat → ClassId) (dI : Nat → Nat → Nat) (sz : Nat) (h0 : Nat)  : Met l yX4_init wm_X4_init ({ frames := 3, cells := 18, slots := 310, locals := 52 }) (va_Pc [.ref h0] (fun U => U.heap.size = sz ∧ va_P (dC, dI) vwCl [(h0, .inr (6, [.null, .null, .null, .int 0, .null, .int 0, .null, .int 0, .null]))] U.heap ∧ va_K (dC, dI) vwCl [] U ∧ va_D (fun _ => True) [(h0, .inr (6, [.null, .null, .null, .int 0, .null, .int 0, .null, .int 0, .null]))] ∧ va_Nw (.methodLinkNest RX4 9 yX0_init RX4) U ∧ va_Nw (.methodLinkNest RX4 18 yX3_init RX4) U ∧ va_Nw (.methodLinkNest RX3 11 yX1_init RX4) U ∧ va_AO RX2 U)) (va_Qv (fun (u : Nat × Nat × Nat × Nat × Nat × Nat × ClassId × ClassId) => True) (fun (u : Nat × Nat × Nat × Nat × Nat × Nat × ClassId × ClassId) t => match u with | (a0, a1, a2, a4, a6, a8, y2, y8) => va_P (dC, dI) vwCl [(h0, .inr (6, [.ref a0, .ref a1, .ref a2, .int 0, .ref a4, .int 0, .ref a6, .int 0, .ref a8])), (a2, .inl (y2, 16, .inr (.inl (fun _ => 0)))), (a8, .inl (y8, 32, .inr (.inl (fun _ => 0))))] t.heap ∧ va_K (dC, dI) vwCl [(y2, .long), (y8, .long)] t ∧ va_D (va_A [(h0, .inr (6, [.null, .null, .null, .int 0, .null, .int 0, .null, .int 0, .null]))] sz) [(h0, .inr (6, [.ref a0, .ref a1, .ref a2, .int 0, .ref a4, .int 0, .ref a6, .int 0, .ref a8])), (a2, .inl (y2, 16, .inr (.inl (fun _ => 0)))), (a8, .inl (y8, 32, .inr (.inl (fun _ => 0))))]) (va_A [(h0, .inr (6, [.null, .null, .null, .int 0, .null, .int 0, .null, .int 0, .null]))] sz)) 18 310 (va_A [(h0, .inr (6, [.null, .null, .null, .int 0, .null, .int 0, .null, .int 0, .null]))] sz) := by
  refine Met.ofW (cc := cX4_init) (maxL := 1) (ret := none) (by decide) rfl ?_
  intro p e s m args below meth c s₁ B hml hv
  obtain ⟨rfl, hsz, hP, hK, hD0, hN9, hN18, hN11, hAO⟩ := hv
  have hx := B.exec
  have hb := B.bytes
  have hr := B.returns
  have hts := atoms_spec (ws := wm_X4_init) B.pre
  have hown : s.vm.findClass RX4 = some m.cls := findClass_of_methodNamed B.named
  have hlocks := B.notSynchronized
  have hin : meth.name = "<init>" := (name_of_methodNamed B.named B.method).1
  subst hsz
  have hD := hD0.self (sz := s.heap.size)
  generalize hAe : va_A [(h0, .inr (6, [.null, .null, .null, .int 0, .null, .int 0, .null, .int 0, .null]))] s.heap.size = A at hD ⊢
  have hA : ∀ q : Nat, s.heap.size ≤ q → A q := fun q h => by rw [← hAe]; exact Or.inr h
  have hS : va_S A s.heap s.heap [] := va_S.rf
  obtain ⟨H, hHe⟩ : ∃ H : Heap, H = s.heap := ⟨_, rfl⟩
  have hP : va_P (dC, dI) vwCl [(h0, .inr (6, [.null, .null, .null, .int 0, .null, .int 0, .null, .int 0, .null]))] H := by rw [hHe]; exact hP
  have hS : va_S A s.heap H [] := by rw [hHe]; exact hS
  have hl := lv_entry ([.ref h0]) (n := 1) (Nat.le_of_ble_eq_true rfl)
  rw [lg_entry_eq, ← hHe]
  generalize (lg_sl ([.ref h0]) ++ List.replicate (1 - (lg_sl ([.ref h0])).length) Slot.unset).toArray = ls at hl ⊢
  have hl : lv_has ls 1 [(0, .ref h0)] := hl
  refine lv_aload_n hx hb dX4_init_0 rfl (lv_at hl 0 rfl) ?_
  refine W.objInit hx hb hown (hts _ kX4_init_0) (hts _ kX4_init_1) (hts _ kX4_init_2) rfl (by rw [hml]; exact hl.1) rfl dX4_init_1 (Nat.le_of_ble_eq_true rfl) (Nat.le_of_ble_eq_true rfl) ?_
  refine W.eq (g2 := F0 m 4 ls []) rfl ?_
  refine lv_aload_n hx hb dX4_init_4 rfl (lv_at hl 0 rfl) ?_
  refine va_new (ci := 2) (fs := [.long 0, .long 0, .long 0, .long 0, .long 0, .long 0, .int 0, .int 0]) (C := RX0) (T := TX0) (N := 8) hx hb hts iX4_init_X0 tyX0 tyX0_ok hown (hts _ kX4_init_4) (hts _ kX4_init_5) (hts _ kX4_init_6) hK hP hD hS hA rfl (fun j hj => by rcases (show j = 0 ∨ j = 1 ∨ j = 2 ∨ j = 3 ∨ j = 4 ∨ j = 5 ∨ j = 6 ∨ j = 7 by omega) with rfl | rfl | rfl | rfl | rfl | rfl | rfl | rfl <;> rfl) (Nat.le_of_ble_eq_true rfl) (Nat.le_of_ble_eq_true rfl) dX4_init_5 (fun q_1 H hP hD hS => ?_)
  have hP : va_P (dC, dI) vwCl [(h0, .inr (6, [.null, .null, .null, .int 0, .null, .int 0, .null, .int 0, .null])), (q_1, .inr (2, [.long 0, .long 0, .long 0, .long 0, .long 0, .long 0, .int 0, .int 0]))] H := hP
  have hD : va_D A [(h0, .inr (6, [.null, .null, .null, .int 0, .null, .int 0, .null, .int 0, .null])), (q_1, .inr (2, [.long 0, .long 0, .long 0, .long 0, .long 0, .long 0, .int 0, .int 0]))] := hD
  refine W.widen (k := 1) (n := 8) (Nat.le_of_ble_eq_true rfl) (Nat.le_of_ble_eq_true rfl) ?_
  refine lv_dup hx hb dX4_init_8 rfl ?_
  have hPc := hP.sub (ws' := [(q_1, .inr (2, [.long 0, .long 0, .long 0, .long 0, .long 0, .long 0, .int 0, .int 0]))]) [1] rfl
  have hDc := hD.sub (ws' := [(q_1, .inr (2, [.long 0, .long 0, .long 0, .long 0, .long 0, .long 0, .int 0, .int 0]))]) [1] (by decide) rfl
  have hKc := hK.sub (tys' := []) [] rfl
  have hFc := va_free (wc := [(q_1, .inr (2, [.long 0, .long 0, .long 0, .long 0, .long 0, .long 0, .int 0, .int 0]))]) hD hS hA [1] rfl
  refine va_callv (va_runIN (As := []) (rest := [.ref q_1, .ref h0]) ⟨hx, hb, hml, hown, hts⟩ (mt_X0_init l dC dI H.size q_1) ⟨va_cnB 0 hts gm_X4_init_X0_init rfl rfl rfl hN9 (hts _ kX4_init_6) (by decide +kernel) ⟨Nat.le_of_ble_eq_true rfl, Nat.le_of_ble_eq_true rfl⟩, rfl, (hts _ kX4_init_7)⟩ ⟨fun a U g mk q => by obtain ⟨q0, q1, qP, qK, qD⟩ := q; exact ⟨q0, q1, qP, va_K.moved (u := U) (U := U.calling g mk a) (Vm.Alike.refl U.vm) qK, qD⟩, fun U hU hW => ⟨rfl, by rw [hU], by rw [hU]; exact hPc, va_K.moved hW.alike hKc, hDc.weaken (fun _ _ _ _ => trivial)⟩⟩ rfl rfl hl.1 rfl (lv_room (Nat.le_of_ble_eq_true rfl)) dX4_init_9 ⟨Nat.le_of_ble_eq_true rfl, Nat.le_of_ble_eq_true rfl⟩) hS (fun q _ h => hFc q h) hFc (fun u t H1 locs ht hvm hw hB hz1 hk1 hS => ?_)
  obtain ⟨hP1, hK1, hD1⟩ := hB
  rw [ht] at hP1
  have hK1 := va_K.moved hvm.symm hK1
  obtain ⟨hP, hD⟩ := va_join (wr := [(h0, .inr (6, [.null, .null, .null, .int 0, .null, .int 0, .null, .int 0, .null]))]) (w1 := []) hP hD [1] [0] rfl rfl (by decide) (by decide) hk1 hFc hP1 hD1
  generalize H1 = H at hP hS ⊢
  have hP : va_P (dC, dI) vwCl [(h0, .inr (6, [.null, .null, .null, .int 0, .null, .int 0, .null, .int 0, .null]))] H := hP
  have hD : va_D A [(h0, .inr (6, [.null, .null, .null, .int 0, .null, .int 0, .null, .int 0, .null]))] := hD
  refine va_putF (D := (dC, dI)) (ci := 6) (v := .ref q_1) (ty := .object "DrawStreams$Block") (C := RX4) (T := TX4) (N := 9) hx hb hts iX4_init_X4 tyX4 tyX4_ok nmX4 hown hK hP hD hS 0 rfl rfl 0 (by decide) (hts _ kX4_init_9) (fun _ h9 => h9) rfl hin rfl (by decide +kernel) rfl rfl (Nat.le_of_ble_eq_true rfl) dX4_init_12 (fun H locs hP hD hS => ?_)
  have hP : va_P (dC, dI) vwCl [(h0, .inr (6, [.ref q_1, .null, .null, .int 0, .null, .int 0, .null, .int 0, .null]))] H := hP
  have hD : va_D A [(h0, .inr (6, [.ref q_1, .null, .null, .int 0, .null, .int 0, .null, .int 0, .null]))] := hD
  refine lv_aload_n hx hb dX4_init_15 rfl (lv_at hl 0 rfl) ?_
  refine va_new (ci := 5) (fs := [.null, .null, .null, .null, .null, .null]) (C := RX3) (T := TX3) (N := 6) hx hb hts iX4_init_X3 tyX3 tyX3_ok hown (hts _ kX4_init_11) (hts _ kX4_init_12) (hts _ kX4_init_13) hK hP hD hS hA rfl (fun j hj => by rcases (show j = 0 ∨ j = 1 ∨ j = 2 ∨ j = 3 ∨ j = 4 ∨ j = 5 by omega) with rfl | rfl | rfl | rfl | rfl | rfl <;> rfl) (Nat.le_of_ble_eq_true rfl) (Nat.le_of_ble_eq_true rfl) dX4_init_16 (fun q_3 H hP hD hS => ?_)
  have hP : va_P (dC, dI) vwCl [(h0, .inr (6, [.ref q_1, .null, .null, .int 0, .null, .int 0, .null, .int 0, .null])), (q_3, .inr (5, [.null, .null, .null, .null, .null, .null]))] H := hP
  have hD : va_D A [(h0, .inr (6, [.ref q_1, .null, .null, .int 0, .null, .int 0, .null, .int 0, .null])), (q_3, .inr (5, [.null, .null, .null, .null, .null, .null]))] := hD
  refine W.widen (k := 2) (n := 14) (Nat.le_of_ble_eq_true rfl) (Nat.le_of_ble_eq_true rfl) ?_
  refine lv_dup hx hb dX4_init_19 rfl ?_
  have hPc := hP.sub (ws' := [(q_3, .inr (5, [.null, .null, .null, .null, .null, .null]))]) [1] rfl
  have hDc := hD.sub (ws' := [(q_3, .inr (5, [.null, .null, .null, .null, .null, .null]))]) [1] (by decide) rfl
  have hKc := hK.sub (tys' := []) [] rfl
  have hFc := va_free (wc := [(q_3, .inr (5, [.null, .null, .null, .null, .null, .null]))]) hD hS hA [1] rfl
  refine va_callv (va_runIN (As := []) (rest := [.ref q_3, .ref h0]) ⟨hx, hb, hml, hown, hts⟩ (mt_X3_init l dC dI H.size q_3) ⟨va_cnB 0 hts gm_X4_init_X3_init rfl rfl rfl hN18 (hts _ kX4_init_13) (by decide +kernel) ⟨Nat.le_of_ble_eq_true rfl, Nat.le_of_ble_eq_true rfl⟩, rfl, (hts _ kX4_init_14)⟩ ⟨fun a U g mk q => by obtain ⟨q0, q1, qP, qK, qD, e0⟩ := q; exact ⟨q0, q1, qP, va_K.moved (u := U) (U := U.calling g mk a) (Vm.Alike.refl U.vm) qK, qD, va_Nw.same rfl rfl e0⟩, fun U hU hW => ⟨rfl, by rw [hU], by rw [hU]; exact hPc, va_K.moved hW.alike hKc, hDc.weaken (fun _ _ _ _ => trivial), va_Nw.warmM hW hN11⟩⟩ rfl rfl hl.1 rfl (lv_room (Nat.le_of_ble_eq_true rfl)) dX4_init_20 ⟨Nat.le_of_ble_eq_true rfl, Nat.le_of_ble_eq_true rfl⟩) hS (fun q _ h => hFc q h) hFc (fun u t H1 locs ht hvm hw hB hz1 hk1 hS => ?_)
  obtain ⟨hP1, hK1, hD1⟩ := hB
  rw [ht] at hP1
  have hK1 := va_K.moved hvm.symm hK1
  obtain ⟨hP, hD⟩ := va_join (wr := [(h0, .inr (6, [.ref q_1, .null, .null, .int 0, .null, .int 0, .null, .int 0, .null]))]) (w1 := []) hP hD [1] [0] rfl rfl (by decide) (by decide) hk1 hFc hP1 hD1
  generalize H1 = H at hP hS ⊢
  have hP : va_P (dC, dI) vwCl [(h0, .inr (6, [.ref q_1, .null, .null, .int 0, .null, .int 0, .null, .int 0, .null]))] H := hP
  have hD : va_D A [(h0, .inr (6, [.ref q_1, .null, .null, .int 0, .null, .int 0, .null, .int 0, .null]))] := hD
  refine W.widen (k := 14) (n := 50) (Nat.le_of_ble_eq_true rfl) (Nat.le_of_ble_eq_true rfl) ?_
  refine va_putF (D := (dC, dI)) (ci := 6) (v := .ref q_3) (ty := .object "DrawStreams$Normals") (C := RX4) (T := TX4) (N := 9) hx hb hts iX4_init_X4 tyX4 tyX4_ok nmX4 hown hK hP hD hS 0 rfl rfl 1 (by decide) (hts _ kX4_init_15) (fun _ h9 => h9) rfl hin rfl (by decide +kernel) rfl rfl (Nat.le_of_ble_eq_true rfl) dX4_init_23 (fun H locs hP hD hS => ?_)
  have hP : va_P (dC, dI) vwCl [(h0, .inr (6, [.ref q_1, .ref q_3, .null, .int 0, .null, .int 0, .null, .int 0, .null]))] H := hP
  have hD : va_D A [(h0, .inr (6, [.ref q_1, .ref q_3, .null, .int 0, .null, .int 0, .null, .int 0, .null]))] := hD
  refine lv_aload_n hx hb dX4_init_26 rfl (lv_at hl 0 rfl) ?_
  refine lv_bipush (v := 16) hx hb dX4_init_27 (by decide) ?_
  refine va_newa (atype := .long) (ty := .long) (N' := 16) (a0 := (16, .inr (.inl (fun _ => 0)))) hx hb (hts _ kX4_init_16) rfl hK hP hD hS hA (fun _ => rfl) (by decide) rfl (Nat.le_of_ble_eq_true rfl) (Nat.le_of_ble_eq_true rfl) (Nat.le_of_ble_eq_true rfl) dX4_init_29 (fun q_5 y_6 H hK hP hD hS => ?_)
  have hK : va_K (dC, dI) vwCl [(y_6, .long)] s := hK
  have hP : va_P (dC, dI) vwCl [(h0, .inr (6, [.ref q_1, .ref q_3, .null, .int 0, .null, .int 0, .null, .int 0, .null])), (q_5, .inl (y_6, 16, .inr (.inl (fun _ => 0))))] H := hP
  have hD : va_D A [(h0, .inr (6, [.ref q_1, .ref q_3, .null, .int 0, .null, .int 0, .null, .int 0, .null])), (q_5, .inl (y_6, 16, .inr (.inl (fun _ => 0))))] := hD
  refine W.widen (k := 15) (n := 66) (Nat.le_of_ble_eq_true rfl) (Nat.le_of_ble_eq_true rfl) ?_
  refine va_putF (D := (dC, dI)) (ci := 6) (v := .ref q_5) (ty := .array .long) (C := RX4) (T := TX4) (N := 9) hx hb hts iX4_init_X4 tyX4 tyX4_ok nmX4 hown hK hP hD hS 0 rfl rfl 2 (by decide) (hts _ kX4_init_17) (fun _ h9 => h9) rfl hin rfl (by decide +kernel) rfl rfl (Nat.le_of_ble_eq_true rfl) dX4_init_31 (fun H locs hP hD hS => ?_)
  have hP : va_P (dC, dI) vwCl [(h0, .inr (6, [.ref q_1, .ref q_3, .ref q_5, .int 0, .null, .int 0, .null, .int 0, .null])), (q_5, .inl (y_6, 16, .inr (.inl (fun _ => 0))))] H := hP
  have hD : va_D A [(h0, .inr (6, [.ref q_1, .ref q_3, .ref q_5, .int 0, .null, .int 0, .null, .int 0, .null])), (q_5, .inl (y_6, 16, .inr (.inl (fun _ => 0))))] := hD
  refine lv_aload_n hx hb dX4_init_34 rfl (lv_at hl 0 rfl) ?_
  refine lv_bipush (v := 12) hx hb dX4_init_35 (by decide) ?_
  refine va_newq (C := RX2) hx hb hown (hts _ kX4_init_18) hAO hK hP hD hS hA (by decide) rfl (Nat.le_of_ble_eq_true rfl) (Nat.le_of_ble_eq_true rfl) (Nat.le_of_ble_eq_true rfl) dX4_init_37 (fun q_7 y_8 H hK hP hD hS => ?_)
  have hK : va_K (dC, dI) vwCl [(y_6, .long), (y_8, .object RX2)] s := hK
  have hP : va_P (dC, dI) vwCl [(h0, .inr (6, [.ref q_1, .ref q_3, .ref q_5, .int 0, .null, .int 0, .null, .int 0, .null])), (q_5, .inl (y_6, 16, .inr (.inl (fun _ => 0)))), (q_7, .inl (y_8, 12, .inr (.inr (.inr (.inr (fun _ => none))))))] H := hP
  have hD : va_D A [(h0, .inr (6, [.ref q_1, .ref q_3, .ref q_5, .int 0, .null, .int 0, .null, .int 0, .null])), (q_5, .inl (y_6, 16, .inr (.inl (fun _ => 0)))), (q_7, .inl (y_8, 12, .inr (.inr (.inr (.inr (fun _ => none))))))] := hD
  refine W.widen (k := 16) (n := 78) (Nat.le_of_ble_eq_true rfl) (Nat.le_of_ble_eq_true rfl) ?_
  refine va_putF (D := (dC, dI)) (ci := 6) (v := .ref q_7) (ty := .array (.object "DrawStreams$Drawer")) (C := RX4) (T := TX4) (N := 9) hx hb hts iX4_init_X4 tyX4 tyX4_ok nmX4 hown hK hP hD hS 0 rfl rfl 4 (by decide) (hts _ kX4_init_19) (fun _ h9 => h9) rfl hin rfl (by decide +kernel) rfl rfl (Nat.le_of_ble_eq_true rfl) dX4_init_40 (fun H locs hP hD hS => ?_)
  have hP : va_P (dC, dI) vwCl [(h0, .inr (6, [.ref q_1, .ref q_3, .ref q_5, .int 0, .ref q_7, .int 0, .null, .int 0, .null])), (q_5, .inl (y_6, 16, .inr (.inl (fun _ => 0)))), (q_7, .inl (y_8, 12, .inr (.inr (.inr (.inr (fun _ => none))))))] H := hP
  have hD : va_D A [(h0, .inr (6, [.ref q_1, .ref q_3, .ref q_5, .int 0, .ref q_7, .int 0, .null, .int 0, .null])), (q_5, .inl (y_6, 16, .inr (.inl (fun _ => 0)))), (q_7, .inl (y_8, 12, .inr (.inr (.inr (.inr (fun _ => none))))))] := hD
  refine lv_aload_n hx hb dX4_init_43 rfl (lv_at hl 0 rfl) ?_
  refine lv_sipush (v := 200) hx hb dX4_init_44 (by decide) ?_
  refine va_newa (atype := .int) (ty := .int) (N' := 200) (a0 := (200, .inl (fun _ => 0))) hx hb (hts _ kX4_init_20) rfl hK hP hD hS hA (fun _ => rfl) (by decide) rfl (Nat.le_of_ble_eq_true rfl) (Nat.le_of_ble_eq_true rfl) (Nat.le_of_ble_eq_true rfl) dX4_init_47 (fun q_9 y_10 H hK hP hD hS => ?_)
  have hK : va_K (dC, dI) vwCl [(y_6, .long), (y_8, .object RX2), (y_10, .int)] s := hK
  have hP : va_P (dC, dI) vwCl [(h0, .inr (6, [.ref q_1, .ref q_3, .ref q_5, .int 0, .ref q_7, .int 0, .null, .int 0, .null])), (q_5, .inl (y_6, 16, .inr (.inl (fun _ => 0)))), (q_7, .inl (y_8, 12, .inr (.inr (.inr (.inr (fun _ => none)))))), (q_9, .inl (y_10, 200, .inl (fun _ => 0)))] H := hP
  have hD : va_D A [(h0, .inr (6, [.ref q_1, .ref q_3, .ref q_5, .int 0, .ref q_7, .int 0, .null, .int 0, .null])), (q_5, .inl (y_6, 16, .inr (.inl (fun _ => 0)))), (q_7, .inl (y_8, 12, .inr (.inr (.inr (.inr (fun _ => none)))))), (q_9, .inl (y_10, 200, .inl (fun _ => 0)))] := hD
  refine W.widen (k := 17) (n := 278) (Nat.le_of_ble_eq_true rfl) (Nat.le_of_ble_eq_true rfl) ?_
  refine va_putF (D := (dC, dI)) (ci := 6) (v := .ref q_9) (ty := .array .int) (C := RX4) (T := TX4) (N := 9) hx hb hts iX4_init_X4 tyX4 tyX4_ok nmX4 hown hK hP hD hS 0 rfl rfl 6 (by decide) (hts _ kX4_init_21) (fun _ h9 => h9) rfl hin rfl (by decide +kernel) rfl rfl (Nat.le_of_ble_eq_true rfl) dX4_init_49 (fun H locs hP hD hS => ?_)
  have hP : va_P (dC, dI) vwCl [(h0, .inr (6, [.ref q_1, .ref q_3, .ref q_5, .int 0, .ref q_7, .int 0, .ref q_9, .int 0, .null])), (q_5, .inl (y_6, 16, .inr (.inl (fun _ => 0)))), (q_7, .inl (y_8, 12, .inr (.inr (.inr (.inr (fun _ => none)))))), (q_9, .inl (y_10, 200, .inl (fun _ => 0)))] H := hP
  have hD : va_D A [(h0, .inr (6, [.ref q_1, .ref q_3, .ref q_5, .int 0, .ref q_7, .int 0, .ref q_9, .int 0, .null])), (q_5, .inl (y_6, 16, .inr (.inl (fun _ => 0)))), (q_7, .inl (y_8, 12, .inr (.inr (.inr (.inr (fun _ => none)))))), (q_9, .inl (y_10, 200, .inl (fun _ => 0)))] := hD
  refine lv_aload_n hx hb dX4_init_52 rfl (lv_at hl 0 rfl) ?_
  refine lv_bipush (v := 32) hx hb dX4_init_53 (by decide) ?_
  refine va_newa (atype := .long) (ty := .long) (N' := 32) (a0 := (32, .inr (.inl (fun _ => 0)))) hx hb (hts _ kX4_init_16) rfl hK hP hD hS hA (fun _ => rfl) (by decide) rfl (Nat.le_of_ble_eq_true rfl) (Nat.le_of_ble_eq_true rfl) (Nat.le_of_ble_eq_true rfl) dX4_init_55 (fun q_11 y_12 H hK hP hD hS => ?_)
  have hK : va_K (dC, dI) vwCl [(y_6, .long), (y_8, .object RX2), (y_10, .int), (y_12, .long)] s := hK
  have hP : va_P (dC, dI) vwCl [(h0, .inr (6, [.ref q_1, .ref q_3, .ref q_5, .int 0, .ref q_7, .int 0, .ref q_9, .int 0, .null])), (q_5, .inl (y_6, 16, .inr (.inl (fun _ => 0)))), (q_7, .inl (y_8, 12, .inr (.inr (.inr (.inr (fun _ => none)))))), (q_9, .inl (y_10, 200, .inl (fun _ => 0))), (q_11, .inl (y_12, 32, .inr (.inl (fun _ => 0))))] H := hP
  have hD : va_D A [(h0, .inr (6, [.ref q_1, .ref q_3, .ref q_5, .int 0, .ref q_7, .int 0, .ref q_9, .int 0, .null])), (q_5, .inl (y_6, 16, .inr (.inl (fun _ => 0)))), (q_7, .inl (y_8, 12, .inr (.inr (.inr (.inr (fun _ => none)))))), (q_9, .inl (y_10, 200, .inl (fun _ => 0))), (q_11, .inl (y_12, 32, .inr (.inl (fun _ => 0))))] := hD
  refine W.widen (k := 18) (n := 310) (Nat.le_of_ble_eq_true rfl) (Nat.le_of_ble_eq_true rfl) ?_
  refine va_putF (D := (dC, dI)) (ci := 6) (v := .ref q_11) (ty := .array .long) (C := RX4) (T := TX4) (N := 9) hx hb hts iX4_init_X4 tyX4 tyX4_ok nmX4 hown hK hP hD hS 0 rfl rfl 8 (by decide) (hts _ kX4_init_22) (fun _ h9 => h9) rfl hin rfl (by decide +kernel) rfl rfl (Nat.le_of_ble_eq_true rfl) dX4_init_57 (fun H locs hP hD hS => ?_)
  have hP : va_P (dC, dI) vwCl [(h0, .inr (6, [.ref q_1, .ref q_3, .ref q_5, .int 0, .ref q_7, .int 0, .ref q_9, .int 0, .ref q_11])), (q_5, .inl (y_6, 16, .inr (.inl (fun _ => 0)))), (q_7, .inl (y_8, 12, .inr (.inr (.inr (.inr (fun _ => none)))))), (q_9, .inl (y_10, 200, .inl (fun _ => 0))), (q_11, .inl (y_12, 32, .inr (.inl (fun _ => 0))))] H := hP
  have hD : va_D A [(h0, .inr (6, [.ref q_1, .ref q_3, .ref q_5, .int 0, .ref q_7, .int 0, .ref q_9, .int 0, .ref q_11])), (q_5, .inl (y_6, 16, .inr (.inl (fun _ => 0)))), (q_7, .inl (y_8, 12, .inr (.inr (.inr (.inr (fun _ => none)))))), (q_9, .inl (y_10, 200, .inl (fun _ => 0))), (q_11, .inl (y_12, 32, .inr (.inl (fun _ => 0))))] := hD
  have hP9 := hP.sub (ws' := [(h0, .inr (6, [.ref q_1, .ref q_3, .ref q_5, .int 0, .ref q_7, .int 0, .ref q_9, .int 0, .ref q_11])), (q_5, .inl (y_6, 16, .inr (.inl (fun _ => 0)))), (q_11, .inl (y_12, 32, .inr (.inl (fun _ => 0))))]) [0, 1, 4] rfl
  have hD9 := hD.sub (ws' := [(h0, .inr (6, [.ref q_1, .ref q_3, .ref q_5, .int 0, .ref q_7, .int 0, .ref q_9, .int 0, .ref q_11])), (q_5, .inl (y_6, 16, .inr (.inl (fun _ => 0)))), (q_11, .inl (y_12, 32, .inr (.inl (fun _ => 0))))]) [0, 1, 4] (by decide) rfl
  have hK9 := hK.sub (tys' := [(y_6, .long), (y_12, .long)]) [0, 3] rfl
  refine W.widen (k := 18) (n := 310) (Nat.le_of_ble_eq_true rfl) (Nat.le_of_ble_eq_true rfl) ?_
  exact W.vret hx hb hr (fun t ht hW => ⟨⟨(q_1, q_3, q_5, q_7, q_9, q_11, y_6, y_12), rfl, trivial, by rw [ht]; exact hP9, va_K.moved hW.alike hK9, hD9⟩, hS.F ht⟩) hS.2.2 dX4_init_60
def wm_X5_init : List Cond := .code yX5_init cX5_init 1 none :: ([.methodLink RX5 1 objectInit, .instanceMethod objectInit, .code objectInit ⟨#[0xb1]⟩ 1 none, .arrayClass .long, .fieldLink RX5 7 "DrawStreamsModel" "keyBits" "[J", .arrayClass .int, .fieldLink RX5 13 "DrawStreamsModel" "keyOf" "[I", .fieldLink RX5 17 "DrawStreamsModel" "streamOf" "[I", .fieldLink RX5 20 "DrawStreamsModel" "placeOf" "[J", .fieldLink RX5 23 "DrawStreamsModel" "rejected" "[J", .fieldLink RX5 26 "DrawStreamsModel" "row" "[I", .fieldLink RX5 29 "DrawStreamsModel" "weights" "[J", .fieldLink RX5 32 "DrawStreamsModel" "x" "[J", .fieldLink RX5 35 "DrawStreamsModel" "digits" "[J", .fieldLink RX5 38 "DrawStreamsModel" "known" "[I"] ++ wsX50)
theorem kX5_init_0 : Cond.methodLink RX5 1 objectInit ∈ wm_X5_init := by decide +kernel
theorem kX5_init_1 : Cond.instanceMethod objectInit ∈ wm_X5_init := by decide +kernel
theorem kX5_init_2 : Cond.code objectInit ⟨#[0xb1]⟩ 1 none ∈ wm_X5_init := by decide +kernel
theorem kX5_init_3 : Cond.arrayClass .long ∈ wm_X5_init := by decide +kernel
theorem iX5_init_X5 : ∀ w ∈ wsX50, w ∈ wm_X5_init := by decide +kernel
theorem kX5_init_5 : Cond.fieldLink RX5 7 "DrawStreamsModel" "keyBits" "[J" ∈ wm_X5_init := by decide +kernel
theorem kX5_init_6 : Cond.arrayClass .int ∈ wm_X5_init := by decide +kernel
theorem kX5_init_7 : Cond.fieldLink RX5 13 "DrawStreamsModel" "keyOf" "[I" ∈ wm_X5_init := by decide +kernel
theorem kX5_init_8 : Cond.fieldLink RX5 17 "DrawStreamsModel" "streamOf" "[I" ∈ wm_X5_init := by decide +kernel
theorem kX5_init_9 : Cond.fieldLink RX5 20 "DrawStreamsModel" "placeOf" "[J" ∈ wm_X5_init := by decide +kernel
theorem kX5_init_10 : Cond.fieldLink RX5 23 "DrawStreamsModel" "rejected" "[J" ∈ wm_X5_init := by decide +kernel
theorem kX5_init_11 : Cond.fieldLink RX5 26 "DrawStreamsModel" "row" "[I" ∈ wm_X5_init := by decide +kernel
theorem kX5_init_12 : Cond.fieldLink RX5 29 "DrawStreamsModel" "weights" "[J" ∈ wm_X5_init := by decide +kernel
theorem kX5_init_13 : Cond.fieldLink RX5 32 "DrawStreamsModel" "x" "[J" ∈ wm_X5_init := by decide +kernel
theorem kX5_init_14 : Cond.fieldLink RX5 35 "DrawStreamsModel" "digits" "[J" ∈ wm_X5_init := by decide +kernel
theorem kX5_init_15 : Cond.fieldLink RX5 38 "DrawStreamsModel" "known" "[I" ∈ wm_X5_init := by decide +kernel
set_option maxHeartbeats 4000000 in
set_option maxRecDepth 100000 in
theorem mt_X5_init (l : Launch) (dC : Nat → ClassId) (dI : Nat → Nat → Nat) (sz : Nat) (h0 : Nat)  : Met l yX5_init wm_X5_init ({ frames := 1, cells := 10, slots := 320, locals := 12 }) (va_Pc [.ref h0] (fun U => U.heap.size = sz ∧ va_P (dC, dI) vwCl [(h0, .inr (7, [.int 0, .int 0, .null, .int 0, .null, .null, .null, .null, .int 0, .null, .null, .null, .null, .null]))] U.heap ∧ va_K (dC, dI) vwCl [] U ∧ va_D (fun _ => True) [(h0, .inr (7, [.int 0, .int 0, .null, .int 0, .null, .null, .null, .null, .int 0, .null, .null, .null, .null, .null]))])) (va_Qv (fun (u : Nat × Nat × Nat × Nat × Nat × Nat × Nat × Nat × Nat × Nat × ClassId × ClassId) => True) (fun (u : Nat × Nat × Nat × Nat × Nat × Nat × Nat × Nat × Nat × Nat × ClassId × ClassId) t => match u with | (b2, b4, b5, b6, b7, b9, b10, b11, b12, b13, y2, y10) => va_P (dC, dI) vwCl [(h0, .inr (7, [.int 0, .int 0, .ref b2, .int 0, .ref b4, .ref b5, .ref b6, .ref b7, .int 0, .ref b9, .ref b10, .ref b11, .ref b12, .ref b13])), (b2, .inl (y2, 16, .inr (.inl (fun _ => 0)))), (b10, .inl (y10, 32, .inr (.inl (fun _ => 0))))] t.heap ∧ va_K (dC, dI) vwCl [(y2, .long), (y10, .long)] t ∧ va_D (va_A [(h0, .inr (7, [.int 0, .int 0, .null, .int 0, .null, .null, .null, .null, .int 0, .null, .null, .null, .null, .null]))] sz) [(h0, .inr (7, [.int 0, .int 0, .ref b2, .int 0, .ref b4, .ref b5, .ref b6, .ref b7, .int 0, .ref b9, .ref b10, .ref b11, .ref b12, .ref b13])), (b2, .inl (y2, 16, .inr (.inl (fun _ => 0)))), (b10, .inl (y10, 32, .inr (.inl (fun _ => 0))))]) (va_A [(h0, .inr (7, [.int 0, .int 0, .null, .int 0, .null, .null, .null, .null, .int 0, .null, .null, .null, .null, .null]))] sz)) 10 320 (va_A [(h0, .inr (7, [.int 0, .int 0, .null, .int 0, .null, .null, .null, .null, .int 0, .null, .null, .null, .null, .null]))] sz) := by
  refine Met.ofW (cc := cX5_init) (maxL := 1) (ret := none) (by decide) rfl ?_
  intro p e s m args below meth c s₁ B hml hv
  obtain ⟨rfl, hsz, hP, hK, hD0⟩ := hv
  have hx := B.exec
  have hb := B.bytes
  have hr := B.returns
  have hts := atoms_spec (ws := wm_X5_init) B.pre
  have hown : s.vm.findClass RX5 = some m.cls := findClass_of_methodNamed B.named
  have hlocks := B.notSynchronized
  have hin : meth.name = "<init>" := (name_of_methodNamed B.named B.method).1
  subst hsz
  have hD := hD0.self (sz := s.heap.size)
  generalize hAe : va_A [(h0, .inr (7, [.int 0, .int 0, .null, .int 0, .null, .null, .null, .null, .int 0, .null, .null, .null, .null, .null]))] s.heap.size = A at hD ⊢
  have hA : ∀ q : Nat, s.heap.size ≤ q → A q := fun q h => by rw [← hAe]; exact Or.inr h
  have hS : va_S A s.heap s.heap [] := va_S.rf
  obtain ⟨H, hHe⟩ : ∃ H : Heap, H = s.heap := ⟨_, rfl⟩
  have hP : va_P (dC, dI) vwCl [(h0, .inr (7, [.int 0, .int 0, .null, .int 0, .null, .null, .null, .null, .int 0, .null, .null, .null, .null, .null]))] H := by rw [hHe]; exact hP
  have hS : va_S A s.heap H [] := by rw [hHe]; exact hS
  have hl := lv_entry ([.ref h0]) (n := 1) (Nat.le_of_ble_eq_true rfl)
  rw [lg_entry_eq, ← hHe]
  generalize (lg_sl ([.ref h0]) ++ List.replicate (1 - (lg_sl ([.ref h0])).length) Slot.unset).toArray = ls at hl ⊢
  have hl : lv_has ls 1 [(0, .ref h0)] := hl
  refine lv_aload_n hx hb dX5_init_0 rfl (lv_at hl 0 rfl) ?_
  refine W.objInit hx hb hown (hts _ kX5_init_0) (hts _ kX5_init_1) (hts _ kX5_init_2) rfl (by rw [hml]; exact hl.1) rfl dX5_init_1 (Nat.le_of_ble_eq_true rfl) (Nat.le_of_ble_eq_true rfl) ?_
  refine W.eq (g2 := F0 m 4 ls []) rfl ?_
  refine lv_aload_n hx hb dX5_init_4 rfl (lv_at hl 0 rfl) ?_
  refine lv_bipush (v := 16) hx hb dX5_init_5 (by decide) ?_
  refine va_newa (atype := .long) (ty := .long) (N' := 16) (a0 := (16, .inr (.inl (fun _ => 0)))) hx hb (hts _ kX5_init_3) rfl hK hP hD hS hA (fun _ => rfl) (by decide) rfl (Nat.le_of_ble_eq_true rfl) (Nat.le_of_ble_eq_true rfl) (Nat.le_of_ble_eq_true rfl) dX5_init_7 (fun q_1 y_2 H hK hP hD hS => ?_)
  have hK : va_K (dC, dI) vwCl [(y_2, .long)] s := hK
  have hP : va_P (dC, dI) vwCl [(h0, .inr (7, [.int 0, .int 0, .null, .int 0, .null, .null, .null, .null, .int 0, .null, .null, .null, .null, .null])), (q_1, .inl (y_2, 16, .inr (.inl (fun _ => 0))))] H := hP
  have hD : va_D A [(h0, .inr (7, [.int 0, .int 0, .null, .int 0, .null, .null, .null, .null, .int 0, .null, .null, .null, .null, .null])), (q_1, .inl (y_2, 16, .inr (.inl (fun _ => 0))))] := hD
  refine W.widen (k := 1) (n := 16) (Nat.le_of_ble_eq_true rfl) (Nat.le_of_ble_eq_true rfl) ?_
  refine va_putF (D := (dC, dI)) (ci := 7) (v := .ref q_1) (ty := .array .long) (C := RX5) (T := TX5) (N := 14) hx hb hts iX5_init_X5 tyX5 tyX5_ok nmX5 hown hK hP hD hS 0 rfl rfl 2 (by decide) (hts _ kX5_init_5) (fun _ h9 => h9) rfl hin rfl (by decide +kernel) rfl rfl (Nat.le_of_ble_eq_true rfl) dX5_init_9 (fun H locs hP hD hS => ?_)
  have hP : va_P (dC, dI) vwCl [(h0, .inr (7, [.int 0, .int 0, .ref q_1, .int 0, .null, .null, .null, .null, .int 0, .null, .null, .null, .null, .null])), (q_1, .inl (y_2, 16, .inr (.inl (fun _ => 0))))] H := hP
  have hD : va_D A [(h0, .inr (7, [.int 0, .int 0, .ref q_1, .int 0, .null, .null, .null, .null, .int 0, .null, .null, .null, .null, .null])), (q_1, .inl (y_2, 16, .inr (.inl (fun _ => 0))))] := hD
  refine lv_aload_n hx hb dX5_init_12 rfl (lv_at hl 0 rfl) ?_
  refine lv_bipush (v := 12) hx hb dX5_init_13 (by decide) ?_
  refine va_newa (atype := .int) (ty := .int) (N' := 12) (a0 := (12, .inl (fun _ => 0))) hx hb (hts _ kX5_init_6) rfl hK hP hD hS hA (fun _ => rfl) (by decide) rfl (Nat.le_of_ble_eq_true rfl) (Nat.le_of_ble_eq_true rfl) (Nat.le_of_ble_eq_true rfl) dX5_init_15 (fun q_3 y_4 H hK hP hD hS => ?_)
  have hK : va_K (dC, dI) vwCl [(y_2, .long), (y_4, .int)] s := hK
  have hP : va_P (dC, dI) vwCl [(h0, .inr (7, [.int 0, .int 0, .ref q_1, .int 0, .null, .null, .null, .null, .int 0, .null, .null, .null, .null, .null])), (q_1, .inl (y_2, 16, .inr (.inl (fun _ => 0)))), (q_3, .inl (y_4, 12, .inl (fun _ => 0)))] H := hP
  have hD : va_D A [(h0, .inr (7, [.int 0, .int 0, .ref q_1, .int 0, .null, .null, .null, .null, .int 0, .null, .null, .null, .null, .null])), (q_1, .inl (y_2, 16, .inr (.inl (fun _ => 0)))), (q_3, .inl (y_4, 12, .inl (fun _ => 0)))] := hD
  refine W.widen (k := 2) (n := 28) (Nat.le_of_ble_eq_true rfl) (Nat.le_of_ble_eq_true rfl) ?_
  refine va_putF (D := (dC, dI)) (ci := 7) (v := .ref q_3) (ty := .array .int) (C := RX5) (T := TX5) (N := 14) hx hb hts iX5_init_X5 tyX5 tyX5_ok nmX5 hown hK hP hD hS 0 rfl rfl 4 (by decide) (hts _ kX5_init_7) (fun _ h9 => h9) rfl hin rfl (by decide +kernel) rfl rfl (Nat.le_of_ble_eq_true rfl) dX5_init_17 (fun H locs hP hD hS => ?_)
  have hP : va_P (dC, dI) vwCl [(h0, .inr (7, [.int 0, .int 0, .ref q_1, .int 0, .ref q_3, .null, .null, .null, .int 0, .null, .null, .null, .null, .null])), (q_1, .inl (y_2, 16, .inr (.inl (fun _ => 0)))), (q_3, .inl (y_4, 12, .inl (fun _ => 0)))] H := hP
  have hD : va_D A [(h0, .inr (7, [.int 0, .int 0, .ref q_1, .int 0, .ref q_3, .null, .null, .null, .int 0, .null, .null, .null, .null, .null])), (q_1, .inl (y_2, 16, .inr (.inl (fun _ => 0)))), (q_3, .inl (y_4, 12, .inl (fun _ => 0)))] := hD
  refine lv_aload_n hx hb dX5_init_20 rfl (lv_at hl 0 rfl) ?_
  refine lv_bipush (v := 12) hx hb dX5_init_21 (by decide) ?_
  refine va_newa (atype := .int) (ty := .int) (N' := 12) (a0 := (12, .inl (fun _ => 0))) hx hb (hts _ kX5_init_6) rfl hK hP hD hS hA (fun _ => rfl) (by decide) rfl (Nat.le_of_ble_eq_true rfl) (Nat.le_of_ble_eq_true rfl) (Nat.le_of_ble_eq_true rfl) dX5_init_23 (fun q_5 y_6 H hK hP hD hS => ?_)
  have hK : va_K (dC, dI) vwCl [(y_2, .long), (y_4, .int), (y_6, .int)] s := hK
  have hP : va_P (dC, dI) vwCl [(h0, .inr (7, [.int 0, .int 0, .ref q_1, .int 0, .ref q_3, .null, .null, .null, .int 0, .null, .null, .null, .null, .null])), (q_1, .inl (y_2, 16, .inr (.inl (fun _ => 0)))), (q_3, .inl (y_4, 12, .inl (fun _ => 0))), (q_5, .inl (y_6, 12, .inl (fun _ => 0)))] H := hP
  have hD : va_D A [(h0, .inr (7, [.int 0, .int 0, .ref q_1, .int 0, .ref q_3, .null, .null, .null, .int 0, .null, .null, .null, .null, .null])), (q_1, .inl (y_2, 16, .inr (.inl (fun _ => 0)))), (q_3, .inl (y_4, 12, .inl (fun _ => 0))), (q_5, .inl (y_6, 12, .inl (fun _ => 0)))] := hD
  refine W.widen (k := 3) (n := 40) (Nat.le_of_ble_eq_true rfl) (Nat.le_of_ble_eq_true rfl) ?_
  refine va_putF (D := (dC, dI)) (ci := 7) (v := .ref q_5) (ty := .array .int) (C := RX5) (T := TX5) (N := 14) hx hb hts iX5_init_X5 tyX5 tyX5_ok nmX5 hown hK hP hD hS 0 rfl rfl 5 (by decide) (hts _ kX5_init_8) (fun _ h9 => h9) rfl hin rfl (by decide +kernel) rfl rfl (Nat.le_of_ble_eq_true rfl) dX5_init_25 (fun H locs hP hD hS => ?_)
  have hP : va_P (dC, dI) vwCl [(h0, .inr (7, [.int 0, .int 0, .ref q_1, .int 0, .ref q_3, .ref q_5, .null, .null, .int 0, .null, .null, .null, .null, .null])), (q_1, .inl (y_2, 16, .inr (.inl (fun _ => 0)))), (q_3, .inl (y_4, 12, .inl (fun _ => 0))), (q_5, .inl (y_6, 12, .inl (fun _ => 0)))] H := hP
  have hD : va_D A [(h0, .inr (7, [.int 0, .int 0, .ref q_1, .int 0, .ref q_3, .ref q_5, .null, .null, .int 0, .null, .null, .null, .null, .null])), (q_1, .inl (y_2, 16, .inr (.inl (fun _ => 0)))), (q_3, .inl (y_4, 12, .inl (fun _ => 0))), (q_5, .inl (y_6, 12, .inl (fun _ => 0)))] := hD
  refine lv_aload_n hx hb dX5_init_28 rfl (lv_at hl 0 rfl) ?_
  refine lv_bipush (v := 12) hx hb dX5_init_29 (by decide) ?_
  refine va_newa (atype := .long) (ty := .long) (N' := 12) (a0 := (12, .inr (.inl (fun _ => 0)))) hx hb (hts _ kX5_init_3) rfl hK hP hD hS hA (fun _ => rfl) (by decide) rfl (Nat.le_of_ble_eq_true rfl) (Nat.le_of_ble_eq_true rfl) (Nat.le_of_ble_eq_true rfl) dX5_init_31 (fun q_7 y_8 H hK hP hD hS => ?_)
  have hK : va_K (dC, dI) vwCl [(y_2, .long), (y_4, .int), (y_6, .int), (y_8, .long)] s := hK
  have hP : va_P (dC, dI) vwCl [(h0, .inr (7, [.int 0, .int 0, .ref q_1, .int 0, .ref q_3, .ref q_5, .null, .null, .int 0, .null, .null, .null, .null, .null])), (q_1, .inl (y_2, 16, .inr (.inl (fun _ => 0)))), (q_3, .inl (y_4, 12, .inl (fun _ => 0))), (q_5, .inl (y_6, 12, .inl (fun _ => 0))), (q_7, .inl (y_8, 12, .inr (.inl (fun _ => 0))))] H := hP
  have hD : va_D A [(h0, .inr (7, [.int 0, .int 0, .ref q_1, .int 0, .ref q_3, .ref q_5, .null, .null, .int 0, .null, .null, .null, .null, .null])), (q_1, .inl (y_2, 16, .inr (.inl (fun _ => 0)))), (q_3, .inl (y_4, 12, .inl (fun _ => 0))), (q_5, .inl (y_6, 12, .inl (fun _ => 0))), (q_7, .inl (y_8, 12, .inr (.inl (fun _ => 0))))] := hD
  refine W.widen (k := 4) (n := 52) (Nat.le_of_ble_eq_true rfl) (Nat.le_of_ble_eq_true rfl) ?_
  refine va_putF (D := (dC, dI)) (ci := 7) (v := .ref q_7) (ty := .array .long) (C := RX5) (T := TX5) (N := 14) hx hb hts iX5_init_X5 tyX5 tyX5_ok nmX5 hown hK hP hD hS 0 rfl rfl 6 (by decide) (hts _ kX5_init_9) (fun _ h9 => h9) rfl hin rfl (by decide +kernel) rfl rfl (Nat.le_of_ble_eq_true rfl) dX5_init_33 (fun H locs hP hD hS => ?_)
  have hP : va_P (dC, dI) vwCl [(h0, .inr (7, [.int 0, .int 0, .ref q_1, .int 0, .ref q_3, .ref q_5, .ref q_7, .null, .int 0, .null, .null, .null, .null, .null])), (q_1, .inl (y_2, 16, .inr (.inl (fun _ => 0)))), (q_3, .inl (y_4, 12, .inl (fun _ => 0))), (q_5, .inl (y_6, 12, .inl (fun _ => 0))), (q_7, .inl (y_8, 12, .inr (.inl (fun _ => 0))))] H := hP
  have hD : va_D A [(h0, .inr (7, [.int 0, .int 0, .ref q_1, .int 0, .ref q_3, .ref q_5, .ref q_7, .null, .int 0, .null, .null, .null, .null, .null])), (q_1, .inl (y_2, 16, .inr (.inl (fun _ => 0)))), (q_3, .inl (y_4, 12, .inl (fun _ => 0))), (q_5, .inl (y_6, 12, .inl (fun _ => 0))), (q_7, .inl (y_8, 12, .inr (.inl (fun _ => 0))))] := hD
  refine lv_aload_n hx hb dX5_init_36 rfl (lv_at hl 0 rfl) ?_
  refine lv_bipush (v := 12) hx hb dX5_init_37 (by decide) ?_
  refine va_newa (atype := .long) (ty := .long) (N' := 12) (a0 := (12, .inr (.inl (fun _ => 0)))) hx hb (hts _ kX5_init_3) rfl hK hP hD hS hA (fun _ => rfl) (by decide) rfl (Nat.le_of_ble_eq_true rfl) (Nat.le_of_ble_eq_true rfl) (Nat.le_of_ble_eq_true rfl) dX5_init_39 (fun q_9 y_10 H hK hP hD hS => ?_)
  have hK : va_K (dC, dI) vwCl [(y_2, .long), (y_4, .int), (y_6, .int), (y_8, .long), (y_10, .long)] s := hK
  have hP : va_P (dC, dI) vwCl [(h0, .inr (7, [.int 0, .int 0, .ref q_1, .int 0, .ref q_3, .ref q_5, .ref q_7, .null, .int 0, .null, .null, .null, .null, .null])), (q_1, .inl (y_2, 16, .inr (.inl (fun _ => 0)))), (q_3, .inl (y_4, 12, .inl (fun _ => 0))), (q_5, .inl (y_6, 12, .inl (fun _ => 0))), (q_7, .inl (y_8, 12, .inr (.inl (fun _ => 0)))), (q_9, .inl (y_10, 12, .inr (.inl (fun _ => 0))))] H := hP
  have hD : va_D A [(h0, .inr (7, [.int 0, .int 0, .ref q_1, .int 0, .ref q_3, .ref q_5, .ref q_7, .null, .int 0, .null, .null, .null, .null, .null])), (q_1, .inl (y_2, 16, .inr (.inl (fun _ => 0)))), (q_3, .inl (y_4, 12, .inl (fun _ => 0))), (q_5, .inl (y_6, 12, .inl (fun _ => 0))), (q_7, .inl (y_8, 12, .inr (.inl (fun _ => 0)))), (q_9, .inl (y_10, 12, .inr (.inl (fun _ => 0))))] := hD
  refine W.widen (k := 5) (n := 64) (Nat.le_of_ble_eq_true rfl) (Nat.le_of_ble_eq_true rfl) ?_
  refine va_putF (D := (dC, dI)) (ci := 7) (v := .ref q_9) (ty := .array .long) (C := RX5) (T := TX5) (N := 14) hx hb hts iX5_init_X5 tyX5 tyX5_ok nmX5 hown hK hP hD hS 0 rfl rfl 7 (by decide) (hts _ kX5_init_10) (fun _ h9 => h9) rfl hin rfl (by decide +kernel) rfl rfl (Nat.le_of_ble_eq_true rfl) dX5_init_41 (fun H locs hP hD hS => ?_)
  have hP : va_P (dC, dI) vwCl [(h0, .inr (7, [.int 0, .int 0, .ref q_1, .int 0, .ref q_3, .ref q_5, .ref q_7, .ref q_9, .int 0, .null, .null, .null, .null, .null])), (q_1, .inl (y_2, 16, .inr (.inl (fun _ => 0)))), (q_3, .inl (y_4, 12, .inl (fun _ => 0))), (q_5, .inl (y_6, 12, .inl (fun _ => 0))), (q_7, .inl (y_8, 12, .inr (.inl (fun _ => 0)))), (q_9, .inl (y_10, 12, .inr (.inl (fun _ => 0))))] H := hP
  have hD : va_D A [(h0, .inr (7, [.int 0, .int 0, .ref q_1, .int 0, .ref q_3, .ref q_5, .ref q_7, .ref q_9, .int 0, .null, .null, .null, .null, .null])), (q_1, .inl (y_2, 16, .inr (.inl (fun _ => 0)))), (q_3, .inl (y_4, 12, .inl (fun _ => 0))), (q_5, .inl (y_6, 12, .inl (fun _ => 0))), (q_7, .inl (y_8, 12, .inr (.inl (fun _ => 0)))), (q_9, .inl (y_10, 12, .inr (.inl (fun _ => 0))))] := hD
  refine lv_aload_n hx hb dX5_init_44 rfl (lv_at hl 0 rfl) ?_
  refine lv_sipush (v := 200) hx hb dX5_init_45 (by decide) ?_
  refine va_newa (atype := .int) (ty := .int) (N' := 200) (a0 := (200, .inl (fun _ => 0))) hx hb (hts _ kX5_init_6) rfl hK hP hD hS hA (fun _ => rfl) (by decide) rfl (Nat.le_of_ble_eq_true rfl) (Nat.le_of_ble_eq_true rfl) (Nat.le_of_ble_eq_true rfl) dX5_init_48 (fun q_11 y_12 H hK hP hD hS => ?_)
  have hK : va_K (dC, dI) vwCl [(y_2, .long), (y_4, .int), (y_6, .int), (y_8, .long), (y_10, .long), (y_12, .int)] s := hK
  have hP : va_P (dC, dI) vwCl [(h0, .inr (7, [.int 0, .int 0, .ref q_1, .int 0, .ref q_3, .ref q_5, .ref q_7, .ref q_9, .int 0, .null, .null, .null, .null, .null])), (q_1, .inl (y_2, 16, .inr (.inl (fun _ => 0)))), (q_3, .inl (y_4, 12, .inl (fun _ => 0))), (q_5, .inl (y_6, 12, .inl (fun _ => 0))), (q_7, .inl (y_8, 12, .inr (.inl (fun _ => 0)))), (q_9, .inl (y_10, 12, .inr (.inl (fun _ => 0)))), (q_11, .inl (y_12, 200, .inl (fun _ => 0)))] H := hP
  have hD : va_D A [(h0, .inr (7, [.int 0, .int 0, .ref q_1, .int 0, .ref q_3, .ref q_5, .ref q_7, .ref q_9, .int 0, .null, .null, .null, .null, .null])), (q_1, .inl (y_2, 16, .inr (.inl (fun _ => 0)))), (q_3, .inl (y_4, 12, .inl (fun _ => 0))), (q_5, .inl (y_6, 12, .inl (fun _ => 0))), (q_7, .inl (y_8, 12, .inr (.inl (fun _ => 0)))), (q_9, .inl (y_10, 12, .inr (.inl (fun _ => 0)))), (q_11, .inl (y_12, 200, .inl (fun _ => 0)))] := hD
  refine W.widen (k := 6) (n := 264) (Nat.le_of_ble_eq_true rfl) (Nat.le_of_ble_eq_true rfl) ?_
  refine va_putF (D := (dC, dI)) (ci := 7) (v := .ref q_11) (ty := .array .int) (C := RX5) (T := TX5) (N := 14) hx hb hts iX5_init_X5 tyX5 tyX5_ok nmX5 hown hK hP hD hS 0 rfl rfl 9 (by decide) (hts _ kX5_init_11) (fun _ h9 => h9) rfl hin rfl (by decide +kernel) rfl rfl (Nat.le_of_ble_eq_true rfl) dX5_init_50 (fun H locs hP hD hS => ?_)
  have hP : va_P (dC, dI) vwCl [(h0, .inr (7, [.int 0, .int 0, .ref q_1, .int 0, .ref q_3, .ref q_5, .ref q_7, .ref q_9, .int 0, .ref q_11, .null, .null, .null, .null])), (q_1, .inl (y_2, 16, .inr (.inl (fun _ => 0)))), (q_3, .inl (y_4, 12, .inl (fun _ => 0))), (q_5, .inl (y_6, 12, .inl (fun _ => 0))), (q_7, .inl (y_8, 12, .inr (.inl (fun _ => 0)))), (q_9, .inl (y_10, 12, .inr (.inl (fun _ => 0)))), (q_11, .inl (y_12, 200, .inl (fun _ => 0)))] H := hP
  have hD : va_D A [(h0, .inr (7, [.int 0, .int 0, .ref q_1, .int 0, .ref q_3, .ref q_5, .ref q_7, .ref q_9, .int 0, .ref q_11, .null, .null, .null, .null])), (q_1, .inl (y_2, 16, .inr (.inl (fun _ => 0)))), (q_3, .inl (y_4, 12, .inl (fun _ => 0))), (q_5, .inl (y_6, 12, .inl (fun _ => 0))), (q_7, .inl (y_8, 12, .inr (.inl (fun _ => 0)))), (q_9, .inl (y_10, 12, .inr (.inl (fun _ => 0)))), (q_11, .inl (y_12, 200, .inl (fun _ => 0)))] := hD
  refine lv_aload_n hx hb dX5_init_53 rfl (lv_at hl 0 rfl) ?_
  refine lv_bipush (v := 32) hx hb dX5_init_54 (by decide) ?_
  refine va_newa (atype := .long) (ty := .long) (N' := 32) (a0 := (32, .inr (.inl (fun _ => 0)))) hx hb (hts _ kX5_init_3) rfl hK hP hD hS hA (fun _ => rfl) (by decide) rfl (Nat.le_of_ble_eq_true rfl) (Nat.le_of_ble_eq_true rfl) (Nat.le_of_ble_eq_true rfl) dX5_init_56 (fun q_13 y_14 H hK hP hD hS => ?_)
  have hK : va_K (dC, dI) vwCl [(y_2, .long), (y_4, .int), (y_6, .int), (y_8, .long), (y_10, .long), (y_12, .int), (y_14, .long)] s := hK
  have hP : va_P (dC, dI) vwCl [(h0, .inr (7, [.int 0, .int 0, .ref q_1, .int 0, .ref q_3, .ref q_5, .ref q_7, .ref q_9, .int 0, .ref q_11, .null, .null, .null, .null])), (q_1, .inl (y_2, 16, .inr (.inl (fun _ => 0)))), (q_3, .inl (y_4, 12, .inl (fun _ => 0))), (q_5, .inl (y_6, 12, .inl (fun _ => 0))), (q_7, .inl (y_8, 12, .inr (.inl (fun _ => 0)))), (q_9, .inl (y_10, 12, .inr (.inl (fun _ => 0)))), (q_11, .inl (y_12, 200, .inl (fun _ => 0))), (q_13, .inl (y_14, 32, .inr (.inl (fun _ => 0))))] H := hP
  have hD : va_D A [(h0, .inr (7, [.int 0, .int 0, .ref q_1, .int 0, .ref q_3, .ref q_5, .ref q_7, .ref q_9, .int 0, .ref q_11, .null, .null, .null, .null])), (q_1, .inl (y_2, 16, .inr (.inl (fun _ => 0)))), (q_3, .inl (y_4, 12, .inl (fun _ => 0))), (q_5, .inl (y_6, 12, .inl (fun _ => 0))), (q_7, .inl (y_8, 12, .inr (.inl (fun _ => 0)))), (q_9, .inl (y_10, 12, .inr (.inl (fun _ => 0)))), (q_11, .inl (y_12, 200, .inl (fun _ => 0))), (q_13, .inl (y_14, 32, .inr (.inl (fun _ => 0))))] := hD
  refine W.widen (k := 7) (n := 296) (Nat.le_of_ble_eq_true rfl) (Nat.le_of_ble_eq_true rfl) ?_
  refine va_putF (D := (dC, dI)) (ci := 7) (v := .ref q_13) (ty := .array .long) (C := RX5) (T := TX5) (N := 14) hx hb hts iX5_init_X5 tyX5 tyX5_ok nmX5 hown hK hP hD hS 0 rfl rfl 10 (by decide) (hts _ kX5_init_12) (fun _ h9 => h9) rfl hin rfl (by decide +kernel) rfl rfl (Nat.le_of_ble_eq_true rfl) dX5_init_58 (fun H locs hP hD hS => ?_)
  have hP : va_P (dC, dI) vwCl [(h0, .inr (7, [.int 0, .int 0, .ref q_1, .int 0, .ref q_3, .ref q_5, .ref q_7, .ref q_9, .int 0, .ref q_11, .ref q_13, .null, .null, .null])), (q_1, .inl (y_2, 16, .inr (.inl (fun _ => 0)))), (q_3, .inl (y_4, 12, .inl (fun _ => 0))), (q_5, .inl (y_6, 12, .inl (fun _ => 0))), (q_7, .inl (y_8, 12, .inr (.inl (fun _ => 0)))), (q_9, .inl (y_10, 12, .inr (.inl (fun _ => 0)))), (q_11, .inl (y_12, 200, .inl (fun _ => 0))), (q_13, .inl (y_14, 32, .inr (.inl (fun _ => 0))))] H := hP
  have hD : va_D A [(h0, .inr (7, [.int 0, .int 0, .ref q_1, .int 0, .ref q_3, .ref q_5, .ref q_7, .ref q_9, .int 0, .ref q_11, .ref q_13, .null, .null, .null])), (q_1, .inl (y_2, 16, .inr (.inl (fun _ => 0)))), (q_3, .inl (y_4, 12, .inl (fun _ => 0))), (q_5, .inl (y_6, 12, .inl (fun _ => 0))), (q_7, .inl (y_8, 12, .inr (.inl (fun _ => 0)))), (q_9, .inl (y_10, 12, .inr (.inl (fun _ => 0)))), (q_11, .inl (y_12, 200, .inl (fun _ => 0))), (q_13, .inl (y_14, 32, .inr (.inl (fun _ => 0))))] := hD
  refine lv_aload_n hx hb dX5_init_61 rfl (lv_at hl 0 rfl) ?_
  refine lv_iconst (v := 4) hx hb dX5_init_62 (by decide) ?_
  refine va_newa (atype := .long) (ty := .long) (N' := 4) (a0 := (4, .inr (.inl (fun _ => 0)))) hx hb (hts _ kX5_init_3) rfl hK hP hD hS hA (fun _ => rfl) (by decide) rfl (Nat.le_of_ble_eq_true rfl) (Nat.le_of_ble_eq_true rfl) (Nat.le_of_ble_eq_true rfl) dX5_init_63 (fun q_15 y_16 H hK hP hD hS => ?_)
  have hK : va_K (dC, dI) vwCl [(y_2, .long), (y_4, .int), (y_6, .int), (y_8, .long), (y_10, .long), (y_12, .int), (y_14, .long), (y_16, .long)] s := hK
  have hP : va_P (dC, dI) vwCl [(h0, .inr (7, [.int 0, .int 0, .ref q_1, .int 0, .ref q_3, .ref q_5, .ref q_7, .ref q_9, .int 0, .ref q_11, .ref q_13, .null, .null, .null])), (q_1, .inl (y_2, 16, .inr (.inl (fun _ => 0)))), (q_3, .inl (y_4, 12, .inl (fun _ => 0))), (q_5, .inl (y_6, 12, .inl (fun _ => 0))), (q_7, .inl (y_8, 12, .inr (.inl (fun _ => 0)))), (q_9, .inl (y_10, 12, .inr (.inl (fun _ => 0)))), (q_11, .inl (y_12, 200, .inl (fun _ => 0))), (q_13, .inl (y_14, 32, .inr (.inl (fun _ => 0)))), (q_15, .inl (y_16, 4, .inr (.inl (fun _ => 0))))] H := hP
  have hD : va_D A [(h0, .inr (7, [.int 0, .int 0, .ref q_1, .int 0, .ref q_3, .ref q_5, .ref q_7, .ref q_9, .int 0, .ref q_11, .ref q_13, .null, .null, .null])), (q_1, .inl (y_2, 16, .inr (.inl (fun _ => 0)))), (q_3, .inl (y_4, 12, .inl (fun _ => 0))), (q_5, .inl (y_6, 12, .inl (fun _ => 0))), (q_7, .inl (y_8, 12, .inr (.inl (fun _ => 0)))), (q_9, .inl (y_10, 12, .inr (.inl (fun _ => 0)))), (q_11, .inl (y_12, 200, .inl (fun _ => 0))), (q_13, .inl (y_14, 32, .inr (.inl (fun _ => 0)))), (q_15, .inl (y_16, 4, .inr (.inl (fun _ => 0))))] := hD
  refine W.widen (k := 8) (n := 300) (Nat.le_of_ble_eq_true rfl) (Nat.le_of_ble_eq_true rfl) ?_
  refine va_putF (D := (dC, dI)) (ci := 7) (v := .ref q_15) (ty := .array .long) (C := RX5) (T := TX5) (N := 14) hx hb hts iX5_init_X5 tyX5 tyX5_ok nmX5 hown hK hP hD hS 0 rfl rfl 11 (by decide) (hts _ kX5_init_13) (fun _ h9 => h9) rfl hin rfl (by decide +kernel) rfl rfl (Nat.le_of_ble_eq_true rfl) dX5_init_65 (fun H locs hP hD hS => ?_)
  have hP : va_P (dC, dI) vwCl [(h0, .inr (7, [.int 0, .int 0, .ref q_1, .int 0, .ref q_3, .ref q_5, .ref q_7, .ref q_9, .int 0, .ref q_11, .ref q_13, .ref q_15, .null, .null])), (q_1, .inl (y_2, 16, .inr (.inl (fun _ => 0)))), (q_3, .inl (y_4, 12, .inl (fun _ => 0))), (q_5, .inl (y_6, 12, .inl (fun _ => 0))), (q_7, .inl (y_8, 12, .inr (.inl (fun _ => 0)))), (q_9, .inl (y_10, 12, .inr (.inl (fun _ => 0)))), (q_11, .inl (y_12, 200, .inl (fun _ => 0))), (q_13, .inl (y_14, 32, .inr (.inl (fun _ => 0)))), (q_15, .inl (y_16, 4, .inr (.inl (fun _ => 0))))] H := hP
  have hD : va_D A [(h0, .inr (7, [.int 0, .int 0, .ref q_1, .int 0, .ref q_3, .ref q_5, .ref q_7, .ref q_9, .int 0, .ref q_11, .ref q_13, .ref q_15, .null, .null])), (q_1, .inl (y_2, 16, .inr (.inl (fun _ => 0)))), (q_3, .inl (y_4, 12, .inl (fun _ => 0))), (q_5, .inl (y_6, 12, .inl (fun _ => 0))), (q_7, .inl (y_8, 12, .inr (.inl (fun _ => 0)))), (q_9, .inl (y_10, 12, .inr (.inl (fun _ => 0)))), (q_11, .inl (y_12, 200, .inl (fun _ => 0))), (q_13, .inl (y_14, 32, .inr (.inl (fun _ => 0)))), (q_15, .inl (y_16, 4, .inr (.inl (fun _ => 0))))] := hD
  refine lv_aload_n hx hb dX5_init_68 rfl (lv_at hl 0 rfl) ?_
  refine lv_bipush (v := 16) hx hb dX5_init_69 (by decide) ?_
  refine va_newa (atype := .long) (ty := .long) (N' := 16) (a0 := (16, .inr (.inl (fun _ => 0)))) hx hb (hts _ kX5_init_3) rfl hK hP hD hS hA (fun _ => rfl) (by decide) rfl (Nat.le_of_ble_eq_true rfl) (Nat.le_of_ble_eq_true rfl) (Nat.le_of_ble_eq_true rfl) dX5_init_71 (fun q_17 y_18 H hK hP hD hS => ?_)
  have hK : va_K (dC, dI) vwCl [(y_2, .long), (y_4, .int), (y_6, .int), (y_8, .long), (y_10, .long), (y_12, .int), (y_14, .long), (y_16, .long), (y_18, .long)] s := hK
  have hP : va_P (dC, dI) vwCl [(h0, .inr (7, [.int 0, .int 0, .ref q_1, .int 0, .ref q_3, .ref q_5, .ref q_7, .ref q_9, .int 0, .ref q_11, .ref q_13, .ref q_15, .null, .null])), (q_1, .inl (y_2, 16, .inr (.inl (fun _ => 0)))), (q_3, .inl (y_4, 12, .inl (fun _ => 0))), (q_5, .inl (y_6, 12, .inl (fun _ => 0))), (q_7, .inl (y_8, 12, .inr (.inl (fun _ => 0)))), (q_9, .inl (y_10, 12, .inr (.inl (fun _ => 0)))), (q_11, .inl (y_12, 200, .inl (fun _ => 0))), (q_13, .inl (y_14, 32, .inr (.inl (fun _ => 0)))), (q_15, .inl (y_16, 4, .inr (.inl (fun _ => 0)))), (q_17, .inl (y_18, 16, .inr (.inl (fun _ => 0))))] H := hP
  have hD : va_D A [(h0, .inr (7, [.int 0, .int 0, .ref q_1, .int 0, .ref q_3, .ref q_5, .ref q_7, .ref q_9, .int 0, .ref q_11, .ref q_13, .ref q_15, .null, .null])), (q_1, .inl (y_2, 16, .inr (.inl (fun _ => 0)))), (q_3, .inl (y_4, 12, .inl (fun _ => 0))), (q_5, .inl (y_6, 12, .inl (fun _ => 0))), (q_7, .inl (y_8, 12, .inr (.inl (fun _ => 0)))), (q_9, .inl (y_10, 12, .inr (.inl (fun _ => 0)))), (q_11, .inl (y_12, 200, .inl (fun _ => 0))), (q_13, .inl (y_14, 32, .inr (.inl (fun _ => 0)))), (q_15, .inl (y_16, 4, .inr (.inl (fun _ => 0)))), (q_17, .inl (y_18, 16, .inr (.inl (fun _ => 0))))] := hD
  refine W.widen (k := 9) (n := 316) (Nat.le_of_ble_eq_true rfl) (Nat.le_of_ble_eq_true rfl) ?_
  refine va_putF (D := (dC, dI)) (ci := 7) (v := .ref q_17) (ty := .array .long) (C := RX5) (T := TX5) (N := 14) hx hb hts iX5_init_X5 tyX5 tyX5_ok nmX5 hown hK hP hD hS 0 rfl rfl 12 (by decide) (hts _ kX5_init_14) (fun _ h9 => h9) rfl hin rfl (by decide +kernel) rfl rfl (Nat.le_of_ble_eq_true rfl) dX5_init_73 (fun H locs hP hD hS => ?_)
  have hP : va_P (dC, dI) vwCl [(h0, .inr (7, [.int 0, .int 0, .ref q_1, .int 0, .ref q_3, .ref q_5, .ref q_7, .ref q_9, .int 0, .ref q_11, .ref q_13, .ref q_15, .ref q_17, .null])), (q_1, .inl (y_2, 16, .inr (.inl (fun _ => 0)))), (q_3, .inl (y_4, 12, .inl (fun _ => 0))), (q_5, .inl (y_6, 12, .inl (fun _ => 0))), (q_7, .inl (y_8, 12, .inr (.inl (fun _ => 0)))), (q_9, .inl (y_10, 12, .inr (.inl (fun _ => 0)))), (q_11, .inl (y_12, 200, .inl (fun _ => 0))), (q_13, .inl (y_14, 32, .inr (.inl (fun _ => 0)))), (q_15, .inl (y_16, 4, .inr (.inl (fun _ => 0)))), (q_17, .inl (y_18, 16, .inr (.inl (fun _ => 0))))] H := hP
  have hD : va_D A [(h0, .inr (7, [.int 0, .int 0, .ref q_1, .int 0, .ref q_3, .ref q_5, .ref q_7, .ref q_9, .int 0, .ref q_11, .ref q_13, .ref q_15, .ref q_17, .null])), (q_1, .inl (y_2, 16, .inr (.inl (fun _ => 0)))), (q_3, .inl (y_4, 12, .inl (fun _ => 0))), (q_5, .inl (y_6, 12, .inl (fun _ => 0))), (q_7, .inl (y_8, 12, .inr (.inl (fun _ => 0)))), (q_9, .inl (y_10, 12, .inr (.inl (fun _ => 0)))), (q_11, .inl (y_12, 200, .inl (fun _ => 0))), (q_13, .inl (y_14, 32, .inr (.inl (fun _ => 0)))), (q_15, .inl (y_16, 4, .inr (.inl (fun _ => 0)))), (q_17, .inl (y_18, 16, .inr (.inl (fun _ => 0))))] := hD
  refine lv_aload_n hx hb dX5_init_76 rfl (lv_at hl 0 rfl) ?_
  refine lv_iconst (v := 4) hx hb dX5_init_77 (by decide) ?_
  refine va_newa (atype := .int) (ty := .int) (N' := 4) (a0 := (4, .inl (fun _ => 0))) hx hb (hts _ kX5_init_6) rfl hK hP hD hS hA (fun _ => rfl) (by decide) rfl (Nat.le_of_ble_eq_true rfl) (Nat.le_of_ble_eq_true rfl) (Nat.le_of_ble_eq_true rfl) dX5_init_78 (fun q_19 y_20 H hK hP hD hS => ?_)
  have hK : va_K (dC, dI) vwCl [(y_2, .long), (y_4, .int), (y_6, .int), (y_8, .long), (y_10, .long), (y_12, .int), (y_14, .long), (y_16, .long), (y_18, .long), (y_20, .int)] s := hK
  have hP : va_P (dC, dI) vwCl [(h0, .inr (7, [.int 0, .int 0, .ref q_1, .int 0, .ref q_3, .ref q_5, .ref q_7, .ref q_9, .int 0, .ref q_11, .ref q_13, .ref q_15, .ref q_17, .null])), (q_1, .inl (y_2, 16, .inr (.inl (fun _ => 0)))), (q_3, .inl (y_4, 12, .inl (fun _ => 0))), (q_5, .inl (y_6, 12, .inl (fun _ => 0))), (q_7, .inl (y_8, 12, .inr (.inl (fun _ => 0)))), (q_9, .inl (y_10, 12, .inr (.inl (fun _ => 0)))), (q_11, .inl (y_12, 200, .inl (fun _ => 0))), (q_13, .inl (y_14, 32, .inr (.inl (fun _ => 0)))), (q_15, .inl (y_16, 4, .inr (.inl (fun _ => 0)))), (q_17, .inl (y_18, 16, .inr (.inl (fun _ => 0)))), (q_19, .inl (y_20, 4, .inl (fun _ => 0)))] H := hP
  have hD : va_D A [(h0, .inr (7, [.int 0, .int 0, .ref q_1, .int 0, .ref q_3, .ref q_5, .ref q_7, .ref q_9, .int 0, .ref q_11, .ref q_13, .ref q_15, .ref q_17, .null])), (q_1, .inl (y_2, 16, .inr (.inl (fun _ => 0)))), (q_3, .inl (y_4, 12, .inl (fun _ => 0))), (q_5, .inl (y_6, 12, .inl (fun _ => 0))), (q_7, .inl (y_8, 12, .inr (.inl (fun _ => 0)))), (q_9, .inl (y_10, 12, .inr (.inl (fun _ => 0)))), (q_11, .inl (y_12, 200, .inl (fun _ => 0))), (q_13, .inl (y_14, 32, .inr (.inl (fun _ => 0)))), (q_15, .inl (y_16, 4, .inr (.inl (fun _ => 0)))), (q_17, .inl (y_18, 16, .inr (.inl (fun _ => 0)))), (q_19, .inl (y_20, 4, .inl (fun _ => 0)))] := hD
  refine W.widen (k := 10) (n := 320) (Nat.le_of_ble_eq_true rfl) (Nat.le_of_ble_eq_true rfl) ?_
  refine va_putF (D := (dC, dI)) (ci := 7) (v := .ref q_19) (ty := .array .int) (C := RX5) (T := TX5) (N := 14) hx hb hts iX5_init_X5 tyX5 tyX5_ok nmX5 hown hK hP hD hS 0 rfl rfl 13 (by decide) (hts _ kX5_init_15) (fun _ h9 => h9) rfl hin rfl (by decide +kernel) rfl rfl (Nat.le_of_ble_eq_true rfl) dX5_init_80 (fun H locs hP hD hS => ?_)
  have hP : va_P (dC, dI) vwCl [(h0, .inr (7, [.int 0, .int 0, .ref q_1, .int 0, .ref q_3, .ref q_5, .ref q_7, .ref q_9, .int 0, .ref q_11, .ref q_13, .ref q_15, .ref q_17, .ref q_19])), (q_1, .inl (y_2, 16, .inr (.inl (fun _ => 0)))), (q_3, .inl (y_4, 12, .inl (fun _ => 0))), (q_5, .inl (y_6, 12, .inl (fun _ => 0))), (q_7, .inl (y_8, 12, .inr (.inl (fun _ => 0)))), (q_9, .inl (y_10, 12, .inr (.inl (fun _ => 0)))), (q_11, .inl (y_12, 200, .inl (fun _ => 0))), (q_13, .inl (y_14, 32, .inr (.inl (fun _ => 0)))), (q_15, .inl (y_16, 4, .inr (.inl (fun _ => 0)))), (q_17, .inl (y_18, 16, .inr (.inl (fun _ => 0)))), (q_19, .inl (y_20, 4, .inl (fun _ => 0)))] H := hP
  have hD : va_D A [(h0, .inr (7, [.int 0, .int 0, .ref q_1, .int 0, .ref q_3, .ref q_5, .ref q_7, .ref q_9, .int 0, .ref q_11, .ref q_13, .ref q_15, .ref q_17, .ref q_19])), (q_1, .inl (y_2, 16, .inr (.inl (fun _ => 0)))), (q_3, .inl (y_4, 12, .inl (fun _ => 0))), (q_5, .inl (y_6, 12, .inl (fun _ => 0))), (q_7, .inl (y_8, 12, .inr (.inl (fun _ => 0)))), (q_9, .inl (y_10, 12, .inr (.inl (fun _ => 0)))), (q_11, .inl (y_12, 200, .inl (fun _ => 0))), (q_13, .inl (y_14, 32, .inr (.inl (fun _ => 0)))), (q_15, .inl (y_16, 4, .inr (.inl (fun _ => 0)))), (q_17, .inl (y_18, 16, .inr (.inl (fun _ => 0)))), (q_19, .inl (y_20, 4, .inl (fun _ => 0)))] := hD
  have hP9 := hP.sub (ws' := [(h0, .inr (7, [.int 0, .int 0, .ref q_1, .int 0, .ref q_3, .ref q_5, .ref q_7, .ref q_9, .int 0, .ref q_11, .ref q_13, .ref q_15, .ref q_17, .ref q_19])), (q_1, .inl (y_2, 16, .inr (.inl (fun _ => 0)))), (q_13, .inl (y_14, 32, .inr (.inl (fun _ => 0))))]) [0, 1, 7] rfl
  have hD9 := hD.sub (ws' := [(h0, .inr (7, [.int 0, .int 0, .ref q_1, .int 0, .ref q_3, .ref q_5, .ref q_7, .ref q_9, .int 0, .ref q_11, .ref q_13, .ref q_15, .ref q_17, .ref q_19])), (q_1, .inl (y_2, 16, .inr (.inl (fun _ => 0)))), (q_13, .inl (y_14, 32, .inr (.inl (fun _ => 0))))]) [0, 1, 7] (by decide) rfl
  have hK9 := hK.sub (tys' := [(y_2, .long), (y_14, .long)]) [0, 6] rfl
  refine W.widen (k := 10) (n := 320) (Nat.le_of_ble_eq_true rfl) (Nat.le_of_ble_eq_true rfl) ?_
  exact W.vret hx hb hr (fun t ht hW => ⟨⟨(q_1, q_3, q_5, q_7, q_9, q_11, q_13, q_15, q_17, q_19, y_2, y_14), rfl, trivial, by rw [ht]; exact hP9, va_K.moved hW.alike hK9, hD9⟩, hS.F ht⟩) hS.2.2 dX5_init_83
