def wm_X4_isKey : List Cond := .code yX4_isKey cX4_isKey 2 (some .boolean) :: ([.fieldLink RX4 40 "DrawStreams" "keyCount" "I"] ++ wsX40)
theorem iX4_isKey_X4 : ∀ w ∈ wsX40, w ∈ wm_X4_isKey := by decide +kernel
theorem kX4_isKey_1 : Cond.fieldLink RX4 40 "DrawStreams" "keyCount" "I" ∈ wm_X4_isKey := by decide +kernel
set_option maxHeartbeats 4000000 in
set_option maxRecDepth 100000 in
theorem mt_X4_isKey (l : Launch) (dC : Nat → ClassId) (dI : Nat → Nat → Nat) (sz : Nat) (h0 a0 a1 a2 a4 a6 a8 : Nat) (p0 : Int32) : Met l yX4_isKey wm_X4_isKey ({ frames := 0, cells := 0, slots := 0, locals := 0 }) (va_Pc [.ref h0, .int p0] (fun U => U.heap.size = sz ∧ va_P (dC, dI) vwCl [(h0, .inr (6, [.ref a0, .ref a1, .ref a2, .int 0, .ref a4, .int 0, .ref a6, .int 0, .ref a8]))] U.heap ∧ va_K (dC, dI) vwCl [] U ∧ va_D (fun _ => True) [(h0, .inr (6, [.ref a0, .ref a1, .ref a2, .int 0, .ref a4, .int 0, .ref a6, .int 0, .ref a8]))])) (va_Qi (fun (r : Int32) (u : Unit) => r = 0) (fun (u : Unit) t => va_P (dC, dI) vwCl [(h0, .inr (6, [.ref a0, .ref a1, .ref a2, .int 0, .ref a4, .int 0, .ref a6, .int 0, .ref a8]))] t.heap ∧ va_K (dC, dI) vwCl [] t ∧ va_D (va_A [(h0, .inr (6, [.ref a0, .ref a1, .ref a2, .int 0, .ref a4, .int 0, .ref a6, .int 0, .ref a8]))] sz) [(h0, .inr (6, [.ref a0, .ref a1, .ref a2, .int 0, .ref a4, .int 0, .ref a6, .int 0, .ref a8]))]) (va_A [(h0, .inr (6, [.ref a0, .ref a1, .ref a2, .int 0, .ref a4, .int 0, .ref a6, .int 0, .ref a8]))] sz)) 0 0 (va_A [(h0, .inr (6, [.ref a0, .ref a1, .ref a2, .int 0, .ref a4, .int 0, .ref a6, .int 0, .ref a8]))] sz) := by
  refine Met.ofW (cc := cX4_isKey) (maxL := 2) (ret := (some .boolean)) (by decide) rfl ?_
  intro p e s m args below meth c s₁ B hml hv
  obtain ⟨rfl, hsz, hP, hK, hD0⟩ := hv
  have hx := B.exec
  have hb := B.bytes
  have hr := B.returns
  have hts := atoms_spec (ws := wm_X4_isKey) B.pre
  have hown : s.vm.findClass RX4 = some m.cls := findClass_of_methodNamed B.named
  have hlocks := B.notSynchronized
  subst hsz
  have hD := hD0.self (sz := s.heap.size)
  generalize hAe : va_A [(h0, .inr (6, [.ref a0, .ref a1, .ref a2, .int 0, .ref a4, .int 0, .ref a6, .int 0, .ref a8]))] s.heap.size = A at hD ⊢
  have hA : ∀ q : Nat, s.heap.size ≤ q → A q := fun q h => by rw [← hAe]; exact Or.inr h
  have hS : va_S A s.heap s.heap [] := va_S.rf
  obtain ⟨H, hHe⟩ : ∃ H : Heap, H = s.heap := ⟨_, rfl⟩
  have hP : va_P (dC, dI) vwCl [(h0, .inr (6, [.ref a0, .ref a1, .ref a2, .int 0, .ref a4, .int 0, .ref a6, .int 0, .ref a8]))] H := by rw [hHe]; exact hP
  have hS : va_S A s.heap H [] := by rw [hHe]; exact hS
  have hl := lv_entry ([.ref h0, .int p0]) (n := 2) (Nat.le_of_ble_eq_true rfl)
  rw [lg_entry_eq, ← hHe]
  generalize (lg_sl ([.ref h0, .int p0]) ++ List.replicate (2 - (lg_sl ([.ref h0, .int p0])).length) Slot.unset).toArray = ls at hl ⊢
  have hl : lv_has ls 2 [(0, .ref h0), (1, .int p0)] := hl
  refine lv_iload_n hx hb dX4_isKey_0 rfl (lv_at hl 1 rfl) ?_
  refine lv_if_lt (tgt := 16) hx hb dX4_isKey_1 (by decide) (fun c_1 => ?_) (fun c_1 => ?_)
  · refine lv_iconst (v := 0) hx hb dX4_isKey_16 (by decide) ?_
    have hP9 := hP.sub (ws' := [(h0, .inr (6, [.ref a0, .ref a1, .ref a2, .int 0, .ref a4, .int 0, .ref a6, .int 0, .ref a8]))]) [0] rfl
    have hD9 := hD.sub (ws' := [(h0, .inr (6, [.ref a0, .ref a1, .ref a2, .int 0, .ref a4, .int 0, .ref a6, .int 0, .ref a8]))]) [0] (by decide) rfl
    have hK9 := hK.sub (tys' := []) [] rfl
    exact W.zret (v := 0) (ty := .boolean) hx hb hr rfl (fun t ht hW => ⟨⟨0, (), rfl, rfl, by rw [ht]; exact hP9, va_K.moved hW.alike hK9, hD9⟩, hS.F ht⟩) hS.2.2 dX4_isKey_17
  · refine lv_iload_n hx hb dX4_isKey_4 rfl (lv_at hl 1 rfl) ?_
    refine lv_aload_n hx hb dX4_isKey_5 rfl (lv_at hl 0 rfl) ?_
    refine va_get (D := (dC, dI)) (ci := 6) (v := .int 0) (C := RX4) (T := TX4) (N := 9) hx hb hts iX4_isKey_X4 hown hK hP 0 rfl rfl 3 (by decide) (hts _ kX4_isKey_1) (fun _ h9 => h9) rfl dX4_isKey_6 ?_
    refine lv_icmp_ge (tgt := 16) hx hb dX4_isKey_9 (by decide) (fun c_2 => ?_) (fun c_2 => absurd (Int32.not_le.mp c_2) c_1)
    refine lv_iconst (v := 0) hx hb dX4_isKey_16 (by decide) ?_
    have hP9 := hP.sub (ws' := [(h0, .inr (6, [.ref a0, .ref a1, .ref a2, .int 0, .ref a4, .int 0, .ref a6, .int 0, .ref a8]))]) [0] rfl
    have hD9 := hD.sub (ws' := [(h0, .inr (6, [.ref a0, .ref a1, .ref a2, .int 0, .ref a4, .int 0, .ref a6, .int 0, .ref a8]))]) [0] (by decide) rfl
    have hK9 := hK.sub (tys' := []) [] rfl
    exact W.zret (v := 0) (ty := .boolean) hx hb hr rfl (fun t ht hW => ⟨⟨0, (), rfl, rfl, by rw [ht]; exact hP9, va_K.moved hW.alike hK9, hD9⟩, hS.F ht⟩) hS.2.2 dX4_isKey_17
def wm_X4_drawerOf : List Cond := .code yX4_drawerOf cX4_drawerOf 2 (some (.object "DrawStreams$Drawer")) :: ([.fieldLink RX4 60 "DrawStreams" "drawerCount" "I"] ++ wsX40)
theorem iX4_drawerOf_X4 : ∀ w ∈ wsX40, w ∈ wm_X4_drawerOf := by decide +kernel
theorem kX4_drawerOf_1 : Cond.fieldLink RX4 60 "DrawStreams" "drawerCount" "I" ∈ wm_X4_drawerOf := by decide +kernel
set_option maxHeartbeats 4000000 in
set_option maxRecDepth 100000 in
theorem mt_X4_drawerOf (l : Launch) (dC : Nat → ClassId) (dI : Nat → Nat → Nat) (sz : Nat) (h0 a0 a1 a2 a4 a6 a8 : Nat) (p0 : Int32) : Met l yX4_drawerOf wm_X4_drawerOf ({ frames := 0, cells := 0, slots := 0, locals := 0 }) (va_Pc [.ref h0, .int p0] (fun U => U.heap.size = sz ∧ va_P (dC, dI) vwCl [(h0, .inr (6, [.ref a0, .ref a1, .ref a2, .int 0, .ref a4, .int 0, .ref a6, .int 0, .ref a8]))] U.heap ∧ va_K (dC, dI) vwCl [] U ∧ va_D (fun _ => True) [(h0, .inr (6, [.ref a0, .ref a1, .ref a2, .int 0, .ref a4, .int 0, .ref a6, .int 0, .ref a8]))])) (va_Qq (fun (r : Option Nat) (u : Unit) => r = none) (fun (u : Unit) t => va_P (dC, dI) vwCl [(h0, .inr (6, [.ref a0, .ref a1, .ref a2, .int 0, .ref a4, .int 0, .ref a6, .int 0, .ref a8]))] t.heap ∧ va_K (dC, dI) vwCl [] t ∧ va_D (va_A [(h0, .inr (6, [.ref a0, .ref a1, .ref a2, .int 0, .ref a4, .int 0, .ref a6, .int 0, .ref a8]))] sz) [(h0, .inr (6, [.ref a0, .ref a1, .ref a2, .int 0, .ref a4, .int 0, .ref a6, .int 0, .ref a8]))]) (va_A [(h0, .inr (6, [.ref a0, .ref a1, .ref a2, .int 0, .ref a4, .int 0, .ref a6, .int 0, .ref a8]))] sz)) 0 0 (va_A [(h0, .inr (6, [.ref a0, .ref a1, .ref a2, .int 0, .ref a4, .int 0, .ref a6, .int 0, .ref a8]))] sz) := by
  refine Met.ofW (cc := cX4_drawerOf) (maxL := 2) (ret := (some (.object "DrawStreams$Drawer"))) (by decide) rfl ?_
  intro p e s m args below meth c s₁ B hml hv
  obtain ⟨rfl, hsz, hP, hK, hD0⟩ := hv
  have hx := B.exec
  have hb := B.bytes
  have hr := B.returns
  have hts := atoms_spec (ws := wm_X4_drawerOf) B.pre
  have hown : s.vm.findClass RX4 = some m.cls := findClass_of_methodNamed B.named
  have hlocks := B.notSynchronized
  subst hsz
  have hD := hD0.self (sz := s.heap.size)
  generalize hAe : va_A [(h0, .inr (6, [.ref a0, .ref a1, .ref a2, .int 0, .ref a4, .int 0, .ref a6, .int 0, .ref a8]))] s.heap.size = A at hD ⊢
  have hA : ∀ q : Nat, s.heap.size ≤ q → A q := fun q h => by rw [← hAe]; exact Or.inr h
  have hS : va_S A s.heap s.heap [] := va_S.rf
  obtain ⟨H, hHe⟩ : ∃ H : Heap, H = s.heap := ⟨_, rfl⟩
  have hP : va_P (dC, dI) vwCl [(h0, .inr (6, [.ref a0, .ref a1, .ref a2, .int 0, .ref a4, .int 0, .ref a6, .int 0, .ref a8]))] H := by rw [hHe]; exact hP
  have hS : va_S A s.heap H [] := by rw [hHe]; exact hS
  have hl := lv_entry ([.ref h0, .int p0]) (n := 2) (Nat.le_of_ble_eq_true rfl)
  rw [lg_entry_eq, ← hHe]
  generalize (lg_sl ([.ref h0, .int p0]) ++ List.replicate (2 - (lg_sl ([.ref h0, .int p0])).length) Slot.unset).toArray = ls at hl ⊢
  have hl : lv_has ls 2 [(0, .ref h0), (1, .int p0)] := hl
  refine lv_iload_n hx hb dX4_drawerOf_0 rfl (lv_at hl 1 rfl) ?_
  refine lv_if_lt (tgt := 21) hx hb dX4_drawerOf_1 (by decide) (fun c_1 => ?_) (fun c_1 => ?_)
  · refine lv_null hx hb dX4_drawerOf_21 ?_
    have hP9 := hP.sub (ws' := [(h0, .inr (6, [.ref a0, .ref a1, .ref a2, .int 0, .ref a4, .int 0, .ref a6, .int 0, .ref a8]))]) [0] rfl
    have hD9 := hD.sub (ws' := [(h0, .inr (6, [.ref a0, .ref a1, .ref a2, .int 0, .ref a4, .int 0, .ref a6, .int 0, .ref a8]))]) [0] (by decide) rfl
    have hK9 := hK.sub (tys' := []) [] rfl
    exact W.aret (v := .null) hx hb hr (Or.inl ⟨_, rfl⟩) (Or.inl rfl) (fun t ht hW => ⟨⟨none, (), rfl, rfl, by rw [ht]; exact hP9, va_K.moved hW.alike hK9, hD9⟩, hS.F ht⟩) hS.2.2 dX4_drawerOf_22
  · refine lv_iload_n hx hb dX4_drawerOf_4 rfl (lv_at hl 1 rfl) ?_
    refine lv_aload_n hx hb dX4_drawerOf_5 rfl (lv_at hl 0 rfl) ?_
    refine va_get (D := (dC, dI)) (ci := 6) (v := .int 0) (C := RX4) (T := TX4) (N := 9) hx hb hts iX4_drawerOf_X4 hown hK hP 0 rfl rfl 5 (by decide) (hts _ kX4_drawerOf_1) (fun _ h9 => h9) rfl dX4_drawerOf_6 ?_
    refine lv_icmp_ge (tgt := 21) hx hb dX4_drawerOf_9 (by decide) (fun c_2 => ?_) (fun c_2 => absurd (Int32.not_le.mp c_2) c_1)
    refine lv_null hx hb dX4_drawerOf_21 ?_
    have hP9 := hP.sub (ws' := [(h0, .inr (6, [.ref a0, .ref a1, .ref a2, .int 0, .ref a4, .int 0, .ref a6, .int 0, .ref a8]))]) [0] rfl
    have hD9 := hD.sub (ws' := [(h0, .inr (6, [.ref a0, .ref a1, .ref a2, .int 0, .ref a4, .int 0, .ref a6, .int 0, .ref a8]))]) [0] (by decide) rfl
    have hK9 := hK.sub (tys' := []) [] rfl
    exact W.aret (v := .null) hx hb hr (Or.inl ⟨_, rfl⟩) (Or.inl rfl) (fun t ht hW => ⟨⟨none, (), rfl, rfl, by rw [ht]; exact hP9, va_K.moved hW.alike hK9, hD9⟩, hS.F ht⟩) hS.2.2 dX4_drawerOf_22
def wm_X4_isInOrder : List Cond := .code yX4_isInOrder cX4_isInOrder 5 (some .boolean) :: ([.methodLink RX4 44 yX4_isKey, .instanceMethod yX4_isKey, .selects RX4 yX4_isKey yX4_isKey, .initialized RX4] ++ wm_X4_isKey)
theorem gm_X4_isInOrder_X4_isKey : GoodIn wm_X4_isInOrder (wsV RX4 44 RX4 yX4_isKey wm_X4_isKey) := goodIn_of _ (by decide +kernel)
set_option maxHeartbeats 4000000 in
set_option maxRecDepth 100000 in
theorem mt_X4_isInOrder (l : Launch) (dC : Nat → ClassId) (dI : Nat → Nat → Nat) (sz : Nat) (h0 a0 a1 a2 a4 a6 a8 : Nat) (p0 : Int32) (p1 : Int32) (p2 : Int32) (p3 : Int32) : Met l yX4_isInOrder wm_X4_isInOrder ({ frames := 1, cells := 0, slots := 0, locals := 21 }) (va_Pc [.ref h0, .int p0, .int p1, .int p2, .int p3] (fun U => U.heap.size = sz ∧ va_P (dC, dI) vwCl [(h0, .inr (6, [.ref a0, .ref a1, .ref a2, .int 0, .ref a4, .int 0, .ref a6, .int 0, .ref a8]))] U.heap ∧ va_K (dC, dI) vwCl [] U ∧ va_D (fun _ => True) [(h0, .inr (6, [.ref a0, .ref a1, .ref a2, .int 0, .ref a4, .int 0, .ref a6, .int 0, .ref a8]))])) (va_Qi (fun (r : Int32) (u : Unit) => r = 0) (fun (u : Unit) t => va_P (dC, dI) vwCl [(h0, .inr (6, [.ref a0, .ref a1, .ref a2, .int 0, .ref a4, .int 0, .ref a6, .int 0, .ref a8]))] t.heap ∧ va_K (dC, dI) vwCl [] t ∧ va_D (va_A [(h0, .inr (6, [.ref a0, .ref a1, .ref a2, .int 0, .ref a4, .int 0, .ref a6, .int 0, .ref a8]))] sz) [(h0, .inr (6, [.ref a0, .ref a1, .ref a2, .int 0, .ref a4, .int 0, .ref a6, .int 0, .ref a8]))]) (va_A [(h0, .inr (6, [.ref a0, .ref a1, .ref a2, .int 0, .ref a4, .int 0, .ref a6, .int 0, .ref a8]))] sz)) 0 0 (va_A [(h0, .inr (6, [.ref a0, .ref a1, .ref a2, .int 0, .ref a4, .int 0, .ref a6, .int 0, .ref a8]))] sz) := by
  refine Met.ofW (cc := cX4_isInOrder) (maxL := 5) (ret := (some .boolean)) (by decide) rfl ?_
  intro p e s m args below meth c s₁ B hml hv
  obtain ⟨rfl, hsz, hP, hK, hD0⟩ := hv
  have hx := B.exec
  have hb := B.bytes
  have hr := B.returns
  have hts := atoms_spec (ws := wm_X4_isInOrder) B.pre
  have hown : s.vm.findClass RX4 = some m.cls := findClass_of_methodNamed B.named
  have hlocks := B.notSynchronized
  subst hsz
  have hD := hD0.self (sz := s.heap.size)
  generalize hAe : va_A [(h0, .inr (6, [.ref a0, .ref a1, .ref a2, .int 0, .ref a4, .int 0, .ref a6, .int 0, .ref a8]))] s.heap.size = A at hD ⊢
  have hA : ∀ q : Nat, s.heap.size ≤ q → A q := fun q h => by rw [← hAe]; exact Or.inr h
  have hS : va_S A s.heap s.heap [] := va_S.rf
  obtain ⟨H, hHe⟩ : ∃ H : Heap, H = s.heap := ⟨_, rfl⟩
  have hP : va_P (dC, dI) vwCl [(h0, .inr (6, [.ref a0, .ref a1, .ref a2, .int 0, .ref a4, .int 0, .ref a6, .int 0, .ref a8]))] H := by rw [hHe]; exact hP
  have hS : va_S A s.heap H [] := by rw [hHe]; exact hS
  have hl := lv_entry ([.ref h0, .int p0, .int p1, .int p2, .int p3]) (n := 5) (Nat.le_of_ble_eq_true rfl)
  rw [lg_entry_eq, ← hHe]
  generalize (lg_sl ([.ref h0, .int p0, .int p1, .int p2, .int p3]) ++ List.replicate (5 - (lg_sl ([.ref h0, .int p0, .int p1, .int p2, .int p3])).length) Slot.unset).toArray = ls at hl ⊢
  have hl : lv_has ls 5 [(0, .ref h0), (1, .int p0), (2, .int p1), (3, .int p2), (4, .int p3)] := hl
  refine lv_aload_n hx hb dX4_isInOrder_0 rfl (lv_at hl 0 rfl) ?_
  refine lv_iload_n hx hb dX4_isInOrder_1 rfl (lv_at hl 1 rfl) ?_
  have hPc := hP.sub (ws' := [(h0, .inr (6, [.ref a0, .ref a1, .ref a2, .int 0, .ref a4, .int 0, .ref a6, .int 0, .ref a8]))]) [0] rfl
  have hDc := hD.sub (ws' := [(h0, .inr (6, [.ref a0, .ref a1, .ref a2, .int 0, .ref a4, .int 0, .ref a6, .int 0, .ref a8]))]) [0] (by decide) rfl
  have hKc := hK.sub (tys' := []) [] rfl
  have hFc := va_free (wc := [(h0, .inr (6, [.ref a0, .ref a1, .ref a2, .int 0, .ref a4, .int 0, .ref a6, .int 0, .ref a8]))]) hD hS hA [0] rfl
  refine va_calli (va_runV (As := [.int p0]) (rest := []) ⟨hx, hb, hml, hown, hts⟩ (mt_X4_isKey l dC dI H.size h0 a0 a1 a2 a4 a6 a8 p0) (cwV 1 hts gm_X4_isInOrder_X4_isKey rfl rfl rfl (by decide +kernel) ⟨Nat.le_of_ble_eq_true rfl, Nat.le_of_ble_eq_true rfl⟩) ⟨fun a U g mk q => by obtain ⟨q0, q1, qP, qK, qD⟩ := q; exact ⟨q0, q1, qP, va_K.moved (u := U) (U := U.calling g mk a) (Vm.Alike.refl U.vm) qK, qD⟩, va_recv hKc hPc (ci := 6) (q0 := 0) rfl rfl, fun U hU hW => ⟨rfl, by rw [hU], by rw [hU]; exact hPc, va_K.moved hW.alike hKc, hDc.weaken (fun _ _ _ _ => trivial)⟩⟩ rfl rfl hl.1 rfl (lv_room (Nat.le_of_ble_eq_true rfl)) dX4_isInOrder_2 ⟨Nat.le_of_ble_eq_true rfl, Nat.le_of_ble_eq_true rfl⟩) hS (fun q _ h => hFc q h) hFc (fun r_1 u t H1 locs ht hvm hw hB hz1 hk1 hS => ?_)
  obtain ⟨hP1, hK1, hD1⟩ := hB
  rw [ht] at hP1
  have hK1 := va_K.moved hvm.symm hK1
  obtain ⟨hP, hD⟩ := va_join (wr := []) (w1 := [(h0, .inr (6, [.ref a0, .ref a1, .ref a2, .int 0, .ref a4, .int 0, .ref a6, .int 0, .ref a8]))]) hP hD [0] [] rfl rfl (by decide) (by decide) hk1 hFc hP1 hD1
  generalize H1 = H at hP hS ⊢
  have hP : va_P (dC, dI) vwCl [(h0, .inr (6, [.ref a0, .ref a1, .ref a2, .int 0, .ref a4, .int 0, .ref a6, .int 0, .ref a8]))] H := hP
  have hD : va_D A [(h0, .inr (6, [.ref a0, .ref a1, .ref a2, .int 0, .ref a4, .int 0, .ref a6, .int 0, .ref a8]))] := hD
  subst hw
  refine lv_if_eq (tgt := 38) hx hb dX4_isInOrder_5 (by decide) (fun c_2 => ?_) (fun c_2 => absurd c_2 (by decide))
  refine lv_iconst (v := 0) hx hb dX4_isInOrder_38 (by decide) ?_
  have hP9 := hP.sub (ws' := [(h0, .inr (6, [.ref a0, .ref a1, .ref a2, .int 0, .ref a4, .int 0, .ref a6, .int 0, .ref a8]))]) [0] rfl
  have hD9 := hD.sub (ws' := [(h0, .inr (6, [.ref a0, .ref a1, .ref a2, .int 0, .ref a4, .int 0, .ref a6, .int 0, .ref a8]))]) [0] (by decide) rfl
  have hK9 := hK.sub (tys' := []) [] rfl
  exact W.zret (v := 0) (ty := .boolean) hx hb hr rfl (fun t ht hW => ⟨⟨0, (), rfl, rfl, by rw [ht]; exact hP9, va_K.moved hW.alike hK9, hD9⟩, hS.F ht⟩) hS.2.2 dX4_isInOrder_39
def wm_X4_split : List Cond := .code yX4_split cX4_split 3 (some .int) :: ([.methodLink RX4 44 yX4_isKey, .instanceMethod yX4_isKey, .selects RX4 yX4_isKey yX4_isKey, .initialized RX4] ++ wm_X4_isKey)
theorem gm_X4_split_X4_isKey : GoodIn wm_X4_split (wsV RX4 44 RX4 yX4_isKey wm_X4_isKey) := goodIn_of _ (by decide +kernel)
set_option maxHeartbeats 4000000 in
set_option maxRecDepth 100000 in
theorem mt_X4_split (l : Launch) (dC : Nat → ClassId) (dI : Nat → Nat → Nat) (sz : Nat) (h0 a0 a1 a2 a4 a6 a8 : Nat) (p0 : Int32) (p1 : Int32) : Met l yX4_split wm_X4_split ({ frames := 1, cells := 0, slots := 0, locals := 21 }) (va_Pc [.ref h0, .int p0, .int p1] (fun U => U.heap.size = sz ∧ va_P (dC, dI) vwCl [(h0, .inr (6, [.ref a0, .ref a1, .ref a2, .int 0, .ref a4, .int 0, .ref a6, .int 0, .ref a8]))] U.heap ∧ va_K (dC, dI) vwCl [] U ∧ va_D (fun _ => True) [(h0, .inr (6, [.ref a0, .ref a1, .ref a2, .int 0, .ref a4, .int 0, .ref a6, .int 0, .ref a8]))])) (va_Qi (fun (r : Int32) (u : Unit) => r = -1) (fun (u : Unit) t => va_P (dC, dI) vwCl [] t.heap ∧ va_K (dC, dI) vwCl [] t ∧ va_D (va_A [(h0, .inr (6, [.ref a0, .ref a1, .ref a2, .int 0, .ref a4, .int 0, .ref a6, .int 0, .ref a8]))] sz) []) (va_A [(h0, .inr (6, [.ref a0, .ref a1, .ref a2, .int 0, .ref a4, .int 0, .ref a6, .int 0, .ref a8]))] sz)) 0 0 (va_A [(h0, .inr (6, [.ref a0, .ref a1, .ref a2, .int 0, .ref a4, .int 0, .ref a6, .int 0, .ref a8]))] sz) := by
  refine Met.ofW (cc := cX4_split) (maxL := 3) (ret := (some .int)) (by decide) rfl ?_
  intro p e s m args below meth c s₁ B hml hv
  obtain ⟨rfl, hsz, hP, hK, hD0⟩ := hv
  have hx := B.exec
  have hb := B.bytes
  have hr := B.returns
  have hts := atoms_spec (ws := wm_X4_split) B.pre
  have hown : s.vm.findClass RX4 = some m.cls := findClass_of_methodNamed B.named
  have hlocks := B.notSynchronized
  subst hsz
  have hD := hD0.self (sz := s.heap.size)
  generalize hAe : va_A [(h0, .inr (6, [.ref a0, .ref a1, .ref a2, .int 0, .ref a4, .int 0, .ref a6, .int 0, .ref a8]))] s.heap.size = A at hD ⊢
  have hA : ∀ q : Nat, s.heap.size ≤ q → A q := fun q h => by rw [← hAe]; exact Or.inr h
  have hS : va_S A s.heap s.heap [] := va_S.rf
  obtain ⟨H, hHe⟩ : ∃ H : Heap, H = s.heap := ⟨_, rfl⟩
  have hP : va_P (dC, dI) vwCl [(h0, .inr (6, [.ref a0, .ref a1, .ref a2, .int 0, .ref a4, .int 0, .ref a6, .int 0, .ref a8]))] H := by rw [hHe]; exact hP
  have hS : va_S A s.heap H [] := by rw [hHe]; exact hS
  have hl := lv_entry ([.ref h0, .int p0, .int p1]) (n := 3) (Nat.le_of_ble_eq_true rfl)
  rw [lg_entry_eq, ← hHe]
  generalize (lg_sl ([.ref h0, .int p0, .int p1]) ++ List.replicate (3 - (lg_sl ([.ref h0, .int p0, .int p1])).length) Slot.unset).toArray = ls at hl ⊢
  have hl : lv_has ls 3 [(0, .ref h0), (1, .int p0), (2, .int p1)] := hl
  refine lv_aload_n hx hb dX4_split_0 rfl (lv_at hl 0 rfl) ?_
  refine lv_iload_n hx hb dX4_split_1 rfl (lv_at hl 1 rfl) ?_
  have hPc := hP.sub (ws' := [(h0, .inr (6, [.ref a0, .ref a1, .ref a2, .int 0, .ref a4, .int 0, .ref a6, .int 0, .ref a8]))]) [0] rfl
  have hDc := hD.sub (ws' := [(h0, .inr (6, [.ref a0, .ref a1, .ref a2, .int 0, .ref a4, .int 0, .ref a6, .int 0, .ref a8]))]) [0] (by decide) rfl
  have hKc := hK.sub (tys' := []) [] rfl
  have hFc := va_free (wc := [(h0, .inr (6, [.ref a0, .ref a1, .ref a2, .int 0, .ref a4, .int 0, .ref a6, .int 0, .ref a8]))]) hD hS hA [0] rfl
  refine va_calli (va_runV (As := [.int p0]) (rest := []) ⟨hx, hb, hml, hown, hts⟩ (mt_X4_isKey l dC dI H.size h0 a0 a1 a2 a4 a6 a8 p0) (cwV 1 hts gm_X4_split_X4_isKey rfl rfl rfl (by decide +kernel) ⟨Nat.le_of_ble_eq_true rfl, Nat.le_of_ble_eq_true rfl⟩) ⟨fun a U g mk q => by obtain ⟨q0, q1, qP, qK, qD⟩ := q; exact ⟨q0, q1, qP, va_K.moved (u := U) (U := U.calling g mk a) (Vm.Alike.refl U.vm) qK, qD⟩, va_recv hKc hPc (ci := 6) (q0 := 0) rfl rfl, fun U hU hW => ⟨rfl, by rw [hU], by rw [hU]; exact hPc, va_K.moved hW.alike hKc, hDc.weaken (fun _ _ _ _ => trivial)⟩⟩ rfl rfl hl.1 rfl (lv_room (Nat.le_of_ble_eq_true rfl)) dX4_split_2 ⟨Nat.le_of_ble_eq_true rfl, Nat.le_of_ble_eq_true rfl⟩) hS (fun q _ h => hFc q h) hFc (fun r_1 u t H1 locs ht hvm hw hB hz1 hk1 hS => ?_)
  obtain ⟨hP1, hK1, hD1⟩ := hB
  rw [ht] at hP1
  have hK1 := va_K.moved hvm.symm hK1
  obtain ⟨hP, hD⟩ := va_join (wr := []) (w1 := [(h0, .inr (6, [.ref a0, .ref a1, .ref a2, .int 0, .ref a4, .int 0, .ref a6, .int 0, .ref a8]))]) hP hD [0] [] rfl rfl (by decide) (by decide) hk1 hFc hP1 hD1
  generalize H1 = H at hP hS ⊢
  have hP : va_P (dC, dI) vwCl [(h0, .inr (6, [.ref a0, .ref a1, .ref a2, .int 0, .ref a4, .int 0, .ref a6, .int 0, .ref a8]))] H := hP
  have hD : va_D A [(h0, .inr (6, [.ref a0, .ref a1, .ref a2, .int 0, .ref a4, .int 0, .ref a6, .int 0, .ref a8]))] := hD
  subst hw
  refine lv_if_ne (tgt := 10) hx hb dX4_split_5 (by decide) (fun c_2 => absurd c_2 (by decide)) (fun c_2 => ?_)
  refine lv_iconst (v := -1) hx hb dX4_split_8 (by decide) ?_
  have hP9 := hP.sub (ws' := []) [] rfl
  have hD9 := hD.sub (ws' := []) [] (by decide) rfl
  have hK9 := hK.sub (tys' := []) [] rfl
  exact W.iret (v := ((-1))) hx hb hr (fun t ht hW => ⟨⟨((-1)), (), rfl, rfl, by rw [ht]; exact hP9, va_K.moved hW.alike hK9, hD9⟩, hS.F ht⟩) hS.2.2 dX4_split_9
def wm_X4_drawer : List Cond := .code yX4_drawer cX4_drawer 3 (some .int) :: ([.methodLink RX4 44 yX4_isKey, .instanceMethod yX4_isKey, .selects RX4 yX4_isKey yX4_isKey, .initialized RX4] ++ wm_X4_isKey)
theorem gm_X4_drawer_X4_isKey : GoodIn wm_X4_drawer (wsV RX4 44 RX4 yX4_isKey wm_X4_isKey) := goodIn_of _ (by decide +kernel)
set_option maxHeartbeats 4000000 in
set_option maxRecDepth 100000 in
theorem mt_X4_drawer (l : Launch) (dC : Nat → ClassId) (dI : Nat → Nat → Nat) (sz : Nat) (h0 a0 a1 a2 a4 a6 a8 : Nat) (p0 : Int32) (p1 : Int32) : Met l yX4_drawer wm_X4_drawer ({ frames := 1, cells := 0, slots := 0, locals := 21 }) (va_Pc [.ref h0, .int p0, .int p1] (fun U => U.heap.size = sz ∧ va_P (dC, dI) vwCl [(h0, .inr (6, [.ref a0, .ref a1, .ref a2, .int 0, .ref a4, .int 0, .ref a6, .int 0, .ref a8]))] U.heap ∧ va_K (dC, dI) vwCl [] U ∧ va_D (fun _ => True) [(h0, .inr (6, [.ref a0, .ref a1, .ref a2, .int 0, .ref a4, .int 0, .ref a6, .int 0, .ref a8]))])) (va_Qi (fun (r : Int32) (u : Unit) => r = -1) (fun (u : Unit) t => va_P (dC, dI) vwCl [] t.heap ∧ va_K (dC, dI) vwCl [] t ∧ va_D (va_A [(h0, .inr (6, [.ref a0, .ref a1, .ref a2, .int 0, .ref a4, .int 0, .ref a6, .int 0, .ref a8]))] sz) []) (va_A [(h0, .inr (6, [.ref a0, .ref a1, .ref a2, .int 0, .ref a4, .int 0, .ref a6, .int 0, .ref a8]))] sz)) 0 0 (va_A [(h0, .inr (6, [.ref a0, .ref a1, .ref a2, .int 0, .ref a4, .int 0, .ref a6, .int 0, .ref a8]))] sz) := by
  refine Met.ofW (cc := cX4_drawer) (maxL := 3) (ret := (some .int)) (by decide) rfl ?_
  intro p e s m args below meth c s₁ B hml hv
  obtain ⟨rfl, hsz, hP, hK, hD0⟩ := hv
  have hx := B.exec
  have hb := B.bytes
  have hr := B.returns
  have hts := atoms_spec (ws := wm_X4_drawer) B.pre
  have hown : s.vm.findClass RX4 = some m.cls := findClass_of_methodNamed B.named
  have hlocks := B.notSynchronized
  subst hsz
  have hD := hD0.self (sz := s.heap.size)
  generalize hAe : va_A [(h0, .inr (6, [.ref a0, .ref a1, .ref a2, .int 0, .ref a4, .int 0, .ref a6, .int 0, .ref a8]))] s.heap.size = A at hD ⊢
  have hA : ∀ q : Nat, s.heap.size ≤ q → A q := fun q h => by rw [← hAe]; exact Or.inr h
  have hS : va_S A s.heap s.heap [] := va_S.rf
  obtain ⟨H, hHe⟩ : ∃ H : Heap, H = s.heap := ⟨_, rfl⟩
  have hP : va_P (dC, dI) vwCl [(h0, .inr (6, [.ref a0, .ref a1, .ref a2, .int 0, .ref a4, .int 0, .ref a6, .int 0, .ref a8]))] H := by rw [hHe]; exact hP
  have hS : va_S A s.heap H [] := by rw [hHe]; exact hS
  have hl := lv_entry ([.ref h0, .int p0, .int p1]) (n := 3) (Nat.le_of_ble_eq_true rfl)
  rw [lg_entry_eq, ← hHe]
  generalize (lg_sl ([.ref h0, .int p0, .int p1]) ++ List.replicate (3 - (lg_sl ([.ref h0, .int p0, .int p1])).length) Slot.unset).toArray = ls at hl ⊢
  have hl : lv_has ls 3 [(0, .ref h0), (1, .int p0), (2, .int p1)] := hl
  refine lv_aload_n hx hb dX4_drawer_0 rfl (lv_at hl 0 rfl) ?_
  refine lv_iload_n hx hb dX4_drawer_1 rfl (lv_at hl 1 rfl) ?_
  have hPc := hP.sub (ws' := [(h0, .inr (6, [.ref a0, .ref a1, .ref a2, .int 0, .ref a4, .int 0, .ref a6, .int 0, .ref a8]))]) [0] rfl
  have hDc := hD.sub (ws' := [(h0, .inr (6, [.ref a0, .ref a1, .ref a2, .int 0, .ref a4, .int 0, .ref a6, .int 0, .ref a8]))]) [0] (by decide) rfl
  have hKc := hK.sub (tys' := []) [] rfl
  have hFc := va_free (wc := [(h0, .inr (6, [.ref a0, .ref a1, .ref a2, .int 0, .ref a4, .int 0, .ref a6, .int 0, .ref a8]))]) hD hS hA [0] rfl
  refine va_calli (va_runV (As := [.int p0]) (rest := []) ⟨hx, hb, hml, hown, hts⟩ (mt_X4_isKey l dC dI H.size h0 a0 a1 a2 a4 a6 a8 p0) (cwV 1 hts gm_X4_drawer_X4_isKey rfl rfl rfl (by decide +kernel) ⟨Nat.le_of_ble_eq_true rfl, Nat.le_of_ble_eq_true rfl⟩) ⟨fun a U g mk q => by obtain ⟨q0, q1, qP, qK, qD⟩ := q; exact ⟨q0, q1, qP, va_K.moved (u := U) (U := U.calling g mk a) (Vm.Alike.refl U.vm) qK, qD⟩, va_recv hKc hPc (ci := 6) (q0 := 0) rfl rfl, fun U hU hW => ⟨rfl, by rw [hU], by rw [hU]; exact hPc, va_K.moved hW.alike hKc, hDc.weaken (fun _ _ _ _ => trivial)⟩⟩ rfl rfl hl.1 rfl (lv_room (Nat.le_of_ble_eq_true rfl)) dX4_drawer_2 ⟨Nat.le_of_ble_eq_true rfl, Nat.le_of_ble_eq_true rfl⟩) hS (fun q _ h => hFc q h) hFc (fun r_1 u t H1 locs ht hvm hw hB hz1 hk1 hS => ?_)
  obtain ⟨hP1, hK1, hD1⟩ := hB
  rw [ht] at hP1
  have hK1 := va_K.moved hvm.symm hK1
  obtain ⟨hP, hD⟩ := va_join (wr := []) (w1 := [(h0, .inr (6, [.ref a0, .ref a1, .ref a2, .int 0, .ref a4, .int 0, .ref a6, .int 0, .ref a8]))]) hP hD [0] [] rfl rfl (by decide) (by decide) hk1 hFc hP1 hD1
  generalize H1 = H at hP hS ⊢
  have hP : va_P (dC, dI) vwCl [(h0, .inr (6, [.ref a0, .ref a1, .ref a2, .int 0, .ref a4, .int 0, .ref a6, .int 0, .ref a8]))] H := hP
  have hD : va_D A [(h0, .inr (6, [.ref a0, .ref a1, .ref a2, .int 0, .ref a4, .int 0, .ref a6, .int 0, .ref a8]))] := hD
  subst hw
  refine lv_if_eq (tgt := 12) hx hb dX4_drawer_5 (by decide) (fun c_2 => ?_) (fun c_2 => absurd c_2 (by decide))
  refine lv_iconst (v := -1) hx hb dX4_drawer_12 (by decide) ?_
  have hP9 := hP.sub (ws' := []) [] rfl
  have hD9 := hD.sub (ws' := []) [] (by decide) rfl
  have hK9 := hK.sub (tys' := []) [] rfl
  exact W.iret (v := ((-1))) hx hb hr (fun t ht hW => ⟨⟨((-1)), (), rfl, rfl, by rw [ht]; exact hP9, va_K.moved hW.alike hK9, hD9⟩, hS.F ht⟩) hS.2.2 dX4_drawer_13
def wm_X4_place : List Cond := .code yX4_place cX4_place 5 (some .int) :: ([.methodLink RX4 66 yX4_drawerOf, .instanceMethod yX4_drawerOf, .selects RX4 yX4_drawerOf yX4_drawerOf, .initialized RX4] ++ wm_X4_drawerOf)
theorem gm_X4_place_X4_drawerOf : GoodIn wm_X4_place (wsV RX4 66 RX4 yX4_drawerOf wm_X4_drawerOf) := goodIn_of _ (by decide +kernel)
set_option maxHeartbeats 4000000 in
set_option maxRecDepth 100000 in
theorem mt_X4_place (l : Launch) (dC : Nat → ClassId) (dI : Nat → Nat → Nat) (sz : Nat) (h0 a0 a1 a2 a4 a6 a8 : Nat) (p0 : Int32) (p1 : Int64) : Met l yX4_place wm_X4_place ({ frames := 1, cells := 0, slots := 0, locals := 21 }) (va_Pc [.ref h0, .int p0, .long p1] (fun U => U.heap.size = sz ∧ va_P (dC, dI) vwCl [(h0, .inr (6, [.ref a0, .ref a1, .ref a2, .int 0, .ref a4, .int 0, .ref a6, .int 0, .ref a8]))] U.heap ∧ va_K (dC, dI) vwCl [] U ∧ va_D (fun _ => True) [(h0, .inr (6, [.ref a0, .ref a1, .ref a2, .int 0, .ref a4, .int 0, .ref a6, .int 0, .ref a8]))])) (va_Qi (fun (r : Int32) (u : Unit) => r = -1) (fun (u : Unit) t => va_P (dC, dI) vwCl [] t.heap ∧ va_K (dC, dI) vwCl [] t ∧ va_D (va_A [(h0, .inr (6, [.ref a0, .ref a1, .ref a2, .int 0, .ref a4, .int 0, .ref a6, .int 0, .ref a8]))] sz) []) (va_A [(h0, .inr (6, [.ref a0, .ref a1, .ref a2, .int 0, .ref a4, .int 0, .ref a6, .int 0, .ref a8]))] sz)) 0 0 (va_A [(h0, .inr (6, [.ref a0, .ref a1, .ref a2, .int 0, .ref a4, .int 0, .ref a6, .int 0, .ref a8]))] sz) := by
  refine Met.ofW (cc := cX4_place) (maxL := 5) (ret := (some .int)) (by decide) rfl ?_
  intro p e s m args below meth c s₁ B hml hv
  obtain ⟨rfl, hsz, hP, hK, hD0⟩ := hv
  have hx := B.exec
  have hb := B.bytes
  have hr := B.returns
  have hts := atoms_spec (ws := wm_X4_place) B.pre
  have hown : s.vm.findClass RX4 = some m.cls := findClass_of_methodNamed B.named
  have hlocks := B.notSynchronized
  subst hsz
  have hD := hD0.self (sz := s.heap.size)
  generalize hAe : va_A [(h0, .inr (6, [.ref a0, .ref a1, .ref a2, .int 0, .ref a4, .int 0, .ref a6, .int 0, .ref a8]))] s.heap.size = A at hD ⊢
  have hA : ∀ q : Nat, s.heap.size ≤ q → A q := fun q h => by rw [← hAe]; exact Or.inr h
  have hS : va_S A s.heap s.heap [] := va_S.rf
  obtain ⟨H, hHe⟩ : ∃ H : Heap, H = s.heap := ⟨_, rfl⟩
  have hP : va_P (dC, dI) vwCl [(h0, .inr (6, [.ref a0, .ref a1, .ref a2, .int 0, .ref a4, .int 0, .ref a6, .int 0, .ref a8]))] H := by rw [hHe]; exact hP
  have hS : va_S A s.heap H [] := by rw [hHe]; exact hS
  have hl := lv_entry ([.ref h0, .int p0, .long p1]) (n := 5) (Nat.le_of_ble_eq_true rfl)
  rw [lg_entry_eq, ← hHe]
  generalize (lg_sl ([.ref h0, .int p0, .long p1]) ++ List.replicate (5 - (lg_sl ([.ref h0, .int p0, .long p1])).length) Slot.unset).toArray = ls at hl ⊢
  have hl : lv_has ls 5 [(0, .ref h0), (1, .int p0), (2, .long p1)] := hl
  refine lv_aload_n hx hb dX4_place_0 rfl (lv_at hl 0 rfl) ?_
  refine lv_iload_n hx hb dX4_place_1 rfl (lv_at hl 1 rfl) ?_
  have hPc := hP.sub (ws' := [(h0, .inr (6, [.ref a0, .ref a1, .ref a2, .int 0, .ref a4, .int 0, .ref a6, .int 0, .ref a8]))]) [0] rfl
  have hDc := hD.sub (ws' := [(h0, .inr (6, [.ref a0, .ref a1, .ref a2, .int 0, .ref a4, .int 0, .ref a6, .int 0, .ref a8]))]) [0] (by decide) rfl
  have hKc := hK.sub (tys' := []) [] rfl
  have hFc := va_free (wc := [(h0, .inr (6, [.ref a0, .ref a1, .ref a2, .int 0, .ref a4, .int 0, .ref a6, .int 0, .ref a8]))]) hD hS hA [0] rfl
  refine va_callq (va_runV (As := [.int p0]) (rest := []) ⟨hx, hb, hml, hown, hts⟩ (mt_X4_drawerOf l dC dI H.size h0 a0 a1 a2 a4 a6 a8 p0) (cwV 1 hts gm_X4_place_X4_drawerOf rfl rfl rfl (by decide +kernel) ⟨Nat.le_of_ble_eq_true rfl, Nat.le_of_ble_eq_true rfl⟩) ⟨fun a U g mk q => by obtain ⟨q0, q1, qP, qK, qD⟩ := q; exact ⟨q0, q1, qP, va_K.moved (u := U) (U := U.calling g mk a) (Vm.Alike.refl U.vm) qK, qD⟩, va_recv hKc hPc (ci := 6) (q0 := 0) rfl rfl, fun U hU hW => ⟨rfl, by rw [hU], by rw [hU]; exact hPc, va_K.moved hW.alike hKc, hDc.weaken (fun _ _ _ _ => trivial)⟩⟩ rfl rfl hl.1 rfl (lv_room (Nat.le_of_ble_eq_true rfl)) dX4_place_2 ⟨Nat.le_of_ble_eq_true rfl, Nat.le_of_ble_eq_true rfl⟩) hS (fun q _ h => hFc q h) hFc (fun r_1 u t H1 locs ht hvm hw hB hz1 hk1 hS => ?_)
  obtain ⟨hP1, hK1, hD1⟩ := hB
  rw [ht] at hP1
  have hK1 := va_K.moved hvm.symm hK1
  obtain ⟨hP, hD⟩ := va_join (wr := []) (w1 := [(h0, .inr (6, [.ref a0, .ref a1, .ref a2, .int 0, .ref a4, .int 0, .ref a6, .int 0, .ref a8]))]) hP hD [0] [] rfl rfl (by decide) (by decide) hk1 hFc hP1 hD1
  generalize H1 = H at hP hS ⊢
  have hP : va_P (dC, dI) vwCl [(h0, .inr (6, [.ref a0, .ref a1, .ref a2, .int 0, .ref a4, .int 0, .ref a6, .int 0, .ref a8]))] H := hP
  have hD : va_D A [(h0, .inr (6, [.ref a0, .ref a1, .ref a2, .int 0, .ref a4, .int 0, .ref a6, .int 0, .ref a8]))] := hD
  subst hw
  try dsimp only [va_rf]
  refine W.eq (g2 := F0 m 5 ls [.null]) rfl ?_
  refine lv_astoreN (lv' := [(4, .null), (0, .ref h0), (1, .int p0), (2, .long p1)]) hx hb dX4_place_5 hl (by decide) rfl (fun ls hl => ?_)
  refine lv_aloadN hx hb dX4_place_7 (lv_at hl 0 rfl) ?_
  refine lv_ifnullN (tgt := 26) hx hb dX4_place_9 (by decide) ?_
  refine lv_iconst (v := -1) hx hb dX4_place_26 (by decide) ?_
  have hP9 := hP.sub (ws' := []) [] rfl
  have hD9 := hD.sub (ws' := []) [] (by decide) rfl
  have hK9 := hK.sub (tys' := []) [] rfl
  exact W.iret (v := ((-1))) hx hb hr (fun t ht hW => ⟨⟨((-1)), (), rfl, rfl, by rw [ht]; exact hP9, va_K.moved hW.alike hK9, hD9⟩, hS.F ht⟩) hS.2.2 dX4_place_27
def wm_X4_coin : List Cond := .code yX4_coin cX4_coin 5 (some .int) :: ([.methodLink RX4 66 yX4_drawerOf, .instanceMethod yX4_drawerOf, .selects RX4 yX4_drawerOf yX4_drawerOf, .initialized RX4] ++ wm_X4_drawerOf)
theorem gm_X4_coin_X4_drawerOf : GoodIn wm_X4_coin (wsV RX4 66 RX4 yX4_drawerOf wm_X4_drawerOf) := goodIn_of _ (by decide +kernel)
set_option maxHeartbeats 4000000 in
set_option maxRecDepth 100000 in
theorem mt_X4_coin (l : Launch) (dC : Nat → ClassId) (dI : Nat → Nat → Nat) (sz : Nat) (h0 a0 a1 a2 a4 a6 a8 : Nat) (p0 : Int32) (p1 : Int32) (p2 : Int32) : Met l yX4_coin wm_X4_coin ({ frames := 1, cells := 0, slots := 0, locals := 21 }) (va_Pc [.ref h0, .int p0, .int p1, .int p2] (fun U => U.heap.size = sz ∧ va_P (dC, dI) vwCl [(h0, .inr (6, [.ref a0, .ref a1, .ref a2, .int 0, .ref a4, .int 0, .ref a6, .int 0, .ref a8]))] U.heap ∧ va_K (dC, dI) vwCl [] U ∧ va_D (fun _ => True) [(h0, .inr (6, [.ref a0, .ref a1, .ref a2, .int 0, .ref a4, .int 0, .ref a6, .int 0, .ref a8]))])) (va_Qi (fun (r : Int32) (u : Unit) => r = -1) (fun (u : Unit) t => va_P (dC, dI) vwCl [] t.heap ∧ va_K (dC, dI) vwCl [] t ∧ va_D (va_A [(h0, .inr (6, [.ref a0, .ref a1, .ref a2, .int 0, .ref a4, .int 0, .ref a6, .int 0, .ref a8]))] sz) []) (va_A [(h0, .inr (6, [.ref a0, .ref a1, .ref a2, .int 0, .ref a4, .int 0, .ref a6, .int 0, .ref a8]))] sz)) 0 0 (va_A [(h0, .inr (6, [.ref a0, .ref a1, .ref a2, .int 0, .ref a4, .int 0, .ref a6, .int 0, .ref a8]))] sz) := by
  refine Met.ofW (cc := cX4_coin) (maxL := 5) (ret := (some .int)) (by decide) rfl ?_
  intro p e s m args below meth c s₁ B hml hv
  obtain ⟨rfl, hsz, hP, hK, hD0⟩ := hv
  have hx := B.exec
  have hb := B.bytes
  have hr := B.returns
  have hts := atoms_spec (ws := wm_X4_coin) B.pre
  have hown : s.vm.findClass RX4 = some m.cls := findClass_of_methodNamed B.named
  have hlocks := B.notSynchronized
  subst hsz
  have hD := hD0.self (sz := s.heap.size)
  generalize hAe : va_A [(h0, .inr (6, [.ref a0, .ref a1, .ref a2, .int 0, .ref a4, .int 0, .ref a6, .int 0, .ref a8]))] s.heap.size = A at hD ⊢
  have hA : ∀ q : Nat, s.heap.size ≤ q → A q := fun q h => by rw [← hAe]; exact Or.inr h
  have hS : va_S A s.heap s.heap [] := va_S.rf
  obtain ⟨H, hHe⟩ : ∃ H : Heap, H = s.heap := ⟨_, rfl⟩
  have hP : va_P (dC, dI) vwCl [(h0, .inr (6, [.ref a0, .ref a1, .ref a2, .int 0, .ref a4, .int 0, .ref a6, .int 0, .ref a8]))] H := by rw [hHe]; exact hP
  have hS : va_S A s.heap H [] := by rw [hHe]; exact hS
  have hl := lv_entry ([.ref h0, .int p0, .int p1, .int p2]) (n := 5) (Nat.le_of_ble_eq_true rfl)
  rw [lg_entry_eq, ← hHe]
  generalize (lg_sl ([.ref h0, .int p0, .int p1, .int p2]) ++ List.replicate (5 - (lg_sl ([.ref h0, .int p0, .int p1, .int p2])).length) Slot.unset).toArray = ls at hl ⊢
  have hl : lv_has ls 5 [(0, .ref h0), (1, .int p0), (2, .int p1), (3, .int p2)] := hl
  refine lv_aload_n hx hb dX4_coin_0 rfl (lv_at hl 0 rfl) ?_
  refine lv_iload_n hx hb dX4_coin_1 rfl (lv_at hl 1 rfl) ?_
  have hPc := hP.sub (ws' := [(h0, .inr (6, [.ref a0, .ref a1, .ref a2, .int 0, .ref a4, .int 0, .ref a6, .int 0, .ref a8]))]) [0] rfl
  have hDc := hD.sub (ws' := [(h0, .inr (6, [.ref a0, .ref a1, .ref a2, .int 0, .ref a4, .int 0, .ref a6, .int 0, .ref a8]))]) [0] (by decide) rfl
  have hKc := hK.sub (tys' := []) [] rfl
  have hFc := va_free (wc := [(h0, .inr (6, [.ref a0, .ref a1, .ref a2, .int 0, .ref a4, .int 0, .ref a6, .int 0, .ref a8]))]) hD hS hA [0] rfl
  refine va_callq (va_runV (As := [.int p0]) (rest := []) ⟨hx, hb, hml, hown, hts⟩ (mt_X4_drawerOf l dC dI H.size h0 a0 a1 a2 a4 a6 a8 p0) (cwV 1 hts gm_X4_coin_X4_drawerOf rfl rfl rfl (by decide +kernel) ⟨Nat.le_of_ble_eq_true rfl, Nat.le_of_ble_eq_true rfl⟩) ⟨fun a U g mk q => by obtain ⟨q0, q1, qP, qK, qD⟩ := q; exact ⟨q0, q1, qP, va_K.moved (u := U) (U := U.calling g mk a) (Vm.Alike.refl U.vm) qK, qD⟩, va_recv hKc hPc (ci := 6) (q0 := 0) rfl rfl, fun U hU hW => ⟨rfl, by rw [hU], by rw [hU]; exact hPc, va_K.moved hW.alike hKc, hDc.weaken (fun _ _ _ _ => trivial)⟩⟩ rfl rfl hl.1 rfl (lv_room (Nat.le_of_ble_eq_true rfl)) dX4_coin_2 ⟨Nat.le_of_ble_eq_true rfl, Nat.le_of_ble_eq_true rfl⟩) hS (fun q _ h => hFc q h) hFc (fun r_1 u t H1 locs ht hvm hw hB hz1 hk1 hS => ?_)
  obtain ⟨hP1, hK1, hD1⟩ := hB
  rw [ht] at hP1
  have hK1 := va_K.moved hvm.symm hK1
  obtain ⟨hP, hD⟩ := va_join (wr := []) (w1 := [(h0, .inr (6, [.ref a0, .ref a1, .ref a2, .int 0, .ref a4, .int 0, .ref a6, .int 0, .ref a8]))]) hP hD [0] [] rfl rfl (by decide) (by decide) hk1 hFc hP1 hD1
  generalize H1 = H at hP hS ⊢
  have hP : va_P (dC, dI) vwCl [(h0, .inr (6, [.ref a0, .ref a1, .ref a2, .int 0, .ref a4, .int 0, .ref a6, .int 0, .ref a8]))] H := hP
  have hD : va_D A [(h0, .inr (6, [.ref a0, .ref a1, .ref a2, .int 0, .ref a4, .int 0, .ref a6, .int 0, .ref a8]))] := hD
  subst hw
  try dsimp only [va_rf]
  refine W.eq (g2 := F0 m 5 ls [.null]) rfl ?_
  refine lv_astoreN (lv' := [(4, .null), (0, .ref h0), (1, .int p0), (2, .int p1), (3, .int p2)]) hx hb dX4_coin_5 hl (by decide) rfl (fun ls hl => ?_)
  refine lv_aloadN hx hb dX4_coin_7 (lv_at hl 0 rfl) ?_
  refine lv_ifnullN (tgt := 20) hx hb dX4_coin_9 (by decide) ?_
  refine lv_iconst (v := -1) hx hb dX4_coin_20 (by decide) ?_
  have hP9 := hP.sub (ws' := []) [] rfl
  have hD9 := hD.sub (ws' := []) [] (by decide) rfl
  have hK9 := hK.sub (tys' := []) [] rfl
  exact W.iret (v := ((-1))) hx hb hr (fun t ht hW => ⟨⟨((-1)), (), rfl, rfl, by rw [ht]; exact hP9, va_K.moved hW.alike hK9, hD9⟩, hS.F ht⟩) hS.2.2 dX4_coin_21
def wm_X4_misses : List Cond := .code yX4_misses cX4_misses 7 (some .int) :: ([.methodLink RX4 66 yX4_drawerOf, .instanceMethod yX4_drawerOf, .selects RX4 yX4_drawerOf yX4_drawerOf, .initialized RX4] ++ wm_X4_drawerOf)
theorem gm_X4_misses_X4_drawerOf : GoodIn wm_X4_misses (wsV RX4 66 RX4 yX4_drawerOf wm_X4_drawerOf) := goodIn_of _ (by decide +kernel)
set_option maxHeartbeats 4000000 in
set_option maxRecDepth 100000 in
theorem mt_X4_misses (l : Launch) (dC : Nat → ClassId) (dI : Nat → Nat → Nat) (sz : Nat) (h0 a0 a1 a2 a4 a6 a8 : Nat) (p0 : Int32) (p1 : Int32) (p2 : Int32) (p3 : Int32) : Met l yX4_misses wm_X4_misses ({ frames := 1, cells := 0, slots := 0, locals := 21 }) (va_Pc [.ref h0, .int p0, .int p1, .int p2, .int p3] (fun U => U.heap.size = sz ∧ va_P (dC, dI) vwCl [(h0, .inr (6, [.ref a0, .ref a1, .ref a2, .int 0, .ref a4, .int 0, .ref a6, .int 0, .ref a8]))] U.heap ∧ va_K (dC, dI) vwCl [] U ∧ va_D (fun _ => True) [(h0, .inr (6, [.ref a0, .ref a1, .ref a2, .int 0, .ref a4, .int 0, .ref a6, .int 0, .ref a8]))])) (va_Qi (fun (r : Int32) (u : Unit) => r = -1) (fun (u : Unit) t => va_P (dC, dI) vwCl [] t.heap ∧ va_K (dC, dI) vwCl [] t ∧ va_D (va_A [(h0, .inr (6, [.ref a0, .ref a1, .ref a2, .int 0, .ref a4, .int 0, .ref a6, .int 0, .ref a8]))] sz) []) (va_A [(h0, .inr (6, [.ref a0, .ref a1, .ref a2, .int 0, .ref a4, .int 0, .ref a6, .int 0, .ref a8]))] sz)) 0 0 (va_A [(h0, .inr (6, [.ref a0, .ref a1, .ref a2, .int 0, .ref a4, .int 0, .ref a6, .int 0, .ref a8]))] sz) := by
  refine Met.ofW (cc := cX4_misses) (maxL := 7) (ret := (some .int)) (by decide) rfl ?_
  intro p e s m args below meth c s₁ B hml hv
  obtain ⟨rfl, hsz, hP, hK, hD0⟩ := hv
  have hx := B.exec
  have hb := B.bytes
  have hr := B.returns
  have hts := atoms_spec (ws := wm_X4_misses) B.pre
  have hown : s.vm.findClass RX4 = some m.cls := findClass_of_methodNamed B.named
  have hlocks := B.notSynchronized
  subst hsz
  have hD := hD0.self (sz := s.heap.size)
  generalize hAe : va_A [(h0, .inr (6, [.ref a0, .ref a1, .ref a2, .int 0, .ref a4, .int 0, .ref a6, .int 0, .ref a8]))] s.heap.size = A at hD ⊢
  have hA : ∀ q : Nat, s.heap.size ≤ q → A q := fun q h => by rw [← hAe]; exact Or.inr h
  have hS : va_S A s.heap s.heap [] := va_S.rf
  obtain ⟨H, hHe⟩ : ∃ H : Heap, H = s.heap := ⟨_, rfl⟩
  have hP : va_P (dC, dI) vwCl [(h0, .inr (6, [.ref a0, .ref a1, .ref a2, .int 0, .ref a4, .int 0, .ref a6, .int 0, .ref a8]))] H := by rw [hHe]; exact hP
  have hS : va_S A s.heap H [] := by rw [hHe]; exact hS
  have hl := lv_entry ([.ref h0, .int p0, .int p1, .int p2, .int p3]) (n := 7) (Nat.le_of_ble_eq_true rfl)
  rw [lg_entry_eq, ← hHe]
  generalize (lg_sl ([.ref h0, .int p0, .int p1, .int p2, .int p3]) ++ List.replicate (7 - (lg_sl ([.ref h0, .int p0, .int p1, .int p2, .int p3])).length) Slot.unset).toArray = ls at hl ⊢
  have hl : lv_has ls 7 [(0, .ref h0), (1, .int p0), (2, .int p1), (3, .int p2), (4, .int p3)] := hl
  refine lv_aload_n hx hb dX4_misses_0 rfl (lv_at hl 0 rfl) ?_
  refine lv_iload_n hx hb dX4_misses_1 rfl (lv_at hl 1 rfl) ?_
  have hPc := hP.sub (ws' := [(h0, .inr (6, [.ref a0, .ref a1, .ref a2, .int 0, .ref a4, .int 0, .ref a6, .int 0, .ref a8]))]) [0] rfl
  have hDc := hD.sub (ws' := [(h0, .inr (6, [.ref a0, .ref a1, .ref a2, .int 0, .ref a4, .int 0, .ref a6, .int 0, .ref a8]))]) [0] (by decide) rfl
  have hKc := hK.sub (tys' := []) [] rfl
  have hFc := va_free (wc := [(h0, .inr (6, [.ref a0, .ref a1, .ref a2, .int 0, .ref a4, .int 0, .ref a6, .int 0, .ref a8]))]) hD hS hA [0] rfl
  refine va_callq (va_runV (As := [.int p0]) (rest := []) ⟨hx, hb, hml, hown, hts⟩ (mt_X4_drawerOf l dC dI H.size h0 a0 a1 a2 a4 a6 a8 p0) (cwV 1 hts gm_X4_misses_X4_drawerOf rfl rfl rfl (by decide +kernel) ⟨Nat.le_of_ble_eq_true rfl, Nat.le_of_ble_eq_true rfl⟩) ⟨fun a U g mk q => by obtain ⟨q0, q1, qP, qK, qD⟩ := q; exact ⟨q0, q1, qP, va_K.moved (u := U) (U := U.calling g mk a) (Vm.Alike.refl U.vm) qK, qD⟩, va_recv hKc hPc (ci := 6) (q0 := 0) rfl rfl, fun U hU hW => ⟨rfl, by rw [hU], by rw [hU]; exact hPc, va_K.moved hW.alike hKc, hDc.weaken (fun _ _ _ _ => trivial)⟩⟩ rfl rfl hl.1 rfl (lv_room (Nat.le_of_ble_eq_true rfl)) dX4_misses_2 ⟨Nat.le_of_ble_eq_true rfl, Nat.le_of_ble_eq_true rfl⟩) hS (fun q _ h => hFc q h) hFc (fun r_1 u t H1 locs ht hvm hw hB hz1 hk1 hS => ?_)
  obtain ⟨hP1, hK1, hD1⟩ := hB
  rw [ht] at hP1
  have hK1 := va_K.moved hvm.symm hK1
  obtain ⟨hP, hD⟩ := va_join (wr := []) (w1 := [(h0, .inr (6, [.ref a0, .ref a1, .ref a2, .int 0, .ref a4, .int 0, .ref a6, .int 0, .ref a8]))]) hP hD [0] [] rfl rfl (by decide) (by decide) hk1 hFc hP1 hD1
  generalize H1 = H at hP hS ⊢
  have hP : va_P (dC, dI) vwCl [(h0, .inr (6, [.ref a0, .ref a1, .ref a2, .int 0, .ref a4, .int 0, .ref a6, .int 0, .ref a8]))] H := hP
  have hD : va_D A [(h0, .inr (6, [.ref a0, .ref a1, .ref a2, .int 0, .ref a4, .int 0, .ref a6, .int 0, .ref a8]))] := hD
  subst hw
  try dsimp only [va_rf]
  refine W.eq (g2 := F0 m 5 ls [.null]) rfl ?_
  refine lv_astoreN (lv' := [(5, .null), (0, .ref h0), (1, .int p0), (2, .int p1), (3, .int p2), (4, .int p3)]) hx hb dX4_misses_5 hl (by decide) rfl (fun ls hl => ?_)
  refine lv_aloadN hx hb dX4_misses_7 (lv_at hl 0 rfl) ?_
  refine lv_ifnullN (tgt := 33) hx hb dX4_misses_9 (by decide) ?_
  refine lv_iconst (v := -1) hx hb dX4_misses_33 (by decide) ?_
  have hP9 := hP.sub (ws' := []) [] rfl
  have hD9 := hD.sub (ws' := []) [] (by decide) rfl
  have hK9 := hK.sub (tys' := []) [] rfl
  exact W.iret (v := ((-1))) hx hb hr (fun t ht hW => ⟨⟨((-1)), (), rfl, rfl, by rw [ht]; exact hP9, va_K.moved hW.alike hK9, hD9⟩, hS.F ht⟩) hS.2.2 dX4_misses_34
def wm_X4_hits : List Cond := .code yX4_hits cX4_hits 8 (some .int) :: ([.methodLink RX4 66 yX4_drawerOf, .instanceMethod yX4_drawerOf, .selects RX4 yX4_drawerOf yX4_drawerOf, .initialized RX4] ++ wm_X4_drawerOf)
theorem gm_X4_hits_X4_drawerOf : GoodIn wm_X4_hits (wsV RX4 66 RX4 yX4_drawerOf wm_X4_drawerOf) := goodIn_of _ (by decide +kernel)
set_option maxHeartbeats 4000000 in
set_option maxRecDepth 100000 in
theorem mt_X4_hits (l : Launch) (dC : Nat → ClassId) (dI : Nat → Nat → Nat) (sz : Nat) (h0 a0 a1 a2 a4 a6 a8 : Nat) (p0 : Int32) (p1 : Int32) (p2 : Int32) (p3 : Int32) : Met l yX4_hits wm_X4_hits ({ frames := 1, cells := 0, slots := 0, locals := 21 }) (va_Pc [.ref h0, .int p0, .int p1, .int p2, .int p3] (fun U => U.heap.size = sz ∧ va_P (dC, dI) vwCl [(h0, .inr (6, [.ref a0, .ref a1, .ref a2, .int 0, .ref a4, .int 0, .ref a6, .int 0, .ref a8]))] U.heap ∧ va_K (dC, dI) vwCl [] U ∧ va_D (fun _ => True) [(h0, .inr (6, [.ref a0, .ref a1, .ref a2, .int 0, .ref a4, .int 0, .ref a6, .int 0, .ref a8]))])) (va_Qi (fun (r : Int32) (u : Unit) => r = -1) (fun (u : Unit) t => va_P (dC, dI) vwCl [] t.heap ∧ va_K (dC, dI) vwCl [] t ∧ va_D (va_A [(h0, .inr (6, [.ref a0, .ref a1, .ref a2, .int 0, .ref a4, .int 0, .ref a6, .int 0, .ref a8]))] sz) []) (va_A [(h0, .inr (6, [.ref a0, .ref a1, .ref a2, .int 0, .ref a4, .int 0, .ref a6, .int 0, .ref a8]))] sz)) 0 0 (va_A [(h0, .inr (6, [.ref a0, .ref a1, .ref a2, .int 0, .ref a4, .int 0, .ref a6, .int 0, .ref a8]))] sz) := by
  refine Met.ofW (cc := cX4_hits) (maxL := 8) (ret := (some .int)) (by decide) rfl ?_
  intro p e s m args below meth c s₁ B hml hv
  obtain ⟨rfl, hsz, hP, hK, hD0⟩ := hv
  have hx := B.exec
  have hb := B.bytes
  have hr := B.returns
  have hts := atoms_spec (ws := wm_X4_hits) B.pre
  have hown : s.vm.findClass RX4 = some m.cls := findClass_of_methodNamed B.named
  have hlocks := B.notSynchronized
  subst hsz
  have hD := hD0.self (sz := s.heap.size)
  generalize hAe : va_A [(h0, .inr (6, [.ref a0, .ref a1, .ref a2, .int 0, .ref a4, .int 0, .ref a6, .int 0, .ref a8]))] s.heap.size = A at hD ⊢
  have hA : ∀ q : Nat, s.heap.size ≤ q → A q := fun q h => by rw [← hAe]; exact Or.inr h
  have hS : va_S A s.heap s.heap [] := va_S.rf
  obtain ⟨H, hHe⟩ : ∃ H : Heap, H = s.heap := ⟨_, rfl⟩
  have hP : va_P (dC, dI) vwCl [(h0, .inr (6, [.ref a0, .ref a1, .ref a2, .int 0, .ref a4, .int 0, .ref a6, .int 0, .ref a8]))] H := by rw [hHe]; exact hP
  have hS : va_S A s.heap H [] := by rw [hHe]; exact hS
  have hl := lv_entry ([.ref h0, .int p0, .int p1, .int p2, .int p3]) (n := 8) (Nat.le_of_ble_eq_true rfl)
  rw [lg_entry_eq, ← hHe]
  generalize (lg_sl ([.ref h0, .int p0, .int p1, .int p2, .int p3]) ++ List.replicate (8 - (lg_sl ([.ref h0, .int p0, .int p1, .int p2, .int p3])).length) Slot.unset).toArray = ls at hl ⊢
  have hl : lv_has ls 8 [(0, .ref h0), (1, .int p0), (2, .int p1), (3, .int p2), (4, .int p3)] := hl
  refine lv_aload_n hx hb dX4_hits_0 rfl (lv_at hl 0 rfl) ?_
  refine lv_iload_n hx hb dX4_hits_1 rfl (lv_at hl 1 rfl) ?_
  have hPc := hP.sub (ws' := [(h0, .inr (6, [.ref a0, .ref a1, .ref a2, .int 0, .ref a4, .int 0, .ref a6, .int 0, .ref a8]))]) [0] rfl
  have hDc := hD.sub (ws' := [(h0, .inr (6, [.ref a0, .ref a1, .ref a2, .int 0, .ref a4, .int 0, .ref a6, .int 0, .ref a8]))]) [0] (by decide) rfl
  have hKc := hK.sub (tys' := []) [] rfl
  have hFc := va_free (wc := [(h0, .inr (6, [.ref a0, .ref a1, .ref a2, .int 0, .ref a4, .int 0, .ref a6, .int 0, .ref a8]))]) hD hS hA [0] rfl
  refine va_callq (va_runV (As := [.int p0]) (rest := []) ⟨hx, hb, hml, hown, hts⟩ (mt_X4_drawerOf l dC dI H.size h0 a0 a1 a2 a4 a6 a8 p0) (cwV 1 hts gm_X4_hits_X4_drawerOf rfl rfl rfl (by decide +kernel) ⟨Nat.le_of_ble_eq_true rfl, Nat.le_of_ble_eq_true rfl⟩) ⟨fun a U g mk q => by obtain ⟨q0, q1, qP, qK, qD⟩ := q; exact ⟨q0, q1, qP, va_K.moved (u := U) (U := U.calling g mk a) (Vm.Alike.refl U.vm) qK, qD⟩, va_recv hKc hPc (ci := 6) (q0 := 0) rfl rfl, fun U hU hW => ⟨rfl, by rw [hU], by rw [hU]; exact hPc, va_K.moved hW.alike hKc, hDc.weaken (fun _ _ _ _ => trivial)⟩⟩ rfl rfl hl.1 rfl (lv_room (Nat.le_of_ble_eq_true rfl)) dX4_hits_2 ⟨Nat.le_of_ble_eq_true rfl, Nat.le_of_ble_eq_true rfl⟩) hS (fun q _ h => hFc q h) hFc (fun r_1 u t H1 locs ht hvm hw hB hz1 hk1 hS => ?_)
  obtain ⟨hP1, hK1, hD1⟩ := hB
  rw [ht] at hP1
  have hK1 := va_K.moved hvm.symm hK1
  obtain ⟨hP, hD⟩ := va_join (wr := []) (w1 := [(h0, .inr (6, [.ref a0, .ref a1, .ref a2, .int 0, .ref a4, .int 0, .ref a6, .int 0, .ref a8]))]) hP hD [0] [] rfl rfl (by decide) (by decide) hk1 hFc hP1 hD1
  generalize H1 = H at hP hS ⊢
  have hP : va_P (dC, dI) vwCl [(h0, .inr (6, [.ref a0, .ref a1, .ref a2, .int 0, .ref a4, .int 0, .ref a6, .int 0, .ref a8]))] H := hP
  have hD : va_D A [(h0, .inr (6, [.ref a0, .ref a1, .ref a2, .int 0, .ref a4, .int 0, .ref a6, .int 0, .ref a8]))] := hD
  subst hw
  try dsimp only [va_rf]
  refine W.eq (g2 := F0 m 5 ls [.null]) rfl ?_
  refine lv_astoreN (lv' := [(5, .null), (0, .ref h0), (1, .int p0), (2, .int p1), (3, .int p2), (4, .int p3)]) hx hb dX4_hits_5 hl (by decide) rfl (fun ls hl => ?_)
  refine lv_aloadN hx hb dX4_hits_7 (lv_at hl 0 rfl) ?_
  refine lv_ifnullN (tgt := 33) hx hb dX4_hits_9 (by decide) ?_
  refine lv_iconst (v := -1) hx hb dX4_hits_33 (by decide) ?_
  have hP9 := hP.sub (ws' := []) [] rfl
  have hD9 := hD.sub (ws' := []) [] (by decide) rfl
  have hK9 := hK.sub (tys' := []) [] rfl
  exact W.iret (v := ((-1))) hx hb hr (fun t ht hW => ⟨⟨((-1)), (), rfl, rfl, by rw [ht]; exact hP9, va_K.moved hW.alike hK9, hD9⟩, hS.F ht⟩) hS.2.2 dX4_hits_34
def wm_X4_permutation : List Cond := .code yX4_permutation cX4_permutation 5 (some .int) :: ([.methodLink RX4 66 yX4_drawerOf, .instanceMethod yX4_drawerOf, .selects RX4 yX4_drawerOf yX4_drawerOf, .initialized RX4] ++ wm_X4_drawerOf)
theorem gm_X4_permutation_X4_drawerOf : GoodIn wm_X4_permutation (wsV RX4 66 RX4 yX4_drawerOf wm_X4_drawerOf) := goodIn_of _ (by decide +kernel)
set_option maxHeartbeats 4000000 in
set_option maxRecDepth 100000 in
theorem mt_X4_permutation (l : Launch) (dC : Nat → ClassId) (dI : Nat → Nat → Nat) (sz : Nat) (h0 a0 a1 a2 a4 a6 a8 : Nat) (p0 : Int32) (p1 : Int32) : Met l yX4_permutation wm_X4_permutation ({ frames := 1, cells := 0, slots := 0, locals := 21 }) (va_Pc [.ref h0, .int p0, .int p1] (fun U => U.heap.size = sz ∧ va_P (dC, dI) vwCl [(h0, .inr (6, [.ref a0, .ref a1, .ref a2, .int 0, .ref a4, .int 0, .ref a6, .int 0, .ref a8]))] U.heap ∧ va_K (dC, dI) vwCl [] U ∧ va_D (fun _ => True) [(h0, .inr (6, [.ref a0, .ref a1, .ref a2, .int 0, .ref a4, .int 0, .ref a6, .int 0, .ref a8]))])) (va_Qi (fun (r : Int32) (u : Unit) => r = -1) (fun (u : Unit) t => va_P (dC, dI) vwCl [] t.heap ∧ va_K (dC, dI) vwCl [] t ∧ va_D (va_A [(h0, .inr (6, [.ref a0, .ref a1, .ref a2, .int 0, .ref a4, .int 0, .ref a6, .int 0, .ref a8]))] sz) []) (va_A [(h0, .inr (6, [.ref a0, .ref a1, .ref a2, .int 0, .ref a4, .int 0, .ref a6, .int 0, .ref a8]))] sz)) 0 0 (va_A [(h0, .inr (6, [.ref a0, .ref a1, .ref a2, .int 0, .ref a4, .int 0, .ref a6, .int 0, .ref a8]))] sz) := by
  refine Met.ofW (cc := cX4_permutation) (maxL := 5) (ret := (some .int)) (by decide) rfl ?_
  intro p e s m args below meth c s₁ B hml hv
  obtain ⟨rfl, hsz, hP, hK, hD0⟩ := hv
  have hx := B.exec
  have hb := B.bytes
  have hr := B.returns
  have hts := atoms_spec (ws := wm_X4_permutation) B.pre
  have hown : s.vm.findClass RX4 = some m.cls := findClass_of_methodNamed B.named
  have hlocks := B.notSynchronized
  subst hsz
  have hD := hD0.self (sz := s.heap.size)
  generalize hAe : va_A [(h0, .inr (6, [.ref a0, .ref a1, .ref a2, .int 0, .ref a4, .int 0, .ref a6, .int 0, .ref a8]))] s.heap.size = A at hD ⊢
  have hA : ∀ q : Nat, s.heap.size ≤ q → A q := fun q h => by rw [← hAe]; exact Or.inr h
  have hS : va_S A s.heap s.heap [] := va_S.rf
  obtain ⟨H, hHe⟩ : ∃ H : Heap, H = s.heap := ⟨_, rfl⟩
  have hP : va_P (dC, dI) vwCl [(h0, .inr (6, [.ref a0, .ref a1, .ref a2, .int 0, .ref a4, .int 0, .ref a6, .int 0, .ref a8]))] H := by rw [hHe]; exact hP
  have hS : va_S A s.heap H [] := by rw [hHe]; exact hS
  have hl := lv_entry ([.ref h0, .int p0, .int p1]) (n := 5) (Nat.le_of_ble_eq_true rfl)
  rw [lg_entry_eq, ← hHe]
  generalize (lg_sl ([.ref h0, .int p0, .int p1]) ++ List.replicate (5 - (lg_sl ([.ref h0, .int p0, .int p1])).length) Slot.unset).toArray = ls at hl ⊢
  have hl : lv_has ls 5 [(0, .ref h0), (1, .int p0), (2, .int p1)] := hl
  refine lv_aload_n hx hb dX4_permutation_0 rfl (lv_at hl 0 rfl) ?_
  refine lv_iload_n hx hb dX4_permutation_1 rfl (lv_at hl 1 rfl) ?_
  have hPc := hP.sub (ws' := [(h0, .inr (6, [.ref a0, .ref a1, .ref a2, .int 0, .ref a4, .int 0, .ref a6, .int 0, .ref a8]))]) [0] rfl
  have hDc := hD.sub (ws' := [(h0, .inr (6, [.ref a0, .ref a1, .ref a2, .int 0, .ref a4, .int 0, .ref a6, .int 0, .ref a8]))]) [0] (by decide) rfl
  have hKc := hK.sub (tys' := []) [] rfl
  have hFc := va_free (wc := [(h0, .inr (6, [.ref a0, .ref a1, .ref a2, .int 0, .ref a4, .int 0, .ref a6, .int 0, .ref a8]))]) hD hS hA [0] rfl
  refine va_callq (va_runV (As := [.int p0]) (rest := []) ⟨hx, hb, hml, hown, hts⟩ (mt_X4_drawerOf l dC dI H.size h0 a0 a1 a2 a4 a6 a8 p0) (cwV 1 hts gm_X4_permutation_X4_drawerOf rfl rfl rfl (by decide +kernel) ⟨Nat.le_of_ble_eq_true rfl, Nat.le_of_ble_eq_true rfl⟩) ⟨fun a U g mk q => by obtain ⟨q0, q1, qP, qK, qD⟩ := q; exact ⟨q0, q1, qP, va_K.moved (u := U) (U := U.calling g mk a) (Vm.Alike.refl U.vm) qK, qD⟩, va_recv hKc hPc (ci := 6) (q0 := 0) rfl rfl, fun U hU hW => ⟨rfl, by rw [hU], by rw [hU]; exact hPc, va_K.moved hW.alike hKc, hDc.weaken (fun _ _ _ _ => trivial)⟩⟩ rfl rfl hl.1 rfl (lv_room (Nat.le_of_ble_eq_true rfl)) dX4_permutation_2 ⟨Nat.le_of_ble_eq_true rfl, Nat.le_of_ble_eq_true rfl⟩) hS (fun q _ h => hFc q h) hFc (fun r_1 u t H1 locs ht hvm hw hB hz1 hk1 hS => ?_)
  obtain ⟨hP1, hK1, hD1⟩ := hB
  rw [ht] at hP1
  have hK1 := va_K.moved hvm.symm hK1
  obtain ⟨hP, hD⟩ := va_join (wr := []) (w1 := [(h0, .inr (6, [.ref a0, .ref a1, .ref a2, .int 0, .ref a4, .int 0, .ref a6, .int 0, .ref a8]))]) hP hD [0] [] rfl rfl (by decide) (by decide) hk1 hFc hP1 hD1
  generalize H1 = H at hP hS ⊢
  have hP : va_P (dC, dI) vwCl [(h0, .inr (6, [.ref a0, .ref a1, .ref a2, .int 0, .ref a4, .int 0, .ref a6, .int 0, .ref a8]))] H := hP
  have hD : va_D A [(h0, .inr (6, [.ref a0, .ref a1, .ref a2, .int 0, .ref a4, .int 0, .ref a6, .int 0, .ref a8]))] := hD
  subst hw
  try dsimp only [va_rf]
  refine W.eq (g2 := F0 m 5 ls [.null]) rfl ?_
  refine lv_astore_nN (lv' := [(3, .null), (0, .ref h0), (1, .int p0), (2, .int p1)]) hx hb dX4_permutation_5 rfl hl (by decide) rfl (fun ls hl => ?_)
  refine lv_aload_nN hx hb dX4_permutation_6 rfl (lv_at hl 0 rfl) ?_
  refine lv_ifnullN (tgt := 21) hx hb dX4_permutation_7 (by decide) ?_
  refine lv_iconst (v := -1) hx hb dX4_permutation_21 (by decide) ?_
  have hP9 := hP.sub (ws' := []) [] rfl
  have hD9 := hD.sub (ws' := []) [] (by decide) rfl
  have hK9 := hK.sub (tys' := []) [] rfl
  exact W.iret (v := ((-1))) hx hb hr (fun t ht hW => ⟨⟨((-1)), (), rfl, rfl, by rw [ht]; exact hP9, va_K.moved hW.alike hK9, hD9⟩, hS.F ht⟩) hS.2.2 dX4_permutation_22
def wm_X4_subset : List Cond := .code yX4_subset cX4_subset 8 (some .int) :: ([.methodLink RX4 66 yX4_drawerOf, .instanceMethod yX4_drawerOf, .selects RX4 yX4_drawerOf yX4_drawerOf, .initialized RX4] ++ wm_X4_drawerOf)
theorem gm_X4_subset_X4_drawerOf : GoodIn wm_X4_subset (wsV RX4 66 RX4 yX4_drawerOf wm_X4_drawerOf) := goodIn_of _ (by decide +kernel)
set_option maxHeartbeats 4000000 in
set_option maxRecDepth 100000 in
theorem mt_X4_subset (l : Launch) (dC : Nat → ClassId) (dI : Nat → Nat → Nat) (sz : Nat) (h0 a0 a1 a2 a4 a6 a8 : Nat) (p0 : Int32) (p1 : Int32) (p2 : Int32) : Met l yX4_subset wm_X4_subset ({ frames := 1, cells := 0, slots := 0, locals := 21 }) (va_Pc [.ref h0, .int p0, .int p1, .int p2] (fun U => U.heap.size = sz ∧ va_P (dC, dI) vwCl [(h0, .inr (6, [.ref a0, .ref a1, .ref a2, .int 0, .ref a4, .int 0, .ref a6, .int 0, .ref a8]))] U.heap ∧ va_K (dC, dI) vwCl [] U ∧ va_D (fun _ => True) [(h0, .inr (6, [.ref a0, .ref a1, .ref a2, .int 0, .ref a4, .int 0, .ref a6, .int 0, .ref a8]))])) (va_Qi (fun (r : Int32) (u : Unit) => r = -1) (fun (u : Unit) t => va_P (dC, dI) vwCl [] t.heap ∧ va_K (dC, dI) vwCl [] t ∧ va_D (va_A [(h0, .inr (6, [.ref a0, .ref a1, .ref a2, .int 0, .ref a4, .int 0, .ref a6, .int 0, .ref a8]))] sz) []) (va_A [(h0, .inr (6, [.ref a0, .ref a1, .ref a2, .int 0, .ref a4, .int 0, .ref a6, .int 0, .ref a8]))] sz)) 0 0 (va_A [(h0, .inr (6, [.ref a0, .ref a1, .ref a2, .int 0, .ref a4, .int 0, .ref a6, .int 0, .ref a8]))] sz) := by
  refine Met.ofW (cc := cX4_subset) (maxL := 8) (ret := (some .int)) (by decide) rfl ?_
  intro p e s m args below meth c s₁ B hml hv
  obtain ⟨rfl, hsz, hP, hK, hD0⟩ := hv
  have hx := B.exec
  have hb := B.bytes
  have hr := B.returns
  have hts := atoms_spec (ws := wm_X4_subset) B.pre
  have hown : s.vm.findClass RX4 = some m.cls := findClass_of_methodNamed B.named
  have hlocks := B.notSynchronized
  subst hsz
  have hD := hD0.self (sz := s.heap.size)
  generalize hAe : va_A [(h0, .inr (6, [.ref a0, .ref a1, .ref a2, .int 0, .ref a4, .int 0, .ref a6, .int 0, .ref a8]))] s.heap.size = A at hD ⊢
  have hA : ∀ q : Nat, s.heap.size ≤ q → A q := fun q h => by rw [← hAe]; exact Or.inr h
  have hS : va_S A s.heap s.heap [] := va_S.rf
  obtain ⟨H, hHe⟩ : ∃ H : Heap, H = s.heap := ⟨_, rfl⟩
  have hP : va_P (dC, dI) vwCl [(h0, .inr (6, [.ref a0, .ref a1, .ref a2, .int 0, .ref a4, .int 0, .ref a6, .int 0, .ref a8]))] H := by rw [hHe]; exact hP
  have hS : va_S A s.heap H [] := by rw [hHe]; exact hS
  have hl := lv_entry ([.ref h0, .int p0, .int p1, .int p2]) (n := 8) (Nat.le_of_ble_eq_true rfl)
  rw [lg_entry_eq, ← hHe]
  generalize (lg_sl ([.ref h0, .int p0, .int p1, .int p2]) ++ List.replicate (8 - (lg_sl ([.ref h0, .int p0, .int p1, .int p2])).length) Slot.unset).toArray = ls at hl ⊢
  have hl : lv_has ls 8 [(0, .ref h0), (1, .int p0), (2, .int p1), (3, .int p2)] := hl
  refine lv_aload_n hx hb dX4_subset_0 rfl (lv_at hl 0 rfl) ?_
  refine lv_iload_n hx hb dX4_subset_1 rfl (lv_at hl 1 rfl) ?_
  have hPc := hP.sub (ws' := [(h0, .inr (6, [.ref a0, .ref a1, .ref a2, .int 0, .ref a4, .int 0, .ref a6, .int 0, .ref a8]))]) [0] rfl
  have hDc := hD.sub (ws' := [(h0, .inr (6, [.ref a0, .ref a1, .ref a2, .int 0, .ref a4, .int 0, .ref a6, .int 0, .ref a8]))]) [0] (by decide) rfl
  have hKc := hK.sub (tys' := []) [] rfl
  have hFc := va_free (wc := [(h0, .inr (6, [.ref a0, .ref a1, .ref a2, .int 0, .ref a4, .int 0, .ref a6, .int 0, .ref a8]))]) hD hS hA [0] rfl
  refine va_callq (va_runV (As := [.int p0]) (rest := []) ⟨hx, hb, hml, hown, hts⟩ (mt_X4_drawerOf l dC dI H.size h0 a0 a1 a2 a4 a6 a8 p0) (cwV 1 hts gm_X4_subset_X4_drawerOf rfl rfl rfl (by decide +kernel) ⟨Nat.le_of_ble_eq_true rfl, Nat.le_of_ble_eq_true rfl⟩) ⟨fun a U g mk q => by obtain ⟨q0, q1, qP, qK, qD⟩ := q; exact ⟨q0, q1, qP, va_K.moved (u := U) (U := U.calling g mk a) (Vm.Alike.refl U.vm) qK, qD⟩, va_recv hKc hPc (ci := 6) (q0 := 0) rfl rfl, fun U hU hW => ⟨rfl, by rw [hU], by rw [hU]; exact hPc, va_K.moved hW.alike hKc, hDc.weaken (fun _ _ _ _ => trivial)⟩⟩ rfl rfl hl.1 rfl (lv_room (Nat.le_of_ble_eq_true rfl)) dX4_subset_2 ⟨Nat.le_of_ble_eq_true rfl, Nat.le_of_ble_eq_true rfl⟩) hS (fun q _ h => hFc q h) hFc (fun r_1 u t H1 locs ht hvm hw hB hz1 hk1 hS => ?_)
  obtain ⟨hP1, hK1, hD1⟩ := hB
  rw [ht] at hP1
  have hK1 := va_K.moved hvm.symm hK1
  obtain ⟨hP, hD⟩ := va_join (wr := []) (w1 := [(h0, .inr (6, [.ref a0, .ref a1, .ref a2, .int 0, .ref a4, .int 0, .ref a6, .int 0, .ref a8]))]) hP hD [0] [] rfl rfl (by decide) (by decide) hk1 hFc hP1 hD1
  generalize H1 = H at hP hS ⊢
  have hP : va_P (dC, dI) vwCl [(h0, .inr (6, [.ref a0, .ref a1, .ref a2, .int 0, .ref a4, .int 0, .ref a6, .int 0, .ref a8]))] H := hP
  have hD : va_D A [(h0, .inr (6, [.ref a0, .ref a1, .ref a2, .int 0, .ref a4, .int 0, .ref a6, .int 0, .ref a8]))] := hD
  subst hw
  try dsimp only [va_rf]
  refine W.eq (g2 := F0 m 5 ls [.null]) rfl ?_
  refine lv_astoreN (lv' := [(4, .null), (0, .ref h0), (1, .int p0), (2, .int p1), (3, .int p2)]) hx hb dX4_subset_5 hl (by decide) rfl (fun ls hl => ?_)
  refine lv_aloadN hx hb dX4_subset_7 (lv_at hl 0 rfl) ?_
  refine lv_ifnullN (tgt := 38) hx hb dX4_subset_9 (by decide) ?_
  refine lv_iconst (v := -1) hx hb dX4_subset_38 (by decide) ?_
  have hP9 := hP.sub (ws' := []) [] rfl
  have hD9 := hD.sub (ws' := []) [] (by decide) rfl
  have hK9 := hK.sub (tys' := []) [] rfl
  exact W.iret (v := ((-1))) hx hb hr (fun t ht hW => ⟨⟨((-1)), (), rfl, rfl, by rw [ht]; exact hP9, va_K.moved hW.alike hK9, hD9⟩, hS.F ht⟩) hS.2.2 dX4_subset_39
def wm_X4_choose : List Cond := .code yX4_choose cX4_choose 8 (some .int) :: ([.methodLink RX4 66 yX4_drawerOf, .instanceMethod yX4_drawerOf, .selects RX4 yX4_drawerOf yX4_drawerOf, .initialized RX4] ++ wm_X4_drawerOf)
theorem gm_X4_choose_X4_drawerOf : GoodIn wm_X4_choose (wsV RX4 66 RX4 yX4_drawerOf wm_X4_drawerOf) := goodIn_of _ (by decide +kernel)
set_option maxHeartbeats 4000000 in
set_option maxRecDepth 100000 in
theorem mt_X4_choose (l : Launch) (dC : Nat → ClassId) (dI : Nat → Nat → Nat) (sz : Nat) (h0 a0 a1 a2 a4 a6 a8 : Nat) (p0 : Int32) : Met l yX4_choose wm_X4_choose ({ frames := 1, cells := 0, slots := 0, locals := 21 }) (va_Pc [.ref h0, .int p0] (fun U => U.heap.size = sz ∧ va_P (dC, dI) vwCl [(h0, .inr (6, [.ref a0, .ref a1, .ref a2, .int 0, .ref a4, .int 0, .ref a6, .int 0, .ref a8]))] U.heap ∧ va_K (dC, dI) vwCl [] U ∧ va_D (fun _ => True) [(h0, .inr (6, [.ref a0, .ref a1, .ref a2, .int 0, .ref a4, .int 0, .ref a6, .int 0, .ref a8]))])) (va_Qi (fun (r : Int32) (u : Unit) => r = -1) (fun (u : Unit) t => va_P (dC, dI) vwCl [] t.heap ∧ va_K (dC, dI) vwCl [] t ∧ va_D (va_A [(h0, .inr (6, [.ref a0, .ref a1, .ref a2, .int 0, .ref a4, .int 0, .ref a6, .int 0, .ref a8]))] sz) []) (va_A [(h0, .inr (6, [.ref a0, .ref a1, .ref a2, .int 0, .ref a4, .int 0, .ref a6, .int 0, .ref a8]))] sz)) 0 0 (va_A [(h0, .inr (6, [.ref a0, .ref a1, .ref a2, .int 0, .ref a4, .int 0, .ref a6, .int 0, .ref a8]))] sz) := by
  refine Met.ofW (cc := cX4_choose) (maxL := 8) (ret := (some .int)) (by decide) rfl ?_
  intro p e s m args below meth c s₁ B hml hv
  obtain ⟨rfl, hsz, hP, hK, hD0⟩ := hv
  have hx := B.exec
  have hb := B.bytes
  have hr := B.returns
  have hts := atoms_spec (ws := wm_X4_choose) B.pre
  have hown : s.vm.findClass RX4 = some m.cls := findClass_of_methodNamed B.named
  have hlocks := B.notSynchronized
  subst hsz
  have hD := hD0.self (sz := s.heap.size)
  generalize hAe : va_A [(h0, .inr (6, [.ref a0, .ref a1, .ref a2, .int 0, .ref a4, .int 0, .ref a6, .int 0, .ref a8]))] s.heap.size = A at hD ⊢
  have hA : ∀ q : Nat, s.heap.size ≤ q → A q := fun q h => by rw [← hAe]; exact Or.inr h
  have hS : va_S A s.heap s.heap [] := va_S.rf
  obtain ⟨H, hHe⟩ : ∃ H : Heap, H = s.heap := ⟨_, rfl⟩
  have hP : va_P (dC, dI) vwCl [(h0, .inr (6, [.ref a0, .ref a1, .ref a2, .int 0, .ref a4, .int 0, .ref a6, .int 0, .ref a8]))] H := by rw [hHe]; exact hP
  have hS : va_S A s.heap H [] := by rw [hHe]; exact hS
  have hl := lv_entry ([.ref h0, .int p0]) (n := 8) (Nat.le_of_ble_eq_true rfl)
  rw [lg_entry_eq, ← hHe]
  generalize (lg_sl ([.ref h0, .int p0]) ++ List.replicate (8 - (lg_sl ([.ref h0, .int p0])).length) Slot.unset).toArray = ls at hl ⊢
  have hl : lv_has ls 8 [(0, .ref h0), (1, .int p0)] := hl
  refine lv_aload_n hx hb dX4_choose_0 rfl (lv_at hl 0 rfl) ?_
  refine lv_iload_n hx hb dX4_choose_1 rfl (lv_at hl 1 rfl) ?_
  have hPc := hP.sub (ws' := [(h0, .inr (6, [.ref a0, .ref a1, .ref a2, .int 0, .ref a4, .int 0, .ref a6, .int 0, .ref a8]))]) [0] rfl
  have hDc := hD.sub (ws' := [(h0, .inr (6, [.ref a0, .ref a1, .ref a2, .int 0, .ref a4, .int 0, .ref a6, .int 0, .ref a8]))]) [0] (by decide) rfl
  have hKc := hK.sub (tys' := []) [] rfl
  have hFc := va_free (wc := [(h0, .inr (6, [.ref a0, .ref a1, .ref a2, .int 0, .ref a4, .int 0, .ref a6, .int 0, .ref a8]))]) hD hS hA [0] rfl
  refine va_callq (va_runV (As := [.int p0]) (rest := []) ⟨hx, hb, hml, hown, hts⟩ (mt_X4_drawerOf l dC dI H.size h0 a0 a1 a2 a4 a6 a8 p0) (cwV 1 hts gm_X4_choose_X4_drawerOf rfl rfl rfl (by decide +kernel) ⟨Nat.le_of_ble_eq_true rfl, Nat.le_of_ble_eq_true rfl⟩) ⟨fun a U g mk q => by obtain ⟨q0, q1, qP, qK, qD⟩ := q; exact ⟨q0, q1, qP, va_K.moved (u := U) (U := U.calling g mk a) (Vm.Alike.refl U.vm) qK, qD⟩, va_recv hKc hPc (ci := 6) (q0 := 0) rfl rfl, fun U hU hW => ⟨rfl, by rw [hU], by rw [hU]; exact hPc, va_K.moved hW.alike hKc, hDc.weaken (fun _ _ _ _ => trivial)⟩⟩ rfl rfl hl.1 rfl (lv_room (Nat.le_of_ble_eq_true rfl)) dX4_choose_2 ⟨Nat.le_of_ble_eq_true rfl, Nat.le_of_ble_eq_true rfl⟩) hS (fun q _ h => hFc q h) hFc (fun r_1 u t H1 locs ht hvm hw hB hz1 hk1 hS => ?_)
  obtain ⟨hP1, hK1, hD1⟩ := hB
  rw [ht] at hP1
  have hK1 := va_K.moved hvm.symm hK1
  obtain ⟨hP, hD⟩ := va_join (wr := []) (w1 := [(h0, .inr (6, [.ref a0, .ref a1, .ref a2, .int 0, .ref a4, .int 0, .ref a6, .int 0, .ref a8]))]) hP hD [0] [] rfl rfl (by decide) (by decide) hk1 hFc hP1 hD1
  generalize H1 = H at hP hS ⊢
  have hP : va_P (dC, dI) vwCl [(h0, .inr (6, [.ref a0, .ref a1, .ref a2, .int 0, .ref a4, .int 0, .ref a6, .int 0, .ref a8]))] H := hP
  have hD : va_D A [(h0, .inr (6, [.ref a0, .ref a1, .ref a2, .int 0, .ref a4, .int 0, .ref a6, .int 0, .ref a8]))] := hD
  subst hw
  try dsimp only [va_rf]
  refine W.eq (g2 := F0 m 5 ls [.null]) rfl ?_
  refine lv_astore_nN (lv' := [(2, .null), (0, .ref h0), (1, .int p0)]) hx hb dX4_choose_5 rfl hl (by decide) rfl (fun ls hl => ?_)
  refine lv_aload_nN hx hb dX4_choose_6 rfl (lv_at hl 0 rfl) ?_
  refine lv_ifnonnullN hx hb dX4_choose_7 ?_
  refine lv_iconst (v := -1) hx hb dX4_choose_10 (by decide) ?_
  have hP9 := hP.sub (ws' := []) [] rfl
  have hD9 := hD.sub (ws' := []) [] (by decide) rfl
  have hK9 := hK.sub (tys' := []) [] rfl
  exact W.iret (v := ((-1))) hx hb hr (fun t ht hW => ⟨⟨((-1)), (), rfl, rfl, by rw [ht]; exact hP9, va_K.moved hW.alike hK9, hD9⟩, hS.F ht⟩) hS.2.2 dX4_choose_11
def wm_X4_secret : List Cond := .code yX4_secret cX4_secret 8 (some .int) :: ([.methodLink RX4 148 yX4_isInOrder, .instanceMethod yX4_isInOrder, .selects RX4 yX4_isInOrder yX4_isInOrder, .initialized RX4] ++ wm_X4_isInOrder)
theorem gm_X4_secret_X4_isInOrder : GoodIn wm_X4_secret (wsV RX4 148 RX4 yX4_isInOrder wm_X4_isInOrder) := goodIn_of _ (by decide +kernel)
set_option maxHeartbeats 4000000 in
set_option maxRecDepth 100000 in
theorem mt_X4_secret (l : Launch) (dC : Nat → ClassId) (dI : Nat → Nat → Nat) (sz : Nat) (h0 a0 a1 a2 a4 a6 a8 : Nat) (p0 : Int32) (p1 : Int32) (p2 : Int32) (p3 : Int32) : Met l yX4_secret wm_X4_secret ({ frames := 2, cells := 0, slots := 0, locals := 45 }) (va_Pc [.ref h0, .int p0, .int p1, .int p2, .int p3] (fun U => U.heap.size = sz ∧ va_P (dC, dI) vwCl [(h0, .inr (6, [.ref a0, .ref a1, .ref a2, .int 0, .ref a4, .int 0, .ref a6, .int 0, .ref a8]))] U.heap ∧ va_K (dC, dI) vwCl [] U ∧ va_D (fun _ => True) [(h0, .inr (6, [.ref a0, .ref a1, .ref a2, .int 0, .ref a4, .int 0, .ref a6, .int 0, .ref a8]))])) (va_Qi (fun (r : Int32) (u : Unit) => r = -1) (fun (u : Unit) t => va_P (dC, dI) vwCl [] t.heap ∧ va_K (dC, dI) vwCl [] t ∧ va_D (va_A [(h0, .inr (6, [.ref a0, .ref a1, .ref a2, .int 0, .ref a4, .int 0, .ref a6, .int 0, .ref a8]))] sz) []) (va_A [(h0, .inr (6, [.ref a0, .ref a1, .ref a2, .int 0, .ref a4, .int 0, .ref a6, .int 0, .ref a8]))] sz)) 0 0 (va_A [(h0, .inr (6, [.ref a0, .ref a1, .ref a2, .int 0, .ref a4, .int 0, .ref a6, .int 0, .ref a8]))] sz) := by
  refine Met.ofW (cc := cX4_secret) (maxL := 8) (ret := (some .int)) (by decide) rfl ?_
  intro p e s m args below meth c s₁ B hml hv
  obtain ⟨rfl, hsz, hP, hK, hD0⟩ := hv
  have hx := B.exec
  have hb := B.bytes
  have hr := B.returns
  have hts := atoms_spec (ws := wm_X4_secret) B.pre
  have hown : s.vm.findClass RX4 = some m.cls := findClass_of_methodNamed B.named
  have hlocks := B.notSynchronized
  subst hsz
  have hD := hD0.self (sz := s.heap.size)
  generalize hAe : va_A [(h0, .inr (6, [.ref a0, .ref a1, .ref a2, .int 0, .ref a4, .int 0, .ref a6, .int 0, .ref a8]))] s.heap.size = A at hD ⊢
  have hA : ∀ q : Nat, s.heap.size ≤ q → A q := fun q h => by rw [← hAe]; exact Or.inr h
  have hS : va_S A s.heap s.heap [] := va_S.rf
  obtain ⟨H, hHe⟩ : ∃ H : Heap, H = s.heap := ⟨_, rfl⟩
  have hP : va_P (dC, dI) vwCl [(h0, .inr (6, [.ref a0, .ref a1, .ref a2, .int 0, .ref a4, .int 0, .ref a6, .int 0, .ref a8]))] H := by rw [hHe]; exact hP
  have hS : va_S A s.heap H [] := by rw [hHe]; exact hS
  have hl := lv_entry ([.ref h0, .int p0, .int p1, .int p2, .int p3]) (n := 8) (Nat.le_of_ble_eq_true rfl)
  rw [lg_entry_eq, ← hHe]
  generalize (lg_sl ([.ref h0, .int p0, .int p1, .int p2, .int p3]) ++ List.replicate (8 - (lg_sl ([.ref h0, .int p0, .int p1, .int p2, .int p3])).length) Slot.unset).toArray = ls at hl ⊢
  have hl : lv_has ls 8 [(0, .ref h0), (1, .int p0), (2, .int p1), (3, .int p2), (4, .int p3)] := hl
  refine lv_aload_n hx hb dX4_secret_0 rfl (lv_at hl 0 rfl) ?_
  refine lv_iload_n hx hb dX4_secret_1 rfl (lv_at hl 1 rfl) ?_
  refine lv_iload_n hx hb dX4_secret_2 rfl (lv_at hl 2 rfl) ?_
  refine lv_iload_n hx hb dX4_secret_3 rfl (lv_at hl 3 rfl) ?_
  refine lv_iload hx hb dX4_secret_4 (lv_at hl 4 rfl) ?_
  have hPc := hP.sub (ws' := [(h0, .inr (6, [.ref a0, .ref a1, .ref a2, .int 0, .ref a4, .int 0, .ref a6, .int 0, .ref a8]))]) [0] rfl
  have hDc := hD.sub (ws' := [(h0, .inr (6, [.ref a0, .ref a1, .ref a2, .int 0, .ref a4, .int 0, .ref a6, .int 0, .ref a8]))]) [0] (by decide) rfl
  have hKc := hK.sub (tys' := []) [] rfl
  have hFc := va_free (wc := [(h0, .inr (6, [.ref a0, .ref a1, .ref a2, .int 0, .ref a4, .int 0, .ref a6, .int 0, .ref a8]))]) hD hS hA [0] rfl
  refine va_calli (va_runV (As := [.int p0, .int p1, .int p2, .int p3]) (rest := []) ⟨hx, hb, hml, hown, hts⟩ (mt_X4_isInOrder l dC dI H.size h0 a0 a1 a2 a4 a6 a8 p0 p1 p2 p3) (cwV 4 hts gm_X4_secret_X4_isInOrder rfl rfl rfl (by decide +kernel) ⟨Nat.le_of_ble_eq_true rfl, Nat.le_of_ble_eq_true rfl⟩) ⟨fun a U g mk q => by obtain ⟨q0, q1, qP, qK, qD⟩ := q; exact ⟨q0, q1, qP, va_K.moved (u := U) (U := U.calling g mk a) (Vm.Alike.refl U.vm) qK, qD⟩, va_recv hKc hPc (ci := 6) (q0 := 0) rfl rfl, fun U hU hW => ⟨rfl, by rw [hU], by rw [hU]; exact hPc, va_K.moved hW.alike hKc, hDc.weaken (fun _ _ _ _ => trivial)⟩⟩ rfl rfl hl.1 rfl (lv_room (Nat.le_of_ble_eq_true rfl)) dX4_secret_6 ⟨Nat.le_of_ble_eq_true rfl, Nat.le_of_ble_eq_true rfl⟩) hS (fun q _ h => hFc q h) hFc (fun r_1 u t H1 locs ht hvm hw hB hz1 hk1 hS => ?_)
  obtain ⟨hP1, hK1, hD1⟩ := hB
  rw [ht] at hP1
  have hK1 := va_K.moved hvm.symm hK1
  obtain ⟨hP, hD⟩ := va_join (wr := []) (w1 := [(h0, .inr (6, [.ref a0, .ref a1, .ref a2, .int 0, .ref a4, .int 0, .ref a6, .int 0, .ref a8]))]) hP hD [0] [] rfl rfl (by decide) (by decide) hk1 hFc hP1 hD1
  generalize H1 = H at hP hS ⊢
  have hP : va_P (dC, dI) vwCl [(h0, .inr (6, [.ref a0, .ref a1, .ref a2, .int 0, .ref a4, .int 0, .ref a6, .int 0, .ref a8]))] H := hP
  have hD : va_D A [(h0, .inr (6, [.ref a0, .ref a1, .ref a2, .int 0, .ref a4, .int 0, .ref a6, .int 0, .ref a8]))] := hD
  subst hw
  refine lv_if_ne (tgt := 14) hx hb dX4_secret_9 (by decide) (fun c_2 => absurd c_2 (by decide)) (fun c_2 => ?_)
  refine lv_iconst (v := -1) hx hb dX4_secret_12 (by decide) ?_
  have hP9 := hP.sub (ws' := []) [] rfl
  have hD9 := hD.sub (ws' := []) [] (by decide) rfl
  have hK9 := hK.sub (tys' := []) [] rfl
  exact W.iret (v := ((-1))) hx hb hr (fun t ht hW => ⟨⟨((-1)), (), rfl, rfl, by rw [ht]; exact hP9, va_K.moved hW.alike hK9, hD9⟩, hS.F ht⟩) hS.2.2 dX4_secret_13
def wm_X4_back : List Cond := .code yX4_back cX4_back 8 (some .int) :: ([.methodLink RX4 148 yX4_isInOrder, .instanceMethod yX4_isInOrder, .selects RX4 yX4_isInOrder yX4_isInOrder, .initialized RX4] ++ wm_X4_isInOrder)
theorem gm_X4_back_X4_isInOrder : GoodIn wm_X4_back (wsV RX4 148 RX4 yX4_isInOrder wm_X4_isInOrder) := goodIn_of _ (by decide +kernel)
set_option maxHeartbeats 4000000 in
set_option maxRecDepth 100000 in
theorem mt_X4_back (l : Launch) (dC : Nat → ClassId) (dI : Nat → Nat → Nat) (sz : Nat) (h0 a0 a1 a2 a4 a6 a8 : Nat) (p0 : Int32) (p1 : Int32) (p2 : Int32) (p3 : Int32) : Met l yX4_back wm_X4_back ({ frames := 2, cells := 0, slots := 0, locals := 45 }) (va_Pc [.ref h0, .int p0, .int p1, .int p2, .int p3] (fun U => U.heap.size = sz ∧ va_P (dC, dI) vwCl [(h0, .inr (6, [.ref a0, .ref a1, .ref a2, .int 0, .ref a4, .int 0, .ref a6, .int 0, .ref a8]))] U.heap ∧ va_K (dC, dI) vwCl [] U ∧ va_D (fun _ => True) [(h0, .inr (6, [.ref a0, .ref a1, .ref a2, .int 0, .ref a4, .int 0, .ref a6, .int 0, .ref a8]))])) (va_Qi (fun (r : Int32) (u : Unit) => r = -1) (fun (u : Unit) t => va_P (dC, dI) vwCl [] t.heap ∧ va_K (dC, dI) vwCl [] t ∧ va_D (va_A [(h0, .inr (6, [.ref a0, .ref a1, .ref a2, .int 0, .ref a4, .int 0, .ref a6, .int 0, .ref a8]))] sz) []) (va_A [(h0, .inr (6, [.ref a0, .ref a1, .ref a2, .int 0, .ref a4, .int 0, .ref a6, .int 0, .ref a8]))] sz)) 0 0 (va_A [(h0, .inr (6, [.ref a0, .ref a1, .ref a2, .int 0, .ref a4, .int 0, .ref a6, .int 0, .ref a8]))] sz) := by
  refine Met.ofW (cc := cX4_back) (maxL := 8) (ret := (some .int)) (by decide) rfl ?_
  intro p e s m args below meth c s₁ B hml hv
  obtain ⟨rfl, hsz, hP, hK, hD0⟩ := hv
  have hx := B.exec
  have hb := B.bytes
  have hr := B.returns
  have hts := atoms_spec (ws := wm_X4_back) B.pre
  have hown : s.vm.findClass RX4 = some m.cls := findClass_of_methodNamed B.named
  have hlocks := B.notSynchronized
  subst hsz
  have hD := hD0.self (sz := s.heap.size)
  generalize hAe : va_A [(h0, .inr (6, [.ref a0, .ref a1, .ref a2, .int 0, .ref a4, .int 0, .ref a6, .int 0, .ref a8]))] s.heap.size = A at hD ⊢
  have hA : ∀ q : Nat, s.heap.size ≤ q → A q := fun q h => by rw [← hAe]; exact Or.inr h
  have hS : va_S A s.heap s.heap [] := va_S.rf
  obtain ⟨H, hHe⟩ : ∃ H : Heap, H = s.heap := ⟨_, rfl⟩
  have hP : va_P (dC, dI) vwCl [(h0, .inr (6, [.ref a0, .ref a1, .ref a2, .int 0, .ref a4, .int 0, .ref a6, .int 0, .ref a8]))] H := by rw [hHe]; exact hP
  have hS : va_S A s.heap H [] := by rw [hHe]; exact hS
  have hl := lv_entry ([.ref h0, .int p0, .int p1, .int p2, .int p3]) (n := 8) (Nat.le_of_ble_eq_true rfl)
  rw [lg_entry_eq, ← hHe]
  generalize (lg_sl ([.ref h0, .int p0, .int p1, .int p2, .int p3]) ++ List.replicate (8 - (lg_sl ([.ref h0, .int p0, .int p1, .int p2, .int p3])).length) Slot.unset).toArray = ls at hl ⊢
  have hl : lv_has ls 8 [(0, .ref h0), (1, .int p0), (2, .int p1), (3, .int p2), (4, .int p3)] := hl
  refine lv_aload_n hx hb dX4_back_0 rfl (lv_at hl 0 rfl) ?_
  refine lv_iload_n hx hb dX4_back_1 rfl (lv_at hl 1 rfl) ?_
  refine lv_iload_n hx hb dX4_back_2 rfl (lv_at hl 2 rfl) ?_
  refine lv_iload_n hx hb dX4_back_3 rfl (lv_at hl 3 rfl) ?_
  refine lv_iload hx hb dX4_back_4 (lv_at hl 4 rfl) ?_
  have hPc := hP.sub (ws' := [(h0, .inr (6, [.ref a0, .ref a1, .ref a2, .int 0, .ref a4, .int 0, .ref a6, .int 0, .ref a8]))]) [0] rfl
  have hDc := hD.sub (ws' := [(h0, .inr (6, [.ref a0, .ref a1, .ref a2, .int 0, .ref a4, .int 0, .ref a6, .int 0, .ref a8]))]) [0] (by decide) rfl
  have hKc := hK.sub (tys' := []) [] rfl
  have hFc := va_free (wc := [(h0, .inr (6, [.ref a0, .ref a1, .ref a2, .int 0, .ref a4, .int 0, .ref a6, .int 0, .ref a8]))]) hD hS hA [0] rfl
  refine va_calli (va_runV (As := [.int p0, .int p1, .int p2, .int p3]) (rest := []) ⟨hx, hb, hml, hown, hts⟩ (mt_X4_isInOrder l dC dI H.size h0 a0 a1 a2 a4 a6 a8 p0 p1 p2 p3) (cwV 4 hts gm_X4_back_X4_isInOrder rfl rfl rfl (by decide +kernel) ⟨Nat.le_of_ble_eq_true rfl, Nat.le_of_ble_eq_true rfl⟩) ⟨fun a U g mk q => by obtain ⟨q0, q1, qP, qK, qD⟩ := q; exact ⟨q0, q1, qP, va_K.moved (u := U) (U := U.calling g mk a) (Vm.Alike.refl U.vm) qK, qD⟩, va_recv hKc hPc (ci := 6) (q0 := 0) rfl rfl, fun U hU hW => ⟨rfl, by rw [hU], by rw [hU]; exact hPc, va_K.moved hW.alike hKc, hDc.weaken (fun _ _ _ _ => trivial)⟩⟩ rfl rfl hl.1 rfl (lv_room (Nat.le_of_ble_eq_true rfl)) dX4_back_6 ⟨Nat.le_of_ble_eq_true rfl, Nat.le_of_ble_eq_true rfl⟩) hS (fun q _ h => hFc q h) hFc (fun r_1 u t H1 locs ht hvm hw hB hz1 hk1 hS => ?_)
  obtain ⟨hP1, hK1, hD1⟩ := hB
  rw [ht] at hP1
  have hK1 := va_K.moved hvm.symm hK1
  obtain ⟨hP, hD⟩ := va_join (wr := []) (w1 := [(h0, .inr (6, [.ref a0, .ref a1, .ref a2, .int 0, .ref a4, .int 0, .ref a6, .int 0, .ref a8]))]) hP hD [0] [] rfl rfl (by decide) (by decide) hk1 hFc hP1 hD1
  generalize H1 = H at hP hS ⊢
  have hP : va_P (dC, dI) vwCl [(h0, .inr (6, [.ref a0, .ref a1, .ref a2, .int 0, .ref a4, .int 0, .ref a6, .int 0, .ref a8]))] H := hP
  have hD : va_D A [(h0, .inr (6, [.ref a0, .ref a1, .ref a2, .int 0, .ref a4, .int 0, .ref a6, .int 0, .ref a8]))] := hD
  subst hw
  refine lv_if_ne (tgt := 14) hx hb dX4_back_9 (by decide) (fun c_2 => absurd c_2 (by decide)) (fun c_2 => ?_)
  refine lv_iconst (v := -1) hx hb dX4_back_12 (by decide) ?_
  have hP9 := hP.sub (ws' := []) [] rfl
  have hD9 := hD.sub (ws' := []) [] (by decide) rfl
  have hK9 := hK.sub (tys' := []) [] rfl
  exact W.iret (v := ((-1))) hx hb hr (fun t ht hW => ⟨⟨((-1)), (), rfl, rfl, by rw [ht]; exact hP9, va_K.moved hW.alike hK9, hD9⟩, hS.F ht⟩) hS.2.2 dX4_back_13
def wm_X4_bitsOf : List Cond := .code yX4_bitsOf cX4_bitsOf 2 (some .long) :: ([.constantLong RX4 56 (-1), .methodLink RX4 44 yX4_isKey, .instanceMethod yX4_isKey, .selects RX4 yX4_isKey yX4_isKey, .initialized RX4] ++ wm_X4_isKey)
theorem gm_X4_bitsOf_X4_isKey : GoodIn wm_X4_bitsOf (wsV RX4 44 RX4 yX4_isKey wm_X4_isKey) := goodIn_of _ (by decide +kernel)
theorem kX4_bitsOf_0 : Cond.constantLong RX4 56 (-1) ∈ wm_X4_bitsOf := by decide +kernel
set_option maxHeartbeats 4000000 in
set_option maxRecDepth 100000 in
theorem mt_X4_bitsOf (l : Launch) (dC : Nat → ClassId) (dI : Nat → Nat → Nat) (sz : Nat) (h0 a0 a1 a2 a4 a6 a8 : Nat) (p0 : Int32) : Met l yX4_bitsOf wm_X4_bitsOf ({ frames := 1, cells := 0, slots := 0, locals := 21 }) (va_Pc [.ref h0, .int p0] (fun U => U.heap.size = sz ∧ va_P (dC, dI) vwCl [(h0, .inr (6, [.ref a0, .ref a1, .ref a2, .int 0, .ref a4, .int 0, .ref a6, .int 0, .ref a8]))] U.heap ∧ va_K (dC, dI) vwCl [] U ∧ va_D (fun _ => True) [(h0, .inr (6, [.ref a0, .ref a1, .ref a2, .int 0, .ref a4, .int 0, .ref a6, .int 0, .ref a8]))])) (va_Ql (fun (r : Int64) (u : Unit) => r = -1) (fun (u : Unit) t => va_P (dC, dI) vwCl [] t.heap ∧ va_K (dC, dI) vwCl [] t ∧ va_D (va_A [(h0, .inr (6, [.ref a0, .ref a1, .ref a2, .int 0, .ref a4, .int 0, .ref a6, .int 0, .ref a8]))] sz) []) (va_A [(h0, .inr (6, [.ref a0, .ref a1, .ref a2, .int 0, .ref a4, .int 0, .ref a6, .int 0, .ref a8]))] sz)) 0 0 (va_A [(h0, .inr (6, [.ref a0, .ref a1, .ref a2, .int 0, .ref a4, .int 0, .ref a6, .int 0, .ref a8]))] sz) := by
  refine Met.ofW (cc := cX4_bitsOf) (maxL := 2) (ret := (some .long)) (by decide) rfl ?_
  intro p e s m args below meth c s₁ B hml hv
  obtain ⟨rfl, hsz, hP, hK, hD0⟩ := hv
  have hx := B.exec
  have hb := B.bytes
  have hr := B.returns
  have hts := atoms_spec (ws := wm_X4_bitsOf) B.pre
  have hown : s.vm.findClass RX4 = some m.cls := findClass_of_methodNamed B.named
  have hlocks := B.notSynchronized
  subst hsz
  have hD := hD0.self (sz := s.heap.size)
  generalize hAe : va_A [(h0, .inr (6, [.ref a0, .ref a1, .ref a2, .int 0, .ref a4, .int 0, .ref a6, .int 0, .ref a8]))] s.heap.size = A at hD ⊢
  have hA : ∀ q : Nat, s.heap.size ≤ q → A q := fun q h => by rw [← hAe]; exact Or.inr h
  have hS : va_S A s.heap s.heap [] := va_S.rf
  obtain ⟨H, hHe⟩ : ∃ H : Heap, H = s.heap := ⟨_, rfl⟩
  have hP : va_P (dC, dI) vwCl [(h0, .inr (6, [.ref a0, .ref a1, .ref a2, .int 0, .ref a4, .int 0, .ref a6, .int 0, .ref a8]))] H := by rw [hHe]; exact hP
  have hS : va_S A s.heap H [] := by rw [hHe]; exact hS
  have hl := lv_entry ([.ref h0, .int p0]) (n := 2) (Nat.le_of_ble_eq_true rfl)
  rw [lg_entry_eq, ← hHe]
  generalize (lg_sl ([.ref h0, .int p0]) ++ List.replicate (2 - (lg_sl ([.ref h0, .int p0])).length) Slot.unset).toArray = ls at hl ⊢
  have hl : lv_has ls 2 [(0, .ref h0), (1, .int p0)] := hl
  refine lv_aload_n hx hb dX4_bitsOf_0 rfl (lv_at hl 0 rfl) ?_
  refine lv_iload_n hx hb dX4_bitsOf_1 rfl (lv_at hl 1 rfl) ?_
  have hPc := hP.sub (ws' := [(h0, .inr (6, [.ref a0, .ref a1, .ref a2, .int 0, .ref a4, .int 0, .ref a6, .int 0, .ref a8]))]) [0] rfl
  have hDc := hD.sub (ws' := [(h0, .inr (6, [.ref a0, .ref a1, .ref a2, .int 0, .ref a4, .int 0, .ref a6, .int 0, .ref a8]))]) [0] (by decide) rfl
  have hKc := hK.sub (tys' := []) [] rfl
  have hFc := va_free (wc := [(h0, .inr (6, [.ref a0, .ref a1, .ref a2, .int 0, .ref a4, .int 0, .ref a6, .int 0, .ref a8]))]) hD hS hA [0] rfl
  refine va_calli (va_runV (As := [.int p0]) (rest := []) ⟨hx, hb, hml, hown, hts⟩ (mt_X4_isKey l dC dI H.size h0 a0 a1 a2 a4 a6 a8 p0) (cwV 1 hts gm_X4_bitsOf_X4_isKey rfl rfl rfl (by decide +kernel) ⟨Nat.le_of_ble_eq_true rfl, Nat.le_of_ble_eq_true rfl⟩) ⟨fun a U g mk q => by obtain ⟨q0, q1, qP, qK, qD⟩ := q; exact ⟨q0, q1, qP, va_K.moved (u := U) (U := U.calling g mk a) (Vm.Alike.refl U.vm) qK, qD⟩, va_recv hKc hPc (ci := 6) (q0 := 0) rfl rfl, fun U hU hW => ⟨rfl, by rw [hU], by rw [hU]; exact hPc, va_K.moved hW.alike hKc, hDc.weaken (fun _ _ _ _ => trivial)⟩⟩ rfl rfl hl.1 rfl (lv_room (Nat.le_of_ble_eq_true rfl)) dX4_bitsOf_2 ⟨Nat.le_of_ble_eq_true rfl, Nat.le_of_ble_eq_true rfl⟩) hS (fun q _ h => hFc q h) hFc (fun r_1 u t H1 locs ht hvm hw hB hz1 hk1 hS => ?_)
  obtain ⟨hP1, hK1, hD1⟩ := hB
  rw [ht] at hP1
  have hK1 := va_K.moved hvm.symm hK1
  obtain ⟨hP, hD⟩ := va_join (wr := []) (w1 := [(h0, .inr (6, [.ref a0, .ref a1, .ref a2, .int 0, .ref a4, .int 0, .ref a6, .int 0, .ref a8]))]) hP hD [0] [] rfl rfl (by decide) (by decide) hk1 hFc hP1 hD1
  generalize H1 = H at hP hS ⊢
  have hP : va_P (dC, dI) vwCl [(h0, .inr (6, [.ref a0, .ref a1, .ref a2, .int 0, .ref a4, .int 0, .ref a6, .int 0, .ref a8]))] H := hP
  have hD : va_D A [(h0, .inr (6, [.ref a0, .ref a1, .ref a2, .int 0, .ref a4, .int 0, .ref a6, .int 0, .ref a8]))] := hD
  subst hw
  refine lv_if_eq (tgt := 17) hx hb dX4_bitsOf_5 (by decide) (fun c_2 => ?_) (fun c_2 => absurd c_2 (by decide))
  refine lv_ldc2 (v := -1) hx hb hown (hts _ kX4_bitsOf_0) dX4_bitsOf_17 ?_
  have hP9 := hP.sub (ws' := []) [] rfl
  have hD9 := hD.sub (ws' := []) [] (by decide) rfl
  have hK9 := hK.sub (tys' := []) [] rfl
  exact W.lret (v := ((-1))) hx hb hr (fun t ht hW => ⟨⟨((-1)), (), rfl, rfl, by rw [ht]; exact hP9, va_K.moved hW.alike hK9, hD9⟩, hS.F ht⟩) hS.2.2 dX4_bitsOf_20
def wm_X4_word : List Cond := .code yX4_word cX4_word 5 (some .long) :: ([.constantLong RX4 56 (-1), .methodLink RX4 44 yX4_isKey, .instanceMethod yX4_isKey, .selects RX4 yX4_isKey yX4_isKey, .initialized RX4] ++ wm_X4_isKey)
theorem gm_X4_word_X4_isKey : GoodIn wm_X4_word (wsV RX4 44 RX4 yX4_isKey wm_X4_isKey) := goodIn_of _ (by decide +kernel)
theorem kX4_word_0 : Cond.constantLong RX4 56 (-1) ∈ wm_X4_word := by decide +kernel
set_option maxHeartbeats 4000000 in
set_option maxRecDepth 100000 in
theorem mt_X4_word (l : Launch) (dC : Nat → ClassId) (dI : Nat → Nat → Nat) (sz : Nat) (h0 a0 a1 a2 a4 a6 a8 : Nat) (p0 : Int32) (p1 : Int32) (p2 : Int64) : Met l yX4_word wm_X4_word ({ frames := 1, cells := 0, slots := 0, locals := 21 }) (va_Pc [.ref h0, .int p0, .int p1, .long p2] (fun U => U.heap.size = sz ∧ va_P (dC, dI) vwCl [(h0, .inr (6, [.ref a0, .ref a1, .ref a2, .int 0, .ref a4, .int 0, .ref a6, .int 0, .ref a8]))] U.heap ∧ va_K (dC, dI) vwCl [] U ∧ va_D (fun _ => True) [(h0, .inr (6, [.ref a0, .ref a1, .ref a2, .int 0, .ref a4, .int 0, .ref a6, .int 0, .ref a8]))])) (va_Ql (fun (r : Int64) (u : Unit) => r = -1) (fun (u : Unit) t => va_P (dC, dI) vwCl [] t.heap ∧ va_K (dC, dI) vwCl [] t ∧ va_D (va_A [(h0, .inr (6, [.ref a0, .ref a1, .ref a2, .int 0, .ref a4, .int 0, .ref a6, .int 0, .ref a8]))] sz) []) (va_A [(h0, .inr (6, [.ref a0, .ref a1, .ref a2, .int 0, .ref a4, .int 0, .ref a6, .int 0, .ref a8]))] sz)) 0 0 (va_A [(h0, .inr (6, [.ref a0, .ref a1, .ref a2, .int 0, .ref a4, .int 0, .ref a6, .int 0, .ref a8]))] sz) := by
  refine Met.ofW (cc := cX4_word) (maxL := 5) (ret := (some .long)) (by decide) rfl ?_
  intro p e s m args below meth c s₁ B hml hv
  obtain ⟨rfl, hsz, hP, hK, hD0⟩ := hv
  have hx := B.exec
  have hb := B.bytes
  have hr := B.returns
  have hts := atoms_spec (ws := wm_X4_word) B.pre
  have hown : s.vm.findClass RX4 = some m.cls := findClass_of_methodNamed B.named
  have hlocks := B.notSynchronized
  subst hsz
  have hD := hD0.self (sz := s.heap.size)
  generalize hAe : va_A [(h0, .inr (6, [.ref a0, .ref a1, .ref a2, .int 0, .ref a4, .int 0, .ref a6, .int 0, .ref a8]))] s.heap.size = A at hD ⊢
  have hA : ∀ q : Nat, s.heap.size ≤ q → A q := fun q h => by rw [← hAe]; exact Or.inr h
  have hS : va_S A s.heap s.heap [] := va_S.rf
  obtain ⟨H, hHe⟩ : ∃ H : Heap, H = s.heap := ⟨_, rfl⟩
  have hP : va_P (dC, dI) vwCl [(h0, .inr (6, [.ref a0, .ref a1, .ref a2, .int 0, .ref a4, .int 0, .ref a6, .int 0, .ref a8]))] H := by rw [hHe]; exact hP
  have hS : va_S A s.heap H [] := by rw [hHe]; exact hS
  have hl := lv_entry ([.ref h0, .int p0, .int p1, .long p2]) (n := 5) (Nat.le_of_ble_eq_true rfl)
  rw [lg_entry_eq, ← hHe]
  generalize (lg_sl ([.ref h0, .int p0, .int p1, .long p2]) ++ List.replicate (5 - (lg_sl ([.ref h0, .int p0, .int p1, .long p2])).length) Slot.unset).toArray = ls at hl ⊢
  have hl : lv_has ls 5 [(0, .ref h0), (1, .int p0), (2, .int p1), (3, .long p2)] := hl
  refine lv_aload_n hx hb dX4_word_0 rfl (lv_at hl 0 rfl) ?_
  refine lv_iload_n hx hb dX4_word_1 rfl (lv_at hl 1 rfl) ?_
  have hPc := hP.sub (ws' := [(h0, .inr (6, [.ref a0, .ref a1, .ref a2, .int 0, .ref a4, .int 0, .ref a6, .int 0, .ref a8]))]) [0] rfl
  have hDc := hD.sub (ws' := [(h0, .inr (6, [.ref a0, .ref a1, .ref a2, .int 0, .ref a4, .int 0, .ref a6, .int 0, .ref a8]))]) [0] (by decide) rfl
  have hKc := hK.sub (tys' := []) [] rfl
  have hFc := va_free (wc := [(h0, .inr (6, [.ref a0, .ref a1, .ref a2, .int 0, .ref a4, .int 0, .ref a6, .int 0, .ref a8]))]) hD hS hA [0] rfl
  refine va_calli (va_runV (As := [.int p0]) (rest := []) ⟨hx, hb, hml, hown, hts⟩ (mt_X4_isKey l dC dI H.size h0 a0 a1 a2 a4 a6 a8 p0) (cwV 1 hts gm_X4_word_X4_isKey rfl rfl rfl (by decide +kernel) ⟨Nat.le_of_ble_eq_true rfl, Nat.le_of_ble_eq_true rfl⟩) ⟨fun a U g mk q => by obtain ⟨q0, q1, qP, qK, qD⟩ := q; exact ⟨q0, q1, qP, va_K.moved (u := U) (U := U.calling g mk a) (Vm.Alike.refl U.vm) qK, qD⟩, va_recv hKc hPc (ci := 6) (q0 := 0) rfl rfl, fun U hU hW => ⟨rfl, by rw [hU], by rw [hU]; exact hPc, va_K.moved hW.alike hKc, hDc.weaken (fun _ _ _ _ => trivial)⟩⟩ rfl rfl hl.1 rfl (lv_room (Nat.le_of_ble_eq_true rfl)) dX4_word_2 ⟨Nat.le_of_ble_eq_true rfl, Nat.le_of_ble_eq_true rfl⟩) hS (fun q _ h => hFc q h) hFc (fun r_1 u t H1 locs ht hvm hw hB hz1 hk1 hS => ?_)
  obtain ⟨hP1, hK1, hD1⟩ := hB
  rw [ht] at hP1
  have hK1 := va_K.moved hvm.symm hK1
  obtain ⟨hP, hD⟩ := va_join (wr := []) (w1 := [(h0, .inr (6, [.ref a0, .ref a1, .ref a2, .int 0, .ref a4, .int 0, .ref a6, .int 0, .ref a8]))]) hP hD [0] [] rfl rfl (by decide) (by decide) hk1 hFc hP1 hD1
  generalize H1 = H at hP hS ⊢
  have hP : va_P (dC, dI) vwCl [(h0, .inr (6, [.ref a0, .ref a1, .ref a2, .int 0, .ref a4, .int 0, .ref a6, .int 0, .ref a8]))] H := hP
  have hD : va_D A [(h0, .inr (6, [.ref a0, .ref a1, .ref a2, .int 0, .ref a4, .int 0, .ref a6, .int 0, .ref a8]))] := hD
  subst hw
  refine lv_if_eq (tgt := 18) hx hb dX4_word_5 (by decide) (fun c_2 => ?_) (fun c_2 => absurd c_2 (by decide))
  refine lv_ldc2 (v := -1) hx hb hown (hts _ kX4_word_0) dX4_word_18 ?_
  have hP9 := hP.sub (ws' := []) [] rfl
  have hD9 := hD.sub (ws' := []) [] (by decide) rfl
  have hK9 := hK.sub (tys' := []) [] rfl
  exact W.lret (v := ((-1))) hx hb hr (fun t ht hW => ⟨⟨((-1)), (), rfl, rfl, by rw [ht]; exact hP9, va_K.moved hW.alike hK9, hD9⟩, hS.F ht⟩) hS.2.2 dX4_word_21
def wm_X4_told : List Cond := .code yX4_told cX4_told 4 (some .long) :: ([.constantLong RX4 56 (-1), .methodLink RX4 66 yX4_drawerOf, .instanceMethod yX4_drawerOf, .selects RX4 yX4_drawerOf yX4_drawerOf, .initialized RX4] ++ wm_X4_drawerOf)
theorem gm_X4_told_X4_drawerOf : GoodIn wm_X4_told (wsV RX4 66 RX4 yX4_drawerOf wm_X4_drawerOf) := goodIn_of _ (by decide +kernel)
theorem kX4_told_0 : Cond.constantLong RX4 56 (-1) ∈ wm_X4_told := by decide +kernel
set_option maxHeartbeats 4000000 in
set_option maxRecDepth 100000 in
theorem mt_X4_told (l : Launch) (dC : Nat → ClassId) (dI : Nat → Nat → Nat) (sz : Nat) (h0 a0 a1 a2 a4 a6 a8 : Nat) (p0 : Int32) (p1 : Int32) : Met l yX4_told wm_X4_told ({ frames := 1, cells := 0, slots := 0, locals := 21 }) (va_Pc [.ref h0, .int p0, .int p1] (fun U => U.heap.size = sz ∧ va_P (dC, dI) vwCl [(h0, .inr (6, [.ref a0, .ref a1, .ref a2, .int 0, .ref a4, .int 0, .ref a6, .int 0, .ref a8]))] U.heap ∧ va_K (dC, dI) vwCl [] U ∧ va_D (fun _ => True) [(h0, .inr (6, [.ref a0, .ref a1, .ref a2, .int 0, .ref a4, .int 0, .ref a6, .int 0, .ref a8]))])) (va_Ql (fun (r : Int64) (u : Unit) => r = -1) (fun (u : Unit) t => va_P (dC, dI) vwCl [] t.heap ∧ va_K (dC, dI) vwCl [] t ∧ va_D (va_A [(h0, .inr (6, [.ref a0, .ref a1, .ref a2, .int 0, .ref a4, .int 0, .ref a6, .int 0, .ref a8]))] sz) []) (va_A [(h0, .inr (6, [.ref a0, .ref a1, .ref a2, .int 0, .ref a4, .int 0, .ref a6, .int 0, .ref a8]))] sz)) 0 0 (va_A [(h0, .inr (6, [.ref a0, .ref a1, .ref a2, .int 0, .ref a4, .int 0, .ref a6, .int 0, .ref a8]))] sz) := by
  refine Met.ofW (cc := cX4_told) (maxL := 4) (ret := (some .long)) (by decide) rfl ?_
  intro p e s m args below meth c s₁ B hml hv
  obtain ⟨rfl, hsz, hP, hK, hD0⟩ := hv
  have hx := B.exec
  have hb := B.bytes
  have hr := B.returns
  have hts := atoms_spec (ws := wm_X4_told) B.pre
  have hown : s.vm.findClass RX4 = some m.cls := findClass_of_methodNamed B.named
  have hlocks := B.notSynchronized
  subst hsz
  have hD := hD0.self (sz := s.heap.size)
  generalize hAe : va_A [(h0, .inr (6, [.ref a0, .ref a1, .ref a2, .int 0, .ref a4, .int 0, .ref a6, .int 0, .ref a8]))] s.heap.size = A at hD ⊢
  have hA : ∀ q : Nat, s.heap.size ≤ q → A q := fun q h => by rw [← hAe]; exact Or.inr h
  have hS : va_S A s.heap s.heap [] := va_S.rf
  obtain ⟨H, hHe⟩ : ∃ H : Heap, H = s.heap := ⟨_, rfl⟩
  have hP : va_P (dC, dI) vwCl [(h0, .inr (6, [.ref a0, .ref a1, .ref a2, .int 0, .ref a4, .int 0, .ref a6, .int 0, .ref a8]))] H := by rw [hHe]; exact hP
  have hS : va_S A s.heap H [] := by rw [hHe]; exact hS
  have hl := lv_entry ([.ref h0, .int p0, .int p1]) (n := 4) (Nat.le_of_ble_eq_true rfl)
  rw [lg_entry_eq, ← hHe]
  generalize (lg_sl ([.ref h0, .int p0, .int p1]) ++ List.replicate (4 - (lg_sl ([.ref h0, .int p0, .int p1])).length) Slot.unset).toArray = ls at hl ⊢
  have hl : lv_has ls 4 [(0, .ref h0), (1, .int p0), (2, .int p1)] := hl
  refine lv_aload_n hx hb dX4_told_0 rfl (lv_at hl 0 rfl) ?_
  refine lv_iload_n hx hb dX4_told_1 rfl (lv_at hl 1 rfl) ?_
  have hPc := hP.sub (ws' := [(h0, .inr (6, [.ref a0, .ref a1, .ref a2, .int 0, .ref a4, .int 0, .ref a6, .int 0, .ref a8]))]) [0] rfl
  have hDc := hD.sub (ws' := [(h0, .inr (6, [.ref a0, .ref a1, .ref a2, .int 0, .ref a4, .int 0, .ref a6, .int 0, .ref a8]))]) [0] (by decide) rfl
  have hKc := hK.sub (tys' := []) [] rfl
  have hFc := va_free (wc := [(h0, .inr (6, [.ref a0, .ref a1, .ref a2, .int 0, .ref a4, .int 0, .ref a6, .int 0, .ref a8]))]) hD hS hA [0] rfl
  refine va_callq (va_runV (As := [.int p0]) (rest := []) ⟨hx, hb, hml, hown, hts⟩ (mt_X4_drawerOf l dC dI H.size h0 a0 a1 a2 a4 a6 a8 p0) (cwV 1 hts gm_X4_told_X4_drawerOf rfl rfl rfl (by decide +kernel) ⟨Nat.le_of_ble_eq_true rfl, Nat.le_of_ble_eq_true rfl⟩) ⟨fun a U g mk q => by obtain ⟨q0, q1, qP, qK, qD⟩ := q; exact ⟨q0, q1, qP, va_K.moved (u := U) (U := U.calling g mk a) (Vm.Alike.refl U.vm) qK, qD⟩, va_recv hKc hPc (ci := 6) (q0 := 0) rfl rfl, fun U hU hW => ⟨rfl, by rw [hU], by rw [hU]; exact hPc, va_K.moved hW.alike hKc, hDc.weaken (fun _ _ _ _ => trivial)⟩⟩ rfl rfl hl.1 rfl (lv_room (Nat.le_of_ble_eq_true rfl)) dX4_told_2 ⟨Nat.le_of_ble_eq_true rfl, Nat.le_of_ble_eq_true rfl⟩) hS (fun q _ h => hFc q h) hFc (fun r_1 u t H1 locs ht hvm hw hB hz1 hk1 hS => ?_)
  obtain ⟨hP1, hK1, hD1⟩ := hB
  rw [ht] at hP1
  have hK1 := va_K.moved hvm.symm hK1
  obtain ⟨hP, hD⟩ := va_join (wr := []) (w1 := [(h0, .inr (6, [.ref a0, .ref a1, .ref a2, .int 0, .ref a4, .int 0, .ref a6, .int 0, .ref a8]))]) hP hD [0] [] rfl rfl (by decide) (by decide) hk1 hFc hP1 hD1
  generalize H1 = H at hP hS ⊢
  have hP : va_P (dC, dI) vwCl [(h0, .inr (6, [.ref a0, .ref a1, .ref a2, .int 0, .ref a4, .int 0, .ref a6, .int 0, .ref a8]))] H := hP
  have hD : va_D A [(h0, .inr (6, [.ref a0, .ref a1, .ref a2, .int 0, .ref a4, .int 0, .ref a6, .int 0, .ref a8]))] := hD
  subst hw
  try dsimp only [va_rf]
  refine W.eq (g2 := F0 m 5 ls [.null]) rfl ?_
  refine lv_astore_nN (lv' := [(3, .null), (0, .ref h0), (1, .int p0), (2, .int p1)]) hx hb dX4_told_5 rfl hl (by decide) rfl (fun ls hl => ?_)
  refine lv_aload_nN hx hb dX4_told_6 rfl (lv_at hl 0 rfl) ?_
  refine lv_ifnonnullN hx hb dX4_told_7 ?_
  refine lv_ldc2 (v := -1) hx hb hown (hts _ kX4_told_0) dX4_told_10 ?_
  have hP9 := hP.sub (ws' := []) [] rfl
  have hD9 := hD.sub (ws' := []) [] (by decide) rfl
  have hK9 := hK.sub (tys' := []) [] rfl
  exact W.lret (v := ((-1))) hx hb hr (fun t ht hW => ⟨⟨((-1)), (), rfl, rfl, by rw [ht]; exact hP9, va_K.moved hW.alike hK9, hD9⟩, hS.F ht⟩) hS.2.2 dX4_told_13
def wm_X4_bits : List Cond := .code yX4_bits cX4_bits 4 (some .long) :: ([.constantLong RX4 56 (-1), .methodLink RX4 66 yX4_drawerOf, .instanceMethod yX4_drawerOf, .selects RX4 yX4_drawerOf yX4_drawerOf, .initialized RX4] ++ wm_X4_drawerOf)
theorem gm_X4_bits_X4_drawerOf : GoodIn wm_X4_bits (wsV RX4 66 RX4 yX4_drawerOf wm_X4_drawerOf) := goodIn_of _ (by decide +kernel)
theorem kX4_bits_0 : Cond.constantLong RX4 56 (-1) ∈ wm_X4_bits := by decide +kernel
set_option maxHeartbeats 4000000 in
set_option maxRecDepth 100000 in
theorem mt_X4_bits (l : Launch) (dC : Nat → ClassId) (dI : Nat → Nat → Nat) (sz : Nat) (h0 a0 a1 a2 a4 a6 a8 : Nat) (p0 : Int32) (p1 : Int32) : Met l yX4_bits wm_X4_bits ({ frames := 1, cells := 0, slots := 0, locals := 21 }) (va_Pc [.ref h0, .int p0, .int p1] (fun U => U.heap.size = sz ∧ va_P (dC, dI) vwCl [(h0, .inr (6, [.ref a0, .ref a1, .ref a2, .int 0, .ref a4, .int 0, .ref a6, .int 0, .ref a8]))] U.heap ∧ va_K (dC, dI) vwCl [] U ∧ va_D (fun _ => True) [(h0, .inr (6, [.ref a0, .ref a1, .ref a2, .int 0, .ref a4, .int 0, .ref a6, .int 0, .ref a8]))])) (va_Ql (fun (r : Int64) (u : Unit) => r = -1) (fun (u : Unit) t => va_P (dC, dI) vwCl [] t.heap ∧ va_K (dC, dI) vwCl [] t ∧ va_D (va_A [(h0, .inr (6, [.ref a0, .ref a1, .ref a2, .int 0, .ref a4, .int 0, .ref a6, .int 0, .ref a8]))] sz) []) (va_A [(h0, .inr (6, [.ref a0, .ref a1, .ref a2, .int 0, .ref a4, .int 0, .ref a6, .int 0, .ref a8]))] sz)) 0 0 (va_A [(h0, .inr (6, [.ref a0, .ref a1, .ref a2, .int 0, .ref a4, .int 0, .ref a6, .int 0, .ref a8]))] sz) := by
  refine Met.ofW (cc := cX4_bits) (maxL := 4) (ret := (some .long)) (by decide) rfl ?_
  intro p e s m args below meth c s₁ B hml hv
  obtain ⟨rfl, hsz, hP, hK, hD0⟩ := hv
  have hx := B.exec
  have hb := B.bytes
  have hr := B.returns
  have hts := atoms_spec (ws := wm_X4_bits) B.pre
  have hown : s.vm.findClass RX4 = some m.cls := findClass_of_methodNamed B.named
  have hlocks := B.notSynchronized
  subst hsz
  have hD := hD0.self (sz := s.heap.size)
  generalize hAe : va_A [(h0, .inr (6, [.ref a0, .ref a1, .ref a2, .int 0, .ref a4, .int 0, .ref a6, .int 0, .ref a8]))] s.heap.size = A at hD ⊢
  have hA : ∀ q : Nat, s.heap.size ≤ q → A q := fun q h => by rw [← hAe]; exact Or.inr h
  have hS : va_S A s.heap s.heap [] := va_S.rf
  obtain ⟨H, hHe⟩ : ∃ H : Heap, H = s.heap := ⟨_, rfl⟩
  have hP : va_P (dC, dI) vwCl [(h0, .inr (6, [.ref a0, .ref a1, .ref a2, .int 0, .ref a4, .int 0, .ref a6, .int 0, .ref a8]))] H := by rw [hHe]; exact hP
  have hS : va_S A s.heap H [] := by rw [hHe]; exact hS
  have hl := lv_entry ([.ref h0, .int p0, .int p1]) (n := 4) (Nat.le_of_ble_eq_true rfl)
  rw [lg_entry_eq, ← hHe]
  generalize (lg_sl ([.ref h0, .int p0, .int p1]) ++ List.replicate (4 - (lg_sl ([.ref h0, .int p0, .int p1])).length) Slot.unset).toArray = ls at hl ⊢
  have hl : lv_has ls 4 [(0, .ref h0), (1, .int p0), (2, .int p1)] := hl
  refine lv_aload_n hx hb dX4_bits_0 rfl (lv_at hl 0 rfl) ?_
  refine lv_iload_n hx hb dX4_bits_1 rfl (lv_at hl 1 rfl) ?_
  have hPc := hP.sub (ws' := [(h0, .inr (6, [.ref a0, .ref a1, .ref a2, .int 0, .ref a4, .int 0, .ref a6, .int 0, .ref a8]))]) [0] rfl
  have hDc := hD.sub (ws' := [(h0, .inr (6, [.ref a0, .ref a1, .ref a2, .int 0, .ref a4, .int 0, .ref a6, .int 0, .ref a8]))]) [0] (by decide) rfl
  have hKc := hK.sub (tys' := []) [] rfl
  have hFc := va_free (wc := [(h0, .inr (6, [.ref a0, .ref a1, .ref a2, .int 0, .ref a4, .int 0, .ref a6, .int 0, .ref a8]))]) hD hS hA [0] rfl
  refine va_callq (va_runV (As := [.int p0]) (rest := []) ⟨hx, hb, hml, hown, hts⟩ (mt_X4_drawerOf l dC dI H.size h0 a0 a1 a2 a4 a6 a8 p0) (cwV 1 hts gm_X4_bits_X4_drawerOf rfl rfl rfl (by decide +kernel) ⟨Nat.le_of_ble_eq_true rfl, Nat.le_of_ble_eq_true rfl⟩) ⟨fun a U g mk q => by obtain ⟨q0, q1, qP, qK, qD⟩ := q; exact ⟨q0, q1, qP, va_K.moved (u := U) (U := U.calling g mk a) (Vm.Alike.refl U.vm) qK, qD⟩, va_recv hKc hPc (ci := 6) (q0 := 0) rfl rfl, fun U hU hW => ⟨rfl, by rw [hU], by rw [hU]; exact hPc, va_K.moved hW.alike hKc, hDc.weaken (fun _ _ _ _ => trivial)⟩⟩ rfl rfl hl.1 rfl (lv_room (Nat.le_of_ble_eq_true rfl)) dX4_bits_2 ⟨Nat.le_of_ble_eq_true rfl, Nat.le_of_ble_eq_true rfl⟩) hS (fun q _ h => hFc q h) hFc (fun r_1 u t H1 locs ht hvm hw hB hz1 hk1 hS => ?_)
  obtain ⟨hP1, hK1, hD1⟩ := hB
  rw [ht] at hP1
  have hK1 := va_K.moved hvm.symm hK1
  obtain ⟨hP, hD⟩ := va_join (wr := []) (w1 := [(h0, .inr (6, [.ref a0, .ref a1, .ref a2, .int 0, .ref a4, .int 0, .ref a6, .int 0, .ref a8]))]) hP hD [0] [] rfl rfl (by decide) (by decide) hk1 hFc hP1 hD1
  generalize H1 = H at hP hS ⊢
  have hP : va_P (dC, dI) vwCl [(h0, .inr (6, [.ref a0, .ref a1, .ref a2, .int 0, .ref a4, .int 0, .ref a6, .int 0, .ref a8]))] H := hP
  have hD : va_D A [(h0, .inr (6, [.ref a0, .ref a1, .ref a2, .int 0, .ref a4, .int 0, .ref a6, .int 0, .ref a8]))] := hD
  subst hw
  try dsimp only [va_rf]
  refine W.eq (g2 := F0 m 5 ls [.null]) rfl ?_
  refine lv_astore_nN (lv' := [(3, .null), (0, .ref h0), (1, .int p0), (2, .int p1)]) hx hb dX4_bits_5 rfl hl (by decide) rfl (fun ls hl => ?_)
  refine lv_aload_nN hx hb dX4_bits_6 rfl (lv_at hl 0 rfl) ?_
  refine lv_ifnullN (tgt := 20) hx hb dX4_bits_7 (by decide) ?_
  refine lv_ldc2 (v := -1) hx hb hown (hts _ kX4_bits_0) dX4_bits_20 ?_
  have hP9 := hP.sub (ws' := []) [] rfl
  have hD9 := hD.sub (ws' := []) [] (by decide) rfl
  have hK9 := hK.sub (tys' := []) [] rfl
  exact W.lret (v := ((-1))) hx hb hr (fun t ht hW => ⟨⟨((-1)), (), rfl, rfl, by rw [ht]; exact hP9, va_K.moved hW.alike hK9, hD9⟩, hS.F ht⟩) hS.2.2 dX4_bits_23
def wm_X4_below : List Cond := .code yX4_below cX4_below 5 (some .long) :: ([.constantLong RX4 56 (-1), .methodLink RX4 66 yX4_drawerOf, .instanceMethod yX4_drawerOf, .selects RX4 yX4_drawerOf yX4_drawerOf, .initialized RX4] ++ wm_X4_drawerOf)
theorem gm_X4_below_X4_drawerOf : GoodIn wm_X4_below (wsV RX4 66 RX4 yX4_drawerOf wm_X4_drawerOf) := goodIn_of _ (by decide +kernel)
theorem kX4_below_0 : Cond.constantLong RX4 56 (-1) ∈ wm_X4_below := by decide +kernel
set_option maxHeartbeats 4000000 in
set_option maxRecDepth 100000 in
theorem mt_X4_below (l : Launch) (dC : Nat → ClassId) (dI : Nat → Nat → Nat) (sz : Nat) (h0 a0 a1 a2 a4 a6 a8 : Nat) (p0 : Int32) (p1 : Int64) : Met l yX4_below wm_X4_below ({ frames := 1, cells := 0, slots := 0, locals := 21 }) (va_Pc [.ref h0, .int p0, .long p1] (fun U => U.heap.size = sz ∧ va_P (dC, dI) vwCl [(h0, .inr (6, [.ref a0, .ref a1, .ref a2, .int 0, .ref a4, .int 0, .ref a6, .int 0, .ref a8]))] U.heap ∧ va_K (dC, dI) vwCl [] U ∧ va_D (fun _ => True) [(h0, .inr (6, [.ref a0, .ref a1, .ref a2, .int 0, .ref a4, .int 0, .ref a6, .int 0, .ref a8]))])) (va_Ql (fun (r : Int64) (u : Unit) => r = -1) (fun (u : Unit) t => va_P (dC, dI) vwCl [] t.heap ∧ va_K (dC, dI) vwCl [] t ∧ va_D (va_A [(h0, .inr (6, [.ref a0, .ref a1, .ref a2, .int 0, .ref a4, .int 0, .ref a6, .int 0, .ref a8]))] sz) []) (va_A [(h0, .inr (6, [.ref a0, .ref a1, .ref a2, .int 0, .ref a4, .int 0, .ref a6, .int 0, .ref a8]))] sz)) 0 0 (va_A [(h0, .inr (6, [.ref a0, .ref a1, .ref a2, .int 0, .ref a4, .int 0, .ref a6, .int 0, .ref a8]))] sz) := by
  refine Met.ofW (cc := cX4_below) (maxL := 5) (ret := (some .long)) (by decide) rfl ?_
  intro p e s m args below meth c s₁ B hml hv
  obtain ⟨rfl, hsz, hP, hK, hD0⟩ := hv
  have hx := B.exec
  have hb := B.bytes
  have hr := B.returns
  have hts := atoms_spec (ws := wm_X4_below) B.pre
  have hown : s.vm.findClass RX4 = some m.cls := findClass_of_methodNamed B.named
  have hlocks := B.notSynchronized
  subst hsz
  have hD := hD0.self (sz := s.heap.size)
  generalize hAe : va_A [(h0, .inr (6, [.ref a0, .ref a1, .ref a2, .int 0, .ref a4, .int 0, .ref a6, .int 0, .ref a8]))] s.heap.size = A at hD ⊢
  have hA : ∀ q : Nat, s.heap.size ≤ q → A q := fun q h => by rw [← hAe]; exact Or.inr h
  have hS : va_S A s.heap s.heap [] := va_S.rf
  obtain ⟨H, hHe⟩ : ∃ H : Heap, H = s.heap := ⟨_, rfl⟩
  have hP : va_P (dC, dI) vwCl [(h0, .inr (6, [.ref a0, .ref a1, .ref a2, .int 0, .ref a4, .int 0, .ref a6, .int 0, .ref a8]))] H := by rw [hHe]; exact hP
  have hS : va_S A s.heap H [] := by rw [hHe]; exact hS
  have hl := lv_entry ([.ref h0, .int p0, .long p1]) (n := 5) (Nat.le_of_ble_eq_true rfl)
  rw [lg_entry_eq, ← hHe]
  generalize (lg_sl ([.ref h0, .int p0, .long p1]) ++ List.replicate (5 - (lg_sl ([.ref h0, .int p0, .long p1])).length) Slot.unset).toArray = ls at hl ⊢
  have hl : lv_has ls 5 [(0, .ref h0), (1, .int p0), (2, .long p1)] := hl
  refine lv_aload_n hx hb dX4_below_0 rfl (lv_at hl 0 rfl) ?_
  refine lv_iload_n hx hb dX4_below_1 rfl (lv_at hl 1 rfl) ?_
  have hPc := hP.sub (ws' := [(h0, .inr (6, [.ref a0, .ref a1, .ref a2, .int 0, .ref a4, .int 0, .ref a6, .int 0, .ref a8]))]) [0] rfl
  have hDc := hD.sub (ws' := [(h0, .inr (6, [.ref a0, .ref a1, .ref a2, .int 0, .ref a4, .int 0, .ref a6, .int 0, .ref a8]))]) [0] (by decide) rfl
  have hKc := hK.sub (tys' := []) [] rfl
  have hFc := va_free (wc := [(h0, .inr (6, [.ref a0, .ref a1, .ref a2, .int 0, .ref a4, .int 0, .ref a6, .int 0, .ref a8]))]) hD hS hA [0] rfl
  refine va_callq (va_runV (As := [.int p0]) (rest := []) ⟨hx, hb, hml, hown, hts⟩ (mt_X4_drawerOf l dC dI H.size h0 a0 a1 a2 a4 a6 a8 p0) (cwV 1 hts gm_X4_below_X4_drawerOf rfl rfl rfl (by decide +kernel) ⟨Nat.le_of_ble_eq_true rfl, Nat.le_of_ble_eq_true rfl⟩) ⟨fun a U g mk q => by obtain ⟨q0, q1, qP, qK, qD⟩ := q; exact ⟨q0, q1, qP, va_K.moved (u := U) (U := U.calling g mk a) (Vm.Alike.refl U.vm) qK, qD⟩, va_recv hKc hPc (ci := 6) (q0 := 0) rfl rfl, fun U hU hW => ⟨rfl, by rw [hU], by rw [hU]; exact hPc, va_K.moved hW.alike hKc, hDc.weaken (fun _ _ _ _ => trivial)⟩⟩ rfl rfl hl.1 rfl (lv_room (Nat.le_of_ble_eq_true rfl)) dX4_below_2 ⟨Nat.le_of_ble_eq_true rfl, Nat.le_of_ble_eq_true rfl⟩) hS (fun q _ h => hFc q h) hFc (fun r_1 u t H1 locs ht hvm hw hB hz1 hk1 hS => ?_)
  obtain ⟨hP1, hK1, hD1⟩ := hB
  rw [ht] at hP1
  have hK1 := va_K.moved hvm.symm hK1
  obtain ⟨hP, hD⟩ := va_join (wr := []) (w1 := [(h0, .inr (6, [.ref a0, .ref a1, .ref a2, .int 0, .ref a4, .int 0, .ref a6, .int 0, .ref a8]))]) hP hD [0] [] rfl rfl (by decide) (by decide) hk1 hFc hP1 hD1
  generalize H1 = H at hP hS ⊢
  have hP : va_P (dC, dI) vwCl [(h0, .inr (6, [.ref a0, .ref a1, .ref a2, .int 0, .ref a4, .int 0, .ref a6, .int 0, .ref a8]))] H := hP
  have hD : va_D A [(h0, .inr (6, [.ref a0, .ref a1, .ref a2, .int 0, .ref a4, .int 0, .ref a6, .int 0, .ref a8]))] := hD
  subst hw
  try dsimp only [va_rf]
  refine W.eq (g2 := F0 m 5 ls [.null]) rfl ?_
  refine lv_astoreN (lv' := [(4, .null), (0, .ref h0), (1, .int p0), (2, .long p1)]) hx hb dX4_below_5 hl (by decide) rfl (fun ls hl => ?_)
  refine lv_aloadN hx hb dX4_below_7 (lv_at hl 0 rfl) ?_
  refine lv_ifnullN (tgt := 18) hx hb dX4_below_9 (by decide) ?_
  refine lv_ldc2 (v := -1) hx hb hown (hts _ kX4_below_0) dX4_below_18 ?_
  have hP9 := hP.sub (ws' := []) [] rfl
  have hD9 := hD.sub (ws' := []) [] (by decide) rfl
  have hK9 := hK.sub (tys' := []) [] rfl
  exact W.lret (v := ((-1))) hx hb hr (fun t ht hW => ⟨⟨((-1)), (), rfl, rfl, by rw [ht]; exact hP9, va_K.moved hW.alike hK9, hD9⟩, hS.F ht⟩) hS.2.2 dX4_below_21
def wm_X4_same : List Cond := .code yX4_same cX4_same 5 (some .boolean) :: ([.methodLink RX4 66 yX4_drawerOf, .instanceMethod yX4_drawerOf, .selects RX4 yX4_drawerOf yX4_drawerOf, .initialized RX4] ++ wm_X4_drawerOf)
theorem gm_X4_same_X4_drawerOf : GoodIn wm_X4_same (wsV RX4 66 RX4 yX4_drawerOf wm_X4_drawerOf) := goodIn_of _ (by decide +kernel)
set_option maxHeartbeats 4000000 in
set_option maxRecDepth 100000 in
theorem mt_X4_same (l : Launch) (dC : Nat → ClassId) (dI : Nat → Nat → Nat) (sz : Nat) (h0 a0 a1 a2 a4 a6 a8 : Nat) (p0 : Int32) (p1 : Int32) : Met l yX4_same wm_X4_same ({ frames := 1, cells := 0, slots := 0, locals := 21 }) (va_Pc [.ref h0, .int p0, .int p1] (fun U => U.heap.size = sz ∧ va_P (dC, dI) vwCl [(h0, .inr (6, [.ref a0, .ref a1, .ref a2, .int 0, .ref a4, .int 0, .ref a6, .int 0, .ref a8]))] U.heap ∧ va_K (dC, dI) vwCl [] U ∧ va_D (fun _ => True) [(h0, .inr (6, [.ref a0, .ref a1, .ref a2, .int 0, .ref a4, .int 0, .ref a6, .int 0, .ref a8]))])) (va_Qi (fun (r : Int32) (u : Unit) => r = 0) (fun (u : Unit) t => va_P (dC, dI) vwCl [] t.heap ∧ va_K (dC, dI) vwCl [] t ∧ va_D (va_A [(h0, .inr (6, [.ref a0, .ref a1, .ref a2, .int 0, .ref a4, .int 0, .ref a6, .int 0, .ref a8]))] sz) []) (va_A [(h0, .inr (6, [.ref a0, .ref a1, .ref a2, .int 0, .ref a4, .int 0, .ref a6, .int 0, .ref a8]))] sz)) 0 0 (va_A [(h0, .inr (6, [.ref a0, .ref a1, .ref a2, .int 0, .ref a4, .int 0, .ref a6, .int 0, .ref a8]))] sz) := by
  refine Met.ofW (cc := cX4_same) (maxL := 5) (ret := (some .boolean)) (by decide) rfl ?_
  intro p e s m args below meth c s₁ B hml hv
  obtain ⟨rfl, hsz, hP, hK, hD0⟩ := hv
  have hx := B.exec
  have hb := B.bytes
  have hr := B.returns
  have hts := atoms_spec (ws := wm_X4_same) B.pre
  have hown : s.vm.findClass RX4 = some m.cls := findClass_of_methodNamed B.named
  have hlocks := B.notSynchronized
  subst hsz
  have hD := hD0.self (sz := s.heap.size)
  generalize hAe : va_A [(h0, .inr (6, [.ref a0, .ref a1, .ref a2, .int 0, .ref a4, .int 0, .ref a6, .int 0, .ref a8]))] s.heap.size = A at hD ⊢
  have hA : ∀ q : Nat, s.heap.size ≤ q → A q := fun q h => by rw [← hAe]; exact Or.inr h
  have hS : va_S A s.heap s.heap [] := va_S.rf
  obtain ⟨H, hHe⟩ : ∃ H : Heap, H = s.heap := ⟨_, rfl⟩
  have hP : va_P (dC, dI) vwCl [(h0, .inr (6, [.ref a0, .ref a1, .ref a2, .int 0, .ref a4, .int 0, .ref a6, .int 0, .ref a8]))] H := by rw [hHe]; exact hP
  have hS : va_S A s.heap H [] := by rw [hHe]; exact hS
  have hl := lv_entry ([.ref h0, .int p0, .int p1]) (n := 5) (Nat.le_of_ble_eq_true rfl)
  rw [lg_entry_eq, ← hHe]
  generalize (lg_sl ([.ref h0, .int p0, .int p1]) ++ List.replicate (5 - (lg_sl ([.ref h0, .int p0, .int p1])).length) Slot.unset).toArray = ls at hl ⊢
  have hl : lv_has ls 5 [(0, .ref h0), (1, .int p0), (2, .int p1)] := hl
  refine lv_aload_n hx hb dX4_same_0 rfl (lv_at hl 0 rfl) ?_
  refine lv_iload_n hx hb dX4_same_1 rfl (lv_at hl 1 rfl) ?_
  have hPc := hP.sub (ws' := [(h0, .inr (6, [.ref a0, .ref a1, .ref a2, .int 0, .ref a4, .int 0, .ref a6, .int 0, .ref a8]))]) [0] rfl
  have hDc := hD.sub (ws' := [(h0, .inr (6, [.ref a0, .ref a1, .ref a2, .int 0, .ref a4, .int 0, .ref a6, .int 0, .ref a8]))]) [0] (by decide) rfl
  have hKc := hK.sub (tys' := []) [] rfl
  have hFc := va_free (wc := [(h0, .inr (6, [.ref a0, .ref a1, .ref a2, .int 0, .ref a4, .int 0, .ref a6, .int 0, .ref a8]))]) hD hS hA [0] rfl
  refine va_callq (va_runV (As := [.int p0]) (rest := []) ⟨hx, hb, hml, hown, hts⟩ (mt_X4_drawerOf l dC dI H.size h0 a0 a1 a2 a4 a6 a8 p0) (cwV 1 hts gm_X4_same_X4_drawerOf rfl rfl rfl (by decide +kernel) ⟨Nat.le_of_ble_eq_true rfl, Nat.le_of_ble_eq_true rfl⟩) ⟨fun a U g mk q => by obtain ⟨q0, q1, qP, qK, qD⟩ := q; exact ⟨q0, q1, qP, va_K.moved (u := U) (U := U.calling g mk a) (Vm.Alike.refl U.vm) qK, qD⟩, va_recv hKc hPc (ci := 6) (q0 := 0) rfl rfl, fun U hU hW => ⟨rfl, by rw [hU], by rw [hU]; exact hPc, va_K.moved hW.alike hKc, hDc.weaken (fun _ _ _ _ => trivial)⟩⟩ rfl rfl hl.1 rfl (lv_room (Nat.le_of_ble_eq_true rfl)) dX4_same_2 ⟨Nat.le_of_ble_eq_true rfl, Nat.le_of_ble_eq_true rfl⟩) hS (fun q _ h => hFc q h) hFc (fun r_1 u t H1 locs ht hvm hw hB hz1 hk1 hS => ?_)
  obtain ⟨hP1, hK1, hD1⟩ := hB
  rw [ht] at hP1
  have hK1 := va_K.moved hvm.symm hK1
  obtain ⟨hP, hD⟩ := va_join (wr := []) (w1 := [(h0, .inr (6, [.ref a0, .ref a1, .ref a2, .int 0, .ref a4, .int 0, .ref a6, .int 0, .ref a8]))]) hP hD [0] [] rfl rfl (by decide) (by decide) hk1 hFc hP1 hD1
  generalize H1 = H at hP hS ⊢
  have hP : va_P (dC, dI) vwCl [(h0, .inr (6, [.ref a0, .ref a1, .ref a2, .int 0, .ref a4, .int 0, .ref a6, .int 0, .ref a8]))] H := hP
  have hD : va_D A [(h0, .inr (6, [.ref a0, .ref a1, .ref a2, .int 0, .ref a4, .int 0, .ref a6, .int 0, .ref a8]))] := hD
  subst hw
  try dsimp only [va_rf]
  refine W.eq (g2 := F0 m 5 ls [.null]) rfl ?_
  refine lv_astore_nN (lv' := [(3, .null), (0, .ref h0), (1, .int p0), (2, .int p1)]) hx hb dX4_same_5 rfl hl (by decide) rfl (fun ls hl => ?_)
  refine lv_aload_n hx hb dX4_same_6 rfl (lv_at hl 1 rfl) ?_
  refine lv_iload_n hx hb dX4_same_7 rfl (lv_at hl 3 rfl) ?_
  have hPc := hP.sub (ws' := [(h0, .inr (6, [.ref a0, .ref a1, .ref a2, .int 0, .ref a4, .int 0, .ref a6, .int 0, .ref a8]))]) [0] rfl
  have hDc := hD.sub (ws' := [(h0, .inr (6, [.ref a0, .ref a1, .ref a2, .int 0, .ref a4, .int 0, .ref a6, .int 0, .ref a8]))]) [0] (by decide) rfl
  have hKc := hK.sub (tys' := []) [] rfl
  have hFc := va_free (wc := [(h0, .inr (6, [.ref a0, .ref a1, .ref a2, .int 0, .ref a4, .int 0, .ref a6, .int 0, .ref a8]))]) hD hS hA [0] rfl
  refine va_callq (va_runV (As := [.int p1]) (rest := []) ⟨hx, hb, hml, hown, hts⟩ (mt_X4_drawerOf l dC dI H.size h0 a0 a1 a2 a4 a6 a8 p1) (cwV 1 hts gm_X4_same_X4_drawerOf rfl rfl rfl (by decide +kernel) ⟨Nat.le_of_ble_eq_true rfl, Nat.le_of_ble_eq_true rfl⟩) ⟨fun a U g mk q => by obtain ⟨q0, q1, qP, qK, qD⟩ := q; exact ⟨q0, q1, qP, va_K.moved (u := U) (U := U.calling g mk a) (Vm.Alike.refl U.vm) qK, qD⟩, va_recv hKc hPc (ci := 6) (q0 := 0) rfl rfl, fun U hU hW => ⟨rfl, by rw [hU], by rw [hU]; exact hPc, va_K.moved hW.alike hKc, hDc.weaken (fun _ _ _ _ => trivial)⟩⟩ rfl rfl hl.1 rfl (lv_room (Nat.le_of_ble_eq_true rfl)) dX4_same_8 ⟨Nat.le_of_ble_eq_true rfl, Nat.le_of_ble_eq_true rfl⟩) hS (fun q _ h => hFc q h) hFc (fun r_2 u t H1 locs ht hvm hw hB hz1 hk1 hS => ?_)
  obtain ⟨hP1, hK1, hD1⟩ := hB
  rw [ht] at hP1
  have hK1 := va_K.moved hvm.symm hK1
  obtain ⟨hP, hD⟩ := va_join (wr := []) (w1 := [(h0, .inr (6, [.ref a0, .ref a1, .ref a2, .int 0, .ref a4, .int 0, .ref a6, .int 0, .ref a8]))]) hP hD [0] [] rfl rfl (by decide) (by decide) hk1 hFc hP1 hD1
  generalize H1 = H at hP hS ⊢
  have hP : va_P (dC, dI) vwCl [(h0, .inr (6, [.ref a0, .ref a1, .ref a2, .int 0, .ref a4, .int 0, .ref a6, .int 0, .ref a8]))] H := hP
  have hD : va_D A [(h0, .inr (6, [.ref a0, .ref a1, .ref a2, .int 0, .ref a4, .int 0, .ref a6, .int 0, .ref a8]))] := hD
  subst hw
  try dsimp only [va_rf]
  refine W.eq (g2 := F0 m 11 ls [.null]) rfl ?_
  refine lv_astoreN (lv' := [(4, .null), (3, .null), (0, .ref h0), (1, .int p0), (2, .int p1)]) hx hb dX4_same_11 hl (by decide) rfl (fun ls hl => ?_)
  refine lv_aload_nN hx hb dX4_same_13 rfl (lv_at hl 1 rfl) ?_
  refine lv_ifnullN (tgt := 22) hx hb dX4_same_14 (by decide) ?_
  refine lv_iconst (v := 0) hx hb dX4_same_22 (by decide) ?_
  have hP9 := hP.sub (ws' := []) [] rfl
  have hD9 := hD.sub (ws' := []) [] (by decide) rfl
  have hK9 := hK.sub (tys' := []) [] rfl
  exact W.zret (v := 0) (ty := .boolean) hx hb hr rfl (fun t ht hW => ⟨⟨0, (), rfl, rfl, by rw [ht]; exact hP9, va_K.moved hW.alike hK9, hD9⟩, hS.F ht⟩) hS.2.2 dX4_same_23
def wm_X4_mask : List Cond := .code yX4_mask cX4_mask 9 (some .long) :: ([.methodLink RX4 66 yX4_drawerOf, .instanceMethod yX4_drawerOf, .selects RX4 yX4_drawerOf yX4_drawerOf, .initialized RX4] ++ wm_X4_drawerOf)
theorem gm_X4_mask_X4_drawerOf : GoodIn wm_X4_mask (wsV RX4 66 RX4 yX4_drawerOf wm_X4_drawerOf) := goodIn_of _ (by decide +kernel)
set_option maxHeartbeats 4000000 in
set_option maxRecDepth 100000 in
theorem mt_X4_mask (l : Launch) (dC : Nat → ClassId) (dI : Nat → Nat → Nat) (sz : Nat) (h0 a0 a1 a2 a4 a6 a8 : Nat) (p0 : Int32) (p1 : Int32) (p2 : Int32) (p3 : Int32) : Met l yX4_mask wm_X4_mask ({ frames := 1, cells := 0, slots := 0, locals := 21 }) (va_Pc [.ref h0, .int p0, .int p1, .int p2, .int p3] (fun U => U.heap.size = sz ∧ va_P (dC, dI) vwCl [(h0, .inr (6, [.ref a0, .ref a1, .ref a2, .int 0, .ref a4, .int 0, .ref a6, .int 0, .ref a8]))] U.heap ∧ va_K (dC, dI) vwCl [] U ∧ va_D (fun _ => True) [(h0, .inr (6, [.ref a0, .ref a1, .ref a2, .int 0, .ref a4, .int 0, .ref a6, .int 0, .ref a8]))])) (va_Ql (fun (r : Int64) (u : Unit) => r = 0) (fun (u : Unit) t => va_P (dC, dI) vwCl [] t.heap ∧ va_K (dC, dI) vwCl [] t ∧ va_D (va_A [(h0, .inr (6, [.ref a0, .ref a1, .ref a2, .int 0, .ref a4, .int 0, .ref a6, .int 0, .ref a8]))] sz) []) (va_A [(h0, .inr (6, [.ref a0, .ref a1, .ref a2, .int 0, .ref a4, .int 0, .ref a6, .int 0, .ref a8]))] sz)) 0 0 (va_A [(h0, .inr (6, [.ref a0, .ref a1, .ref a2, .int 0, .ref a4, .int 0, .ref a6, .int 0, .ref a8]))] sz) := by
  refine Met.ofW (cc := cX4_mask) (maxL := 9) (ret := (some .long)) (by decide) rfl ?_
  intro p e s m args below meth c s₁ B hml hv
  obtain ⟨rfl, hsz, hP, hK, hD0⟩ := hv
  have hx := B.exec
  have hb := B.bytes
  have hr := B.returns
  have hts := atoms_spec (ws := wm_X4_mask) B.pre
  have hown : s.vm.findClass RX4 = some m.cls := findClass_of_methodNamed B.named
  have hlocks := B.notSynchronized
  subst hsz
  have hD := hD0.self (sz := s.heap.size)
  generalize hAe : va_A [(h0, .inr (6, [.ref a0, .ref a1, .ref a2, .int 0, .ref a4, .int 0, .ref a6, .int 0, .ref a8]))] s.heap.size = A at hD ⊢
  have hA : ∀ q : Nat, s.heap.size ≤ q → A q := fun q h => by rw [← hAe]; exact Or.inr h
  have hS : va_S A s.heap s.heap [] := va_S.rf
  obtain ⟨H, hHe⟩ : ∃ H : Heap, H = s.heap := ⟨_, rfl⟩
  have hP : va_P (dC, dI) vwCl [(h0, .inr (6, [.ref a0, .ref a1, .ref a2, .int 0, .ref a4, .int 0, .ref a6, .int 0, .ref a8]))] H := by rw [hHe]; exact hP
  have hS : va_S A s.heap H [] := by rw [hHe]; exact hS
  have hl := lv_entry ([.ref h0, .int p0, .int p1, .int p2, .int p3]) (n := 9) (Nat.le_of_ble_eq_true rfl)
  rw [lg_entry_eq, ← hHe]
  generalize (lg_sl ([.ref h0, .int p0, .int p1, .int p2, .int p3]) ++ List.replicate (9 - (lg_sl ([.ref h0, .int p0, .int p1, .int p2, .int p3])).length) Slot.unset).toArray = ls at hl ⊢
  have hl : lv_has ls 9 [(0, .ref h0), (1, .int p0), (2, .int p1), (3, .int p2), (4, .int p3)] := hl
  refine lv_aload_n hx hb dX4_mask_0 rfl (lv_at hl 0 rfl) ?_
  refine lv_iload_n hx hb dX4_mask_1 rfl (lv_at hl 1 rfl) ?_
  have hPc := hP.sub (ws' := [(h0, .inr (6, [.ref a0, .ref a1, .ref a2, .int 0, .ref a4, .int 0, .ref a6, .int 0, .ref a8]))]) [0] rfl
  have hDc := hD.sub (ws' := [(h0, .inr (6, [.ref a0, .ref a1, .ref a2, .int 0, .ref a4, .int 0, .ref a6, .int 0, .ref a8]))]) [0] (by decide) rfl
  have hKc := hK.sub (tys' := []) [] rfl
  have hFc := va_free (wc := [(h0, .inr (6, [.ref a0, .ref a1, .ref a2, .int 0, .ref a4, .int 0, .ref a6, .int 0, .ref a8]))]) hD hS hA [0] rfl
  refine va_callq (va_runV (As := [.int p0]) (rest := []) ⟨hx, hb, hml, hown, hts⟩ (mt_X4_drawerOf l dC dI H.size h0 a0 a1 a2 a4 a6 a8 p0) (cwV 1 hts gm_X4_mask_X4_drawerOf rfl rfl rfl (by decide +kernel) ⟨Nat.le_of_ble_eq_true rfl, Nat.le_of_ble_eq_true rfl⟩) ⟨fun a U g mk q => by obtain ⟨q0, q1, qP, qK, qD⟩ := q; exact ⟨q0, q1, qP, va_K.moved (u := U) (U := U.calling g mk a) (Vm.Alike.refl U.vm) qK, qD⟩, va_recv hKc hPc (ci := 6) (q0 := 0) rfl rfl, fun U hU hW => ⟨rfl, by rw [hU], by rw [hU]; exact hPc, va_K.moved hW.alike hKc, hDc.weaken (fun _ _ _ _ => trivial)⟩⟩ rfl rfl hl.1 rfl (lv_room (Nat.le_of_ble_eq_true rfl)) dX4_mask_2 ⟨Nat.le_of_ble_eq_true rfl, Nat.le_of_ble_eq_true rfl⟩) hS (fun q _ h => hFc q h) hFc (fun r_1 u t H1 locs ht hvm hw hB hz1 hk1 hS => ?_)
  obtain ⟨hP1, hK1, hD1⟩ := hB
  rw [ht] at hP1
  have hK1 := va_K.moved hvm.symm hK1
  obtain ⟨hP, hD⟩ := va_join (wr := []) (w1 := [(h0, .inr (6, [.ref a0, .ref a1, .ref a2, .int 0, .ref a4, .int 0, .ref a6, .int 0, .ref a8]))]) hP hD [0] [] rfl rfl (by decide) (by decide) hk1 hFc hP1 hD1
  generalize H1 = H at hP hS ⊢
  have hP : va_P (dC, dI) vwCl [(h0, .inr (6, [.ref a0, .ref a1, .ref a2, .int 0, .ref a4, .int 0, .ref a6, .int 0, .ref a8]))] H := hP
  have hD : va_D A [(h0, .inr (6, [.ref a0, .ref a1, .ref a2, .int 0, .ref a4, .int 0, .ref a6, .int 0, .ref a8]))] := hD
  subst hw
  try dsimp only [va_rf]
  refine W.eq (g2 := F0 m 5 ls [.null]) rfl ?_
  refine lv_astoreN (lv' := [(5, .null), (0, .ref h0), (1, .int p0), (2, .int p1), (3, .int p2), (4, .int p3)]) hx hb dX4_mask_5 hl (by decide) rfl (fun ls hl => ?_)
  refine lv_aloadN hx hb dX4_mask_7 (lv_at hl 0 rfl) ?_
  refine lv_ifnullN (tgt := 33) hx hb dX4_mask_9 (by decide) ?_
  refine lv_lconst (v := 0) hx hb dX4_mask_33 (by decide) ?_
  have hP9 := hP.sub (ws' := []) [] rfl
  have hD9 := hD.sub (ws' := []) [] (by decide) rfl
  have hK9 := hK.sub (tys' := []) [] rfl
  exact W.lret (v := 0) hx hb hr (fun t ht hW => ⟨⟨0, (), rfl, rfl, by rw [ht]; exact hP9, va_K.moved hW.alike hK9, hD9⟩, hS.F ht⟩) hS.2.2 dX4_mask_34
def wm_X4_normal : List Cond := .code yX4_normal cX4_normal 5 (some .long) :: ([.methodLink RX4 66 yX4_drawerOf, .instanceMethod yX4_drawerOf, .selects RX4 yX4_drawerOf yX4_drawerOf, .initialized RX4] ++ wm_X4_drawerOf)
theorem gm_X4_normal_X4_drawerOf : GoodIn wm_X4_normal (wsV RX4 66 RX4 yX4_drawerOf wm_X4_drawerOf) := goodIn_of _ (by decide +kernel)
set_option maxHeartbeats 4000000 in
set_option maxRecDepth 100000 in
theorem mt_X4_normal (l : Launch) (dC : Nat → ClassId) (dI : Nat → Nat → Nat) (sz : Nat) (h0 a0 a1 a2 a4 a6 a8 : Nat) (p0 : Int32) : Met l yX4_normal wm_X4_normal ({ frames := 1, cells := 0, slots := 0, locals := 21 }) (va_Pc [.ref h0, .int p0] (fun U => U.heap.size = sz ∧ va_P (dC, dI) vwCl [(h0, .inr (6, [.ref a0, .ref a1, .ref a2, .int 0, .ref a4, .int 0, .ref a6, .int 0, .ref a8]))] U.heap ∧ va_K (dC, dI) vwCl [] U ∧ va_D (fun _ => True) [(h0, .inr (6, [.ref a0, .ref a1, .ref a2, .int 0, .ref a4, .int 0, .ref a6, .int 0, .ref a8]))])) (va_Ql (fun (r : Int64) (u : Unit) => r = 0) (fun (u : Unit) t => va_P (dC, dI) vwCl [] t.heap ∧ va_K (dC, dI) vwCl [] t ∧ va_D (va_A [(h0, .inr (6, [.ref a0, .ref a1, .ref a2, .int 0, .ref a4, .int 0, .ref a6, .int 0, .ref a8]))] sz) []) (va_A [(h0, .inr (6, [.ref a0, .ref a1, .ref a2, .int 0, .ref a4, .int 0, .ref a6, .int 0, .ref a8]))] sz)) 0 0 (va_A [(h0, .inr (6, [.ref a0, .ref a1, .ref a2, .int 0, .ref a4, .int 0, .ref a6, .int 0, .ref a8]))] sz) := by
  refine Met.ofW (cc := cX4_normal) (maxL := 5) (ret := (some .long)) (by decide) rfl ?_
  intro p e s m args below meth c s₁ B hml hv
  obtain ⟨rfl, hsz, hP, hK, hD0⟩ := hv
  have hx := B.exec
  have hb := B.bytes
  have hr := B.returns
  have hts := atoms_spec (ws := wm_X4_normal) B.pre
  have hown : s.vm.findClass RX4 = some m.cls := findClass_of_methodNamed B.named
  have hlocks := B.notSynchronized
  subst hsz
  have hD := hD0.self (sz := s.heap.size)
  generalize hAe : va_A [(h0, .inr (6, [.ref a0, .ref a1, .ref a2, .int 0, .ref a4, .int 0, .ref a6, .int 0, .ref a8]))] s.heap.size = A at hD ⊢
  have hA : ∀ q : Nat, s.heap.size ≤ q → A q := fun q h => by rw [← hAe]; exact Or.inr h
  have hS : va_S A s.heap s.heap [] := va_S.rf
  obtain ⟨H, hHe⟩ : ∃ H : Heap, H = s.heap := ⟨_, rfl⟩
  have hP : va_P (dC, dI) vwCl [(h0, .inr (6, [.ref a0, .ref a1, .ref a2, .int 0, .ref a4, .int 0, .ref a6, .int 0, .ref a8]))] H := by rw [hHe]; exact hP
  have hS : va_S A s.heap H [] := by rw [hHe]; exact hS
  have hl := lv_entry ([.ref h0, .int p0]) (n := 5) (Nat.le_of_ble_eq_true rfl)
  rw [lg_entry_eq, ← hHe]
  generalize (lg_sl ([.ref h0, .int p0]) ++ List.replicate (5 - (lg_sl ([.ref h0, .int p0])).length) Slot.unset).toArray = ls at hl ⊢
  have hl : lv_has ls 5 [(0, .ref h0), (1, .int p0)] := hl
  refine lv_aload_n hx hb dX4_normal_0 rfl (lv_at hl 0 rfl) ?_
  refine lv_iload_n hx hb dX4_normal_1 rfl (lv_at hl 1 rfl) ?_
  have hPc := hP.sub (ws' := [(h0, .inr (6, [.ref a0, .ref a1, .ref a2, .int 0, .ref a4, .int 0, .ref a6, .int 0, .ref a8]))]) [0] rfl
  have hDc := hD.sub (ws' := [(h0, .inr (6, [.ref a0, .ref a1, .ref a2, .int 0, .ref a4, .int 0, .ref a6, .int 0, .ref a8]))]) [0] (by decide) rfl
  have hKc := hK.sub (tys' := []) [] rfl
  have hFc := va_free (wc := [(h0, .inr (6, [.ref a0, .ref a1, .ref a2, .int 0, .ref a4, .int 0, .ref a6, .int 0, .ref a8]))]) hD hS hA [0] rfl
  refine va_callq (va_runV (As := [.int p0]) (rest := []) ⟨hx, hb, hml, hown, hts⟩ (mt_X4_drawerOf l dC dI H.size h0 a0 a1 a2 a4 a6 a8 p0) (cwV 1 hts gm_X4_normal_X4_drawerOf rfl rfl rfl (by decide +kernel) ⟨Nat.le_of_ble_eq_true rfl, Nat.le_of_ble_eq_true rfl⟩) ⟨fun a U g mk q => by obtain ⟨q0, q1, qP, qK, qD⟩ := q; exact ⟨q0, q1, qP, va_K.moved (u := U) (U := U.calling g mk a) (Vm.Alike.refl U.vm) qK, qD⟩, va_recv hKc hPc (ci := 6) (q0 := 0) rfl rfl, fun U hU hW => ⟨rfl, by rw [hU], by rw [hU]; exact hPc, va_K.moved hW.alike hKc, hDc.weaken (fun _ _ _ _ => trivial)⟩⟩ rfl rfl hl.1 rfl (lv_room (Nat.le_of_ble_eq_true rfl)) dX4_normal_2 ⟨Nat.le_of_ble_eq_true rfl, Nat.le_of_ble_eq_true rfl⟩) hS (fun q _ h => hFc q h) hFc (fun r_1 u t H1 locs ht hvm hw hB hz1 hk1 hS => ?_)
  obtain ⟨hP1, hK1, hD1⟩ := hB
  rw [ht] at hP1
  have hK1 := va_K.moved hvm.symm hK1
  obtain ⟨hP, hD⟩ := va_join (wr := []) (w1 := [(h0, .inr (6, [.ref a0, .ref a1, .ref a2, .int 0, .ref a4, .int 0, .ref a6, .int 0, .ref a8]))]) hP hD [0] [] rfl rfl (by decide) (by decide) hk1 hFc hP1 hD1
  generalize H1 = H at hP hS ⊢
  have hP : va_P (dC, dI) vwCl [(h0, .inr (6, [.ref a0, .ref a1, .ref a2, .int 0, .ref a4, .int 0, .ref a6, .int 0, .ref a8]))] H := hP
  have hD : va_D A [(h0, .inr (6, [.ref a0, .ref a1, .ref a2, .int 0, .ref a4, .int 0, .ref a6, .int 0, .ref a8]))] := hD
  subst hw
  try dsimp only [va_rf]
  refine W.eq (g2 := F0 m 5 ls [.null]) rfl ?_
  refine lv_astore_nN (lv' := [(2, .null), (0, .ref h0), (1, .int p0)]) hx hb dX4_normal_5 rfl hl (by decide) rfl (fun ls hl => ?_)
  refine lv_aload_nN hx hb dX4_normal_6 rfl (lv_at hl 0 rfl) ?_
  refine lv_ifnonnullN hx hb dX4_normal_7 ?_
  refine lv_lconst (v := 0) hx hb dX4_normal_10 (by decide) ?_
  have hP9 := hP.sub (ws' := []) [] rfl
  have hD9 := hD.sub (ws' := []) [] (by decide) rfl
  have hK9 := hK.sub (tys' := []) [] rfl
  exact W.lret (v := 0) hx hb hr (fun t ht hW => ⟨⟨0, (), rfl, rfl, by rw [ht]; exact hP9, va_K.moved hW.alike hK9, hD9⟩, hS.F ht⟩) hS.2.2 dX4_normal_11
def wm_X4_real : List Cond := .code yX4_real cX4_real 3 (some .double) :: ([.constantDouble RX4 102 (13830554455654793216), .methodLink RX4 66 yX4_drawerOf, .instanceMethod yX4_drawerOf, .selects RX4 yX4_drawerOf yX4_drawerOf, .initialized RX4] ++ wm_X4_drawerOf)
theorem gm_X4_real_X4_drawerOf : GoodIn wm_X4_real (wsV RX4 66 RX4 yX4_drawerOf wm_X4_drawerOf) := goodIn_of _ (by decide +kernel)
theorem kX4_real_0 : Cond.constantDouble RX4 102 (13830554455654793216) ∈ wm_X4_real := by decide +kernel
set_option maxHeartbeats 4000000 in
set_option maxRecDepth 100000 in
theorem mt_X4_real (l : Launch) (dC : Nat → ClassId) (dI : Nat → Nat → Nat) (sz : Nat) (h0 a0 a1 a2 a4 a6 a8 : Nat) (p0 : Int32) : Met l yX4_real wm_X4_real ({ frames := 1, cells := 0, slots := 0, locals := 21 }) (va_Pc [.ref h0, .int p0] (fun U => U.heap.size = sz ∧ va_P (dC, dI) vwCl [(h0, .inr (6, [.ref a0, .ref a1, .ref a2, .int 0, .ref a4, .int 0, .ref a6, .int 0, .ref a8]))] U.heap ∧ va_K (dC, dI) vwCl [] U ∧ va_D (fun _ => True) [(h0, .inr (6, [.ref a0, .ref a1, .ref a2, .int 0, .ref a4, .int 0, .ref a6, .int 0, .ref a8]))])) (va_Qd (fun (r : UInt64) (u : Unit) => r = 13830554455654793216) (fun (u : Unit) t => va_P (dC, dI) vwCl [] t.heap ∧ va_K (dC, dI) vwCl [] t ∧ va_D (va_A [(h0, .inr (6, [.ref a0, .ref a1, .ref a2, .int 0, .ref a4, .int 0, .ref a6, .int 0, .ref a8]))] sz) []) (va_A [(h0, .inr (6, [.ref a0, .ref a1, .ref a2, .int 0, .ref a4, .int 0, .ref a6, .int 0, .ref a8]))] sz)) 0 0 (va_A [(h0, .inr (6, [.ref a0, .ref a1, .ref a2, .int 0, .ref a4, .int 0, .ref a6, .int 0, .ref a8]))] sz) := by
  refine Met.ofW (cc := cX4_real) (maxL := 3) (ret := (some .double)) (by decide) rfl ?_
  intro p e s m args below meth c s₁ B hml hv
  obtain ⟨rfl, hsz, hP, hK, hD0⟩ := hv
  have hx := B.exec
  have hb := B.bytes
  have hr := B.returns
  have hts := atoms_spec (ws := wm_X4_real) B.pre
  have hown : s.vm.findClass RX4 = some m.cls := findClass_of_methodNamed B.named
  have hlocks := B.notSynchronized
  subst hsz
  have hD := hD0.self (sz := s.heap.size)
  generalize hAe : va_A [(h0, .inr (6, [.ref a0, .ref a1, .ref a2, .int 0, .ref a4, .int 0, .ref a6, .int 0, .ref a8]))] s.heap.size = A at hD ⊢
  have hA : ∀ q : Nat, s.heap.size ≤ q → A q := fun q h => by rw [← hAe]; exact Or.inr h
  have hS : va_S A s.heap s.heap [] := va_S.rf
  obtain ⟨H, hHe⟩ : ∃ H : Heap, H = s.heap := ⟨_, rfl⟩
  have hP : va_P (dC, dI) vwCl [(h0, .inr (6, [.ref a0, .ref a1, .ref a2, .int 0, .ref a4, .int 0, .ref a6, .int 0, .ref a8]))] H := by rw [hHe]; exact hP
  have hS : va_S A s.heap H [] := by rw [hHe]; exact hS
  have hl := lv_entry ([.ref h0, .int p0]) (n := 3) (Nat.le_of_ble_eq_true rfl)
  rw [lg_entry_eq, ← hHe]
  generalize (lg_sl ([.ref h0, .int p0]) ++ List.replicate (3 - (lg_sl ([.ref h0, .int p0])).length) Slot.unset).toArray = ls at hl ⊢
  have hl : lv_has ls 3 [(0, .ref h0), (1, .int p0)] := hl
  refine lv_aload_n hx hb dX4_real_0 rfl (lv_at hl 0 rfl) ?_
  refine lv_iload_n hx hb dX4_real_1 rfl (lv_at hl 1 rfl) ?_
  have hPc := hP.sub (ws' := [(h0, .inr (6, [.ref a0, .ref a1, .ref a2, .int 0, .ref a4, .int 0, .ref a6, .int 0, .ref a8]))]) [0] rfl
  have hDc := hD.sub (ws' := [(h0, .inr (6, [.ref a0, .ref a1, .ref a2, .int 0, .ref a4, .int 0, .ref a6, .int 0, .ref a8]))]) [0] (by decide) rfl
  have hKc := hK.sub (tys' := []) [] rfl
  have hFc := va_free (wc := [(h0, .inr (6, [.ref a0, .ref a1, .ref a2, .int 0, .ref a4, .int 0, .ref a6, .int 0, .ref a8]))]) hD hS hA [0] rfl
  refine va_callq (va_runV (As := [.int p0]) (rest := []) ⟨hx, hb, hml, hown, hts⟩ (mt_X4_drawerOf l dC dI H.size h0 a0 a1 a2 a4 a6 a8 p0) (cwV 1 hts gm_X4_real_X4_drawerOf rfl rfl rfl (by decide +kernel) ⟨Nat.le_of_ble_eq_true rfl, Nat.le_of_ble_eq_true rfl⟩) ⟨fun a U g mk q => by obtain ⟨q0, q1, qP, qK, qD⟩ := q; exact ⟨q0, q1, qP, va_K.moved (u := U) (U := U.calling g mk a) (Vm.Alike.refl U.vm) qK, qD⟩, va_recv hKc hPc (ci := 6) (q0 := 0) rfl rfl, fun U hU hW => ⟨rfl, by rw [hU], by rw [hU]; exact hPc, va_K.moved hW.alike hKc, hDc.weaken (fun _ _ _ _ => trivial)⟩⟩ rfl rfl hl.1 rfl (lv_room (Nat.le_of_ble_eq_true rfl)) dX4_real_2 ⟨Nat.le_of_ble_eq_true rfl, Nat.le_of_ble_eq_true rfl⟩) hS (fun q _ h => hFc q h) hFc (fun r_1 u t H1 locs ht hvm hw hB hz1 hk1 hS => ?_)
  obtain ⟨hP1, hK1, hD1⟩ := hB
  rw [ht] at hP1
  have hK1 := va_K.moved hvm.symm hK1
  obtain ⟨hP, hD⟩ := va_join (wr := []) (w1 := [(h0, .inr (6, [.ref a0, .ref a1, .ref a2, .int 0, .ref a4, .int 0, .ref a6, .int 0, .ref a8]))]) hP hD [0] [] rfl rfl (by decide) (by decide) hk1 hFc hP1 hD1
  generalize H1 = H at hP hS ⊢
  have hP : va_P (dC, dI) vwCl [(h0, .inr (6, [.ref a0, .ref a1, .ref a2, .int 0, .ref a4, .int 0, .ref a6, .int 0, .ref a8]))] H := hP
  have hD : va_D A [(h0, .inr (6, [.ref a0, .ref a1, .ref a2, .int 0, .ref a4, .int 0, .ref a6, .int 0, .ref a8]))] := hD
  subst hw
  try dsimp only [va_rf]
  refine W.eq (g2 := F0 m 5 ls [.null]) rfl ?_
  refine lv_astore_nN (lv' := [(2, .null), (0, .ref h0), (1, .int p0)]) hx hb dX4_real_5 rfl hl (by decide) rfl (fun ls hl => ?_)
  refine lv_aload_nN hx hb dX4_real_6 rfl (lv_at hl 0 rfl) ?_
  refine lv_ifnonnullN hx hb dX4_real_7 ?_
  refine lv_ldc2d (v := 13830554455654793216) hx hb hown (hts _ kX4_real_0) dX4_real_10 ?_
  have hP9 := hP.sub (ws' := []) [] rfl
  have hD9 := hD.sub (ws' := []) [] (by decide) rfl
  have hK9 := hK.sub (tys' := []) [] rfl
  exact W.dret (v := 13830554455654793216) hx hb hr (fun t ht hW => ⟨⟨13830554455654793216, (), rfl, rfl, by rw [ht]; exact hP9, va_K.moved hW.alike hK9, hD9⟩, hS.F ht⟩) hS.2.2 dX4_real_13
def wm_X4_single : List Cond := .code yX4_single cX4_single 3 (some .float) :: ([.constantFloat RX4 106 (3212836864), .methodLink RX4 66 yX4_drawerOf, .instanceMethod yX4_drawerOf, .selects RX4 yX4_drawerOf yX4_drawerOf, .initialized RX4] ++ wm_X4_drawerOf)
theorem gm_X4_single_X4_drawerOf : GoodIn wm_X4_single (wsV RX4 66 RX4 yX4_drawerOf wm_X4_drawerOf) := goodIn_of _ (by decide +kernel)
theorem kX4_single_0 : Cond.constantFloat RX4 106 (3212836864) ∈ wm_X4_single := by decide +kernel
set_option maxHeartbeats 4000000 in
set_option maxRecDepth 100000 in
theorem mt_X4_single (l : Launch) (dC : Nat → ClassId) (dI : Nat → Nat → Nat) (sz : Nat) (h0 a0 a1 a2 a4 a6 a8 : Nat) (p0 : Int32) : Met l yX4_single wm_X4_single ({ frames := 1, cells := 0, slots := 0, locals := 21 }) (va_Pc [.ref h0, .int p0] (fun U => U.heap.size = sz ∧ va_P (dC, dI) vwCl [(h0, .inr (6, [.ref a0, .ref a1, .ref a2, .int 0, .ref a4, .int 0, .ref a6, .int 0, .ref a8]))] U.heap ∧ va_K (dC, dI) vwCl [] U ∧ va_D (fun _ => True) [(h0, .inr (6, [.ref a0, .ref a1, .ref a2, .int 0, .ref a4, .int 0, .ref a6, .int 0, .ref a8]))])) (va_Qf (fun (r : UInt32) (u : Unit) => r = 3212836864) (fun (u : Unit) t => va_P (dC, dI) vwCl [] t.heap ∧ va_K (dC, dI) vwCl [] t ∧ va_D (va_A [(h0, .inr (6, [.ref a0, .ref a1, .ref a2, .int 0, .ref a4, .int 0, .ref a6, .int 0, .ref a8]))] sz) []) (va_A [(h0, .inr (6, [.ref a0, .ref a1, .ref a2, .int 0, .ref a4, .int 0, .ref a6, .int 0, .ref a8]))] sz)) 0 0 (va_A [(h0, .inr (6, [.ref a0, .ref a1, .ref a2, .int 0, .ref a4, .int 0, .ref a6, .int 0, .ref a8]))] sz) := by
  refine Met.ofW (cc := cX4_single) (maxL := 3) (ret := (some .float)) (by decide) rfl ?_
  intro p e s m args below meth c s₁ B hml hv
  obtain ⟨rfl, hsz, hP, hK, hD0⟩ := hv
  have hx := B.exec
  have hb := B.bytes
  have hr := B.returns
  have hts := atoms_spec (ws := wm_X4_single) B.pre
  have hown : s.vm.findClass RX4 = some m.cls := findClass_of_methodNamed B.named
  have hlocks := B.notSynchronized
  subst hsz
  have hD := hD0.self (sz := s.heap.size)
  generalize hAe : va_A [(h0, .inr (6, [.ref a0, .ref a1, .ref a2, .int 0, .ref a4, .int 0, .ref a6, .int 0, .ref a8]))] s.heap.size = A at hD ⊢
  have hA : ∀ q : Nat, s.heap.size ≤ q → A q := fun q h => by rw [← hAe]; exact Or.inr h
  have hS : va_S A s.heap s.heap [] := va_S.rf
  obtain ⟨H, hHe⟩ : ∃ H : Heap, H = s.heap := ⟨_, rfl⟩
  have hP : va_P (dC, dI) vwCl [(h0, .inr (6, [.ref a0, .ref a1, .ref a2, .int 0, .ref a4, .int 0, .ref a6, .int 0, .ref a8]))] H := by rw [hHe]; exact hP
  have hS : va_S A s.heap H [] := by rw [hHe]; exact hS
  have hl := lv_entry ([.ref h0, .int p0]) (n := 3) (Nat.le_of_ble_eq_true rfl)
  rw [lg_entry_eq, ← hHe]
  generalize (lg_sl ([.ref h0, .int p0]) ++ List.replicate (3 - (lg_sl ([.ref h0, .int p0])).length) Slot.unset).toArray = ls at hl ⊢
  have hl : lv_has ls 3 [(0, .ref h0), (1, .int p0)] := hl
  refine lv_aload_n hx hb dX4_single_0 rfl (lv_at hl 0 rfl) ?_
  refine lv_iload_n hx hb dX4_single_1 rfl (lv_at hl 1 rfl) ?_
  have hPc := hP.sub (ws' := [(h0, .inr (6, [.ref a0, .ref a1, .ref a2, .int 0, .ref a4, .int 0, .ref a6, .int 0, .ref a8]))]) [0] rfl
  have hDc := hD.sub (ws' := [(h0, .inr (6, [.ref a0, .ref a1, .ref a2, .int 0, .ref a4, .int 0, .ref a6, .int 0, .ref a8]))]) [0] (by decide) rfl
  have hKc := hK.sub (tys' := []) [] rfl
  have hFc := va_free (wc := [(h0, .inr (6, [.ref a0, .ref a1, .ref a2, .int 0, .ref a4, .int 0, .ref a6, .int 0, .ref a8]))]) hD hS hA [0] rfl
  refine va_callq (va_runV (As := [.int p0]) (rest := []) ⟨hx, hb, hml, hown, hts⟩ (mt_X4_drawerOf l dC dI H.size h0 a0 a1 a2 a4 a6 a8 p0) (cwV 1 hts gm_X4_single_X4_drawerOf rfl rfl rfl (by decide +kernel) ⟨Nat.le_of_ble_eq_true rfl, Nat.le_of_ble_eq_true rfl⟩) ⟨fun a U g mk q => by obtain ⟨q0, q1, qP, qK, qD⟩ := q; exact ⟨q0, q1, qP, va_K.moved (u := U) (U := U.calling g mk a) (Vm.Alike.refl U.vm) qK, qD⟩, va_recv hKc hPc (ci := 6) (q0 := 0) rfl rfl, fun U hU hW => ⟨rfl, by rw [hU], by rw [hU]; exact hPc, va_K.moved hW.alike hKc, hDc.weaken (fun _ _ _ _ => trivial)⟩⟩ rfl rfl hl.1 rfl (lv_room (Nat.le_of_ble_eq_true rfl)) dX4_single_2 ⟨Nat.le_of_ble_eq_true rfl, Nat.le_of_ble_eq_true rfl⟩) hS (fun q _ h => hFc q h) hFc (fun r_1 u t H1 locs ht hvm hw hB hz1 hk1 hS => ?_)
  obtain ⟨hP1, hK1, hD1⟩ := hB
  rw [ht] at hP1
  have hK1 := va_K.moved hvm.symm hK1
  obtain ⟨hP, hD⟩ := va_join (wr := []) (w1 := [(h0, .inr (6, [.ref a0, .ref a1, .ref a2, .int 0, .ref a4, .int 0, .ref a6, .int 0, .ref a8]))]) hP hD [0] [] rfl rfl (by decide) (by decide) hk1 hFc hP1 hD1
  generalize H1 = H at hP hS ⊢
  have hP : va_P (dC, dI) vwCl [(h0, .inr (6, [.ref a0, .ref a1, .ref a2, .int 0, .ref a4, .int 0, .ref a6, .int 0, .ref a8]))] H := hP
  have hD : va_D A [(h0, .inr (6, [.ref a0, .ref a1, .ref a2, .int 0, .ref a4, .int 0, .ref a6, .int 0, .ref a8]))] := hD
  subst hw
  try dsimp only [va_rf]
  refine W.eq (g2 := F0 m 5 ls [.null]) rfl ?_
  refine lv_astore_nN (lv' := [(2, .null), (0, .ref h0), (1, .int p0)]) hx hb dX4_single_5 rfl hl (by decide) rfl (fun ls hl => ?_)
  refine lv_aload_nN hx hb dX4_single_6 rfl (lv_at hl 0 rfl) ?_
  refine lv_ifnonnullN hx hb dX4_single_7 ?_
  refine lv_ldcf (v := 3212836864) hx hb hown (hts _ kX4_single_0) dX4_single_10 ?_
  have hP9 := hP.sub (ws' := []) [] rfl
  have hD9 := hD.sub (ws' := []) [] (by decide) rfl
  have hK9 := hK.sub (tys' := []) [] rfl
  exact W.fret (v := 3212836864) hx hb hr (fun t ht hW => ⟨⟨3212836864, (), rfl, rfl, by rw [ht]; exact hP9, va_K.moved hW.alike hK9, hD9⟩, hS.F ht⟩) hS.2.2 dX4_single_12
def wm_X4_count : List Cond := .code yX4_count cX4_count 2 (some .int) :: ([.fieldLink RX4 40 "DrawStreams" "keyCount" "I", .fieldLink RX4 60 "DrawStreams" "drawerCount" "I", .fieldLink RX4 135 "DrawStreams" "rowSize" "I"] ++ wsX40)
theorem iX4_count_X4 : ∀ w ∈ wsX40, w ∈ wm_X4_count := by decide +kernel
theorem kX4_count_1 : Cond.fieldLink RX4 40 "DrawStreams" "keyCount" "I" ∈ wm_X4_count := by decide +kernel
theorem kX4_count_2 : Cond.fieldLink RX4 60 "DrawStreams" "drawerCount" "I" ∈ wm_X4_count := by decide +kernel
theorem kX4_count_3 : Cond.fieldLink RX4 135 "DrawStreams" "rowSize" "I" ∈ wm_X4_count := by decide +kernel
set_option maxHeartbeats 4000000 in
set_option maxRecDepth 100000 in
theorem mt_X4_count (l : Launch) (dC : Nat → ClassId) (dI : Nat → Nat → Nat) (sz : Nat) (h0 a0 a1 a2 a4 a6 a8 : Nat) (p0 : Int32) : Met l yX4_count wm_X4_count ({ frames := 0, cells := 0, slots := 0, locals := 0 }) (va_Pc [.ref h0, .int p0] (fun U => U.heap.size = sz ∧ va_P (dC, dI) vwCl [(h0, .inr (6, [.ref a0, .ref a1, .ref a2, .int 0, .ref a4, .int 0, .ref a6, .int 0, .ref a8]))] U.heap ∧ va_K (dC, dI) vwCl [] U ∧ va_D (fun _ => True) [(h0, .inr (6, [.ref a0, .ref a1, .ref a2, .int 0, .ref a4, .int 0, .ref a6, .int 0, .ref a8]))])) (va_Qi (fun (r : Int32) (u : Unit) => r = cnt p0) (fun (u : Unit) t => va_P (dC, dI) vwCl [] t.heap ∧ va_K (dC, dI) vwCl [] t ∧ va_D (va_A [(h0, .inr (6, [.ref a0, .ref a1, .ref a2, .int 0, .ref a4, .int 0, .ref a6, .int 0, .ref a8]))] sz) []) (va_A [(h0, .inr (6, [.ref a0, .ref a1, .ref a2, .int 0, .ref a4, .int 0, .ref a6, .int 0, .ref a8]))] sz)) 0 0 (va_A [(h0, .inr (6, [.ref a0, .ref a1, .ref a2, .int 0, .ref a4, .int 0, .ref a6, .int 0, .ref a8]))] sz) := by
  refine Met.ofW (cc := cX4_count) (maxL := 2) (ret := (some .int)) (by decide) rfl ?_
  intro p e s m args below meth c s₁ B hml hv
  obtain ⟨rfl, hsz, hP, hK, hD0⟩ := hv
  have hx := B.exec
  have hb := B.bytes
  have hr := B.returns
  have hts := atoms_spec (ws := wm_X4_count) B.pre
  have hown : s.vm.findClass RX4 = some m.cls := findClass_of_methodNamed B.named
  have hlocks := B.notSynchronized
  subst hsz
  have hD := hD0.self (sz := s.heap.size)
  generalize hAe : va_A [(h0, .inr (6, [.ref a0, .ref a1, .ref a2, .int 0, .ref a4, .int 0, .ref a6, .int 0, .ref a8]))] s.heap.size = A at hD ⊢
  have hA : ∀ q : Nat, s.heap.size ≤ q → A q := fun q h => by rw [← hAe]; exact Or.inr h
  have hS : va_S A s.heap s.heap [] := va_S.rf
  obtain ⟨H, hHe⟩ : ∃ H : Heap, H = s.heap := ⟨_, rfl⟩
  have hP : va_P (dC, dI) vwCl [(h0, .inr (6, [.ref a0, .ref a1, .ref a2, .int 0, .ref a4, .int 0, .ref a6, .int 0, .ref a8]))] H := by rw [hHe]; exact hP
  have hS : va_S A s.heap H [] := by rw [hHe]; exact hS
  have hl := lv_entry ([.ref h0, .int p0]) (n := 2) (Nat.le_of_ble_eq_true rfl)
  rw [lg_entry_eq, ← hHe]
  generalize (lg_sl ([.ref h0, .int p0]) ++ List.replicate (2 - (lg_sl ([.ref h0, .int p0])).length) Slot.unset).toArray = ls at hl ⊢
  have hl : lv_has ls 2 [(0, .ref h0), (1, .int p0)] := hl
  refine lv_iload_n hx hb dX4_count_0 rfl (lv_at hl 1 rfl) ?_
  by_cases z0 : p0 = 0
  · refine lv_tableIn (off := 27) (tgt := 28) hx hb dX4_count_1 (by rw [z0]; decide) (by rw [z0]; decide) (by rw [z0]; rfl) (by decide) ?_
    refine lv_aload_n hx hb dX4_count_28 rfl (lv_at hl 0 rfl) ?_
    refine va_get (D := (dC, dI)) (ci := 6) (v := .int 0) (C := RX4) (T := TX4) (N := 9) hx hb hts iX4_count_X4 hown hK hP 0 rfl rfl 3 (by decide) (hts _ kX4_count_1) (fun _ h9 => h9) rfl dX4_count_29 ?_
    have hP9 := hP.sub (ws' := []) [] rfl
    have hD9 := hD.sub (ws' := []) [] (by decide) rfl
    have hK9 := hK.sub (tys' := []) [] rfl
    exact W.iret (v := 0) hx hb hr (fun t ht hW => ⟨⟨0, (), rfl, (by simp [cnt, z0]), by rw [ht]; exact hP9, va_K.moved hW.alike hK9, hD9⟩, hS.F ht⟩) hS.2.2 dX4_count_32
  by_cases z1 : p0 = 1
  · refine lv_tableIn (off := 32) (tgt := 33) hx hb dX4_count_1 (by rw [z1]; decide) (by rw [z1]; decide) (by rw [z1]; rfl) (by decide) ?_
    refine lv_aload_n hx hb dX4_count_33 rfl (lv_at hl 0 rfl) ?_
    refine va_get (D := (dC, dI)) (ci := 6) (v := .int 0) (C := RX4) (T := TX4) (N := 9) hx hb hts iX4_count_X4 hown hK hP 0 rfl rfl 5 (by decide) (hts _ kX4_count_2) (fun _ h9 => h9) rfl dX4_count_34 ?_
    have hP9 := hP.sub (ws' := []) [] rfl
    have hD9 := hD.sub (ws' := []) [] (by decide) rfl
    have hK9 := hK.sub (tys' := []) [] rfl
    exact W.iret (v := 0) hx hb hr (fun t ht hW => ⟨⟨0, (), rfl, (by simp [cnt, z1]), by rw [ht]; exact hP9, va_K.moved hW.alike hK9, hD9⟩, hS.F ht⟩) hS.2.2 dX4_count_37
  by_cases z2 : p0 = 2
  · refine lv_tableIn (off := 37) (tgt := 38) hx hb dX4_count_1 (by rw [z2]; decide) (by rw [z2]; decide) (by rw [z2]; rfl) (by decide) ?_
    refine lv_aload_n hx hb dX4_count_38 rfl (lv_at hl 0 rfl) ?_
    refine va_get (D := (dC, dI)) (ci := 6) (v := .int 0) (C := RX4) (T := TX4) (N := 9) hx hb hts iX4_count_X4 hown hK hP 0 rfl rfl 7 (by decide) (hts _ kX4_count_3) (fun _ h9 => h9) rfl dX4_count_39 ?_
    have hP9 := hP.sub (ws' := []) [] rfl
    have hD9 := hD.sub (ws' := []) [] (by decide) rfl
    have hK9 := hK.sub (tys' := []) [] rfl
    exact W.iret (v := 0) hx hb hr (fun t ht hW => ⟨⟨0, (), rfl, (by simp [cnt, z2]), by rw [ht]; exact hP9, va_K.moved hW.alike hK9, hD9⟩, hS.F ht⟩) hS.2.2 dX4_count_42
  have y0 := lv_neT (a := 0) z0 rfl
  have y1 := lv_neT (a := 1) z1 rfl
  have y2 := lv_neT (a := 2) z2 rfl
  refine lv_tableOut (tgt := 43) hx hb dX4_count_1 (by omega) (by decide) ?_
  refine lv_iconst (v := -1) hx hb dX4_count_43 (by decide) ?_
  have hP9 := hP.sub (ws' := []) [] rfl
  have hD9 := hD.sub (ws' := []) [] (by decide) rfl
  have hK9 := hK.sub (tys' := []) [] rfl
  exact W.iret (v := ((-1))) hx hb hr (fun t ht hW => ⟨⟨((-1)), (), rfl, (by simp [cnt, z0, z1, z2]), by rw [ht]; exact hP9, va_K.moved hW.alike hK9, hD9⟩, hS.F ht⟩) hS.2.2 dX4_count_44
def wm_X4_key : List Cond := .code yX4_key cX4_key 3 (some .int) :: ([.fieldLink RX4 40 "DrawStreams" "keyCount" "I", .fieldLink RX4 23 "DrawStreams" "keys" "[J"] ++ wsX40)
theorem iX4_key_X4 : ∀ w ∈ wsX40, w ∈ wm_X4_key := by decide +kernel
theorem kX4_key_1 : Cond.fieldLink RX4 40 "DrawStreams" "keyCount" "I" ∈ wm_X4_key := by decide +kernel
theorem kX4_key_2 : Cond.fieldLink RX4 23 "DrawStreams" "keys" "[J" ∈ wm_X4_key := by decide +kernel
set_option maxHeartbeats 4000000 in
set_option maxRecDepth 100000 in
theorem mt_X4_key (l : Launch) (dC : Nat → ClassId) (dI : Nat → Nat → Nat) (sz : Nat) (h0 a0 a1 a2 a4 a6 a8 : Nat) (y2 : ClassId) (p0 : Int64) : Met l yX4_key wm_X4_key ({ frames := 0, cells := 0, slots := 0, locals := 0 }) (va_Pc [.ref h0, .long p0] (fun U => U.heap.size = sz ∧ va_P (dC, dI) vwCl [(h0, .inr (6, [.ref a0, .ref a1, .ref a2, .int 0, .ref a4, .int 0, .ref a6, .int 0, .ref a8])), (a2, .inl (y2, 16, .inr (.inl (fun _ => 0))))] U.heap ∧ va_K (dC, dI) vwCl [(y2, .long)] U ∧ va_D (fun _ => True) [(h0, .inr (6, [.ref a0, .ref a1, .ref a2, .int 0, .ref a4, .int 0, .ref a6, .int 0, .ref a8])), (a2, .inl (y2, 16, .inr (.inl (fun _ => 0))))])) (va_Qi (fun (r : Int32) (u : Unit) => r = 0) (fun (u : Unit) t => va_P (dC, dI) vwCl [] t.heap ∧ va_K (dC, dI) vwCl [] t ∧ va_D (va_A [(h0, .inr (6, [.ref a0, .ref a1, .ref a2, .int 0, .ref a4, .int 0, .ref a6, .int 0, .ref a8])), (a2, .inl (y2, 16, .inr (.inl (fun _ => 0))))] sz) []) (va_A [(h0, .inr (6, [.ref a0, .ref a1, .ref a2, .int 0, .ref a4, .int 0, .ref a6, .int 0, .ref a8])), (a2, .inl (y2, 16, .inr (.inl (fun _ => 0))))] sz)) 0 0 (va_A [(h0, .inr (6, [.ref a0, .ref a1, .ref a2, .int 0, .ref a4, .int 0, .ref a6, .int 0, .ref a8])), (a2, .inl (y2, 16, .inr (.inl (fun _ => 0))))] sz) := by
  refine Met.ofW (cc := cX4_key) (maxL := 3) (ret := (some .int)) (by decide) rfl ?_
  intro p e s m args below meth c s₁ B hml hv
  obtain ⟨rfl, hsz, hP, hK, hD0⟩ := hv
  have hx := B.exec
  have hb := B.bytes
  have hr := B.returns
  have hts := atoms_spec (ws := wm_X4_key) B.pre
  have hown : s.vm.findClass RX4 = some m.cls := findClass_of_methodNamed B.named
  have hlocks := B.notSynchronized
  subst hsz
  have hD := hD0.self (sz := s.heap.size)
  generalize hAe : va_A [(h0, .inr (6, [.ref a0, .ref a1, .ref a2, .int 0, .ref a4, .int 0, .ref a6, .int 0, .ref a8])), (a2, .inl (y2, 16, .inr (.inl (fun _ => 0))))] s.heap.size = A at hD ⊢
  have hA : ∀ q : Nat, s.heap.size ≤ q → A q := fun q h => by rw [← hAe]; exact Or.inr h
  have hS : va_S A s.heap s.heap [] := va_S.rf
  obtain ⟨H, hHe⟩ : ∃ H : Heap, H = s.heap := ⟨_, rfl⟩
  have hP : va_P (dC, dI) vwCl [(h0, .inr (6, [.ref a0, .ref a1, .ref a2, .int 0, .ref a4, .int 0, .ref a6, .int 0, .ref a8])), (a2, .inl (y2, 16, .inr (.inl (fun _ => 0))))] H := by rw [hHe]; exact hP
  have hS : va_S A s.heap H [] := by rw [hHe]; exact hS
  have hl := lv_entry ([.ref h0, .long p0]) (n := 3) (Nat.le_of_ble_eq_true rfl)
  rw [lg_entry_eq, ← hHe]
  generalize (lg_sl ([.ref h0, .long p0]) ++ List.replicate (3 - (lg_sl ([.ref h0, .long p0])).length) Slot.unset).toArray = ls at hl ⊢
  have hl : lv_has ls 3 [(0, .ref h0), (1, .long p0)] := hl
  refine lv_aload_n hx hb dX4_key_0 rfl (lv_at hl 0 rfl) ?_
  refine va_get (D := (dC, dI)) (ci := 6) (v := .int 0) (C := RX4) (T := TX4) (N := 9) hx hb hts iX4_key_X4 hown hK hP 0 rfl rfl 3 (by decide) (hts _ kX4_key_1) (fun _ h9 => h9) rfl dX4_key_1 ?_
  refine lv_bipush (v := 16) hx hb dX4_key_4 (by decide) ?_
  refine lv_icmp_lt (tgt := 12) hx hb dX4_key_6 (by decide) (fun c_1 => ?_) (fun c_1 => absurd c_1 (by decide))
  refine lv_aload_n hx hb dX4_key_12 rfl (lv_at hl 0 rfl) ?_
  refine va_get (D := (dC, dI)) (ci := 6) (v := .ref a2) (C := RX4) (T := TX4) (N := 9) hx hb hts iX4_key_X4 hown hK hP 0 rfl rfl 2 (by decide) (hts _ kX4_key_2) (fun _ h9 => h9) rfl dX4_key_13 ?_
  refine lv_aload_n hx hb dX4_key_16 rfl (lv_at hl 0 rfl) ?_
  refine va_get (D := (dC, dI)) (ci := 6) (v := .int 0) (C := RX4) (T := TX4) (N := 9) hx hb hts iX4_key_X4 hown hK hP 0 rfl rfl 3 (by decide) (hts _ kX4_key_1) (fun _ h9 => h9) rfl dX4_key_17 ?_
  refine lv_lload_n hx hb dX4_key_20 rfl (lv_at hl 1 rfl) ?_
  refine va_last hx hb hK hP hD hS 1 0 rfl rfl (by unfold vp_in; decide) dX4_key_21 (fun H locs hP hD hS => ?_)
  have hP : va_P (dC, dI) vwCl [(h0, .inr (6, [.ref a0, .ref a1, .ref a2, .int 0, .ref a4, .int 0, .ref a6, .int 0, .ref a8])), (a2, .inl (y2, 16, .inr (.inl (vp_updL (fun _ => 0) (0 : Int32).toNatClampNeg p0))))] H := hP
  have hD : va_D A [(h0, .inr (6, [.ref a0, .ref a1, .ref a2, .int 0, .ref a4, .int 0, .ref a6, .int 0, .ref a8])), (a2, .inl (y2, 16, .inr (.inl (vp_updL (fun _ => 0) (0 : Int32).toNatClampNeg p0))))] := hD
  refine lv_aload_n hx hb dX4_key_22 rfl (lv_at hl 0 rfl) ?_
  refine lv_dup hx hb dX4_key_23 rfl ?_
  refine va_get (D := (dC, dI)) (ci := 6) (v := .int 0) (C := RX4) (T := TX4) (N := 9) hx hb hts iX4_key_X4 hown hK hP 0 rfl rfl 3 (by decide) (hts _ kX4_key_1) (fun _ h9 => h9) rfl dX4_key_24 ?_
  refine lv_iconst (v := 1) hx hb dX4_key_27 (by decide) ?_
  refine lv_iadd hx hb dX4_key_28 ?_
  refine va_put (D := (dC, dI)) (ci := 6) (v := .int ((0 + 1 : Int32))) (ty := .int) (C := RX4) (T := TX4) (N := 9) hx hb hts iX4_key_X4 tyX4 tyX4_ok nmX4 hown hK hP hD hS 0 rfl rfl 3 (by decide) (hts _ kX4_key_1) (fun _ h9 => h9) rfl (by decide +kernel) rfl rfl (Nat.le_of_ble_eq_true rfl) dX4_key_29 (fun H locs hP hD hS => ?_)
  have hP : va_P (dC, dI) vwCl [(h0, .inr (6, [.ref a0, .ref a1, .ref a2, .int ((0 + 1 : Int32)), .ref a4, .int 0, .ref a6, .int 0, .ref a8])), (a2, .inl (y2, 16, .inr (.inl (vp_updL (fun _ => 0) (0 : Int32).toNatClampNeg p0))))] H := hP
  have hD : va_D A [(h0, .inr (6, [.ref a0, .ref a1, .ref a2, .int ((0 + 1 : Int32)), .ref a4, .int 0, .ref a6, .int 0, .ref a8])), (a2, .inl (y2, 16, .inr (.inl (vp_updL (fun _ => 0) (0 : Int32).toNatClampNeg p0))))] := hD
  refine lv_aload_n hx hb dX4_key_32 rfl (lv_at hl 0 rfl) ?_
  refine va_get (D := (dC, dI)) (ci := 6) (v := .int ((0 + 1 : Int32))) (C := RX4) (T := TX4) (N := 9) hx hb hts iX4_key_X4 hown hK hP 0 rfl rfl 3 (by decide) (hts _ kX4_key_1) (fun _ h9 => h9) rfl dX4_key_33 ?_
  refine lv_iconst (v := 1) hx hb dX4_key_36 (by decide) ?_
  refine lv_isub hx hb dX4_key_37 ?_
  have hP9 := hP.sub (ws' := []) [] rfl
  have hD9 := hD.sub (ws' := []) [] (by decide) rfl
  have hK9 := hK.sub (tys' := []) [] rfl
  exact W.iret (v := ((((0 + 1 : Int32)) - 1 : Int32))) hx hb hr (fun t ht hW => ⟨⟨((((0 + 1 : Int32)) - 1 : Int32)), (), rfl, (by decide), by rw [ht]; exact hP9, va_K.moved hW.alike hK9, hD9⟩, hS.F ht⟩) hS.2.2 dX4_key_38
def wm_X4_weight : List Cond := .code yX4_weight cX4_weight 6 (some .long) :: ([.constantLong RX4 56 (-1), .constantLong RX4 146 (1000000000000), .fieldLink RX4 37 "DrawStreams" "weights" "[J"] ++ wsX40)
theorem kX4_weight_0 : Cond.constantLong RX4 56 (-1) ∈ wm_X4_weight := by decide +kernel
theorem kX4_weight_1 : Cond.constantLong RX4 146 (1000000000000) ∈ wm_X4_weight := by decide +kernel
theorem iX4_weight_X4 : ∀ w ∈ wsX40, w ∈ wm_X4_weight := by decide +kernel
theorem kX4_weight_3 : Cond.fieldLink RX4 37 "DrawStreams" "weights" "[J" ∈ wm_X4_weight := by decide +kernel
set_option maxHeartbeats 4000000 in
set_option maxRecDepth 100000 in
theorem mt_X4_weight (l : Launch) (dC : Nat → ClassId) (dI : Nat → Nat → Nat) (sz : Nat) (h0 a0 a1 a2 a4 a6 a8 : Nat) (y8 : ClassId) (p0 : Int32) (p1 : Int64) : Met l yX4_weight wm_X4_weight ({ frames := 0, cells := 0, slots := 0, locals := 0 }) (va_Pc [.ref h0, .int p0, .long p1] (fun U => U.heap.size = sz ∧ va_P (dC, dI) vwCl [(h0, .inr (6, [.ref a0, .ref a1, .ref a2, .int 0, .ref a4, .int 0, .ref a6, .int 0, .ref a8])), (a8, .inl (y8, 32, .inr (.inl (fun _ => 0))))] U.heap ∧ va_K (dC, dI) vwCl [(y8, .long)] U ∧ va_D (fun _ => True) [(h0, .inr (6, [.ref a0, .ref a1, .ref a2, .int 0, .ref a4, .int 0, .ref a6, .int 0, .ref a8])), (a8, .inl (y8, 32, .inr (.inl (fun _ => 0))))])) (va_Ql (fun (r : Int64) (u : Unit) => r = wgt p0 p1) (fun (u : Unit) t => va_P (dC, dI) vwCl [] t.heap ∧ va_K (dC, dI) vwCl [] t ∧ va_D (va_A [(h0, .inr (6, [.ref a0, .ref a1, .ref a2, .int 0, .ref a4, .int 0, .ref a6, .int 0, .ref a8])), (a8, .inl (y8, 32, .inr (.inl (fun _ => 0))))] sz) []) (va_A [(h0, .inr (6, [.ref a0, .ref a1, .ref a2, .int 0, .ref a4, .int 0, .ref a6, .int 0, .ref a8])), (a8, .inl (y8, 32, .inr (.inl (fun _ => 0))))] sz)) 0 0 (va_A [(h0, .inr (6, [.ref a0, .ref a1, .ref a2, .int 0, .ref a4, .int 0, .ref a6, .int 0, .ref a8])), (a8, .inl (y8, 32, .inr (.inl (fun _ => 0))))] sz) := by
  refine Met.ofW (cc := cX4_weight) (maxL := 6) (ret := (some .long)) (by decide) rfl ?_
  intro p e s m args below meth c s₁ B hml hv
  obtain ⟨rfl, hsz, hP, hK, hD0⟩ := hv
  have hx := B.exec
  have hb := B.bytes
  have hr := B.returns
  have hts := atoms_spec (ws := wm_X4_weight) B.pre
  have hown : s.vm.findClass RX4 = some m.cls := findClass_of_methodNamed B.named
  have hlocks := B.notSynchronized
  subst hsz
  have hD := hD0.self (sz := s.heap.size)
  generalize hAe : va_A [(h0, .inr (6, [.ref a0, .ref a1, .ref a2, .int 0, .ref a4, .int 0, .ref a6, .int 0, .ref a8])), (a8, .inl (y8, 32, .inr (.inl (fun _ => 0))))] s.heap.size = A at hD ⊢
  have hA : ∀ q : Nat, s.heap.size ≤ q → A q := fun q h => by rw [← hAe]; exact Or.inr h
  have hS : va_S A s.heap s.heap [] := va_S.rf
  obtain ⟨H, hHe⟩ : ∃ H : Heap, H = s.heap := ⟨_, rfl⟩
  have hP : va_P (dC, dI) vwCl [(h0, .inr (6, [.ref a0, .ref a1, .ref a2, .int 0, .ref a4, .int 0, .ref a6, .int 0, .ref a8])), (a8, .inl (y8, 32, .inr (.inl (fun _ => 0))))] H := by rw [hHe]; exact hP
  have hS : va_S A s.heap H [] := by rw [hHe]; exact hS
  have hl := lv_entry ([.ref h0, .int p0, .long p1]) (n := 6) (Nat.le_of_ble_eq_true rfl)
  rw [lg_entry_eq, ← hHe]
  generalize (lg_sl ([.ref h0, .int p0, .long p1]) ++ List.replicate (6 - (lg_sl ([.ref h0, .int p0, .long p1])).length) Slot.unset).toArray = ls at hl ⊢
  have hl : lv_has ls 6 [(0, .ref h0), (1, .int p0), (2, .long p1)] := hl
  refine lv_iload_n hx hb dX4_weight_0 rfl (lv_at hl 1 rfl) ?_
  refine lv_if_lt (tgt := 24) hx hb dX4_weight_1 (by decide) (fun c_1 => ?_) (fun c_1 => ?_)
  · refine lv_ldc2 (v := -1) hx hb hown (hts _ kX4_weight_0) dX4_weight_24 ?_
    have hP9 := hP.sub (ws' := []) [] rfl
    have hD9 := hD.sub (ws' := []) [] (by decide) rfl
    have hK9 := hK.sub (tys' := []) [] rfl
    exact W.lret (v := ((-1))) hx hb hr (fun t ht hW => ⟨⟨((-1)), (), rfl, (wg_1 c_1), by rw [ht]; exact hP9, va_K.moved hW.alike hK9, hD9⟩, hS.F ht⟩) hS.2.2 dX4_weight_27
  · refine lv_iload_n hx hb dX4_weight_4 rfl (lv_at hl 1 rfl) ?_
    refine lv_bipush (v := 32) hx hb dX4_weight_5 (by decide) ?_
    refine lv_icmp_ge (tgt := 24) hx hb dX4_weight_7 (by decide) (fun c_2 => ?_) (fun c_2 => ?_)
    · refine lv_ldc2 (v := -1) hx hb hown (hts _ kX4_weight_0) dX4_weight_24 ?_
      have hP9 := hP.sub (ws' := []) [] rfl
      have hD9 := hD.sub (ws' := []) [] (by decide) rfl
      have hK9 := hK.sub (tys' := []) [] rfl
      exact W.lret (v := ((-1))) hx hb hr (fun t ht hW => ⟨⟨((-1)), (), rfl, (wg_2 c_2), by rw [ht]; exact hP9, va_K.moved hW.alike hK9, hD9⟩, hS.F ht⟩) hS.2.2 dX4_weight_27
    · refine lv_lload_n hx hb dX4_weight_10 rfl (lv_at hl 2 rfl) ?_
      refine lv_lconst (v := 0) hx hb dX4_weight_11 (by decide) ?_
      refine W.lcmp hx hb dX4_weight_12 ?_
      refine lv_if_lt (tgt := 24) hx hb dX4_weight_13 (by decide) (fun c_3 => ?_) (fun c_3 => ?_)
      · refine lv_ldc2 (v := -1) hx hb hown (hts _ kX4_weight_0) dX4_weight_24 ?_
        have hP9 := hP.sub (ws' := []) [] rfl
        have hD9 := hD.sub (ws' := []) [] (by decide) rfl
        have hK9 := hK.sub (tys' := []) [] rfl
        exact W.lret (v := ((-1))) hx hb hr (fun t ht hW => ⟨⟨((-1)), (), rfl, (wg_3 c_3), by rw [ht]; exact hP9, va_K.moved hW.alike hK9, hD9⟩, hS.F ht⟩) hS.2.2 dX4_weight_27
      · refine lv_lload_n hx hb dX4_weight_16 rfl (lv_at hl 2 rfl) ?_
        refine lv_ldc2 (v := 1000000000000) hx hb hown (hts _ kX4_weight_1) dX4_weight_17 ?_
        refine W.lcmp hx hb dX4_weight_20 ?_
        refine lv_if_le (tgt := 28) hx hb dX4_weight_21 (by decide) (fun c_4 => ?_) (fun c_4 => ?_)
        · refine lv_aload_n hx hb dX4_weight_28 rfl (lv_at hl 0 rfl) ?_
          refine va_get (D := (dC, dI)) (ci := 6) (v := .ref a8) (C := RX4) (T := TX4) (N := 9) hx hb hts iX4_weight_X4 hown hK hP 0 rfl rfl 8 (by decide) (hts _ kX4_weight_3) (fun _ h9 => h9) rfl dX4_weight_29 ?_
          refine lv_iload_n hx hb dX4_weight_32 rfl (lv_at hl 1 rfl) ?_
          refine va_lald hx hb hK hP 1 0 rfl rfl (wg_in c_1 c_2) dX4_weight_33 ?_
          refine lv_lstore (lv' := [(4, .long 0), (0, .ref h0), (1, .int p0), (2, .long p1)]) hx hb dX4_weight_34 hl (by decide) rfl (fun ls hl => ?_)
          refine lv_aload_n hx hb dX4_weight_36 rfl (lv_at hl 1 rfl) ?_
          refine va_get (D := (dC, dI)) (ci := 6) (v := .ref a8) (C := RX4) (T := TX4) (N := 9) hx hb hts iX4_weight_X4 hown hK hP 0 rfl rfl 8 (by decide) (hts _ kX4_weight_3) (fun _ h9 => h9) rfl dX4_weight_37 ?_
          refine lv_iload_n hx hb dX4_weight_40 rfl (lv_at hl 2 rfl) ?_
          refine lv_lload_n hx hb dX4_weight_41 rfl (lv_at hl 3 rfl) ?_
          refine va_last hx hb hK hP hD hS 1 0 rfl rfl (wg_in c_1 c_2) dX4_weight_42 (fun H locs hP hD hS => ?_)
          have hP : va_P (dC, dI) vwCl [(h0, .inr (6, [.ref a0, .ref a1, .ref a2, .int 0, .ref a4, .int 0, .ref a6, .int 0, .ref a8])), (a8, .inl (y8, 32, .inr (.inl (vp_updL (fun _ => 0) (p0 : Int32).toNatClampNeg p1))))] H := hP
          have hD : va_D A [(h0, .inr (6, [.ref a0, .ref a1, .ref a2, .int 0, .ref a4, .int 0, .ref a6, .int 0, .ref a8])), (a8, .inl (y8, 32, .inr (.inl (vp_updL (fun _ => 0) (p0 : Int32).toNatClampNeg p1))))] := hD
          refine lv_lload hx hb dX4_weight_43 (lv_at hl 0 rfl) ?_
          have hP9 := hP.sub (ws' := []) [] rfl
          have hD9 := hD.sub (ws' := []) [] (by decide) rfl
          have hK9 := hK.sub (tys' := []) [] rfl
          exact W.lret (v := 0) hx hb hr (fun t ht hW => ⟨⟨0, (), rfl, (wg_ok c_1 c_2 c_3 c_4), by rw [ht]; exact hP9, va_K.moved hW.alike hK9, hD9⟩, hS.F ht⟩) hS.2.2 dX4_weight_45
        · refine lv_ldc2 (v := -1) hx hb hown (hts _ kX4_weight_0) dX4_weight_24 ?_
          have hP9 := hP.sub (ws' := []) [] rfl
          have hD9 := hD.sub (ws' := []) [] (by decide) rfl
          have hK9 := hK.sub (tys' := []) [] rfl
          exact W.lret (v := ((-1))) hx hb hr (fun t ht hW => ⟨⟨((-1)), (), rfl, (wg_4 c_4), by rw [ht]; exact hP9, va_K.moved hW.alike hK9, hD9⟩, hS.F ht⟩) hS.2.2 dX4_weight_27
