def wm_L_below : List Cond := .codeWith yL_below cL_below 6 (some .int) [(0, 10, 13, 13)] :: ([.methodLink RL 7 yX4_below, .instanceMethod yX4_below, .selects RX4 yX4_below yX4_below, .initialized RX4] ++ wm_X4_below)
theorem gm_L_below_X4_below : GoodIn wm_L_below (wsV RL 7 RX4 yX4_below wm_X4_below) := goodIn_of _ (by decide +kernel)
set_option maxHeartbeats 4000000 in
set_option maxRecDepth 100000 in
theorem mt_L_below (l : Launch) (dC : Nat → ClassId) (dI : Nat → Nat → Nat) (sz : Nat) (h0 a0 a1 a2 a4 a6 a8 h3 : Nat) (yo : ClassId) (p1 : Int32) (p2 : Int64) : Met l yL_below wm_L_below ({ frames := 2, cells := 0, slots := 0, locals := 45 }) (va_Pc [.ref h0, .int p1, .long p2, .ref h3] (fun U => U.heap.size = sz ∧ va_P (dC, dI) vwCl [(h0, .inr (6, [.ref a0, .ref a1, .ref a2, .int 0, .ref a4, .int 0, .ref a6, .int 0, .ref a8])), (h3, .inl (yo, 1, .inr (.inl (fun _ => 0))))] U.heap ∧ va_K (dC, dI) vwCl [(yo, .long)] U ∧ va_D (fun _ => True) [(h0, .inr (6, [.ref a0, .ref a1, .ref a2, .int 0, .ref a4, .int 0, .ref a6, .int 0, .ref a8])), (h3, .inl (yo, 1, .inr (.inl (fun _ => 0))))])) (va_Qi (fun (r : Int32) (u : Unit) => r = 0) (fun (u : Unit) t => va_P (dC, dI) vwCl [(h3, .inl (yo, 1, .inr (.inl (vp_updL (fun _ => 0) (0 : Int32).toNatClampNeg (-1)))))] t.heap ∧ va_K (dC, dI) vwCl [(yo, .long)] t ∧ va_D (va_A [(h0, .inr (6, [.ref a0, .ref a1, .ref a2, .int 0, .ref a4, .int 0, .ref a6, .int 0, .ref a8])), (h3, .inl (yo, 1, .inr (.inl (fun _ => 0))))] sz) [(h3, .inl (yo, 1, .inr (.inl (vp_updL (fun _ => 0) (0 : Int32).toNatClampNeg (-1)))))]) (va_A [(h0, .inr (6, [.ref a0, .ref a1, .ref a2, .int 0, .ref a4, .int 0, .ref a6, .int 0, .ref a8])), (h3, .inl (yo, 1, .inr (.inl (fun _ => 0))))] sz)) 0 0 (va_A [(h0, .inr (6, [.ref a0, .ref a1, .ref a2, .int 0, .ref a4, .int 0, .ref a6, .int 0, .ref a8])), (h3, .inl (yo, 1, .inr (.inl (fun _ => 0))))] sz) := by
  refine va_MetW (cc := cL_below) (maxL := 6) (ret := (some .int)) (by decide) rfl ?_
  intro p e s m args below meth c s₁ B hml hv
  obtain ⟨rfl, hsz, hP, hK, hD0⟩ := hv
  have hx := B.exec
  have hb := B.bytes
  have hr := B.returns
  have hts := atoms_spec (ws := wm_L_below) B.pre
  have hown : s.vm.findClass RL = some m.cls := findClass_of_methodNamed B.named
  have hlocks := B.notSynchronized
  subst hsz
  have hD := hD0.self (sz := s.heap.size)
  generalize hAe : va_A [(h0, .inr (6, [.ref a0, .ref a1, .ref a2, .int 0, .ref a4, .int 0, .ref a6, .int 0, .ref a8])), (h3, .inl (yo, 1, .inr (.inl (fun _ => 0))))] s.heap.size = A at hD ⊢
  have hA : ∀ q : Nat, s.heap.size ≤ q → A q := fun q h => by rw [← hAe]; exact Or.inr h
  have hS : va_S A s.heap s.heap [] := va_S.rf
  obtain ⟨H, hHe⟩ : ∃ H : Heap, H = s.heap := ⟨_, rfl⟩
  have hP : va_P (dC, dI) vwCl [(h0, .inr (6, [.ref a0, .ref a1, .ref a2, .int 0, .ref a4, .int 0, .ref a6, .int 0, .ref a8])), (h3, .inl (yo, 1, .inr (.inl (fun _ => 0))))] H := by rw [hHe]; exact hP
  have hS : va_S A s.heap H [] := by rw [hHe]; exact hS
  have hl := lv_entry ([.ref h0, .int p1, .long p2, .ref h3]) (n := 6) (Nat.le_of_ble_eq_true rfl)
  rw [lg_entry_eq, ← hHe]
  generalize (lg_sl ([.ref h0, .int p1, .long p2, .ref h3]) ++ List.replicate (6 - (lg_sl ([.ref h0, .int p1, .long p2, .ref h3])).length) Slot.unset).toArray = ls at hl ⊢
  have hl : lv_has ls 6 [(0, .ref h0), (1, .int p1), (2, .long p2), (4, .ref h3)] := hl
  refine lv_aload hx hb dL_below_0 (lv_at hl 3 rfl) ?_
  refine lv_iconst (v := 0) hx hb dL_below_2 (by decide) ?_
  refine lv_aload_n hx hb dL_below_3 rfl (lv_at hl 0 rfl) ?_
  refine lv_iload_n hx hb dL_below_4 rfl (lv_at hl 1 rfl) ?_
  refine lv_lload_n hx hb dL_below_5 rfl (lv_at hl 2 rfl) ?_
  have hPc := hP.sub (ws' := [(h0, .inr (6, [.ref a0, .ref a1, .ref a2, .int 0, .ref a4, .int 0, .ref a6, .int 0, .ref a8]))]) [0] rfl
  have hDc := hD.sub (ws' := [(h0, .inr (6, [.ref a0, .ref a1, .ref a2, .int 0, .ref a4, .int 0, .ref a6, .int 0, .ref a8]))]) [0] (by decide) rfl
  have hKc := hK.sub (tys' := []) [] rfl
  have hFc := va_free (wc := [(h0, .inr (6, [.ref a0, .ref a1, .ref a2, .int 0, .ref a4, .int 0, .ref a6, .int 0, .ref a8]))]) hD hS hA [0] rfl
  refine va_calll (va_runV (As := [.int p1, .long p2]) (rest := [.int 0, .ref h3]) ⟨hx, hb, hml, hown, hts⟩ (mt_X4_below l dC dI H.size h0 a0 a1 a2 a4 a6 a8 p1 p2) (cwV 2 hts gm_L_below_X4_below rfl rfl rfl (by decide +kernel) ⟨Nat.le_of_ble_eq_true rfl, Nat.le_of_ble_eq_true rfl⟩) ⟨fun a U g mk q => by obtain ⟨q0, q1, qP, qK, qD⟩ := q; exact ⟨q0, q1, qP, va_K.moved (u := U) (U := U.calling g mk a) (Vm.Alike.refl U.vm) qK, qD⟩, va_recv hKc hPc (ci := 6) (q0 := 0) rfl rfl, fun U hU hW => ⟨rfl, by rw [hU], by rw [hU]; exact hPc, va_K.moved hW.alike hKc, hDc.weaken (fun _ _ _ _ => trivial)⟩⟩ rfl rfl hl.1 rfl (lv_room (Nat.le_of_ble_eq_true rfl)) dL_below_6 ⟨Nat.le_of_ble_eq_true rfl, Nat.le_of_ble_eq_true rfl⟩) hS (fun q _ h => hFc q h) hFc (fun r_1 u t H1 locs ht hvm hw hB hz1 hk1 hS => ?_)
  obtain ⟨hP1, hK1, hD1⟩ := hB
  rw [ht] at hP1
  have hK1 := va_K.moved hvm.symm hK1
  obtain ⟨hP, hD⟩ := va_join (wr := [(h3, .inl (yo, 1, .inr (.inl (fun _ => 0))))]) (w1 := []) hP hD [0] [1] rfl rfl (by decide) (by decide) hk1 hFc hP1 hD1
  generalize H1 = H at hP hS ⊢
  have hP : va_P (dC, dI) vwCl [(h3, .inl (yo, 1, .inr (.inl (fun _ => 0))))] H := hP
  have hD : va_D A [(h3, .inl (yo, 1, .inr (.inl (fun _ => 0))))] := hD
  subst hw
  refine va_last hx hb hK hP hD hS 0 0 rfl rfl (by unfold vp_in; decide) dL_below_9 (fun H locs hP hD hS => ?_)
  have hP : va_P (dC, dI) vwCl [(h3, .inl (yo, 1, .inr (.inl (vp_updL (fun _ => 0) (0 : Int32).toNatClampNeg ((-1))))))] H := hP
  have hD : va_D A [(h3, .inl (yo, 1, .inr (.inl (vp_updL (fun _ => 0) (0 : Int32).toNatClampNeg ((-1))))))] := hD
  refine lv_goto (tgt := 17) hx hb dL_below_10 (by decide) ?_
  refine lv_iconst (v := 0) hx hb dL_below_17 (by decide) ?_
  have hP9 := hP.sub (ws' := [(h3, .inl (yo, 1, .inr (.inl (vp_updL (fun _ => 0) (0 : Int32).toNatClampNeg ((-1))))))]) [0] rfl
  have hD9 := hD.sub (ws' := [(h3, .inl (yo, 1, .inr (.inl (vp_updL (fun _ => 0) (0 : Int32).toNatClampNeg ((-1))))))]) [0] (by decide) rfl
  have hK9 := hK.sub (tys' := [(yo, .long)]) [0] rfl
  exact W.iret (v := 0) hx hb hr (fun t ht hW => ⟨⟨0, (), rfl, rfl, by rw [ht]; exact hP9, va_K.moved hW.alike hK9, hD9⟩, hS.F ht⟩) hS.2.2 dL_below_18
