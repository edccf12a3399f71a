abbrev aiN : String := "java/lang/ArrayIndexOutOfBoundsException"
abbrev aiS : List String := ["java/lang/IndexOutOfBoundsException", "java/lang/RuntimeException", "java/lang/Exception"]
/-- the words of this throw that every call must hand on by itself -/
abbrev aiB : List Cond := [.castable aiN aiN, .declares ⟨"java/lang/IndexOutOfBoundsException", "<init>", "(Ljava/lang/String;)V"⟩, .declares ⟨"java/lang/RuntimeException", "<init>", "(Ljava/lang/String;)V"⟩, .declares ⟨"java/lang/Exception", "<init>", "(Ljava/lang/String;)V"⟩, .declares ⟨"java/lang/Throwable", "<init>", "(Ljava/lang/String;)V"⟩]
theorem ai_rest : ∀ w ∈ (vx_atS RX4 145 aiN aiS).filter (fun w => !goodWord w), w ∈ aiB := by decide +kernel
theorem ai_ot : ∀ w ∈ Cond.classLink RX4 141 aiN :: Cond.initialized aiN :: vx_atS RX4 145 aiN aiS, vx_ot w = true := by decide +kernel
def wsA_at : List Cond := .code yX4_at cX4_at 2 (some .int) :: ([.fieldLink RX4 135 "DrawStreams" "rowSize" "I", .classLink RX4 141 aiN, .initialized aiN] ++ wsX40 ++ (vx_atS RX4 145 aiN aiS).filter goodWord)
theorem ai_i : ∀ w ∈ wsX40, w ∈ wsA_at := by decide +kernel
theorem ai_g : ∀ w ∈ (vx_atS RX4 145 aiN aiS).filter goodWord, w ∈ wsA_at := fun w h => List.mem_cons_of_mem _ (List.mem_append_right _ h)
theorem ai_f : Cond.fieldLink RX4 135 "DrawStreams" "rowSize" "I" ∈ wsA_at := by decide +kernel
theorem ai_c : Cond.classLink RX4 141 aiN ∈ wsA_at := by decide +kernel
theorem ai_n : Cond.initialized aiN ∈ wsA_at := by decide +kernel
/-- what a call of at() hands on beside the world -/
def aiX (sa : Nat) (A : Nat → Prop) (U : State) (H : Heap) : Prop := vk_R RX4 143 "no such number in the row" sa U ∧ vx_Zq Bundle.tN "UNASSIGNED_STACK" Bundle.steD A U H ∧ vx_Zq Bundle.tN "SUPPRESSED_SENTINEL" Bundle.listD A U H ∧ ∀ w ∈ aiB, va_Nw w U
theorem aiX_blind {sa : Nat} {A : Nat → Prop} {U : State} (g : JFrame) (mk : MethodId) (a : Array Value) (h : aiX sa A U U.heap) : aiX sa A (U.calling g mk a) (U.calling g mk a).heap := by
  obtain ⟨h1, h2, h3, h4⟩ := h
  refine ⟨vk_R.same rfl h1, vx_Zq.moved (u := U) (U := U.calling g mk a) (Vm.Alike.refl U.vm) h2, vx_Zq.moved (u := U) (U := U.calling g mk a) (Vm.Alike.refl U.vm) h3, fun w hw => ?_⟩
  have h5 := h4 w hw
  simp only [aiB, List.mem_cons, List.not_mem_nil, or_false] at hw
  rcases hw with rfl | rfl | rfl | rfl | rfl <;> exact va_Nw.same rfl rfl h5
theorem aiX_go {sa : Nat} {A B : Nat → Prop} {s U : State} {H : Heap} {locs : List Loc} (hS : va_S A s.heap H locs) (hF : ∀ q, B q → A q) (hW : s.WarmedH U.vm) (hU : U.heap = H) (h : aiX sa A s s.heap) : aiX sa B U U.heap := by
  obtain ⟨h1, h2, h3, h4⟩ := h
  rw [hU]
  refine ⟨vk_R.warm hW h1, vx_Zq.moved hW.alike ((h2.kept hS.2.1).narrow hF), vx_Zq.moved hW.alike ((h3.kept hS.2.1).narrow hF), fun w hw => ?_⟩
  have h5 := h4 w hw
  simp only [aiB, List.mem_cons, List.not_mem_nil, or_false] at hw
  rcases hw with rfl | rfl | rfl | rfl | rfl
  · exact va_Nw.warmC hW h5
  · exact va_Nw.warmD hW h5
  · exact va_Nw.warmD hW h5
  · exact va_Nw.warmD hW h5
  · exact va_Nw.warmD hW h5
set_option maxHeartbeats 4000000 in
set_option maxRecDepth 100000 in
/-- at(i) of a fresh object throws, whatever i is -/
theorem mt_X4_at (l : Launch) (hst : l.stackTraces = false) (dC : Nat → ClassId) (dI : Nat → Nat → Nat) (sz : Nat) (h0 a0 a1 a2 a4 a6 a8 sa : Nat) (p0 : Int32) : vx_Met l yX4_at wsA_at ({ frames := 7, cells := 1, slots := 6, locals := 95 }) (va_Pc [.ref h0, .int p0] (fun U => U.heap.size = sz ∧ va_P (dC, dI) vwCl [(h0, .inr (6, [.ref a0, .ref a1, .ref a2, .int 0, .ref a4, .int 0, .ref a6, .int 0, .ref a8]))] U.heap ∧ va_K (dC, dI) vwCl [] U ∧ va_D (fun _ => True) [(h0, .inr (6, [.ref a0, .ref a1, .ref a2, .int 0, .ref a4, .int 0, .ref a6, .int 0, .ref a8]))] ∧ aiX sa (va_A [(h0, .inr (6, [.ref a0, .ref a1, .ref a2, .int 0, .ref a4, .int 0, .ref a6, .int 0, .ref a8]))] sz) U U.heap)) (va_Qi (fun (_ : Int32) (_ : Unit) => False) (fun (_ : Unit) (_ : State) => True) (va_A [(h0, .inr (6, [.ref a0, .ref a1, .ref a2, .int 0, .ref a4, .int 0, .ref a6, .int 0, .ref a8]))] sz)) (vx_X (fun (_ : Unit) => True) (fun E (_ : Unit) (_ : State) => E = aiN) (va_A [(h0, .inr (6, [.ref a0, .ref a1, .ref a2, .int 0, .ref a4, .int 0, .ref a6, .int 0, .ref a8]))] sz)) 1 6 (va_A [(h0, .inr (6, [.ref a0, .ref a1, .ref a2, .int 0, .ref a4, .int 0, .ref a6, .int 0, .ref a8]))] sz) := by
  refine vx_ofW (cc := cX4_at) (maxL := 2) (ret := some .int) (by decide) rfl ?_
  intro p e s m args below meth c s₁ B hml htab hv
  obtain ⟨rfl, hsz, hP, hK, hD0, hai⟩ := hv
  have hx := B.exec
  have hb := B.bytes
  have hr := B.returns
  have hts := atoms_spec (ws := wsA_at) B.pre
  have hown : s.vm.findClass RX4 = some m.cls := findClass_of_methodNamed B.named
  have hlocks := B.notSynchronized
  subst hsz
  generalize hAe : va_A [(h0, .inr (6, [.ref a0, .ref a1, .ref a2, .int 0, .ref a4, .int 0, .ref a6, .int 0, .ref a8]))] s.heap.size = A at hai ⊢
  have hS : va_S A s.heap s.heap [] := va_S.rf
  obtain ⟨hs1, hs2, hs3, hs4⟩ := hai
  have hat : ∀ w ∈ vx_atS RX4 145 aiN aiS, w.before #[Value.ref h0, Value.int p0] s = true := vx_hat (fun w h => hts w (ai_g w h)) ai_rest (fun w hw => va_Nw.use (by simp only [aiB, List.mem_cons, List.not_mem_nil, or_false] at hw; rcases hw with rfl | rfl | rfl | rfl | rfl <;> rfl) (hs4 w hw))
  have hl := lv_entry ([.ref h0, .int p0]) (n := 2) (Nat.le_of_ble_eq_true rfl)
  rw [lg_entry_eq]
  generalize (lg_sl ([.ref h0, .int p0]) ++ List.replicate (2 - (lg_sl ([.ref h0, .int p0])).length) Slot.unset).toArray = ls at hl ⊢
  have hl : lv_has ls 2 [(0, .ref h0), (1, .int p0)] := hl
  have hend : W p l e (headSpec wsA_at { frames := 7, cells := 1, slots := 6, locals := 95 }).room s m #[Value.ref h0, Value.int p0] below meth c s.heap [] 0 0 (vx_MQ below (va_Qi (fun (_ : Int32) (_ : Unit) => False) (fun (_ : Unit) (_ : State) => True) A) (vx_X (fun (_ : Unit) => True) (fun E (_ : Unit) (_ : State) => E = aiN) A) #[Value.ref h0, Value.int p0] s 1 6 A) (F0 m 12 ls []) :=
    vx_throwS (own := RX4) (cls := aiN) (names := aiS) hx hb hst hown (by decide +kernel) (by decide +kernel) (hts _ ai_c) (hts _ ai_n) hs1 hat ai_ot hs2 hs3 hS (by rw [hml]; exact hl.1) dX4_at_12 dX4_at_15 dX4_at_16 dX4_at_18 dX4_at_21 (fun x hx => (htab x hx).elim) (Nat.le_of_ble_eq_true rfl) (Nat.le_of_ble_eq_true rfl) (Nat.le_of_ble_eq_true rfl) (Nat.le_of_ble_eq_true rfl) hlocks
      (fun t _ h1 h2 => ⟨(), trivial, rfl, h1, fun q hq _ => h2 q hq⟩) (fun z hz => absurd hz List.not_mem_nil) (Nat.le_refl 1) (Nat.le_refl 6)
  refine lv_iload_n hx hb dX4_at_0 rfl (lv_at hl 1 rfl) ?_
  refine lv_if_lt (tgt := 12) hx hb dX4_at_1 (by decide) (fun c_1 => hend) (fun c_1 => ?_)
  refine lv_iload_n hx hb dX4_at_4 rfl (lv_at hl 1 rfl) ?_
  refine lv_aload_n hx hb dX4_at_5 rfl (lv_at hl 0 rfl) ?_
  refine va_get (D := (dC, dI)) (ci := 6) (v := .int 0) (C := RX4) (T := TX4) (N := 9) hx hb hts ai_i hown hK hP 0 rfl rfl 7 (by decide) (hts _ ai_f) (fun _ h9 => h9) rfl dX4_at_6 ?_
  exact lv_icmp_lt (tgt := 22) hx hb dX4_at_9 (by decide) (fun c_2 => absurd c_2 c_1) (fun _ => hend)
def wsA_Lat : List Cond := .codeWith yL_at cL_at 4 (some .int) [(0, 9, 12, 19)] :: ([.classLink RL 19 aiN, .methodLink RL 15 yX4_at, .instanceMethod yX4_at, .selects RX4 yX4_at yX4_at, .initialized RX4] ++ wsA_at)
theorem ai_L : GoodIn wsA_Lat (wsV RL 15 RX4 yX4_at wsA_at) := goodIn_of _ (by decide +kernel)
theorem ai_Lc : Cond.classLink RL 19 aiN ∈ wsA_Lat := by decide +kernel
set_option maxHeartbeats 4000000 in
set_option maxRecDepth 100000 in
/-- the law's at(x, i, out) on a fresh object: 1 -/
theorem mt_L_at (l : Launch) (hst : l.stackTraces = false) (dC : Nat → ClassId) (dI : Nat → Nat → Nat) (sz : Nat) (h0 a0 a1 a2 a4 a6 a8 h2 sa : Nat) (p1 : Int32) : Met l yL_at wsA_Lat ({ frames := 8, cells := 1, slots := 6, locals := 116 }) (va_Pc [.ref h0, .int p1, .ref h2] (fun U => U.heap.size = sz ∧ va_P (dC, dI) vwCl [(h0, .inr (6, [.ref a0, .ref a1, .ref a2, .int 0, .ref a4, .int 0, .ref a6, .int 0, .ref a8]))] U.heap ∧ va_K (dC, dI) vwCl [] U ∧ va_D (fun _ => True) [(h0, .inr (6, [.ref a0, .ref a1, .ref a2, .int 0, .ref a4, .int 0, .ref a6, .int 0, .ref a8]))] ∧ aiX sa (va_A [(h0, .inr (6, [.ref a0, .ref a1, .ref a2, .int 0, .ref a4, .int 0, .ref a6, .int 0, .ref a8]))] sz) U U.heap)) (va_Qi (fun (r : Int32) (_ : Unit) => r = 1) (fun (_ : Unit) t => va_P (dC, dI) vwCl [] t.heap ∧ va_K (dC, dI) vwCl [] t ∧ va_D (va_A [(h0, .inr (6, [.ref a0, .ref a1, .ref a2, .int 0, .ref a4, .int 0, .ref a6, .int 0, .ref a8]))] sz) []) (va_A [(h0, .inr (6, [.ref a0, .ref a1, .ref a2, .int 0, .ref a4, .int 0, .ref a6, .int 0, .ref a8]))] sz)) 1 6 (va_A [(h0, .inr (6, [.ref a0, .ref a1, .ref a2, .int 0, .ref a4, .int 0, .ref a6, .int 0, .ref a8]))] sz) := by
  refine va_MetW (cc := cL_at) (maxL := 4) (ret := some .int) (by decide) rfl ?_
  intro p e s m args below meth c s₁ B hml hv
  obtain ⟨rfl, hsz, hP, hK, hD0, hai⟩ := hv
  have hx := B.exec
  have hb := B.bytes
  have hr := B.returns
  have hts := atoms_spec (ws := wsA_Lat) B.pre
  have hown : s.vm.findClass RL = some m.cls := findClass_of_methodNamed B.named
  have hlocks := B.notSynchronized
  have htab := vx_table (x := yL_at) B (hts _ List.mem_cons_self)
  subst hsz
  have hD := hD0.self (sz := s.heap.size)
  generalize hAe : va_A [(h0, .inr (6, [.ref a0, .ref a1, .ref a2, .int 0, .ref a4, .int 0, .ref a6, .int 0, .ref a8]))] s.heap.size = A at hD hai ⊢
  have hA : ∀ q : Nat, s.heap.size ≤ q → A q := fun q h => by rw [← hAe]; exact Or.inr h
  have hS : va_S A s.heap s.heap [] := va_S.rf
  have hl := lv_entry ([.ref h0, .int p1, .ref h2]) (n := 4) (Nat.le_of_ble_eq_true rfl)
  rw [lg_entry_eq]
  generalize (lg_sl ([.ref h0, .int p1, .ref h2]) ++ List.replicate (4 - (lg_sl ([.ref h0, .int p1, .ref h2])).length) Slot.unset).toArray = ls at hl ⊢
  have hl : lv_has ls 4 [(0, .ref h0), (1, .int p1), (2, .ref h2)] := hl
  refine lv_aload_n hx hb dL_at_0 rfl (lv_at hl 2 rfl) ?_
  refine lv_iconst (v := 0) hx hb dL_at_1 (by decide) ?_
  refine lv_aload_n hx hb dL_at_2 rfl (lv_at hl 0 rfl) ?_
  refine lv_iload_n hx hb dL_at_3 rfl (lv_at hl 1 rfl) ?_
  have hFc := va_free (wc := [(h0, .inr (6, [.ref a0, .ref a1, .ref a2, .int 0, .ref a4, .int 0, .ref a6, .int 0, .ref a8]))]) hD hS hA [0] rfl
  refine vx_calli (vx_runV (As := [.int p1]) (rest := [.int 0, .ref h2]) ⟨hx, hb, hml, hown, hts⟩ (mt_X4_at l hst dC dI s.heap.size h0 a0 a1 a2 a4 a6 a8 sa p1) (cwV 1 hts ai_L rfl rfl rfl (by decide +kernel) ⟨Nat.le_of_ble_eq_true rfl, Nat.le_of_ble_eq_true rfl⟩) ⟨fun a U g mk q => by obtain ⟨q0, q1, qP, qK, qD, e0⟩ := q; exact ⟨q0, q1, qP, va_K.moved (u := U) (U := U.calling g mk a) (Vm.Alike.refl U.vm) qK, qD, aiX_blind g mk a e0⟩, va_recv hK hP (ci := 6) (q0 := 0) rfl rfl, fun U hU hW => ⟨rfl, by rw [hU], by rw [hU]; exact hP, va_K.moved hW.alike hK, hD.weaken (fun _ _ _ _ => trivial), aiX_go hS hFc hW hU hai⟩⟩ rfl rfl hl.1 rfl (lv_room (Nat.le_of_ble_eq_true rfl)) dL_at_4 ⟨Nat.le_of_ble_eq_true rfl, Nat.le_of_ble_eq_true rfl⟩) hS (fun q _ h => hFc q h) hFc (fun q _ h => hFc q h)
    (fun E ce q9 u t H1 locs ht hvm hw hB hz1 hk1 hS hce hcv hcl => ?_) (fun r u t H1 locs ht hvm hw hB hz1 hk1 hS => hw.elim)
  subst hB
  refine cx_catch (x := { startPc := 0, endPc := 9, handlerPc := 12, catchType := 19 }) hown (by rw [htab]; rfl) (by decide) (by decide) (hts _ ai_Lc) (va_Nw.use rfl (hai.2.2.2 _ List.mem_cons_self)) hce hcv hcl ?_
  refine lv_astore_n (lv' := [(3, .ref q9), (0, .ref h0), (1, .int p1), (2, .ref h2)]) hx hb dL_at_12 rfl hl (by decide) rfl (fun ls hl => ?_)
  refine lv_iconst (v := 1) hx hb dL_at_13 (by decide) ?_
  have hK9 := hK.sub (tys' := []) [] rfl
  refine W.widen (k := 1) (n := 6) (Nat.le_of_ble_eq_true rfl) (Nat.le_of_ble_eq_true rfl) ?_
  exact W.iret (v := 1) hx hb hr (fun t ht hW => ⟨⟨1, (), rfl, rfl, fun k q h => by simp at h, va_K.moved hW.alike hK9, ⟨fun i j p q h => by simp at h, fun k q h => by simp at h⟩⟩, hS.F ht⟩) hS.2.2 dL_at_14
