set_option maxHeartbeats 4000000 in
set_option maxRecDepth 100000 in
/-- Rows_clear -/
theorem c_Rows_clear (l : Launch) (dC : Nat → ClassId) (dI : Nat → Nat → Nat) (h0 : Nat) (h1 : Nat) (h2 : Nat) (v0 : Value) (v2 : Value) (v4 : Value) (v5 : Value) (v6 : Value) (v7 : Value) (v8 : Value) (v9 : Value) (v10 : Value) (c1 : ClassId) (f1 : Nat → Int32) (c2 : ClassId) (f2 : Nat → Int32) (sz : Nat) : Met l yX6_clear (.code yX6_clear cX6_clear 1 none :: wU) ({ frames := 0, cells := 0, slots := 0, locals := 0 } : Room) (va_Pc [.ref h0] (fun U => P5 dC dI [(h0, .inr (6, [v0, .ref h1, v2, .ref h2, v4, v5, v6, v7, v8, v9, v10])), (h1, .inl (c1, 201, .inl f1)), (h2, .inl (c2, 201, .inl f2))] [(c1, .int), (c2, .int)] sz U)) (va_Qv (fun _ : Unit => True) (fun _ t => P3 dC dI (va_A [(h0, .inr (6, [v0, .ref h1, v2, .ref h2, v4, v5, v6, v7, v8, v9, v10])), (h1, .inl (c1, 201, .inl f1)), (h2, .inl (c2, 201, .inl f2))] sz) [(h0, .inr (6, [v0, .ref h1, v2, .ref h2, v4, v5, v6, .int 0, .int 0, .int 0, .int 0]))] [] t) (va_A [(h0, .inr (6, [v0, .ref h1, v2, .ref h2, v4, v5, v6, v7, v8, v9, v10])), (h1, .inl (c1, 201, .inl f1)), (h2, .inl (c2, 201, .inl f2))] sz)) 0 0 (va_A [(h0, .inr (6, [v0, .ref h1, v2, .ref h2, v4, v5, v6, v7, v8, v9, v10])), (h1, .inl (c1, 201, .inl f1)), (h2, .inl (c2, 201, .inl f2))] sz) := by
  refine Met.ofW (cc := cX6_clear) (maxL := 1) (ret := none) (by decide) rfl ?_
  intro p e s m args below meth c s₁ B hml hv
  obtain ⟨rfl, hsz, hP, hK, hD0, hE⟩ := hv
  have hx := B.exec
  have hb := B.bytes
  have hr := B.returns
  have hts0 := atoms_spec (ws := (.code yX6_clear cX6_clear 1 none :: wU)) B.pre
  have hts : ∀ w ∈ wU, w.before _ s = true := fun w h => hts0 w (List.mem_cons_of_mem _ h)
  have hown : s.vm.findClass "SpineTables$Rows" = some m.cls := findClass_of_methodNamed B.named
  have hlocks := B.notSynchronized
  subst hsz
  have hD := hD0.self (sz := s.heap.size)
  generalize hAe : va_A [(h0, .inr (6, [v0, .ref h1, v2, .ref h2, v4, v5, v6, v7, v8, v9, v10])), (h1, .inl (c1, 201, .inl f1)), (h2, .inl (c2, 201, .inl f2))] s.heap.size = A at hD ⊢
  have hA : ∀ q : Nat, s.heap.size ≤ q → A q := fun q h => by rw [← hAe]; exact Or.inr h
  have hP : va_P (dC, dI) classes [(h0, .inr (6, [v0, .ref h1, v2, .ref h2, v4, v5, v6, v7, v8, v9, v10])), (h1, .inl (c1, 201, .inl f1)), (h2, .inl (c2, 201, .inl f2))] s.heap := hP
  have hl := lv_entry ([.ref h0]) (n := 1) (Nat.le_of_ble_eq_true rfl)
  rw [lg_entry_eq]
  generalize (lg_sl ([.ref h0]) ++ List.replicate (1 - (lg_sl ([.ref h0])).length) Slot.unset).toArray = ls at hl ⊢
  have hl : lv_has ls 1 [(0, .ref h0)] := hl
  obtain ⟨H, hH⟩ : ∃ H, H = s.heap := ⟨_, rfl⟩
  rw [← hH] at hP
  have hS : va_S A s.heap H [] := by rw [hH]; exact va_S.rf
  refine w_heap hH ?_
  refine lv_aload_n hx hb dX6_clear_0 rfl (lv_at hl 0 rfl) ?_
  refine lv_iconst (v := 0) hx hb dX6_clear_1 (by decide) ?_
  refine va_put (D := (dC, dI)) (ci := 6) (v := .int 0) (ty := .int) (C := RX6) (T := TX6) (N := 11) hx hb hts inX6 tyX6 tyX6_ok nmX6 hown hK hP hD hS 0 rfl rfl 7 (by decide) (hts _ wd_78) (fun _ h9 => h9) rfl (by decide +kernel) rfl rfl (Nat.le_of_ble_eq_true rfl) dX6_clear_2 (fun H locs hP hD hS => ?_)
  have hP : va_P (dC, dI) classes [(h0, .inr (6, [v0, .ref h1, v2, .ref h2, v4, v5, v6, .int 0, v8, v9, v10])), (h1, .inl (c1, 201, .inl f1)), (h2, .inl (c2, 201, .inl f2))] H := hP
  have hD : va_D A [(h0, .inr (6, [v0, .ref h1, v2, .ref h2, v4, v5, v6, .int 0, v8, v9, v10])), (h1, .inl (c1, 201, .inl f1)), (h2, .inl (c2, 201, .inl f2))] := hD
  refine lv_aload_n hx hb dX6_clear_5 rfl (lv_at hl 0 rfl) ?_
  refine lv_iconst (v := 0) hx hb dX6_clear_6 (by decide) ?_
  refine va_put (D := (dC, dI)) (ci := 6) (v := .int 0) (ty := .int) (C := RX6) (T := TX6) (N := 11) hx hb hts inX6 tyX6 tyX6_ok nmX6 hown hK hP hD hS 0 rfl rfl 8 (by decide) (hts _ wd_79) (fun _ h9 => h9) rfl (by decide +kernel) rfl rfl (Nat.le_of_ble_eq_true rfl) dX6_clear_7 (fun H locs hP hD hS => ?_)
  have hP : va_P (dC, dI) classes [(h0, .inr (6, [v0, .ref h1, v2, .ref h2, v4, v5, v6, .int 0, .int 0, v9, v10])), (h1, .inl (c1, 201, .inl f1)), (h2, .inl (c2, 201, .inl f2))] H := hP
  have hD : va_D A [(h0, .inr (6, [v0, .ref h1, v2, .ref h2, v4, v5, v6, .int 0, .int 0, v9, v10])), (h1, .inl (c1, 201, .inl f1)), (h2, .inl (c2, 201, .inl f2))] := hD
  refine lv_aload_n hx hb dX6_clear_10 rfl (lv_at hl 0 rfl) ?_
  refine lv_iconst (v := 0) hx hb dX6_clear_11 (by decide) ?_
  refine va_put (D := (dC, dI)) (ci := 6) (v := .int 0) (ty := .int) (C := RX6) (T := TX6) (N := 11) hx hb hts inX6 tyX6 tyX6_ok nmX6 hown hK hP hD hS 0 rfl rfl 9 (by decide) (hts _ wd_80) (fun _ h9 => h9) rfl (by decide +kernel) rfl rfl (Nat.le_of_ble_eq_true rfl) dX6_clear_12 (fun H locs hP hD hS => ?_)
  have hP : va_P (dC, dI) classes [(h0, .inr (6, [v0, .ref h1, v2, .ref h2, v4, v5, v6, .int 0, .int 0, .int 0, v10])), (h1, .inl (c1, 201, .inl f1)), (h2, .inl (c2, 201, .inl f2))] H := hP
  have hD : va_D A [(h0, .inr (6, [v0, .ref h1, v2, .ref h2, v4, v5, v6, .int 0, .int 0, .int 0, v10])), (h1, .inl (c1, 201, .inl f1)), (h2, .inl (c2, 201, .inl f2))] := hD
  refine lv_aload_n hx hb dX6_clear_15 rfl (lv_at hl 0 rfl) ?_
  refine lv_iconst (v := 0) hx hb dX6_clear_16 (by decide) ?_
  refine va_put (D := (dC, dI)) (ci := 6) (v := .int 0) (ty := .boolean) (C := RX6) (T := TX6) (N := 11) hx hb hts inX6 tyX6 tyX6_ok nmX6 hown hK hP hD hS 0 rfl rfl 10 (by decide) (hts _ wd_81) (fun _ h9 => h9) rfl (by decide +kernel) rfl rfl (Nat.le_of_ble_eq_true rfl) dX6_clear_17 (fun H locs hP hD hS => ?_)
  have hP : va_P (dC, dI) classes [(h0, .inr (6, [v0, .ref h1, v2, .ref h2, v4, v5, v6, .int 0, .int 0, .int 0, .int 0])), (h1, .inl (c1, 201, .inl f1)), (h2, .inl (c2, 201, .inl f2))] H := hP
  have hD : va_D A [(h0, .inr (6, [v0, .ref h1, v2, .ref h2, v4, v5, v6, .int 0, .int 0, .int 0, .int 0])), (h1, .inl (c1, 201, .inl f1)), (h2, .inl (c2, 201, .inl f2))] := hD
  refine lv_aload_n hx hb dX6_clear_20 rfl (lv_at hl 0 rfl) ?_
  refine va_get (D := (dC, dI)) (ci := 6) (v := .ref h1) (C := RX6) (T := TX6) (N := 11) hx hb hts inX6 hown hK hP 0 rfl rfl 1 (by decide) (hts _ wd_72) (fun _ h9 => h9) rfl dX6_clear_21 ?_
  refine lv_iconst (v := 0) hx hb dX6_clear_24 (by decide) ?_
  refine lv_iconst (v := 0) hx hb dX6_clear_25 (by decide) ?_
  refine va_iast hx hb hK hP hD hS 1 0 rfl rfl (by unfold vp_in; decide) dX6_clear_26 (fun H locs hP hD hS => ?_)
  generalize upd f1 _ _ = f196 at hP hD
  have hP : va_P (dC, dI) classes [(h0, .inr (6, [v0, .ref h1, v2, .ref h2, v4, v5, v6, .int 0, .int 0, .int 0, .int 0])), (h1, .inl (c1, 201, .inl f196)), (h2, .inl (c2, 201, .inl f2))] H := hP
  have hD : va_D A [(h0, .inr (6, [v0, .ref h1, v2, .ref h2, v4, v5, v6, .int 0, .int 0, .int 0, .int 0])), (h1, .inl (c1, 201, .inl f196)), (h2, .inl (c2, 201, .inl f2))] := hD
  refine lv_aload_n hx hb dX6_clear_27 rfl (lv_at hl 0 rfl) ?_
  refine va_get (D := (dC, dI)) (ci := 6) (v := .ref h2) (C := RX6) (T := TX6) (N := 11) hx hb hts inX6 hown hK hP 0 rfl rfl 3 (by decide) (hts _ wd_74) (fun _ h9 => h9) rfl dX6_clear_28 ?_
  refine lv_iconst (v := 0) hx hb dX6_clear_31 (by decide) ?_
  refine lv_iconst (v := 0) hx hb dX6_clear_32 (by decide) ?_
  refine va_iast hx hb hK hP hD hS 2 1 rfl rfl (by unfold vp_in; decide) dX6_clear_33 (fun H locs hP hD hS => ?_)
  generalize upd f2 _ _ = f197 at hP hD
  have hP : va_P (dC, dI) classes [(h0, .inr (6, [v0, .ref h1, v2, .ref h2, v4, v5, v6, .int 0, .int 0, .int 0, .int 0])), (h1, .inl (c1, 201, .inl f196)), (h2, .inl (c2, 201, .inl f197))] H := hP
  have hD : va_D A [(h0, .inr (6, [v0, .ref h1, v2, .ref h2, v4, v5, v6, .int 0, .int 0, .int 0, .int 0])), (h1, .inl (c1, 201, .inl f196)), (h2, .inl (c2, 201, .inl f197))] := hD
  have hP9 := hP.sub (ws' := [(h0, .inr (6, [v0, .ref h1, v2, .ref h2, v4, v5, v6, .int 0, .int 0, .int 0, .int 0]))]) [0] rfl
  have hD9 := hD.sub (ws' := [(h0, .inr (6, [v0, .ref h1, v2, .ref h2, v4, v5, v6, .int 0, .int 0, .int 0, .int 0]))]) [0] (by decide) rfl
  have hK9 := hK.sub (tys' := []) [] rfl
  refine W.widen (k := 0) (n := 0) (Nat.le_of_ble_eq_true rfl) (Nat.le_of_ble_eq_true rfl) ?_
  exact W.vret hx hb hr (fun t ht hW => ⟨⟨(), rfl, trivial, by rw [ht]; exact hP9, va_K.moved hW.alike hK9, hD9⟩, hS.F ht⟩) hS.2.2 dX6_clear_34
set_option maxHeartbeats 4000000 in
set_option maxRecDepth 100000 in
/-- Table_clear -/
theorem c_Table_clear (l : Launch) (dC : Nat → ClassId) (dI : Nat → Nat → Nat) (h0 : Nat) (h3 : Nat) (h1 : Nat) (h2 : Nat) (w1 : Value) (w2 : Value) (w3 : Value) (w4 : Value) (w5 : Value) (w6 : Value) (w7 : Value) (w8 : Value) (w9 : Value) (w10 : Value) (w11 : Value) (w12 : Value) (w13 : Value) (w14 : Value) (w15 : Value) (w16 : Value) (v0 : Value) (v2 : Value) (v4 : Value) (v5 : Value) (v6 : Value) (v7 : Value) (v8 : Value) (v9 : Value) (v10 : Value) (c1 : ClassId) (f1 : Nat → Int32) (c2 : ClassId) (f2 : Nat → Int32) (sz : Nat) : Met l yX8_clear (.code yX8_clear cX8_clear 1 none :: wU) ({ frames := 1, cells := 0, slots := 0, locals := 20 } : Room) (va_Pc [.ref h0] (fun U => P5 dC dI [(h0, .inr (8, [.ref h3, w1, w2, w3, w4, w5, w6, w7, w8, w9, w10, w11, w12, w13, w14, w15, w16])), (h3, .inr (6, [v0, .ref h1, v2, .ref h2, v4, v5, v6, v7, v8, v9, v10])), (h1, .inl (c1, 201, .inl f1)), (h2, .inl (c2, 201, .inl f2))] [(c1, .int), (c2, .int)] sz U)) (va_Qv (fun _ : Unit => True) (fun _ t => P3 dC dI (va_A [(h0, .inr (8, [.ref h3, w1, w2, w3, w4, w5, w6, w7, w8, w9, w10, w11, w12, w13, w14, w15, w16])), (h3, .inr (6, [v0, .ref h1, v2, .ref h2, v4, v5, v6, v7, v8, v9, v10])), (h1, .inl (c1, 201, .inl f1)), (h2, .inl (c2, 201, .inl f2))] sz) [(h0, .inr (8, [.ref h3, w1, w2, w3, w4, w5, w6, w7, .int 0, .int 0, .int (-1), .int 0, w12, w13, w14, .int (-1), .int 0])), (h3, .inr (6, [v0, .ref h1, v2, .ref h2, v4, v5, v6, .int 0, .int 0, .int 0, .int 0]))] [] t) (va_A [(h0, .inr (8, [.ref h3, w1, w2, w3, w4, w5, w6, w7, w8, w9, w10, w11, w12, w13, w14, w15, w16])), (h3, .inr (6, [v0, .ref h1, v2, .ref h2, v4, v5, v6, v7, v8, v9, v10])), (h1, .inl (c1, 201, .inl f1)), (h2, .inl (c2, 201, .inl f2))] sz)) 0 0 (va_A [(h0, .inr (8, [.ref h3, w1, w2, w3, w4, w5, w6, w7, w8, w9, w10, w11, w12, w13, w14, w15, w16])), (h3, .inr (6, [v0, .ref h1, v2, .ref h2, v4, v5, v6, v7, v8, v9, v10])), (h1, .inl (c1, 201, .inl f1)), (h2, .inl (c2, 201, .inl f2))] sz) := by
  refine Met.ofW (cc := cX8_clear) (maxL := 1) (ret := none) (by decide) rfl ?_
  intro p e s m args below meth c s₁ B hml hv
  obtain ⟨rfl, hsz, hP, hK, hD0, hE⟩ := hv
  have hx := B.exec
  have hb := B.bytes
  have hr := B.returns
  have hts0 := atoms_spec (ws := (.code yX8_clear cX8_clear 1 none :: wU)) B.pre
  have hts : ∀ w ∈ wU, w.before _ s = true := fun w h => hts0 w (List.mem_cons_of_mem _ h)
  have hown : s.vm.findClass "SpineTables$Table" = some m.cls := findClass_of_methodNamed B.named
  have hlocks := B.notSynchronized
  subst hsz
  have hD := hD0.self (sz := s.heap.size)
  generalize hAe : va_A [(h0, .inr (8, [.ref h3, w1, w2, w3, w4, w5, w6, w7, w8, w9, w10, w11, w12, w13, w14, w15, w16])), (h3, .inr (6, [v0, .ref h1, v2, .ref h2, v4, v5, v6, v7, v8, v9, v10])), (h1, .inl (c1, 201, .inl f1)), (h2, .inl (c2, 201, .inl f2))] s.heap.size = A at hD ⊢
  have hA : ∀ q : Nat, s.heap.size ≤ q → A q := fun q h => by rw [← hAe]; exact Or.inr h
  have hP : va_P (dC, dI) classes [(h0, .inr (8, [.ref h3, w1, w2, w3, w4, w5, w6, w7, w8, w9, w10, w11, w12, w13, w14, w15, w16])), (h3, .inr (6, [v0, .ref h1, v2, .ref h2, v4, v5, v6, v7, v8, v9, v10])), (h1, .inl (c1, 201, .inl f1)), (h2, .inl (c2, 201, .inl f2))] s.heap := hP
  have hl := lv_entry ([.ref h0]) (n := 1) (Nat.le_of_ble_eq_true rfl)
  rw [lg_entry_eq]
  generalize (lg_sl ([.ref h0]) ++ List.replicate (1 - (lg_sl ([.ref h0])).length) Slot.unset).toArray = ls at hl ⊢
  have hl : lv_has ls 1 [(0, .ref h0)] := hl
  obtain ⟨H, hH⟩ : ∃ H, H = s.heap := ⟨_, rfl⟩
  rw [← hH] at hP
  have hS : va_S A s.heap H [] := by rw [hH]; exact va_S.rf
  refine w_heap hH ?_
  refine lv_aload_n hx hb dX8_clear_0 rfl (lv_at hl 0 rfl) ?_
  refine va_get (D := (dC, dI)) (ci := 8) (v := .ref h3) (C := RX8) (T := TX8) (N := 17) hx hb hts inX8 hown hK hP 0 rfl rfl 0 (by decide) (hts _ wd_88) (fun _ h9 => h9) rfl dX8_clear_1 ?_
  have hPc := hP.sub (ws' := [(h3, .inr (6, [v0, .ref h1, v2, .ref h2, v4, v5, v6, v7, v8, v9, v10])), (h1, .inl (c1, 201, .inl f1)), (h2, .inl (c2, 201, .inl f2))]) [1, 2, 3] rfl
  have hDc := hD.sub (ws' := [(h3, .inr (6, [v0, .ref h1, v2, .ref h2, v4, v5, v6, v7, v8, v9, v10])), (h1, .inl (c1, 201, .inl f1)), (h2, .inl (c2, 201, .inl f2))]) [1, 2, 3] (by decide) rfl
  have hKc := hK.sub (tys' := [(c1, .int), (c2, .int)]) [0, 1] rfl
  have hFc := va_free (wc := [(h3, .inr (6, [v0, .ref h1, v2, .ref h2, v4, v5, v6, v7, v8, v9, v10])), (h1, .inl (c1, 201, .inl f1)), (h2, .inl (c2, 201, .inl f2))]) hD hS hA [1, 2, 3] rfl
  refine va_callv (va_runV (As := []) (rest := []) ⟨hx, hb, hml, hown, hts⟩ (c_Rows_clear l dC dI h3 h1 h2 v0 v2 v4 v5 v6 v7 v8 v9 v10 c1 f1 c2 f2 H.size) (cwV 0 hts (goV wd_261 wd_262 wd_260 wd_85 wd_259) rfl rfl rfl (by decide +kernel) ⟨Nat.le_of_ble_eq_true rfl, Nat.le_of_ble_eq_true rfl⟩) ⟨blind5, va_recv hKc hPc (ci := 6) (q0 := 0) rfl rfl, fun U hU hW => ⟨rfl, pre5 hU hW hPc hKc hDc hE⟩⟩ rfl rfl hl.1 rfl (lv_room (Nat.le_of_ble_eq_true rfl)) dX8_clear_4 ⟨Nat.le_of_ble_eq_true rfl, Nat.le_of_ble_eq_true rfl⟩) hS (fun q _ h => hFc q h) hFc (fun u t H1 locs ht hvm hw hB hz1 hk1 hS => ?_)
  obtain ⟨hP1, hK1, hD1⟩ := hB
  rw [ht] at hP1
  have hK1 := va_K.moved hvm.symm hK1
  obtain ⟨hP, hD⟩ := va_join (wr := [(h0, .inr (8, [.ref h3, w1, w2, w3, w4, w5, w6, w7, w8, w9, w10, w11, w12, w13, w14, w15, w16]))]) (w1 := [(h3, .inr (6, [v0, .ref h1, v2, .ref h2, v4, v5, v6, .int 0, .int 0, .int 0, .int 0]))]) hP hD [1, 2, 3] [0] rfl rfl (by decide) (by decide) hk1 hFc hP1 hD1
  have hK := (hK.sub (tys' := []) [] rfl).app hK1
  generalize H1 = H at hP hS ⊢
  have hK : va_K (dC, dI) classes [] s := hK
  have hP : va_P (dC, dI) classes [(h0, .inr (8, [.ref h3, w1, w2, w3, w4, w5, w6, w7, w8, w9, w10, w11, w12, w13, w14, w15, w16])), (h3, .inr (6, [v0, .ref h1, v2, .ref h2, v4, v5, v6, .int 0, .int 0, .int 0, .int 0]))] H := hP
  have hD : va_D A [(h0, .inr (8, [.ref h3, w1, w2, w3, w4, w5, w6, w7, w8, w9, w10, w11, w12, w13, w14, w15, w16])), (h3, .inr (6, [v0, .ref h1, v2, .ref h2, v4, v5, v6, .int 0, .int 0, .int 0, .int 0]))] := hD
  refine lv_aload_n hx hb dX8_clear_7 rfl (lv_at hl 0 rfl) ?_
  refine lv_iconst (v := 0) hx hb dX8_clear_8 (by decide) ?_
  refine va_put (D := (dC, dI)) (ci := 8) (v := .int 0) (ty := .int) (C := RX8) (T := TX8) (N := 17) hx hb hts inX8 tyX8 tyX8_ok nmX8 hown hK hP hD hS 0 rfl rfl 8 (by decide) (hts _ wd_96) (fun _ h9 => h9) rfl (by decide +kernel) rfl rfl (Nat.le_of_ble_eq_true rfl) dX8_clear_9 (fun H locs hP hD hS => ?_)
  have hP : va_P (dC, dI) classes [(h0, .inr (8, [.ref h3, w1, w2, w3, w4, w5, w6, w7, .int 0, w9, w10, w11, w12, w13, w14, w15, w16])), (h3, .inr (6, [v0, .ref h1, v2, .ref h2, v4, v5, v6, .int 0, .int 0, .int 0, .int 0]))] H := hP
  have hD : va_D A [(h0, .inr (8, [.ref h3, w1, w2, w3, w4, w5, w6, w7, .int 0, w9, w10, w11, w12, w13, w14, w15, w16])), (h3, .inr (6, [v0, .ref h1, v2, .ref h2, v4, v5, v6, .int 0, .int 0, .int 0, .int 0]))] := hD
  refine lv_aload_n hx hb dX8_clear_12 rfl (lv_at hl 0 rfl) ?_
  refine lv_iconst (v := 0) hx hb dX8_clear_13 (by decide) ?_
  refine va_put (D := (dC, dI)) (ci := 8) (v := .int 0) (ty := .int) (C := RX8) (T := TX8) (N := 17) hx hb hts inX8 tyX8 tyX8_ok nmX8 hown hK hP hD hS 0 rfl rfl 9 (by decide) (hts _ wd_97) (fun _ h9 => h9) rfl (by decide +kernel) rfl rfl (Nat.le_of_ble_eq_true rfl) dX8_clear_14 (fun H locs hP hD hS => ?_)
  have hP : va_P (dC, dI) classes [(h0, .inr (8, [.ref h3, w1, w2, w3, w4, w5, w6, w7, .int 0, .int 0, w10, w11, w12, w13, w14, w15, w16])), (h3, .inr (6, [v0, .ref h1, v2, .ref h2, v4, v5, v6, .int 0, .int 0, .int 0, .int 0]))] H := hP
  have hD : va_D A [(h0, .inr (8, [.ref h3, w1, w2, w3, w4, w5, w6, w7, .int 0, .int 0, w10, w11, w12, w13, w14, w15, w16])), (h3, .inr (6, [v0, .ref h1, v2, .ref h2, v4, v5, v6, .int 0, .int 0, .int 0, .int 0]))] := hD
  refine lv_aload_n hx hb dX8_clear_17 rfl (lv_at hl 0 rfl) ?_
  refine lv_iconst (v := -1) hx hb dX8_clear_18 (by decide) ?_
  refine va_put (D := (dC, dI)) (ci := 8) (v := .int (-1)) (ty := .int) (C := RX8) (T := TX8) (N := 17) hx hb hts inX8 tyX8 tyX8_ok nmX8 hown hK hP hD hS 0 rfl rfl 10 (by decide) (hts _ wd_98) (fun _ h9 => h9) rfl (by decide +kernel) rfl rfl (Nat.le_of_ble_eq_true rfl) dX8_clear_19 (fun H locs hP hD hS => ?_)
  have hP : va_P (dC, dI) classes [(h0, .inr (8, [.ref h3, w1, w2, w3, w4, w5, w6, w7, .int 0, .int 0, .int (-1), w11, w12, w13, w14, w15, w16])), (h3, .inr (6, [v0, .ref h1, v2, .ref h2, v4, v5, v6, .int 0, .int 0, .int 0, .int 0]))] H := hP
  have hD : va_D A [(h0, .inr (8, [.ref h3, w1, w2, w3, w4, w5, w6, w7, .int 0, .int 0, .int (-1), w11, w12, w13, w14, w15, w16])), (h3, .inr (6, [v0, .ref h1, v2, .ref h2, v4, v5, v6, .int 0, .int 0, .int 0, .int 0]))] := hD
  refine lv_aload_n hx hb dX8_clear_22 rfl (lv_at hl 0 rfl) ?_
  refine lv_iconst (v := 0) hx hb dX8_clear_23 (by decide) ?_
  refine va_put (D := (dC, dI)) (ci := 8) (v := .int 0) (ty := .int) (C := RX8) (T := TX8) (N := 17) hx hb hts inX8 tyX8 tyX8_ok nmX8 hown hK hP hD hS 0 rfl rfl 11 (by decide) (hts _ wd_99) (fun _ h9 => h9) rfl (by decide +kernel) rfl rfl (Nat.le_of_ble_eq_true rfl) dX8_clear_24 (fun H locs hP hD hS => ?_)
  have hP : va_P (dC, dI) classes [(h0, .inr (8, [.ref h3, w1, w2, w3, w4, w5, w6, w7, .int 0, .int 0, .int (-1), .int 0, w12, w13, w14, w15, w16])), (h3, .inr (6, [v0, .ref h1, v2, .ref h2, v4, v5, v6, .int 0, .int 0, .int 0, .int 0]))] H := hP
  have hD : va_D A [(h0, .inr (8, [.ref h3, w1, w2, w3, w4, w5, w6, w7, .int 0, .int 0, .int (-1), .int 0, w12, w13, w14, w15, w16])), (h3, .inr (6, [v0, .ref h1, v2, .ref h2, v4, v5, v6, .int 0, .int 0, .int 0, .int 0]))] := hD
  refine lv_aload_n hx hb dX8_clear_27 rfl (lv_at hl 0 rfl) ?_
  refine lv_iconst (v := -1) hx hb dX8_clear_28 (by decide) ?_
  refine va_put (D := (dC, dI)) (ci := 8) (v := .int (-1)) (ty := .int) (C := RX8) (T := TX8) (N := 17) hx hb hts inX8 tyX8 tyX8_ok nmX8 hown hK hP hD hS 0 rfl rfl 15 (by decide) (hts _ wd_103) (fun _ h9 => h9) rfl (by decide +kernel) rfl rfl (Nat.le_of_ble_eq_true rfl) dX8_clear_29 (fun H locs hP hD hS => ?_)
  have hP : va_P (dC, dI) classes [(h0, .inr (8, [.ref h3, w1, w2, w3, w4, w5, w6, w7, .int 0, .int 0, .int (-1), .int 0, w12, w13, w14, .int (-1), w16])), (h3, .inr (6, [v0, .ref h1, v2, .ref h2, v4, v5, v6, .int 0, .int 0, .int 0, .int 0]))] H := hP
  have hD : va_D A [(h0, .inr (8, [.ref h3, w1, w2, w3, w4, w5, w6, w7, .int 0, .int 0, .int (-1), .int 0, w12, w13, w14, .int (-1), w16])), (h3, .inr (6, [v0, .ref h1, v2, .ref h2, v4, v5, v6, .int 0, .int 0, .int 0, .int 0]))] := hD
  refine lv_aload_n hx hb dX8_clear_32 rfl (lv_at hl 0 rfl) ?_
  refine lv_iconst (v := 0) hx hb dX8_clear_33 (by decide) ?_
  refine va_put (D := (dC, dI)) (ci := 8) (v := .int 0) (ty := .int) (C := RX8) (T := TX8) (N := 17) hx hb hts inX8 tyX8 tyX8_ok nmX8 hown hK hP hD hS 0 rfl rfl 16 (by decide) (hts _ wd_104) (fun _ h9 => h9) rfl (by decide +kernel) rfl rfl (Nat.le_of_ble_eq_true rfl) dX8_clear_34 (fun H locs hP hD hS => ?_)
  have hP : va_P (dC, dI) classes [(h0, .inr (8, [.ref h3, w1, w2, w3, w4, w5, w6, w7, .int 0, .int 0, .int (-1), .int 0, w12, w13, w14, .int (-1), .int 0])), (h3, .inr (6, [v0, .ref h1, v2, .ref h2, v4, v5, v6, .int 0, .int 0, .int 0, .int 0]))] H := hP
  have hD : va_D A [(h0, .inr (8, [.ref h3, w1, w2, w3, w4, w5, w6, w7, .int 0, .int 0, .int (-1), .int 0, w12, w13, w14, .int (-1), .int 0])), (h3, .inr (6, [v0, .ref h1, v2, .ref h2, v4, v5, v6, .int 0, .int 0, .int 0, .int 0]))] := hD
  have hP9 := hP.sub (ws' := [(h0, .inr (8, [.ref h3, w1, w2, w3, w4, w5, w6, w7, .int 0, .int 0, .int (-1), .int 0, w12, w13, w14, .int (-1), .int 0])), (h3, .inr (6, [v0, .ref h1, v2, .ref h2, v4, v5, v6, .int 0, .int 0, .int 0, .int 0]))]) [0, 1] rfl
  have hD9 := hD.sub (ws' := [(h0, .inr (8, [.ref h3, w1, w2, w3, w4, w5, w6, w7, .int 0, .int 0, .int (-1), .int 0, w12, w13, w14, .int (-1), .int 0])), (h3, .inr (6, [v0, .ref h1, v2, .ref h2, v4, v5, v6, .int 0, .int 0, .int 0, .int 0]))]) [0, 1] (by decide) rfl
  have hK9 := hK.sub (tys' := []) [] rfl
  refine W.widen (k := 0) (n := 0) (Nat.le_of_ble_eq_true rfl) (Nat.le_of_ble_eq_true rfl) ?_
  exact W.vret hx hb hr (fun t ht hW => ⟨⟨(), rfl, trivial, by rw [ht]; exact hP9, va_K.moved hW.alike hK9, hD9⟩, hS.F ht⟩) hS.2.2 dX8_clear_37
set_option maxHeartbeats 4000000 in
set_option maxRecDepth 100000 in
/-- clearBench -/
theorem c_clearBench (l : Launch) (dC : Nat → ClassId) (dI : Nat → Nat → Nat) (h0 : Nat) (v0 : Value) (v1 : Value) (v2 : Value) (v3 : Value) (v4 : Value) (v5 : Value) (v6 : Value) (v8 : Value) (v9 : Value) (v10 : Value) (v11 : Value) (v12 : Value) (v13 : Value) (sz : Nat) : Met l yX11_clearBench (.code yX11_clearBench cX11_clearBench 1 (some (.object "SpineTables$Table")) :: wU) ({ frames := 3, cells := 19, slots := 16469, locals := 52 } : Room) (va_Pc [.ref h0] (fun U => P5 dC dI [(h0, .inr (10, [v0, v1, v2, v3, v4, v5, v6, .null, v8, v9, v10, v11, v12, v13]))] [] sz U)) (va_Qr (fun _ : Unit => True) (fun _ ra t => ∃ e_q199 : Nat, ∃ e_q200 : Nat, ∃ e_q201 : Nat, ∃ e_q202 : Nat, ∃ e_q203 : Nat, ∃ e_q204 : Nat, ∃ e_q205 : Nat, ∃ e_q206 : Nat, ∃ e_q207 : Nat, ∃ e_q208 : Nat, ∃ e_q209 : Nat, ∃ e_q210 : Nat, ∃ e_q211 : Nat, ∃ e_q212 : Nat, ∃ e_q213 : Nat, ∃ e_q214 : Nat, ∃ e_q215 : Nat, ∃ e_q216 : Nat, ∃ e_y219 : ClassId, ∃ e_y220 : ClassId, P3 dC dI (va_A [(h0, .inr (10, [v0, v1, v2, v3, v4, v5, v6, .null, v8, v9, v10, v11, v12, v13]))] sz) [(h0, .inr (10, [v0, v1, v2, v3, v4, v5, v6, .ref ra, v8, v9, v10, v11, v12, v13])), (ra, .inr (8, [.ref e_q199, .ref e_q200, .ref e_q201, .ref e_q202, .ref e_q203, .ref e_q204, .ref e_q205, .ref e_q206, .int 0, .int 0, .int (-1), .int 0, .ref e_q207, .ref e_q208, .ref e_q209, .int (-1), .int 0])), (e_q199, .inr (6, [.ref e_q210, .ref e_q211, .ref e_q212, .ref e_q213, .ref e_q214, .ref e_q215, .ref e_q216, .int 0, .int 0, .int 0, .int 0])), (e_q208, .inl (e_y219, 201, .inl (fun _ => 0))), (e_q209, .inl (e_y220, 201, .inl (fun _ => 0)))] [(e_y219, .int), (e_y220, .int)] t) (va_A [(h0, .inr (10, [v0, v1, v2, v3, v4, v5, v6, .null, v8, v9, v10, v11, v12, v13]))] sz)) 19 16469 (va_A [(h0, .inr (10, [v0, v1, v2, v3, v4, v5, v6, .null, v8, v9, v10, v11, v12, v13]))] sz) := by
  refine Met.ofW (cc := cX11_clearBench) (maxL := 1) (ret := (some (.object "SpineTables$Table"))) (by decide) rfl ?_
  intro p e s m args below meth c s₁ B hml hv
  obtain ⟨rfl, hsz, hP, hK, hD0, hE⟩ := hv
  have hx := B.exec
  have hb := B.bytes
  have hr := B.returns
  have hts0 := atoms_spec (ws := (.code yX11_clearBench cX11_clearBench 1 (some (.object "SpineTables$Table")) :: wU)) B.pre
  have hts : ∀ w ∈ wU, w.before _ s = true := fun w h => hts0 w (List.mem_cons_of_mem _ h)
  have hown : s.vm.findClass "SpineTables" = some m.cls := findClass_of_methodNamed B.named
  have hlocks := B.notSynchronized
  subst hsz
  have hD := hD0.self (sz := s.heap.size)
  generalize hAe : va_A [(h0, .inr (10, [v0, v1, v2, v3, v4, v5, v6, .null, v8, v9, v10, v11, v12, v13]))] s.heap.size = A at hD ⊢
  have hA : ∀ q : Nat, s.heap.size ≤ q → A q := fun q h => by rw [← hAe]; exact Or.inr h
  have hP : va_P (dC, dI) classes [(h0, .inr (10, [v0, v1, v2, v3, v4, v5, v6, .null, v8, v9, v10, v11, v12, v13]))] s.heap := hP
  have hl := lv_entry ([.ref h0]) (n := 1) (Nat.le_of_ble_eq_true rfl)
  rw [lg_entry_eq]
  generalize (lg_sl ([.ref h0]) ++ List.replicate (1 - (lg_sl ([.ref h0])).length) Slot.unset).toArray = ls at hl ⊢
  have hl : lv_has ls 1 [(0, .ref h0)] := hl
  obtain ⟨H, hH⟩ : ∃ H, H = s.heap := ⟨_, rfl⟩
  rw [← hH] at hP
  have hS : va_S A s.heap H [] := by rw [hH]; exact va_S.rf
  refine w_heap hH ?_
  refine lv_aload_n hx hb dX11_clearBench_0 rfl (lv_at hl 0 rfl) ?_
  refine va_get (D := (dC, dI)) (ci := 10) (v := .null) (C := RX11) (T := TX11) (N := 14) hx hb hts inX11 hown hK hP 0 rfl rfl 7 (by decide) (hts _ wd_115) (fun _ h9 => h9) rfl dX11_clearBench_1 ?_
  refine lv_ifnonnullN hx hb dX11_clearBench_4 ?_
  refine lv_aload_n hx hb dX11_clearBench_7 rfl (lv_at hl 0 rfl) ?_
  refine va_new (ci := 8) (fs := [.null, .null, .null, .null, .null, .null, .null, .null, .int 0, .int 0, .int 0, .int 0, .null, .null, .null, .int 0, .int 0]) (C := RX8) (T := TX8) (N := 17) hx hb hts inX8 tyX8 tyX8_ok hown (hts _ wd_111) (hts _ wd_263) (hts _ wd_264) hK hP hD hS hA rfl dfX8 (Nat.le_of_ble_eq_true rfl) (Nat.le_of_ble_eq_true rfl) dX11_clearBench_8 (fun q198 H hP hD hS => ?_)
  have hP : va_P (dC, dI) classes [(h0, .inr (10, [v0, v1, v2, v3, v4, v5, v6, .null, v8, v9, v10, v11, v12, v13])), (q198, .inr (8, [.null, .null, .null, .null, .null, .null, .null, .null, .int 0, .int 0, .int 0, .int 0, .null, .null, .null, .int 0, .int 0]))] H := hP
  have hD : va_D A [(h0, .inr (10, [v0, v1, v2, v3, v4, v5, v6, .null, v8, v9, v10, v11, v12, v13])), (q198, .inr (8, [.null, .null, .null, .null, .null, .null, .null, .null, .int 0, .int 0, .int 0, .int 0, .null, .null, .null, .int 0, .int 0]))] := hD
  refine W.widen (k := 1) (n := 17) (Nat.le_of_ble_eq_true rfl) (Nat.le_of_ble_eq_true rfl) ?_
  refine lv_dup hx hb dX11_clearBench_11 rfl ?_
  have hPc := hP.sub (ws' := [(q198, .inr (8, [.null, .null, .null, .null, .null, .null, .null, .null, .int 0, .int 0, .int 0, .int 0, .null, .null, .null, .int 0, .int 0]))]) [1] rfl
  have hDc := hD.sub (ws' := [(q198, .inr (8, [.null, .null, .null, .null, .null, .null, .null, .null, .int 0, .int 0, .int 0, .int 0, .null, .null, .null, .int 0, .int 0]))]) [1] (by decide) rfl
  have hKc := hK.sub (tys' := []) [] rfl
  have hFc := va_free (wc := [(q198, .inr (8, [.null, .null, .null, .null, .null, .null, .null, .null, .int 0, .int 0, .int 0, .int 0, .null, .null, .null, .int 0, .int 0]))]) hD hS hA [1] rfl
  refine va_callv (va_runIN (As := []) (rest := [.ref q198, .ref h0]) ⟨hx, hb, hml, hown, hts⟩ (c_Table l dC dI q198 H.size) ⟨va_cnB 0 hts (goC wd_265) rfl rfl rfl (hE.1 _ (List.mem_of_getElem? (i := 12) rfl)) (hts _ wd_264) (by decide +kernel) ⟨Nat.le_of_ble_eq_true rfl, Nat.le_of_ble_eq_true rfl⟩, rfl, hts _ wd_266⟩ ⟨blind5, fun U hU hW => ⟨rfl, pre5 hU hW hPc hKc hDc hE⟩⟩ rfl rfl hl.1 rfl (lv_room (Nat.le_of_ble_eq_true rfl)) dX11_clearBench_12 ⟨Nat.le_of_ble_eq_true rfl, Nat.le_of_ble_eq_true rfl⟩) hS (fun q _ h => hFc q h) hFc (fun u t H1 locs ht hvm hw hB hz1 hk1 hS => ?_)
  obtain ⟨q199, q200, q201, q202, q203, q204, q205, q206, q207, q208, q209, q210, q211, q212, q213, q214, q215, q216, y217, y218, y219, y220, hP1, hK1, hD1⟩ := hB
  rw [ht] at hP1
  have hK1 := va_K.moved hvm.symm hK1
  obtain ⟨hP, hD⟩ := va_join (wr := [(h0, .inr (10, [v0, v1, v2, v3, v4, v5, v6, .null, v8, v9, v10, v11, v12, v13]))]) (w1 := [(q198, .inr (8, [.ref q199, .ref q200, .ref q201, .ref q202, .ref q203, .ref q204, .ref q205, .ref q206, .int 0, .int 0, .int (-1), .int 0, .ref q207, .ref q208, .ref q209, .int (-1), .int 0])), (q199, .inr (6, [.ref q210, .ref q211, .ref q212, .ref q213, .ref q214, .ref q215, .ref q216, .int 0, .int 0, .int 0, .int 0])), (q211, .inl (y217, 201, .inl (fun _ => 0))), (q213, .inl (y218, 201, .inl (fun _ => 0))), (q208, .inl (y219, 201, .inl (fun _ => 0))), (q209, .inl (y220, 201, .inl (fun _ => 0)))]) hP hD [1] [0] rfl rfl (by decide) (by decide) hk1 hFc hP1 hD1
  have hK := (hK.sub (tys' := []) [] rfl).app hK1
  generalize H1 = H at hP hS ⊢
  have hK : va_K (dC, dI) classes [(y217, .int), (y218, .int), (y219, .int), (y220, .int)] s := hK
  have hP : va_P (dC, dI) classes [(h0, .inr (10, [v0, v1, v2, v3, v4, v5, v6, .null, v8, v9, v10, v11, v12, v13])), (q198, .inr (8, [.ref q199, .ref q200, .ref q201, .ref q202, .ref q203, .ref q204, .ref q205, .ref q206, .int 0, .int 0, .int (-1), .int 0, .ref q207, .ref q208, .ref q209, .int (-1), .int 0])), (q199, .inr (6, [.ref q210, .ref q211, .ref q212, .ref q213, .ref q214, .ref q215, .ref q216, .int 0, .int 0, .int 0, .int 0])), (q211, .inl (y217, 201, .inl (fun _ => 0))), (q213, .inl (y218, 201, .inl (fun _ => 0))), (q208, .inl (y219, 201, .inl (fun _ => 0))), (q209, .inl (y220, 201, .inl (fun _ => 0)))] H := hP
  have hD : va_D A [(h0, .inr (10, [v0, v1, v2, v3, v4, v5, v6, .null, v8, v9, v10, v11, v12, v13])), (q198, .inr (8, [.ref q199, .ref q200, .ref q201, .ref q202, .ref q203, .ref q204, .ref q205, .ref q206, .int 0, .int 0, .int (-1), .int 0, .ref q207, .ref q208, .ref q209, .int (-1), .int 0])), (q199, .inr (6, [.ref q210, .ref q211, .ref q212, .ref q213, .ref q214, .ref q215, .ref q216, .int 0, .int 0, .int 0, .int 0])), (q211, .inl (y217, 201, .inl (fun _ => 0))), (q213, .inl (y218, 201, .inl (fun _ => 0))), (q208, .inl (y219, 201, .inl (fun _ => 0))), (q209, .inl (y220, 201, .inl (fun _ => 0)))] := hD
  refine W.widen (k := 19) (n := 16469) (Nat.le_of_ble_eq_true rfl) (Nat.le_of_ble_eq_true rfl) ?_
  refine va_put (D := (dC, dI)) (ci := 10) (v := .ref q198) (ty := (.object "SpineTables$Table")) (C := RX11) (T := TX11) (N := 14) hx hb hts inX11 tyX11 tyX11_ok nmX11 hown hK hP hD hS 0 rfl rfl 7 (by decide) (hts _ wd_115) (fun _ h9 => h9) rfl (by decide +kernel) rfl rfl (Nat.le_of_ble_eq_true rfl) dX11_clearBench_15 (fun H locs hP hD hS => ?_)
  have hP : va_P (dC, dI) classes [(h0, .inr (10, [v0, v1, v2, v3, v4, v5, v6, .ref q198, v8, v9, v10, v11, v12, v13])), (q198, .inr (8, [.ref q199, .ref q200, .ref q201, .ref q202, .ref q203, .ref q204, .ref q205, .ref q206, .int 0, .int 0, .int (-1), .int 0, .ref q207, .ref q208, .ref q209, .int (-1), .int 0])), (q199, .inr (6, [.ref q210, .ref q211, .ref q212, .ref q213, .ref q214, .ref q215, .ref q216, .int 0, .int 0, .int 0, .int 0])), (q211, .inl (y217, 201, .inl (fun _ => 0))), (q213, .inl (y218, 201, .inl (fun _ => 0))), (q208, .inl (y219, 201, .inl (fun _ => 0))), (q209, .inl (y220, 201, .inl (fun _ => 0)))] H := hP
  have hD : va_D A [(h0, .inr (10, [v0, v1, v2, v3, v4, v5, v6, .ref q198, v8, v9, v10, v11, v12, v13])), (q198, .inr (8, [.ref q199, .ref q200, .ref q201, .ref q202, .ref q203, .ref q204, .ref q205, .ref q206, .int 0, .int 0, .int (-1), .int 0, .ref q207, .ref q208, .ref q209, .int (-1), .int 0])), (q199, .inr (6, [.ref q210, .ref q211, .ref q212, .ref q213, .ref q214, .ref q215, .ref q216, .int 0, .int 0, .int 0, .int 0])), (q211, .inl (y217, 201, .inl (fun _ => 0))), (q213, .inl (y218, 201, .inl (fun _ => 0))), (q208, .inl (y219, 201, .inl (fun _ => 0))), (q209, .inl (y220, 201, .inl (fun _ => 0)))] := hD
  refine lv_aload_n hx hb dX11_clearBench_18 rfl (lv_at hl 0 rfl) ?_
  refine va_get (D := (dC, dI)) (ci := 10) (v := .ref q198) (C := RX11) (T := TX11) (N := 14) hx hb hts inX11 hown hK hP 0 rfl rfl 7 (by decide) (hts _ wd_115) (fun _ h9 => h9) rfl dX11_clearBench_19 ?_
  have hPc := hP.sub (ws' := [(q198, .inr (8, [.ref q199, .ref q200, .ref q201, .ref q202, .ref q203, .ref q204, .ref q205, .ref q206, .int 0, .int 0, .int (-1), .int 0, .ref q207, .ref q208, .ref q209, .int (-1), .int 0])), (q199, .inr (6, [.ref q210, .ref q211, .ref q212, .ref q213, .ref q214, .ref q215, .ref q216, .int 0, .int 0, .int 0, .int 0])), (q211, .inl (y217, 201, .inl (fun _ => 0))), (q213, .inl (y218, 201, .inl (fun _ => 0)))]) [1, 2, 3, 4] rfl
  have hDc := hD.sub (ws' := [(q198, .inr (8, [.ref q199, .ref q200, .ref q201, .ref q202, .ref q203, .ref q204, .ref q205, .ref q206, .int 0, .int 0, .int (-1), .int 0, .ref q207, .ref q208, .ref q209, .int (-1), .int 0])), (q199, .inr (6, [.ref q210, .ref q211, .ref q212, .ref q213, .ref q214, .ref q215, .ref q216, .int 0, .int 0, .int 0, .int 0])), (q211, .inl (y217, 201, .inl (fun _ => 0))), (q213, .inl (y218, 201, .inl (fun _ => 0)))]) [1, 2, 3, 4] (by decide) rfl
  have hKc := hK.sub (tys' := [(y217, .int), (y218, .int)]) [0, 1] rfl
  have hFc := va_free (wc := [(q198, .inr (8, [.ref q199, .ref q200, .ref q201, .ref q202, .ref q203, .ref q204, .ref q205, .ref q206, .int 0, .int 0, .int (-1), .int 0, .ref q207, .ref q208, .ref q209, .int (-1), .int 0])), (q199, .inr (6, [.ref q210, .ref q211, .ref q212, .ref q213, .ref q214, .ref q215, .ref q216, .int 0, .int 0, .int 0, .int 0])), (q211, .inl (y217, 201, .inl (fun _ => 0))), (q213, .inl (y218, 201, .inl (fun _ => 0)))]) hD hS hA [1, 2, 3, 4] rfl
  refine va_callv (va_runV (As := []) (rest := []) ⟨hx, hb, hml, hown, hts⟩ (c_Table_clear l dC dI q198 q199 q211 q213 (.ref q200) (.ref q201) (.ref q202) (.ref q203) (.ref q204) (.ref q205) (.ref q206) (.int 0) (.int 0) (.int (-1)) (.int 0) (.ref q207) (.ref q208) (.ref q209) (.int (-1)) (.int 0) (.ref q210) (.ref q212) (.ref q214) (.ref q215) (.ref q216) (.int 0) (.int 0) (.int 0) (.int 0) y217 (fun _ => 0) y218 (fun _ => 0) H.size) (cwV 0 hts (goV wd_269 wd_270 wd_268 wd_264 wd_267) rfl rfl rfl (by decide +kernel) ⟨Nat.le_of_ble_eq_true rfl, Nat.le_of_ble_eq_true rfl⟩) ⟨blind5, va_recv hKc hPc (ci := 8) (q0 := 0) rfl rfl, fun U hU hW => ⟨rfl, pre5 hU hW hPc hKc hDc hE⟩⟩ rfl rfl hl.1 rfl (lv_room (Nat.le_of_ble_eq_true rfl)) dX11_clearBench_22 ⟨Nat.le_of_ble_eq_true rfl, Nat.le_of_ble_eq_true rfl⟩) hS (fun q _ h => hFc q h) hFc (fun u t H1 locs ht hvm hw hB hz1 hk1 hS => ?_)
  obtain ⟨hP1, hK1, hD1⟩ := hB
  rw [ht] at hP1
  have hK1 := va_K.moved hvm.symm hK1
  obtain ⟨hP, hD⟩ := va_join (wr := [(h0, .inr (10, [v0, v1, v2, v3, v4, v5, v6, .ref q198, v8, v9, v10, v11, v12, v13])), (q208, .inl (y219, 201, .inl (fun _ => 0))), (q209, .inl (y220, 201, .inl (fun _ => 0)))]) (w1 := [(q198, .inr (8, [.ref q199, .ref q200, .ref q201, .ref q202, .ref q203, .ref q204, .ref q205, .ref q206, .int 0, .int 0, .int (-1), .int 0, .ref q207, .ref q208, .ref q209, .int (-1), .int 0])), (q199, .inr (6, [.ref q210, .ref q211, .ref q212, .ref q213, .ref q214, .ref q215, .ref q216, .int 0, .int 0, .int 0, .int 0]))]) hP hD [1, 2, 3, 4] [0, 5, 6] rfl rfl (by decide) (by decide) hk1 hFc hP1 hD1
  have hK := (hK.sub (tys' := [(y219, .int), (y220, .int)]) [2, 3] rfl).app hK1
  generalize H1 = H at hP hS ⊢
  have hK : va_K (dC, dI) classes [(y219, .int), (y220, .int)] s := hK
  have hP : va_P (dC, dI) classes [(h0, .inr (10, [v0, v1, v2, v3, v4, v5, v6, .ref q198, v8, v9, v10, v11, v12, v13])), (q208, .inl (y219, 201, .inl (fun _ => 0))), (q209, .inl (y220, 201, .inl (fun _ => 0))), (q198, .inr (8, [.ref q199, .ref q200, .ref q201, .ref q202, .ref q203, .ref q204, .ref q205, .ref q206, .int 0, .int 0, .int (-1), .int 0, .ref q207, .ref q208, .ref q209, .int (-1), .int 0])), (q199, .inr (6, [.ref q210, .ref q211, .ref q212, .ref q213, .ref q214, .ref q215, .ref q216, .int 0, .int 0, .int 0, .int 0]))] H := hP
  have hD : va_D A [(h0, .inr (10, [v0, v1, v2, v3, v4, v5, v6, .ref q198, v8, v9, v10, v11, v12, v13])), (q208, .inl (y219, 201, .inl (fun _ => 0))), (q209, .inl (y220, 201, .inl (fun _ => 0))), (q198, .inr (8, [.ref q199, .ref q200, .ref q201, .ref q202, .ref q203, .ref q204, .ref q205, .ref q206, .int 0, .int 0, .int (-1), .int 0, .ref q207, .ref q208, .ref q209, .int (-1), .int 0])), (q199, .inr (6, [.ref q210, .ref q211, .ref q212, .ref q213, .ref q214, .ref q215, .ref q216, .int 0, .int 0, .int 0, .int 0]))] := hD
  refine lv_aload_n hx hb dX11_clearBench_25 rfl (lv_at hl 0 rfl) ?_
  refine va_get (D := (dC, dI)) (ci := 10) (v := .ref q198) (C := RX11) (T := TX11) (N := 14) hx hb hts inX11 hown hK hP 0 rfl rfl 7 (by decide) (hts _ wd_115) (fun _ h9 => h9) rfl dX11_clearBench_26 ?_
  have hP9 := hP.sub (ws' := [(h0, .inr (10, [v0, v1, v2, v3, v4, v5, v6, .ref q198, v8, v9, v10, v11, v12, v13])), (q198, .inr (8, [.ref q199, .ref q200, .ref q201, .ref q202, .ref q203, .ref q204, .ref q205, .ref q206, .int 0, .int 0, .int (-1), .int 0, .ref q207, .ref q208, .ref q209, .int (-1), .int 0])), (q199, .inr (6, [.ref q210, .ref q211, .ref q212, .ref q213, .ref q214, .ref q215, .ref q216, .int 0, .int 0, .int 0, .int 0])), (q208, .inl (y219, 201, .inl (fun _ => 0))), (q209, .inl (y220, 201, .inl (fun _ => 0)))]) [0, 3, 4, 1, 2] rfl
  have hD9 := hD.sub (ws' := [(h0, .inr (10, [v0, v1, v2, v3, v4, v5, v6, .ref q198, v8, v9, v10, v11, v12, v13])), (q198, .inr (8, [.ref q199, .ref q200, .ref q201, .ref q202, .ref q203, .ref q204, .ref q205, .ref q206, .int 0, .int 0, .int (-1), .int 0, .ref q207, .ref q208, .ref q209, .int (-1), .int 0])), (q199, .inr (6, [.ref q210, .ref q211, .ref q212, .ref q213, .ref q214, .ref q215, .ref q216, .int 0, .int 0, .int 0, .int 0])), (q208, .inl (y219, 201, .inl (fun _ => 0))), (q209, .inl (y220, 201, .inl (fun _ => 0)))]) [0, 3, 4, 1, 2] (by decide) rfl
  have hK9 := hK.sub (tys' := [(y219, .int), (y220, .int)]) [0, 1] rfl
  refine W.widen (k := 19) (n := 16469) (Nat.le_of_ble_eq_true rfl) (Nat.le_of_ble_eq_true rfl) ?_
  exact W.aret (v := .ref q198) hx hb hr (Or.inl ⟨_, rfl⟩) (Or.inr ⟨_, rfl⟩) (fun t ht hW => ⟨⟨(), q198, rfl, trivial, q199, q200, q201, q202, q203, q204, q205, q206, q207, q208, q209, q210, q211, q212, q213, q214, q215, q216, y219, y220, by rw [ht]; exact hP9, va_K.moved hW.alike hK9, hD9⟩, hS.F ht⟩) hS.2.2 dX11_clearBench_29
set_option maxHeartbeats 4000000 in
set_option maxRecDepth 100000 in
/-- isRun -/
theorem c_isRun (l : Launch) (dC : Nat → ClassId) (dI : Nat → Nat → Nat) (h1 : Nat) (cB : ClassId) (f0 : Nat → Int32) (sz : Nat) : Met l yX10_isRun (.code yX10_isRun cX10_isRun 3 (some .boolean) :: wU) ({ frames := 0, cells := 0, slots := 0, locals := 0 } : Room) (va_Pc [.ref h1, .int 0, .int 0] (fun U => P5 dC dI [(h1, .inl (cB, 3000, .inl f0))] [(cB, .byte)] sz U)) (va_Qi (fun (r : Int32) (_ : Unit) => r = 1) (fun _ t => P3 dC dI (va_A [(h1, .inl (cB, 3000, .inl f0))] sz) [(h1, .inl (cB, 3000, .inl f0))] [(cB, .byte)] t) (va_A [(h1, .inl (cB, 3000, .inl f0))] sz)) 0 0 (va_A [(h1, .inl (cB, 3000, .inl f0))] sz) := by
  refine Met.ofW (cc := cX10_isRun) (maxL := 3) (ret := (some .boolean)) (by decide) rfl ?_
  intro p e s m args below meth c s₁ B hml hv
  obtain ⟨rfl, hsz, hP, hK, hD0, hE⟩ := hv
  have hx := B.exec
  have hb := B.bytes
  have hr := B.returns
  have hts0 := atoms_spec (ws := (.code yX10_isRun cX10_isRun 3 (some .boolean) :: wU)) B.pre
  have hts : ∀ w ∈ wU, w.before _ s = true := fun w h => hts0 w (List.mem_cons_of_mem _ h)
  have hown : s.vm.findClass "SpineTables$Words" = some m.cls := findClass_of_methodNamed B.named
  have hlocks := B.notSynchronized
  subst hsz
  have hD := hD0.self (sz := s.heap.size)
  generalize hAe : va_A [(h1, .inl (cB, 3000, .inl f0))] s.heap.size = A at hD ⊢
  have hA : ∀ q : Nat, s.heap.size ≤ q → A q := fun q h => by rw [← hAe]; exact Or.inr h
  have hP : va_P (dC, dI) classes [(h1, .inl (cB, 3000, .inl f0))] s.heap := hP
  have hl := lv_entry ([.ref h1, .int 0, .int 0]) (n := 3) (Nat.le_of_ble_eq_true rfl)
  rw [lg_entry_eq]
  generalize (lg_sl ([.ref h1, .int 0, .int 0]) ++ List.replicate (3 - (lg_sl ([.ref h1, .int 0, .int 0])).length) Slot.unset).toArray = ls at hl ⊢
  have hl : lv_has ls 3 [(0, .ref h1), (1, .int 0), (2, .int 0)] := hl
  obtain ⟨H, hH⟩ : ∃ H, H = s.heap := ⟨_, rfl⟩
  rw [← hH] at hP
  have hS : va_S A s.heap H [] := by rw [hH]; exact va_S.rf
  refine w_heap hH ?_
  refine lv_aload_n hx hb dX10_isRun_0 rfl (lv_at hl 0 rfl) ?_
  refine lv_ifnull hx hb dX10_isRun_1 ?_
  refine lv_iload_n hx hb dX10_isRun_4 rfl (lv_at hl 1 rfl) ?_
  refine lv_if_lt (tgt := 23) hx hb dX10_isRun_5 (by decide) (fun hc => absurd hc (by decide)) (fun _ => ?_)
  refine lv_iload_n hx hb dX10_isRun_8 rfl (lv_at hl 1 rfl) ?_
  refine lv_iload_n hx hb dX10_isRun_9 rfl (lv_at hl 2 rfl) ?_
  refine lv_icmp_gt (tgt := 23) hx hb dX10_isRun_10 (by decide) (fun hc => absurd hc (by decide)) (fun _ => ?_)
  refine lv_iload_n hx hb dX10_isRun_13 rfl (lv_at hl 2 rfl) ?_
  refine lv_aload_n hx hb dX10_isRun_14 rfl (lv_at hl 0 rfl) ?_
  refine va_alen (v := 3000) hx hb hK hP 0 0 rfl rfl rfl dX10_isRun_15 ?_
  refine lv_icmp_gt (tgt := 23) hx hb dX10_isRun_16 (by decide) (fun hc => absurd hc (by decide)) (fun _ => ?_)
  refine lv_iconst (v := 1) hx hb dX10_isRun_19 (by decide) ?_
  refine lv_goto (tgt := 24) hx hb dX10_isRun_20 (by decide) ?_
  have hP9 := hP.sub (ws' := [(h1, .inl (cB, 3000, .inl f0))]) [0] rfl
  have hD9 := hD.sub (ws' := [(h1, .inl (cB, 3000, .inl f0))]) [0] (by decide) rfl
  have hK9 := hK.sub (tys' := [(cB, .byte)]) [0] rfl
  refine W.widen (k := 0) (n := 0) (Nat.le_of_ble_eq_true rfl) (Nat.le_of_ble_eq_true rfl) ?_
  exact W.zret (v := 1) hx hb hr rfl (fun t ht hW => ⟨⟨1, (), rfl, rfl, by rw [ht]; exact hP9, va_K.moved hW.alike hK9, hD9⟩, hS.F ht⟩) hS.2.2 dX10_isRun_24
set_option maxHeartbeats 4000000 in
set_option maxRecDepth 100000 in
/-- take -/
theorem c_take (l : Launch) (dC : Nat → ClassId) (dI : Nat → Nat → Nat) (h0 : Nat) (h1 : Nat) (h2 : Nat) (v0 : Value) (v1 : Value) (v2 : Value) (v3 : Value) (v4 : Value) (v5 : Value) (v6 : Value) (v7 : Value) (v8 : Value) (v9 : Value) (v10 : Value) (v11 : Value) (v12 : Value) (v13 : Value) (v14 : Value) (v15 : Value) (w0 : Value) (w1 : Value) (w2 : Value) (w3 : Value) (w4 : Value) (w5 : Value) (w6 : Value) (w7 : Value) (w8 : Value) (w9 : Value) (w10 : Value) (w12 : Value) (w13 : Value) (w14 : Value) (w15 : Value) (w16 : Value) (cB : ClassId) (f0 : Nat → Int32) (sz : Nat) : Met l yX5_take (.code yX5_take cX5_take 6 (some .boolean) :: wU) ({ frames := 1, cells := 0, slots := 0, locals := 22 } : Room) (va_Pc [.ref h0, .ref h1, .int 0, .ref h2] (fun U => P5 dC dI [(h0, .inr (5, [v0, v1, v2, v3, v4, v5, v6, v7, v8, v9, v10, v11, v12, v13, v14, v15])), (h1, .inl (cB, 3000, .inl f0)), (h2, .inr (8, [w0, w1, w2, w3, w4, w5, w6, w7, w8, w9, w10, .int 0, w12, w13, w14, w15, w16]))] [(cB, .byte)] sz U)) (va_Qi (fun (r : Int32) (_ : Unit) => r = 1) (fun _ t => P3 dC dI (va_A [(h0, .inr (5, [v0, v1, v2, v3, v4, v5, v6, v7, v8, v9, v10, v11, v12, v13, v14, v15])), (h1, .inl (cB, 3000, .inl f0)), (h2, .inr (8, [w0, w1, w2, w3, w4, w5, w6, w7, w8, w9, w10, .int 0, w12, w13, w14, w15, w16]))] sz) [(h0, .inr (5, [.int 0, .int 0, .ref h1, .int 0, .ref h2, v5, v6, v7, v8, v9, v10, v11, v12, v13, v14, v15])), (h2, .inr (8, [w0, w1, w2, w3, w4, w5, w6, w7, w8, w9, w10, .int 0, w12, w13, w14, w15, w16]))] [] t) (va_A [(h0, .inr (5, [v0, v1, v2, v3, v4, v5, v6, v7, v8, v9, v10, v11, v12, v13, v14, v15])), (h1, .inl (cB, 3000, .inl f0)), (h2, .inr (8, [w0, w1, w2, w3, w4, w5, w6, w7, w8, w9, w10, .int 0, w12, w13, w14, w15, w16]))] sz)) 0 0 (va_A [(h0, .inr (5, [v0, v1, v2, v3, v4, v5, v6, v7, v8, v9, v10, v11, v12, v13, v14, v15])), (h1, .inl (cB, 3000, .inl f0)), (h2, .inr (8, [w0, w1, w2, w3, w4, w5, w6, w7, w8, w9, w10, .int 0, w12, w13, w14, w15, w16]))] sz) := by
  refine Met.ofW (cc := cX5_take) (maxL := 6) (ret := (some .boolean)) (by decide) rfl ?_
  intro p e s m args below meth c s₁ B hml hv
  obtain ⟨rfl, hsz, hP, hK, hD0, hE⟩ := hv
  have hx := B.exec
  have hb := B.bytes
  have hr := B.returns
  have hts0 := atoms_spec (ws := (.code yX5_take cX5_take 6 (some .boolean) :: wU)) B.pre
  have hts : ∀ w ∈ wU, w.before _ s = true := fun w h => hts0 w (List.mem_cons_of_mem _ h)
  have hown : s.vm.findClass "SpineTables$Reader" = some m.cls := findClass_of_methodNamed B.named
  have hlocks := B.notSynchronized
  subst hsz
  have hD := hD0.self (sz := s.heap.size)
  generalize hAe : va_A [(h0, .inr (5, [v0, v1, v2, v3, v4, v5, v6, v7, v8, v9, v10, v11, v12, v13, v14, v15])), (h1, .inl (cB, 3000, .inl f0)), (h2, .inr (8, [w0, w1, w2, w3, w4, w5, w6, w7, w8, w9, w10, .int 0, w12, w13, w14, w15, w16]))] s.heap.size = A at hD ⊢
  have hA : ∀ q : Nat, s.heap.size ≤ q → A q := fun q h => by rw [← hAe]; exact Or.inr h
  have hP : va_P (dC, dI) classes [(h0, .inr (5, [v0, v1, v2, v3, v4, v5, v6, v7, v8, v9, v10, v11, v12, v13, v14, v15])), (h1, .inl (cB, 3000, .inl f0)), (h2, .inr (8, [w0, w1, w2, w3, w4, w5, w6, w7, w8, w9, w10, .int 0, w12, w13, w14, w15, w16]))] s.heap := hP
  have hl := lv_entry ([.ref h0, .ref h1, .int 0, .ref h2]) (n := 6) (Nat.le_of_ble_eq_true rfl)
  rw [lg_entry_eq]
  generalize (lg_sl ([.ref h0, .ref h1, .int 0, .ref h2]) ++ List.replicate (6 - (lg_sl ([.ref h0, .ref h1, .int 0, .ref h2])).length) Slot.unset).toArray = ls at hl ⊢
  have hl : lv_has ls 6 [(0, .ref h0), (1, .ref h1), (2, .int 0), (3, .ref h2)] := hl
  obtain ⟨H, hH⟩ : ∃ H, H = s.heap := ⟨_, rfl⟩
  rw [← hH] at hP
  have hS : va_S A s.heap H [] := by rw [hH]; exact va_S.rf
  refine w_heap hH ?_
  refine lv_aload_n hx hb dX5_take_0 rfl (lv_at hl 0 rfl) ?_
  refine lv_iconst (v := 0) hx hb dX5_take_1 (by decide) ?_
  refine va_put (D := (dC, dI)) (ci := 5) (v := .int 0) (ty := .int) (C := RX5) (T := TX5) (N := 16) hx hb hts inX5 tyX5 tyX5_ok nmX5 hown hK hP hD hS 0 rfl rfl 0 (by decide) (hts _ wd_5) (fun _ h9 => h9) rfl (by decide +kernel) rfl rfl (Nat.le_of_ble_eq_true rfl) dX5_take_2 (fun H locs hP hD hS => ?_)
  have hP : va_P (dC, dI) classes [(h0, .inr (5, [.int 0, v1, v2, v3, v4, v5, v6, v7, v8, v9, v10, v11, v12, v13, v14, v15])), (h1, .inl (cB, 3000, .inl f0)), (h2, .inr (8, [w0, w1, w2, w3, w4, w5, w6, w7, w8, w9, w10, .int 0, w12, w13, w14, w15, w16]))] H := hP
  have hD : va_D A [(h0, .inr (5, [.int 0, v1, v2, v3, v4, v5, v6, v7, v8, v9, v10, v11, v12, v13, v14, v15])), (h1, .inl (cB, 3000, .inl f0)), (h2, .inr (8, [w0, w1, w2, w3, w4, w5, w6, w7, w8, w9, w10, .int 0, w12, w13, w14, w15, w16]))] := hD
  refine lv_aload_n hx hb dX5_take_5 rfl (lv_at hl 0 rfl) ?_
  refine lv_iconst (v := 0) hx hb dX5_take_6 (by decide) ?_
  refine va_put (D := (dC, dI)) (ci := 5) (v := .int 0) (ty := .int) (C := RX5) (T := TX5) (N := 16) hx hb hts inX5 tyX5 tyX5_ok nmX5 hown hK hP hD hS 0 rfl rfl 1 (by decide) (hts _ wd_6) (fun _ h9 => h9) rfl (by decide +kernel) rfl rfl (Nat.le_of_ble_eq_true rfl) dX5_take_7 (fun H locs hP hD hS => ?_)
  have hP : va_P (dC, dI) classes [(h0, .inr (5, [.int 0, .int 0, v2, v3, v4, v5, v6, v7, v8, v9, v10, v11, v12, v13, v14, v15])), (h1, .inl (cB, 3000, .inl f0)), (h2, .inr (8, [w0, w1, w2, w3, w4, w5, w6, w7, w8, w9, w10, .int 0, w12, w13, w14, w15, w16]))] H := hP
  have hD : va_D A [(h0, .inr (5, [.int 0, .int 0, v2, v3, v4, v5, v6, v7, v8, v9, v10, v11, v12, v13, v14, v15])), (h1, .inl (cB, 3000, .inl f0)), (h2, .inr (8, [w0, w1, w2, w3, w4, w5, w6, w7, w8, w9, w10, .int 0, w12, w13, w14, w15, w16]))] := hD
  refine lv_aload_n hx hb dX5_take_10 rfl (lv_at hl 0 rfl) ?_
  refine lv_aload_n hx hb dX5_take_11 rfl (lv_at hl 1 rfl) ?_
  refine va_put (D := (dC, dI)) (ci := 5) (v := .ref h1) (ty := (.array .byte)) (C := RX5) (T := TX5) (N := 16) hx hb hts inX5 tyX5 tyX5_ok nmX5 hown hK hP hD hS 0 rfl rfl 2 (by decide) (hts _ wd_7) (fun _ h9 => h9) rfl (by decide +kernel) rfl rfl (Nat.le_of_ble_eq_true rfl) dX5_take_12 (fun H locs hP hD hS => ?_)
  have hP : va_P (dC, dI) classes [(h0, .inr (5, [.int 0, .int 0, .ref h1, v3, v4, v5, v6, v7, v8, v9, v10, v11, v12, v13, v14, v15])), (h1, .inl (cB, 3000, .inl f0)), (h2, .inr (8, [w0, w1, w2, w3, w4, w5, w6, w7, w8, w9, w10, .int 0, w12, w13, w14, w15, w16]))] H := hP
  have hD : va_D A [(h0, .inr (5, [.int 0, .int 0, .ref h1, v3, v4, v5, v6, v7, v8, v9, v10, v11, v12, v13, v14, v15])), (h1, .inl (cB, 3000, .inl f0)), (h2, .inr (8, [w0, w1, w2, w3, w4, w5, w6, w7, w8, w9, w10, .int 0, w12, w13, w14, w15, w16]))] := hD
  refine lv_aload_n hx hb dX5_take_15 rfl (lv_at hl 0 rfl) ?_
  refine lv_aload_n hx hb dX5_take_16 rfl (lv_at hl 1 rfl) ?_
  refine lv_iconst (v := 0) hx hb dX5_take_17 (by decide) ?_
  refine lv_iload_n hx hb dX5_take_18 rfl (lv_at hl 2 rfl) ?_
  have hPc := hP.sub (ws' := [(h1, .inl (cB, 3000, .inl f0))]) [1] rfl
  have hDc := hD.sub (ws' := [(h1, .inl (cB, 3000, .inl f0))]) [1] (by decide) rfl
  have hKc := hK.sub (tys' := [(cB, .byte)]) [0] rfl
  have hFc := va_free (wc := [(h1, .inl (cB, 3000, .inl f0))]) hD hS hA [1] rfl
  refine va_calli (va_runS (As := [.ref h1, .int 0, .int 0]) (rest := [.ref h0]) ⟨hx, hb, hml, hown, hts⟩ (c_isRun l dC dI h1 cB f0 H.size) (va_cwS 3 hts (goSW wd_273 wd_272 wd_274 wd_271) rfl rfl rfl (by decide +kernel) ⟨Nat.le_of_ble_eq_true rfl, Nat.le_of_ble_eq_true rfl⟩) ⟨blind5, fun U hU hW => ⟨rfl, pre5 hU hW hPc hKc hDc hE⟩⟩ rfl rfl hl.1 rfl (lv_room (Nat.le_of_ble_eq_true rfl)) dX5_take_19 ⟨Nat.le_of_ble_eq_true rfl, Nat.le_of_ble_eq_true rfl⟩) hS (fun q _ h => hFc q h) hFc (fun r221 u t H1 locs ht hvm hw hB hz1 hk1 hS => ?_)
  obtain rfl : r221 = 1 := hw
  obtain ⟨hP1, hK1, hD1⟩ := hB
  rw [ht] at hP1
  have hK1 := va_K.moved hvm.symm hK1
  obtain ⟨hP, hD⟩ := va_join (wr := [(h0, .inr (5, [.int 0, .int 0, .ref h1, v3, v4, v5, v6, v7, v8, v9, v10, v11, v12, v13, v14, v15])), (h2, .inr (8, [w0, w1, w2, w3, w4, w5, w6, w7, w8, w9, w10, .int 0, w12, w13, w14, w15, w16]))]) (w1 := [(h1, .inl (cB, 3000, .inl f0))]) hP hD [1] [0, 2] rfl rfl (by decide) (by decide) hk1 hFc hP1 hD1
  have hK := (hK.sub (tys' := []) [] rfl).app hK1
  generalize H1 = H at hP hS ⊢
  have hK : va_K (dC, dI) classes [(cB, .byte)] s := hK
  have hP : va_P (dC, dI) classes [(h0, .inr (5, [.int 0, .int 0, .ref h1, v3, v4, v5, v6, v7, v8, v9, v10, v11, v12, v13, v14, v15])), (h2, .inr (8, [w0, w1, w2, w3, w4, w5, w6, w7, w8, w9, w10, .int 0, w12, w13, w14, w15, w16])), (h1, .inl (cB, 3000, .inl f0))] H := hP
  have hD : va_D A [(h0, .inr (5, [.int 0, .int 0, .ref h1, v3, v4, v5, v6, v7, v8, v9, v10, v11, v12, v13, v14, v15])), (h2, .inr (8, [w0, w1, w2, w3, w4, w5, w6, w7, w8, w9, w10, .int 0, w12, w13, w14, w15, w16])), (h1, .inl (cB, 3000, .inl f0))] := hD
  refine lv_if_eq (tgt := 29) hx hb dX5_take_22 (by decide) (fun hc => absurd hc (by decide)) (fun _ => ?_)
  refine lv_iload_n hx hb dX5_take_25 rfl (lv_at hl 2 rfl) ?_
  refine lv_goto (tgt := 30) hx hb dX5_take_26 (by decide) ?_
  refine va_put (D := (dC, dI)) (ci := 5) (v := .int 0) (ty := .int) (C := RX5) (T := TX5) (N := 16) hx hb hts inX5 tyX5 tyX5_ok nmX5 hown hK hP hD hS 0 rfl rfl 3 (by decide) (hts _ wd_8) (fun _ h9 => h9) rfl (by decide +kernel) rfl rfl (Nat.le_of_ble_eq_true rfl) dX5_take_30 (fun H locs hP hD hS => ?_)
  have hP : va_P (dC, dI) classes [(h0, .inr (5, [.int 0, .int 0, .ref h1, .int 0, v4, v5, v6, v7, v8, v9, v10, v11, v12, v13, v14, v15])), (h2, .inr (8, [w0, w1, w2, w3, w4, w5, w6, w7, w8, w9, w10, .int 0, w12, w13, w14, w15, w16])), (h1, .inl (cB, 3000, .inl f0))] H := hP
  have hD : va_D A [(h0, .inr (5, [.int 0, .int 0, .ref h1, .int 0, v4, v5, v6, v7, v8, v9, v10, v11, v12, v13, v14, v15])), (h2, .inr (8, [w0, w1, w2, w3, w4, w5, w6, w7, w8, w9, w10, .int 0, w12, w13, w14, w15, w16])), (h1, .inl (cB, 3000, .inl f0))] := hD
  refine lv_aload_n hx hb dX5_take_33 rfl (lv_at hl 0 rfl) ?_
  refine lv_aload_n hx hb dX5_take_34 rfl (lv_at hl 3 rfl) ?_
  refine va_put (D := (dC, dI)) (ci := 5) (v := .ref h2) (ty := (.object "SpineTables$Table")) (C := RX5) (T := TX5) (N := 16) hx hb hts inX5 tyX5 tyX5_ok nmX5 hown hK hP hD hS 0 rfl rfl 4 (by decide) (hts _ wd_9) (fun _ h9 => h9) rfl (by decide +kernel) rfl rfl (Nat.le_of_ble_eq_true rfl) dX5_take_35 (fun H locs hP hD hS => ?_)
  have hP : va_P (dC, dI) classes [(h0, .inr (5, [.int 0, .int 0, .ref h1, .int 0, .ref h2, v5, v6, v7, v8, v9, v10, v11, v12, v13, v14, v15])), (h2, .inr (8, [w0, w1, w2, w3, w4, w5, w6, w7, w8, w9, w10, .int 0, w12, w13, w14, w15, w16])), (h1, .inl (cB, 3000, .inl f0))] H := hP
  have hD : va_D A [(h0, .inr (5, [.int 0, .int 0, .ref h1, .int 0, .ref h2, v5, v6, v7, v8, v9, v10, v11, v12, v13, v14, v15])), (h2, .inr (8, [w0, w1, w2, w3, w4, w5, w6, w7, w8, w9, w10, .int 0, w12, w13, w14, w15, w16])), (h1, .inl (cB, 3000, .inl f0))] := hD
  refine lv_iconst (v := 0) hx hb dX5_take_38 (by decide) ?_
  refine lv_istore (lv' := [(4, .int 0), (0, .ref h0), (1, .ref h1), (2, .int 0), (3, .ref h2)]) hx hb dX5_take_39 hl (by decide) rfl (fun ls hl => ?_)
  refine lv_iconst (v := 0) hx hb dX5_take_41 (by decide) ?_
  refine lv_istore (lv' := [(5, .int 0), (4, .int 0), (0, .ref h0), (1, .ref h1), (2, .int 0), (3, .ref h2)]) hx hb dX5_take_42 hl (by decide) rfl (fun ls hl => ?_)
  refine lv_iload hx hb dX5_take_44 (lv_at hl 0 rfl) ?_
  refine lv_sipush (v := 200) hx hb dX5_take_46 (by decide) ?_
  refine lv_icmp_gt (tgt := 150) hx hb dX5_take_49 (by decide) (fun hc => absurd hc (by decide)) (fun _ => ?_)
  refine lv_iload hx hb dX5_take_52 (lv_at hl 1 rfl) ?_
  refine lv_aload_n hx hb dX5_take_54 rfl (lv_at hl 2 rfl) ?_
  refine va_get (D := (dC, dI)) (ci := 5) (v := .int 0) (C := RX5) (T := TX5) (N := 16) hx hb hts inX5 hown hK hP 0 rfl rfl 3 (by decide) (hts _ wd_8) (fun _ h9 => h9) rfl dX5_take_55 ?_
  refine lv_icmp_ge (tgt := 150) hx hb dX5_take_58 (by decide) (fun _ => ?_) (fun hc => absurd (by decide) hc)
  refine lv_aload_n hx hb dX5_take_150 rfl (lv_at hl 2 rfl) ?_
  refine va_get (D := (dC, dI)) (ci := 5) (v := .int 0) (C := RX5) (T := TX5) (N := 16) hx hb hts inX5 hown hK hP 0 rfl rfl 0 (by decide) (hts _ wd_5) (fun _ h9 => h9) rfl dX5_take_151 ?_
  refine lv_if_ne (tgt := 177) hx hb dX5_take_154 (by decide) (fun hc => absurd hc (by decide)) (fun _ => ?_)
  refine lv_aload_n hx hb dX5_take_157 rfl (lv_at hl 2 rfl) ?_
  refine va_get (D := (dC, dI)) (ci := 5) (v := .ref h2) (C := RX5) (T := TX5) (N := 16) hx hb hts inX5 hown hK hP 0 rfl rfl 4 (by decide) (hts _ wd_9) (fun _ h9 => h9) rfl dX5_take_158 ?_
  refine va_get (D := (dC, dI)) (ci := 8) (v := .int 0) (C := RX8) (T := TX8) (N := 17) hx hb hts inX8 hown hK hP 1 rfl rfl 11 (by decide) (hts _ wd_275) (fun _ h9 => h9) rfl dX5_take_161 ?_
  refine lv_if_le (tgt := 177) hx hb dX5_take_164 (by decide) (fun _ => ?_) (fun hc => absurd (by decide) hc)
  refine lv_aload_n hx hb dX5_take_177 rfl (lv_at hl 2 rfl) ?_
  refine va_get (D := (dC, dI)) (ci := 5) (v := .int 0) (C := RX5) (T := TX5) (N := 16) hx hb hts inX5 hown hK hP 0 rfl rfl 0 (by decide) (hts _ wd_5) (fun _ h9 => h9) rfl dX5_take_178 ?_
  refine lv_if_ne (tgt := 188) hx hb dX5_take_181 (by decide) (fun hc => absurd hc (by decide)) (fun _ => ?_)
  refine lv_iconst (v := 1) hx hb dX5_take_184 (by decide) ?_
  refine lv_goto (tgt := 189) hx hb dX5_take_185 (by decide) ?_
  have hP9 := hP.sub (ws' := [(h0, .inr (5, [.int 0, .int 0, .ref h1, .int 0, .ref h2, v5, v6, v7, v8, v9, v10, v11, v12, v13, v14, v15])), (h2, .inr (8, [w0, w1, w2, w3, w4, w5, w6, w7, w8, w9, w10, .int 0, w12, w13, w14, w15, w16]))]) [0, 1] rfl
  have hD9 := hD.sub (ws' := [(h0, .inr (5, [.int 0, .int 0, .ref h1, .int 0, .ref h2, v5, v6, v7, v8, v9, v10, v11, v12, v13, v14, v15])), (h2, .inr (8, [w0, w1, w2, w3, w4, w5, w6, w7, w8, w9, w10, .int 0, w12, w13, w14, w15, w16]))]) [0, 1] (by decide) rfl
  have hK9 := hK.sub (tys' := []) [] rfl
  refine W.widen (k := 0) (n := 0) (Nat.le_of_ble_eq_true rfl) (Nat.le_of_ble_eq_true rfl) ?_
  exact W.zret (v := 1) hx hb hr rfl (fun t ht hW => ⟨⟨1, (), rfl, rfl, by rw [ht]; exact hP9, va_K.moved hW.alike hK9, hD9⟩, hS.F ht⟩) hS.2.2 dX5_take_189
set_option maxHeartbeats 4000000 in
set_option maxRecDepth 100000 in
/-- fill -/
theorem c_fill (l : Launch) (dC : Nat → ClassId) (dI : Nat → Nat → Nat) (h0 : Nat) (h1 : Nat) (h2 : Nat) (u0 : Value) (u1 : Value) (u2 : Value) (u3 : Value) (u4 : Value) (u5 : Value) (w1 : Value) (w2 : Value) (w3 : Value) (w4 : Value) (w5 : Value) (w6 : Value) (w7 : Value) (w8 : Value) (w9 : Value) (w10 : Value) (w11 : Value) (w12 : Value) (w13 : Value) (w14 : Value) (w15 : Value) (w16 : Value) (v0 : Value) (v1 : Value) (v2 : Value) (v3 : Value) (v4 : Value) (v5 : Value) (v6 : Value) (v7 : Value) (v9 : Value) (v10 : Value) (sz : Nat) : Met l yX4_fill (.code yX4_fill cX4_fill 8 none :: wU) ({ frames := 0, cells := 0, slots := 0, locals := 0 } : Room) (va_Pc [.ref h0, .ref h1] (fun U => P5 dC dI [(h0, .inr (4, [u0, u1, u2, u3, u4, u5])), (h1, .inr (8, [.ref h2, w1, w2, w3, w4, w5, w6, w7, w8, w9, w10, w11, w12, w13, w14, w15, w16])), (h2, .inr (6, [v0, v1, v2, v3, v4, v5, v6, v7, .int 0, v9, v10]))] [] sz U)) (va_Qv (fun _ : Unit => True) (fun _ t => P3 dC dI (va_A [(h0, .inr (4, [u0, u1, u2, u3, u4, u5])), (h1, .inr (8, [.ref h2, w1, w2, w3, w4, w5, w6, w7, w8, w9, w10, w11, w12, w13, w14, w15, w16])), (h2, .inr (6, [v0, v1, v2, v3, v4, v5, v6, v7, .int 0, v9, v10]))] sz) [(h1, .inr (8, [.ref h2, w1, w2, w3, w4, w5, w6, w7, w8, w9, w10, w11, w12, w13, w14, w15, w16])), (h2, .inr (6, [v0, v1, v2, v3, v4, v5, v6, v7, .int 0, v9, v10]))] [] t) (va_A [(h0, .inr (4, [u0, u1, u2, u3, u4, u5])), (h1, .inr (8, [.ref h2, w1, w2, w3, w4, w5, w6, w7, w8, w9, w10, w11, w12, w13, w14, w15, w16])), (h2, .inr (6, [v0, v1, v2, v3, v4, v5, v6, v7, .int 0, v9, v10]))] sz)) 0 0 (va_A [(h0, .inr (4, [u0, u1, u2, u3, u4, u5])), (h1, .inr (8, [.ref h2, w1, w2, w3, w4, w5, w6, w7, w8, w9, w10, w11, w12, w13, w14, w15, w16])), (h2, .inr (6, [v0, v1, v2, v3, v4, v5, v6, v7, .int 0, v9, v10]))] sz) := by
  refine Met.ofW (cc := cX4_fill) (maxL := 8) (ret := none) (by decide) rfl ?_
  intro p e s m args below meth c s₁ B hml hv
  obtain ⟨rfl, hsz, hP, hK, hD0, hE⟩ := hv
  have hx := B.exec
  have hb := B.bytes
  have hr := B.returns
  have hts0 := atoms_spec (ws := (.code yX4_fill cX4_fill 8 none :: wU)) B.pre
  have hts : ∀ w ∈ wU, w.before _ s = true := fun w h => hts0 w (List.mem_cons_of_mem _ h)
  have hown : s.vm.findClass "SpineTables$Lengths" = some m.cls := findClass_of_methodNamed B.named
  have hlocks := B.notSynchronized
  subst hsz
  have hD := hD0.self (sz := s.heap.size)
  generalize hAe : va_A [(h0, .inr (4, [u0, u1, u2, u3, u4, u5])), (h1, .inr (8, [.ref h2, w1, w2, w3, w4, w5, w6, w7, w8, w9, w10, w11, w12, w13, w14, w15, w16])), (h2, .inr (6, [v0, v1, v2, v3, v4, v5, v6, v7, .int 0, v9, v10]))] s.heap.size = A at hD ⊢
  have hA : ∀ q : Nat, s.heap.size ≤ q → A q := fun q h => by rw [← hAe]; exact Or.inr h
  have hP : va_P (dC, dI) classes [(h0, .inr (4, [u0, u1, u2, u3, u4, u5])), (h1, .inr (8, [.ref h2, w1, w2, w3, w4, w5, w6, w7, w8, w9, w10, w11, w12, w13, w14, w15, w16])), (h2, .inr (6, [v0, v1, v2, v3, v4, v5, v6, v7, .int 0, v9, v10]))] s.heap := hP
  have hl := lv_entry ([.ref h0, .ref h1]) (n := 8) (Nat.le_of_ble_eq_true rfl)
  rw [lg_entry_eq]
  generalize (lg_sl ([.ref h0, .ref h1]) ++ List.replicate (8 - (lg_sl ([.ref h0, .ref h1])).length) Slot.unset).toArray = ls at hl ⊢
  have hl : lv_has ls 8 [(0, .ref h0), (1, .ref h1)] := hl
  obtain ⟨H, hH⟩ : ∃ H, H = s.heap := ⟨_, rfl⟩
  rw [← hH] at hP
  have hS : va_S A s.heap H [] := by rw [hH]; exact va_S.rf
  refine w_heap hH ?_
  refine lv_aload_n hx hb dX4_fill_0 rfl (lv_at hl 1 rfl) ?_
  refine va_get (D := (dC, dI)) (ci := 8) (v := .ref h2) (C := RX8) (T := TX8) (N := 17) hx hb hts inX8 hown hK hP 1 rfl rfl 0 (by decide) (hts _ wd_276) (fun _ h9 => h9) rfl dX4_fill_1 ?_
  refine lv_astore_n (lv' := [(2, .ref h2), (0, .ref h0), (1, .ref h1)]) hx hb dX4_fill_4 rfl hl (by decide) rfl (fun ls hl => ?_)
  refine lv_iconst (v := 0) hx hb dX4_fill_5 (by decide) ?_
  refine lv_istore_n (lv' := [(3, .int 0), (2, .ref h2), (0, .ref h0), (1, .ref h1)]) hx hb dX4_fill_6 rfl hl (by decide) rfl (fun ls hl => ?_)
  refine lv_iload_n hx hb dX4_fill_7 rfl (lv_at hl 0 rfl) ?_
  refine lv_aload_n hx hb dX4_fill_8 rfl (lv_at hl 1 rfl) ?_
  refine va_get (D := (dC, dI)) (ci := 6) (v := .int 0) (C := RX6) (T := TX6) (N := 11) hx hb hts inX6 hown hK hP 2 rfl rfl 8 (by decide) (hts _ wd_277) (fun _ h9 => h9) rfl dX4_fill_9 ?_
  refine lv_icmp_ge (tgt := 107) hx hb dX4_fill_12 (by decide) (fun _ => ?_) (fun hc => absurd (by decide) hc)
  have hP9 := hP.sub (ws' := [(h1, .inr (8, [.ref h2, w1, w2, w3, w4, w5, w6, w7, w8, w9, w10, w11, w12, w13, w14, w15, w16])), (h2, .inr (6, [v0, v1, v2, v3, v4, v5, v6, v7, .int 0, v9, v10]))]) [1, 2] rfl
  have hD9 := hD.sub (ws' := [(h1, .inr (8, [.ref h2, w1, w2, w3, w4, w5, w6, w7, w8, w9, w10, w11, w12, w13, w14, w15, w16])), (h2, .inr (6, [v0, v1, v2, v3, v4, v5, v6, v7, .int 0, v9, v10]))]) [1, 2] (by decide) rfl
  have hK9 := hK.sub (tys' := []) [] rfl
  refine W.widen (k := 0) (n := 0) (Nat.le_of_ble_eq_true rfl) (Nat.le_of_ble_eq_true rfl) ?_
  exact W.vret hx hb hr (fun t ht hW => ⟨⟨(), rfl, trivial, by rw [ht]; exact hP9, va_K.moved hW.alike hK9, hD9⟩, hS.F ht⟩) hS.2.2 dX4_fill_107
set_option maxHeartbeats 4000000 in
set_option maxRecDepth 100000 in
/-- begin -/
theorem c_begin (l : Launch) (dC : Nat → ClassId) (dI : Nat → Nat → Nat) (h0 : Nat) (h1 : Nat) (h2 : Nat) (h3 : Nat) (u2 : Value) (u3 : Value) (u4 : Value) (u5 : Value) (u6 : Value) (u7 : Value) (u8 : Value) (w0 : Value) (w1 : Value) (w2 : Value) (w3 : Value) (w4 : Value) (w5 : Value) (w6 : Value) (w7 : Value) (w8 : Value) (w9 : Value) (w10 : Value) (w11 : Value) (w12 : Value) (w13 : Value) (w14 : Value) (w15 : Value) (w16 : Value) (c1 : ClassId) (f1 : Nat → Int32) (c2 : ClassId) (f2 : Nat → Int32) (sz : Nat) : Met l yX9_begin (.code yX9_begin cX9_begin 3 none :: wU) ({ frames := 0, cells := 0, slots := 0, locals := 0 } : Room) (va_Pc [.ref h0, .ref h1] (fun U => P5 dC dI [(h0, .inr (9, [.ref h2, .ref h3, u2, u3, u4, u5, u6, u7, u8])), (h1, .inr (8, [w0, w1, w2, w3, w4, w5, w6, w7, w8, w9, w10, w11, w12, w13, w14, w15, w16])), (h2, .inl (c1, 12, .inl f1)), (h3, .inl (c2, 12, .inl f2))] [(c1, .int), (c2, .int)] sz U)) (va_Qv (fun _ : Unit => True) (fun _ t => P3 dC dI (va_A [(h0, .inr (9, [.ref h2, .ref h3, u2, u3, u4, u5, u6, u7, u8])), (h1, .inr (8, [w0, w1, w2, w3, w4, w5, w6, w7, w8, w9, w10, w11, w12, w13, w14, w15, w16])), (h2, .inl (c1, 12, .inl f1)), (h3, .inl (c2, 12, .inl f2))] sz) [(h0, .inr (9, [.ref h2, .ref h3, u2, u3, u4, u5, .ref h1, .int 0, .int 1])), (h1, .inr (8, [w0, w1, w2, w3, w4, w5, w6, w7, w8, w9, w10, w11, w12, w13, w14, .int (-1), .int 0]))] [] t) (va_A [(h0, .inr (9, [.ref h2, .ref h3, u2, u3, u4, u5, u6, u7, u8])), (h1, .inr (8, [w0, w1, w2, w3, w4, w5, w6, w7, w8, w9, w10, w11, w12, w13, w14, w15, w16])), (h2, .inl (c1, 12, .inl f1)), (h3, .inl (c2, 12, .inl f2))] sz)) 0 0 (va_A [(h0, .inr (9, [.ref h2, .ref h3, u2, u3, u4, u5, u6, u7, u8])), (h1, .inr (8, [w0, w1, w2, w3, w4, w5, w6, w7, w8, w9, w10, w11, w12, w13, w14, w15, w16])), (h2, .inl (c1, 12, .inl f1)), (h3, .inl (c2, 12, .inl f2))] sz) := by
  refine Met.ofW (cc := cX9_begin) (maxL := 3) (ret := none) (by decide) rfl ?_
  intro p e s m args below meth c s₁ B hml hv
  obtain ⟨rfl, hsz, hP, hK, hD0, hE⟩ := hv
  have hx := B.exec
  have hb := B.bytes
  have hr := B.returns
  have hts0 := atoms_spec (ws := (.code yX9_begin cX9_begin 3 none :: wU)) B.pre
  have hts : ∀ w ∈ wU, w.before _ s = true := fun w h => hts0 w (List.mem_cons_of_mem _ h)
  have hown : s.vm.findClass "SpineTables$Walker" = some m.cls := findClass_of_methodNamed B.named
  have hlocks := B.notSynchronized
  subst hsz
  have hD := hD0.self (sz := s.heap.size)
  generalize hAe : va_A [(h0, .inr (9, [.ref h2, .ref h3, u2, u3, u4, u5, u6, u7, u8])), (h1, .inr (8, [w0, w1, w2, w3, w4, w5, w6, w7, w8, w9, w10, w11, w12, w13, w14, w15, w16])), (h2, .inl (c1, 12, .inl f1)), (h3, .inl (c2, 12, .inl f2))] s.heap.size = A at hD ⊢
  have hA : ∀ q : Nat, s.heap.size ≤ q → A q := fun q h => by rw [← hAe]; exact Or.inr h
  have hP : va_P (dC, dI) classes [(h0, .inr (9, [.ref h2, .ref h3, u2, u3, u4, u5, u6, u7, u8])), (h1, .inr (8, [w0, w1, w2, w3, w4, w5, w6, w7, w8, w9, w10, w11, w12, w13, w14, w15, w16])), (h2, .inl (c1, 12, .inl f1)), (h3, .inl (c2, 12, .inl f2))] s.heap := hP
  have hl := lv_entry ([.ref h0, .ref h1]) (n := 3) (Nat.le_of_ble_eq_true rfl)
  rw [lg_entry_eq]
  generalize (lg_sl ([.ref h0, .ref h1]) ++ List.replicate (3 - (lg_sl ([.ref h0, .ref h1])).length) Slot.unset).toArray = ls at hl ⊢
  have hl : lv_has ls 3 [(0, .ref h0), (1, .ref h1)] := hl
  obtain ⟨H, hH⟩ : ∃ H, H = s.heap := ⟨_, rfl⟩
  rw [← hH] at hP
  have hS : va_S A s.heap H [] := by rw [hH]; exact va_S.rf
  refine w_heap hH ?_
  refine lv_aload_n hx hb dX9_begin_0 rfl (lv_at hl 0 rfl) ?_
  refine lv_aload_n hx hb dX9_begin_1 rfl (lv_at hl 1 rfl) ?_
  refine va_put (D := (dC, dI)) (ci := 9) (v := .ref h1) (ty := (.object "SpineTables$Table")) (C := RX9) (T := TX9) (N := 9) hx hb hts inX9 tyX9 tyX9_ok nmX9 hown hK hP hD hS 0 rfl rfl 6 (by decide) (hts _ wd_34) (fun _ h9 => h9) rfl (by decide +kernel) rfl rfl (Nat.le_of_ble_eq_true rfl) dX9_begin_2 (fun H locs hP hD hS => ?_)
  have hP : va_P (dC, dI) classes [(h0, .inr (9, [.ref h2, .ref h3, u2, u3, u4, u5, .ref h1, u7, u8])), (h1, .inr (8, [w0, w1, w2, w3, w4, w5, w6, w7, w8, w9, w10, w11, w12, w13, w14, w15, w16])), (h2, .inl (c1, 12, .inl f1)), (h3, .inl (c2, 12, .inl f2))] H := hP
  have hD : va_D A [(h0, .inr (9, [.ref h2, .ref h3, u2, u3, u4, u5, .ref h1, u7, u8])), (h1, .inr (8, [w0, w1, w2, w3, w4, w5, w6, w7, w8, w9, w10, w11, w12, w13, w14, w15, w16])), (h2, .inl (c1, 12, .inl f1)), (h3, .inl (c2, 12, .inl f2))] := hD
  refine lv_aload_n hx hb dX9_begin_5 rfl (lv_at hl 1 rfl) ?_
  refine lv_iconst (v := -1) hx hb dX9_begin_6 (by decide) ?_
  refine va_put (D := (dC, dI)) (ci := 8) (v := .int (-1)) (ty := .int) (C := RX8) (T := TX8) (N := 17) hx hb hts inX8 tyX8 tyX8_ok nmX8 hown hK hP hD hS 1 rfl rfl 15 (by decide) (hts _ wd_278) (fun _ h9 => h9) rfl (by decide +kernel) rfl rfl (Nat.le_of_ble_eq_true rfl) dX9_begin_7 (fun H locs hP hD hS => ?_)
  have hP : va_P (dC, dI) classes [(h0, .inr (9, [.ref h2, .ref h3, u2, u3, u4, u5, .ref h1, u7, u8])), (h1, .inr (8, [w0, w1, w2, w3, w4, w5, w6, w7, w8, w9, w10, w11, w12, w13, w14, .int (-1), w16])), (h2, .inl (c1, 12, .inl f1)), (h3, .inl (c2, 12, .inl f2))] H := hP
  have hD : va_D A [(h0, .inr (9, [.ref h2, .ref h3, u2, u3, u4, u5, .ref h1, u7, u8])), (h1, .inr (8, [w0, w1, w2, w3, w4, w5, w6, w7, w8, w9, w10, w11, w12, w13, w14, .int (-1), w16])), (h2, .inl (c1, 12, .inl f1)), (h3, .inl (c2, 12, .inl f2))] := hD
  refine lv_aload_n hx hb dX9_begin_10 rfl (lv_at hl 1 rfl) ?_
  refine lv_iconst (v := 0) hx hb dX9_begin_11 (by decide) ?_
  refine va_put (D := (dC, dI)) (ci := 8) (v := .int 0) (ty := .int) (C := RX8) (T := TX8) (N := 17) hx hb hts inX8 tyX8 tyX8_ok nmX8 hown hK hP hD hS 1 rfl rfl 16 (by decide) (hts _ wd_279) (fun _ h9 => h9) rfl (by decide +kernel) rfl rfl (Nat.le_of_ble_eq_true rfl) dX9_begin_12 (fun H locs hP hD hS => ?_)
  have hP : va_P (dC, dI) classes [(h0, .inr (9, [.ref h2, .ref h3, u2, u3, u4, u5, .ref h1, u7, u8])), (h1, .inr (8, [w0, w1, w2, w3, w4, w5, w6, w7, w8, w9, w10, w11, w12, w13, w14, .int (-1), .int 0])), (h2, .inl (c1, 12, .inl f1)), (h3, .inl (c2, 12, .inl f2))] H := hP
  have hD : va_D A [(h0, .inr (9, [.ref h2, .ref h3, u2, u3, u4, u5, .ref h1, u7, u8])), (h1, .inr (8, [w0, w1, w2, w3, w4, w5, w6, w7, w8, w9, w10, w11, w12, w13, w14, .int (-1), .int 0])), (h2, .inl (c1, 12, .inl f1)), (h3, .inl (c2, 12, .inl f2))] := hD
  refine lv_aload_n hx hb dX9_begin_15 rfl (lv_at hl 0 rfl) ?_
  refine lv_iconst (v := 0) hx hb dX9_begin_16 (by decide) ?_
  refine va_put (D := (dC, dI)) (ci := 9) (v := .int 0) (ty := .int) (C := RX9) (T := TX9) (N := 9) hx hb hts inX9 tyX9 tyX9_ok nmX9 hown hK hP hD hS 0 rfl rfl 7 (by decide) (hts _ wd_35) (fun _ h9 => h9) rfl (by decide +kernel) rfl rfl (Nat.le_of_ble_eq_true rfl) dX9_begin_17 (fun H locs hP hD hS => ?_)
  have hP : va_P (dC, dI) classes [(h0, .inr (9, [.ref h2, .ref h3, u2, u3, u4, u5, .ref h1, .int 0, u8])), (h1, .inr (8, [w0, w1, w2, w3, w4, w5, w6, w7, w8, w9, w10, w11, w12, w13, w14, .int (-1), .int 0])), (h2, .inl (c1, 12, .inl f1)), (h3, .inl (c2, 12, .inl f2))] H := hP
  have hD : va_D A [(h0, .inr (9, [.ref h2, .ref h3, u2, u3, u4, u5, .ref h1, .int 0, u8])), (h1, .inr (8, [w0, w1, w2, w3, w4, w5, w6, w7, w8, w9, w10, w11, w12, w13, w14, .int (-1), .int 0])), (h2, .inl (c1, 12, .inl f1)), (h3, .inl (c2, 12, .inl f2))] := hD
  refine lv_aload_n hx hb dX9_begin_20 rfl (lv_at hl 0 rfl) ?_
  refine lv_iconst (v := 1) hx hb dX9_begin_21 (by decide) ?_
  refine va_put (D := (dC, dI)) (ci := 9) (v := .int 1) (ty := .int) (C := RX9) (T := TX9) (N := 9) hx hb hts inX9 tyX9 tyX9_ok nmX9 hown hK hP hD hS 0 rfl rfl 8 (by decide) (hts _ wd_36) (fun _ h9 => h9) rfl (by decide +kernel) rfl rfl (Nat.le_of_ble_eq_true rfl) dX9_begin_22 (fun H locs hP hD hS => ?_)
  have hP : va_P (dC, dI) classes [(h0, .inr (9, [.ref h2, .ref h3, u2, u3, u4, u5, .ref h1, .int 0, .int 1])), (h1, .inr (8, [w0, w1, w2, w3, w4, w5, w6, w7, w8, w9, w10, w11, w12, w13, w14, .int (-1), .int 0])), (h2, .inl (c1, 12, .inl f1)), (h3, .inl (c2, 12, .inl f2))] H := hP
  have hD : va_D A [(h0, .inr (9, [.ref h2, .ref h3, u2, u3, u4, u5, .ref h1, .int 0, .int 1])), (h1, .inr (8, [w0, w1, w2, w3, w4, w5, w6, w7, w8, w9, w10, w11, w12, w13, w14, .int (-1), .int 0])), (h2, .inl (c1, 12, .inl f1)), (h3, .inl (c2, 12, .inl f2))] := hD
  refine lv_iconst (v := 0) hx hb dX9_begin_25 (by decide) ?_
  refine lv_istore_n (lv' := [(2, .int 0), (0, .ref h0), (1, .ref h1)]) hx hb dX9_begin_26 rfl hl (by decide) rfl (fun ls hl => ?_)
  refine lv_iload_n hx hb dX9_begin_27 rfl (lv_at hl 0 rfl) ?_
  refine lv_bipush (v := 12) hx hb dX9_begin_28 (by decide) ?_
  refine lv_icmp_ge (tgt := 53) hx hb dX9_begin_30 (by decide) (fun hc => absurd hc (by decide)) (fun _ => ?_)
  refine lv_aload_n hx hb dX9_begin_33 rfl (lv_at hl 1 rfl) ?_
  refine va_get (D := (dC, dI)) (ci := 9) (v := .ref h2) (C := RX9) (T := TX9) (N := 9) hx hb hts inX9 hown hK hP 0 rfl rfl 0 (by decide) (hts _ wd_23) (fun _ h9 => h9) rfl dX9_begin_34 ?_
  refine lv_iload_n hx hb dX9_begin_37 rfl (lv_at hl 0 rfl) ?_
  refine lv_iconst (v := 0) hx hb dX9_begin_38 (by decide) ?_
  refine va_iast hx hb hK hP hD hS 2 0 rfl rfl (by unfold vp_in; decide) dX9_begin_39 (fun H locs hP hD hS => ?_)
  generalize upd f1 _ _ = f222 at hP hD
  have hP : va_P (dC, dI) classes [(h0, .inr (9, [.ref h2, .ref h3, u2, u3, u4, u5, .ref h1, .int 0, .int 1])), (h1, .inr (8, [w0, w1, w2, w3, w4, w5, w6, w7, w8, w9, w10, w11, w12, w13, w14, .int (-1), .int 0])), (h2, .inl (c1, 12, .inl f222)), (h3, .inl (c2, 12, .inl f2))] H := hP
  have hD : va_D A [(h0, .inr (9, [.ref h2, .ref h3, u2, u3, u4, u5, .ref h1, .int 0, .int 1])), (h1, .inr (8, [w0, w1, w2, w3, w4, w5, w6, w7, w8, w9, w10, w11, w12, w13, w14, .int (-1), .int 0])), (h2, .inl (c1, 12, .inl f222)), (h3, .inl (c2, 12, .inl f2))] := hD
  refine lv_aload_n hx hb dX9_begin_40 rfl (lv_at hl 1 rfl) ?_
  refine va_get (D := (dC, dI)) (ci := 9) (v := .ref h3) (C := RX9) (T := TX9) (N := 9) hx hb hts inX9 hown hK hP 0 rfl rfl 1 (by decide) (hts _ wd_24) (fun _ h9 => h9) rfl dX9_begin_41 ?_
  refine lv_iload_n hx hb dX9_begin_44 rfl (lv_at hl 0 rfl) ?_
  refine lv_iconst (v := 1) hx hb dX9_begin_45 (by decide) ?_
  refine va_iast hx hb hK hP hD hS 3 1 rfl rfl (by unfold vp_in; decide) dX9_begin_46 (fun H locs hP hD hS => ?_)
  generalize upd f2 _ _ = f223 at hP hD
  have hP : va_P (dC, dI) classes [(h0, .inr (9, [.ref h2, .ref h3, u2, u3, u4, u5, .ref h1, .int 0, .int 1])), (h1, .inr (8, [w0, w1, w2, w3, w4, w5, w6, w7, w8, w9, w10, w11, w12, w13, w14, .int (-1), .int 0])), (h2, .inl (c1, 12, .inl f222)), (h3, .inl (c2, 12, .inl f223))] H := hP
  have hD : va_D A [(h0, .inr (9, [.ref h2, .ref h3, u2, u3, u4, u5, .ref h1, .int 0, .int 1])), (h1, .inr (8, [w0, w1, w2, w3, w4, w5, w6, w7, w8, w9, w10, w11, w12, w13, w14, .int (-1), .int 0])), (h2, .inl (c1, 12, .inl f222)), (h3, .inl (c2, 12, .inl f223))] := hD
  refine lv_iinc (v := 1) (lv' := [(2, .int 1), (0, .ref h0), (1, .ref h1)]) hx hb dX9_begin_47 hl (k := 0) rfl (by decide) (by decide) rfl (fun ls hl => ?_)
  refine lv_goto (tgt := 27) hx hb dX9_begin_50 (by decide) ?_
  refine lv_iload_n hx hb dX9_begin_27 rfl (lv_at hl 0 rfl) ?_
  refine lv_bipush (v := 12) hx hb dX9_begin_28 (by decide) ?_
  refine lv_icmp_ge (tgt := 53) hx hb dX9_begin_30 (by decide) (fun hc => absurd hc (by decide)) (fun _ => ?_)
  refine lv_aload_n hx hb dX9_begin_33 rfl (lv_at hl 1 rfl) ?_
  refine va_get (D := (dC, dI)) (ci := 9) (v := .ref h2) (C := RX9) (T := TX9) (N := 9) hx hb hts inX9 hown hK hP 0 rfl rfl 0 (by decide) (hts _ wd_23) (fun _ h9 => h9) rfl dX9_begin_34 ?_
  refine lv_iload_n hx hb dX9_begin_37 rfl (lv_at hl 0 rfl) ?_
  refine lv_iconst (v := 0) hx hb dX9_begin_38 (by decide) ?_
  refine va_iast hx hb hK hP hD hS 2 0 rfl rfl (by unfold vp_in; decide) dX9_begin_39 (fun H locs hP hD hS => ?_)
  generalize upd f222 _ _ = f224 at hP hD
  have hP : va_P (dC, dI) classes [(h0, .inr (9, [.ref h2, .ref h3, u2, u3, u4, u5, .ref h1, .int 0, .int 1])), (h1, .inr (8, [w0, w1, w2, w3, w4, w5, w6, w7, w8, w9, w10, w11, w12, w13, w14, .int (-1), .int 0])), (h2, .inl (c1, 12, .inl f224)), (h3, .inl (c2, 12, .inl f223))] H := hP
  have hD : va_D A [(h0, .inr (9, [.ref h2, .ref h3, u2, u3, u4, u5, .ref h1, .int 0, .int 1])), (h1, .inr (8, [w0, w1, w2, w3, w4, w5, w6, w7, w8, w9, w10, w11, w12, w13, w14, .int (-1), .int 0])), (h2, .inl (c1, 12, .inl f224)), (h3, .inl (c2, 12, .inl f223))] := hD
  refine lv_aload_n hx hb dX9_begin_40 rfl (lv_at hl 1 rfl) ?_
  refine va_get (D := (dC, dI)) (ci := 9) (v := .ref h3) (C := RX9) (T := TX9) (N := 9) hx hb hts inX9 hown hK hP 0 rfl rfl 1 (by decide) (hts _ wd_24) (fun _ h9 => h9) rfl dX9_begin_41 ?_
  refine lv_iload_n hx hb dX9_begin_44 rfl (lv_at hl 0 rfl) ?_
  refine lv_iconst (v := 1) hx hb dX9_begin_45 (by decide) ?_
  refine va_iast hx hb hK hP hD hS 3 1 rfl rfl (by unfold vp_in; decide) dX9_begin_46 (fun H locs hP hD hS => ?_)
  generalize upd f223 _ _ = f225 at hP hD
  have hP : va_P (dC, dI) classes [(h0, .inr (9, [.ref h2, .ref h3, u2, u3, u4, u5, .ref h1, .int 0, .int 1])), (h1, .inr (8, [w0, w1, w2, w3, w4, w5, w6, w7, w8, w9, w10, w11, w12, w13, w14, .int (-1), .int 0])), (h2, .inl (c1, 12, .inl f224)), (h3, .inl (c2, 12, .inl f225))] H := hP
  have hD : va_D A [(h0, .inr (9, [.ref h2, .ref h3, u2, u3, u4, u5, .ref h1, .int 0, .int 1])), (h1, .inr (8, [w0, w1, w2, w3, w4, w5, w6, w7, w8, w9, w10, w11, w12, w13, w14, .int (-1), .int 0])), (h2, .inl (c1, 12, .inl f224)), (h3, .inl (c2, 12, .inl f225))] := hD
  refine lv_iinc (v := 2) (lv' := [(2, .int 2), (0, .ref h0), (1, .ref h1)]) hx hb dX9_begin_47 hl (k := 0) rfl (by decide) (by decide) rfl (fun ls hl => ?_)
  refine lv_goto (tgt := 27) hx hb dX9_begin_50 (by decide) ?_
  refine lv_iload_n hx hb dX9_begin_27 rfl (lv_at hl 0 rfl) ?_
  refine lv_bipush (v := 12) hx hb dX9_begin_28 (by decide) ?_
  refine lv_icmp_ge (tgt := 53) hx hb dX9_begin_30 (by decide) (fun hc => absurd hc (by decide)) (fun _ => ?_)
  refine lv_aload_n hx hb dX9_begin_33 rfl (lv_at hl 1 rfl) ?_
  refine va_get (D := (dC, dI)) (ci := 9) (v := .ref h2) (C := RX9) (T := TX9) (N := 9) hx hb hts inX9 hown hK hP 0 rfl rfl 0 (by decide) (hts _ wd_23) (fun _ h9 => h9) rfl dX9_begin_34 ?_
  refine lv_iload_n hx hb dX9_begin_37 rfl (lv_at hl 0 rfl) ?_
  refine lv_iconst (v := 0) hx hb dX9_begin_38 (by decide) ?_
  refine va_iast hx hb hK hP hD hS 2 0 rfl rfl (by unfold vp_in; decide) dX9_begin_39 (fun H locs hP hD hS => ?_)
  generalize upd f224 _ _ = f226 at hP hD
  have hP : va_P (dC, dI) classes [(h0, .inr (9, [.ref h2, .ref h3, u2, u3, u4, u5, .ref h1, .int 0, .int 1])), (h1, .inr (8, [w0, w1, w2, w3, w4, w5, w6, w7, w8, w9, w10, w11, w12, w13, w14, .int (-1), .int 0])), (h2, .inl (c1, 12, .inl f226)), (h3, .inl (c2, 12, .inl f225))] H := hP
  have hD : va_D A [(h0, .inr (9, [.ref h2, .ref h3, u2, u3, u4, u5, .ref h1, .int 0, .int 1])), (h1, .inr (8, [w0, w1, w2, w3, w4, w5, w6, w7, w8, w9, w10, w11, w12, w13, w14, .int (-1), .int 0])), (h2, .inl (c1, 12, .inl f226)), (h3, .inl (c2, 12, .inl f225))] := hD
  refine lv_aload_n hx hb dX9_begin_40 rfl (lv_at hl 1 rfl) ?_
  refine va_get (D := (dC, dI)) (ci := 9) (v := .ref h3) (C := RX9) (T := TX9) (N := 9) hx hb hts inX9 hown hK hP 0 rfl rfl 1 (by decide) (hts _ wd_24) (fun _ h9 => h9) rfl dX9_begin_41 ?_
  refine lv_iload_n hx hb dX9_begin_44 rfl (lv_at hl 0 rfl) ?_
  refine lv_iconst (v := 1) hx hb dX9_begin_45 (by decide) ?_
  refine va_iast hx hb hK hP hD hS 3 1 rfl rfl (by unfold vp_in; decide) dX9_begin_46 (fun H locs hP hD hS => ?_)
  generalize upd f225 _ _ = f227 at hP hD
  have hP : va_P (dC, dI) classes [(h0, .inr (9, [.ref h2, .ref h3, u2, u3, u4, u5, .ref h1, .int 0, .int 1])), (h1, .inr (8, [w0, w1, w2, w3, w4, w5, w6, w7, w8, w9, w10, w11, w12, w13, w14, .int (-1), .int 0])), (h2, .inl (c1, 12, .inl f226)), (h3, .inl (c2, 12, .inl f227))] H := hP
  have hD : va_D A [(h0, .inr (9, [.ref h2, .ref h3, u2, u3, u4, u5, .ref h1, .int 0, .int 1])), (h1, .inr (8, [w0, w1, w2, w3, w4, w5, w6, w7, w8, w9, w10, w11, w12, w13, w14, .int (-1), .int 0])), (h2, .inl (c1, 12, .inl f226)), (h3, .inl (c2, 12, .inl f227))] := hD
  refine lv_iinc (v := 3) (lv' := [(2, .int 3), (0, .ref h0), (1, .ref h1)]) hx hb dX9_begin_47 hl (k := 0) rfl (by decide) (by decide) rfl (fun ls hl => ?_)
  refine lv_goto (tgt := 27) hx hb dX9_begin_50 (by decide) ?_
  refine lv_iload_n hx hb dX9_begin_27 rfl (lv_at hl 0 rfl) ?_
  refine lv_bipush (v := 12) hx hb dX9_begin_28 (by decide) ?_
  refine lv_icmp_ge (tgt := 53) hx hb dX9_begin_30 (by decide) (fun hc => absurd hc (by decide)) (fun _ => ?_)
  refine lv_aload_n hx hb dX9_begin_33 rfl (lv_at hl 1 rfl) ?_
  refine va_get (D := (dC, dI)) (ci := 9) (v := .ref h2) (C := RX9) (T := TX9) (N := 9) hx hb hts inX9 hown hK hP 0 rfl rfl 0 (by decide) (hts _ wd_23) (fun _ h9 => h9) rfl dX9_begin_34 ?_
  refine lv_iload_n hx hb dX9_begin_37 rfl (lv_at hl 0 rfl) ?_
  refine lv_iconst (v := 0) hx hb dX9_begin_38 (by decide) ?_
  refine va_iast hx hb hK hP hD hS 2 0 rfl rfl (by unfold vp_in; decide) dX9_begin_39 (fun H locs hP hD hS => ?_)
  generalize upd f226 _ _ = f228 at hP hD
  have hP : va_P (dC, dI) classes [(h0, .inr (9, [.ref h2, .ref h3, u2, u3, u4, u5, .ref h1, .int 0, .int 1])), (h1, .inr (8, [w0, w1, w2, w3, w4, w5, w6, w7, w8, w9, w10, w11, w12, w13, w14, .int (-1), .int 0])), (h2, .inl (c1, 12, .inl f228)), (h3, .inl (c2, 12, .inl f227))] H := hP
  have hD : va_D A [(h0, .inr (9, [.ref h2, .ref h3, u2, u3, u4, u5, .ref h1, .int 0, .int 1])), (h1, .inr (8, [w0, w1, w2, w3, w4, w5, w6, w7, w8, w9, w10, w11, w12, w13, w14, .int (-1), .int 0])), (h2, .inl (c1, 12, .inl f228)), (h3, .inl (c2, 12, .inl f227))] := hD
  refine lv_aload_n hx hb dX9_begin_40 rfl (lv_at hl 1 rfl) ?_
  refine va_get (D := (dC, dI)) (ci := 9) (v := .ref h3) (C := RX9) (T := TX9) (N := 9) hx hb hts inX9 hown hK hP 0 rfl rfl 1 (by decide) (hts _ wd_24) (fun _ h9 => h9) rfl dX9_begin_41 ?_
  refine lv_iload_n hx hb dX9_begin_44 rfl (lv_at hl 0 rfl) ?_
  refine lv_iconst (v := 1) hx hb dX9_begin_45 (by decide) ?_
  refine va_iast hx hb hK hP hD hS 3 1 rfl rfl (by unfold vp_in; decide) dX9_begin_46 (fun H locs hP hD hS => ?_)
  generalize upd f227 _ _ = f229 at hP hD
  have hP : va_P (dC, dI) classes [(h0, .inr (9, [.ref h2, .ref h3, u2, u3, u4, u5, .ref h1, .int 0, .int 1])), (h1, .inr (8, [w0, w1, w2, w3, w4, w5, w6, w7, w8, w9, w10, w11, w12, w13, w14, .int (-1), .int 0])), (h2, .inl (c1, 12, .inl f228)), (h3, .inl (c2, 12, .inl f229))] H := hP
  have hD : va_D A [(h0, .inr (9, [.ref h2, .ref h3, u2, u3, u4, u5, .ref h1, .int 0, .int 1])), (h1, .inr (8, [w0, w1, w2, w3, w4, w5, w6, w7, w8, w9, w10, w11, w12, w13, w14, .int (-1), .int 0])), (h2, .inl (c1, 12, .inl f228)), (h3, .inl (c2, 12, .inl f229))] := hD
  refine lv_iinc (v := 4) (lv' := [(2, .int 4), (0, .ref h0), (1, .ref h1)]) hx hb dX9_begin_47 hl (k := 0) rfl (by decide) (by decide) rfl (fun ls hl => ?_)
  refine lv_goto (tgt := 27) hx hb dX9_begin_50 (by decide) ?_
  refine lv_iload_n hx hb dX9_begin_27 rfl (lv_at hl 0 rfl) ?_
  refine lv_bipush (v := 12) hx hb dX9_begin_28 (by decide) ?_
  refine lv_icmp_ge (tgt := 53) hx hb dX9_begin_30 (by decide) (fun hc => absurd hc (by decide)) (fun _ => ?_)
  refine lv_aload_n hx hb dX9_begin_33 rfl (lv_at hl 1 rfl) ?_
  refine va_get (D := (dC, dI)) (ci := 9) (v := .ref h2) (C := RX9) (T := TX9) (N := 9) hx hb hts inX9 hown hK hP 0 rfl rfl 0 (by decide) (hts _ wd_23) (fun _ h9 => h9) rfl dX9_begin_34 ?_
  refine lv_iload_n hx hb dX9_begin_37 rfl (lv_at hl 0 rfl) ?_
  refine lv_iconst (v := 0) hx hb dX9_begin_38 (by decide) ?_
  refine va_iast hx hb hK hP hD hS 2 0 rfl rfl (by unfold vp_in; decide) dX9_begin_39 (fun H locs hP hD hS => ?_)
  generalize upd f228 _ _ = f230 at hP hD
  have hP : va_P (dC, dI) classes [(h0, .inr (9, [.ref h2, .ref h3, u2, u3, u4, u5, .ref h1, .int 0, .int 1])), (h1, .inr (8, [w0, w1, w2, w3, w4, w5, w6, w7, w8, w9, w10, w11, w12, w13, w14, .int (-1), .int 0])), (h2, .inl (c1, 12, .inl f230)), (h3, .inl (c2, 12, .inl f229))] H := hP
  have hD : va_D A [(h0, .inr (9, [.ref h2, .ref h3, u2, u3, u4, u5, .ref h1, .int 0, .int 1])), (h1, .inr (8, [w0, w1, w2, w3, w4, w5, w6, w7, w8, w9, w10, w11, w12, w13, w14, .int (-1), .int 0])), (h2, .inl (c1, 12, .inl f230)), (h3, .inl (c2, 12, .inl f229))] := hD
  refine lv_aload_n hx hb dX9_begin_40 rfl (lv_at hl 1 rfl) ?_
  refine va_get (D := (dC, dI)) (ci := 9) (v := .ref h3) (C := RX9) (T := TX9) (N := 9) hx hb hts inX9 hown hK hP 0 rfl rfl 1 (by decide) (hts _ wd_24) (fun _ h9 => h9) rfl dX9_begin_41 ?_
  refine lv_iload_n hx hb dX9_begin_44 rfl (lv_at hl 0 rfl) ?_
  refine lv_iconst (v := 1) hx hb dX9_begin_45 (by decide) ?_
  refine va_iast hx hb hK hP hD hS 3 1 rfl rfl (by unfold vp_in; decide) dX9_begin_46 (fun H locs hP hD hS => ?_)
  generalize upd f229 _ _ = f231 at hP hD
  have hP : va_P (dC, dI) classes [(h0, .inr (9, [.ref h2, .ref h3, u2, u3, u4, u5, .ref h1, .int 0, .int 1])), (h1, .inr (8, [w0, w1, w2, w3, w4, w5, w6, w7, w8, w9, w10, w11, w12, w13, w14, .int (-1), .int 0])), (h2, .inl (c1, 12, .inl f230)), (h3, .inl (c2, 12, .inl f231))] H := hP
  have hD : va_D A [(h0, .inr (9, [.ref h2, .ref h3, u2, u3, u4, u5, .ref h1, .int 0, .int 1])), (h1, .inr (8, [w0, w1, w2, w3, w4, w5, w6, w7, w8, w9, w10, w11, w12, w13, w14, .int (-1), .int 0])), (h2, .inl (c1, 12, .inl f230)), (h3, .inl (c2, 12, .inl f231))] := hD
  refine lv_iinc (v := 5) (lv' := [(2, .int 5), (0, .ref h0), (1, .ref h1)]) hx hb dX9_begin_47 hl (k := 0) rfl (by decide) (by decide) rfl (fun ls hl => ?_)
  refine lv_goto (tgt := 27) hx hb dX9_begin_50 (by decide) ?_
  refine lv_iload_n hx hb dX9_begin_27 rfl (lv_at hl 0 rfl) ?_
  refine lv_bipush (v := 12) hx hb dX9_begin_28 (by decide) ?_
  refine lv_icmp_ge (tgt := 53) hx hb dX9_begin_30 (by decide) (fun hc => absurd hc (by decide)) (fun _ => ?_)
  refine lv_aload_n hx hb dX9_begin_33 rfl (lv_at hl 1 rfl) ?_
  refine va_get (D := (dC, dI)) (ci := 9) (v := .ref h2) (C := RX9) (T := TX9) (N := 9) hx hb hts inX9 hown hK hP 0 rfl rfl 0 (by decide) (hts _ wd_23) (fun _ h9 => h9) rfl dX9_begin_34 ?_
  refine lv_iload_n hx hb dX9_begin_37 rfl (lv_at hl 0 rfl) ?_
  refine lv_iconst (v := 0) hx hb dX9_begin_38 (by decide) ?_
  refine va_iast hx hb hK hP hD hS 2 0 rfl rfl (by unfold vp_in; decide) dX9_begin_39 (fun H locs hP hD hS => ?_)
  generalize upd f230 _ _ = f232 at hP hD
  have hP : va_P (dC, dI) classes [(h0, .inr (9, [.ref h2, .ref h3, u2, u3, u4, u5, .ref h1, .int 0, .int 1])), (h1, .inr (8, [w0, w1, w2, w3, w4, w5, w6, w7, w8, w9, w10, w11, w12, w13, w14, .int (-1), .int 0])), (h2, .inl (c1, 12, .inl f232)), (h3, .inl (c2, 12, .inl f231))] H := hP
  have hD : va_D A [(h0, .inr (9, [.ref h2, .ref h3, u2, u3, u4, u5, .ref h1, .int 0, .int 1])), (h1, .inr (8, [w0, w1, w2, w3, w4, w5, w6, w7, w8, w9, w10, w11, w12, w13, w14, .int (-1), .int 0])), (h2, .inl (c1, 12, .inl f232)), (h3, .inl (c2, 12, .inl f231))] := hD
  refine lv_aload_n hx hb dX9_begin_40 rfl (lv_at hl 1 rfl) ?_
  refine va_get (D := (dC, dI)) (ci := 9) (v := .ref h3) (C := RX9) (T := TX9) (N := 9) hx hb hts inX9 hown hK hP 0 rfl rfl 1 (by decide) (hts _ wd_24) (fun _ h9 => h9) rfl dX9_begin_41 ?_
  refine lv_iload_n hx hb dX9_begin_44 rfl (lv_at hl 0 rfl) ?_
  refine lv_iconst (v := 1) hx hb dX9_begin_45 (by decide) ?_
  refine va_iast hx hb hK hP hD hS 3 1 rfl rfl (by unfold vp_in; decide) dX9_begin_46 (fun H locs hP hD hS => ?_)
  generalize upd f231 _ _ = f233 at hP hD
  have hP : va_P (dC, dI) classes [(h0, .inr (9, [.ref h2, .ref h3, u2, u3, u4, u5, .ref h1, .int 0, .int 1])), (h1, .inr (8, [w0, w1, w2, w3, w4, w5, w6, w7, w8, w9, w10, w11, w12, w13, w14, .int (-1), .int 0])), (h2, .inl (c1, 12, .inl f232)), (h3, .inl (c2, 12, .inl f233))] H := hP
  have hD : va_D A [(h0, .inr (9, [.ref h2, .ref h3, u2, u3, u4, u5, .ref h1, .int 0, .int 1])), (h1, .inr (8, [w0, w1, w2, w3, w4, w5, w6, w7, w8, w9, w10, w11, w12, w13, w14, .int (-1), .int 0])), (h2, .inl (c1, 12, .inl f232)), (h3, .inl (c2, 12, .inl f233))] := hD
  refine lv_iinc (v := 6) (lv' := [(2, .int 6), (0, .ref h0), (1, .ref h1)]) hx hb dX9_begin_47 hl (k := 0) rfl (by decide) (by decide) rfl (fun ls hl => ?_)
  refine lv_goto (tgt := 27) hx hb dX9_begin_50 (by decide) ?_
  refine lv_iload_n hx hb dX9_begin_27 rfl (lv_at hl 0 rfl) ?_
  refine lv_bipush (v := 12) hx hb dX9_begin_28 (by decide) ?_
  refine lv_icmp_ge (tgt := 53) hx hb dX9_begin_30 (by decide) (fun hc => absurd hc (by decide)) (fun _ => ?_)
  refine lv_aload_n hx hb dX9_begin_33 rfl (lv_at hl 1 rfl) ?_
  refine va_get (D := (dC, dI)) (ci := 9) (v := .ref h2) (C := RX9) (T := TX9) (N := 9) hx hb hts inX9 hown hK hP 0 rfl rfl 0 (by decide) (hts _ wd_23) (fun _ h9 => h9) rfl dX9_begin_34 ?_
  refine lv_iload_n hx hb dX9_begin_37 rfl (lv_at hl 0 rfl) ?_
  refine lv_iconst (v := 0) hx hb dX9_begin_38 (by decide) ?_
  refine va_iast hx hb hK hP hD hS 2 0 rfl rfl (by unfold vp_in; decide) dX9_begin_39 (fun H locs hP hD hS => ?_)
  generalize upd f232 _ _ = f234 at hP hD
  have hP : va_P (dC, dI) classes [(h0, .inr (9, [.ref h2, .ref h3, u2, u3, u4, u5, .ref h1, .int 0, .int 1])), (h1, .inr (8, [w0, w1, w2, w3, w4, w5, w6, w7, w8, w9, w10, w11, w12, w13, w14, .int (-1), .int 0])), (h2, .inl (c1, 12, .inl f234)), (h3, .inl (c2, 12, .inl f233))] H := hP
  have hD : va_D A [(h0, .inr (9, [.ref h2, .ref h3, u2, u3, u4, u5, .ref h1, .int 0, .int 1])), (h1, .inr (8, [w0, w1, w2, w3, w4, w5, w6, w7, w8, w9, w10, w11, w12, w13, w14, .int (-1), .int 0])), (h2, .inl (c1, 12, .inl f234)), (h3, .inl (c2, 12, .inl f233))] := hD
  refine lv_aload_n hx hb dX9_begin_40 rfl (lv_at hl 1 rfl) ?_
  refine va_get (D := (dC, dI)) (ci := 9) (v := .ref h3) (C := RX9) (T := TX9) (N := 9) hx hb hts inX9 hown hK hP 0 rfl rfl 1 (by decide) (hts _ wd_24) (fun _ h9 => h9) rfl dX9_begin_41 ?_
  refine lv_iload_n hx hb dX9_begin_44 rfl (lv_at hl 0 rfl) ?_
  refine lv_iconst (v := 1) hx hb dX9_begin_45 (by decide) ?_
  refine va_iast hx hb hK hP hD hS 3 1 rfl rfl (by unfold vp_in; decide) dX9_begin_46 (fun H locs hP hD hS => ?_)
  generalize upd f233 _ _ = f235 at hP hD
  have hP : va_P (dC, dI) classes [(h0, .inr (9, [.ref h2, .ref h3, u2, u3, u4, u5, .ref h1, .int 0, .int 1])), (h1, .inr (8, [w0, w1, w2, w3, w4, w5, w6, w7, w8, w9, w10, w11, w12, w13, w14, .int (-1), .int 0])), (h2, .inl (c1, 12, .inl f234)), (h3, .inl (c2, 12, .inl f235))] H := hP
  have hD : va_D A [(h0, .inr (9, [.ref h2, .ref h3, u2, u3, u4, u5, .ref h1, .int 0, .int 1])), (h1, .inr (8, [w0, w1, w2, w3, w4, w5, w6, w7, w8, w9, w10, w11, w12, w13, w14, .int (-1), .int 0])), (h2, .inl (c1, 12, .inl f234)), (h3, .inl (c2, 12, .inl f235))] := hD
  refine lv_iinc (v := 7) (lv' := [(2, .int 7), (0, .ref h0), (1, .ref h1)]) hx hb dX9_begin_47 hl (k := 0) rfl (by decide) (by decide) rfl (fun ls hl => ?_)
  refine lv_goto (tgt := 27) hx hb dX9_begin_50 (by decide) ?_
  refine lv_iload_n hx hb dX9_begin_27 rfl (lv_at hl 0 rfl) ?_
  refine lv_bipush (v := 12) hx hb dX9_begin_28 (by decide) ?_
  refine lv_icmp_ge (tgt := 53) hx hb dX9_begin_30 (by decide) (fun hc => absurd hc (by decide)) (fun _ => ?_)
  refine lv_aload_n hx hb dX9_begin_33 rfl (lv_at hl 1 rfl) ?_
  refine va_get (D := (dC, dI)) (ci := 9) (v := .ref h2) (C := RX9) (T := TX9) (N := 9) hx hb hts inX9 hown hK hP 0 rfl rfl 0 (by decide) (hts _ wd_23) (fun _ h9 => h9) rfl dX9_begin_34 ?_
  refine lv_iload_n hx hb dX9_begin_37 rfl (lv_at hl 0 rfl) ?_
  refine lv_iconst (v := 0) hx hb dX9_begin_38 (by decide) ?_
  refine va_iast hx hb hK hP hD hS 2 0 rfl rfl (by unfold vp_in; decide) dX9_begin_39 (fun H locs hP hD hS => ?_)
  generalize upd f234 _ _ = f236 at hP hD
  have hP : va_P (dC, dI) classes [(h0, .inr (9, [.ref h2, .ref h3, u2, u3, u4, u5, .ref h1, .int 0, .int 1])), (h1, .inr (8, [w0, w1, w2, w3, w4, w5, w6, w7, w8, w9, w10, w11, w12, w13, w14, .int (-1), .int 0])), (h2, .inl (c1, 12, .inl f236)), (h3, .inl (c2, 12, .inl f235))] H := hP
  have hD : va_D A [(h0, .inr (9, [.ref h2, .ref h3, u2, u3, u4, u5, .ref h1, .int 0, .int 1])), (h1, .inr (8, [w0, w1, w2, w3, w4, w5, w6, w7, w8, w9, w10, w11, w12, w13, w14, .int (-1), .int 0])), (h2, .inl (c1, 12, .inl f236)), (h3, .inl (c2, 12, .inl f235))] := hD
  refine lv_aload_n hx hb dX9_begin_40 rfl (lv_at hl 1 rfl) ?_
  refine va_get (D := (dC, dI)) (ci := 9) (v := .ref h3) (C := RX9) (T := TX9) (N := 9) hx hb hts inX9 hown hK hP 0 rfl rfl 1 (by decide) (hts _ wd_24) (fun _ h9 => h9) rfl dX9_begin_41 ?_
  refine lv_iload_n hx hb dX9_begin_44 rfl (lv_at hl 0 rfl) ?_
  refine lv_iconst (v := 1) hx hb dX9_begin_45 (by decide) ?_
  refine va_iast hx hb hK hP hD hS 3 1 rfl rfl (by unfold vp_in; decide) dX9_begin_46 (fun H locs hP hD hS => ?_)
  generalize upd f235 _ _ = f237 at hP hD
  have hP : va_P (dC, dI) classes [(h0, .inr (9, [.ref h2, .ref h3, u2, u3, u4, u5, .ref h1, .int 0, .int 1])), (h1, .inr (8, [w0, w1, w2, w3, w4, w5, w6, w7, w8, w9, w10, w11, w12, w13, w14, .int (-1), .int 0])), (h2, .inl (c1, 12, .inl f236)), (h3, .inl (c2, 12, .inl f237))] H := hP
  have hD : va_D A [(h0, .inr (9, [.ref h2, .ref h3, u2, u3, u4, u5, .ref h1, .int 0, .int 1])), (h1, .inr (8, [w0, w1, w2, w3, w4, w5, w6, w7, w8, w9, w10, w11, w12, w13, w14, .int (-1), .int 0])), (h2, .inl (c1, 12, .inl f236)), (h3, .inl (c2, 12, .inl f237))] := hD
  refine lv_iinc (v := 8) (lv' := [(2, .int 8), (0, .ref h0), (1, .ref h1)]) hx hb dX9_begin_47 hl (k := 0) rfl (by decide) (by decide) rfl (fun ls hl => ?_)
  refine lv_goto (tgt := 27) hx hb dX9_begin_50 (by decide) ?_
  refine lv_iload_n hx hb dX9_begin_27 rfl (lv_at hl 0 rfl) ?_
  refine lv_bipush (v := 12) hx hb dX9_begin_28 (by decide) ?_
  refine lv_icmp_ge (tgt := 53) hx hb dX9_begin_30 (by decide) (fun hc => absurd hc (by decide)) (fun _ => ?_)
  refine lv_aload_n hx hb dX9_begin_33 rfl (lv_at hl 1 rfl) ?_
  refine va_get (D := (dC, dI)) (ci := 9) (v := .ref h2) (C := RX9) (T := TX9) (N := 9) hx hb hts inX9 hown hK hP 0 rfl rfl 0 (by decide) (hts _ wd_23) (fun _ h9 => h9) rfl dX9_begin_34 ?_
  refine lv_iload_n hx hb dX9_begin_37 rfl (lv_at hl 0 rfl) ?_
  refine lv_iconst (v := 0) hx hb dX9_begin_38 (by decide) ?_
  refine va_iast hx hb hK hP hD hS 2 0 rfl rfl (by unfold vp_in; decide) dX9_begin_39 (fun H locs hP hD hS => ?_)
  generalize upd f236 _ _ = f238 at hP hD
  have hP : va_P (dC, dI) classes [(h0, .inr (9, [.ref h2, .ref h3, u2, u3, u4, u5, .ref h1, .int 0, .int 1])), (h1, .inr (8, [w0, w1, w2, w3, w4, w5, w6, w7, w8, w9, w10, w11, w12, w13, w14, .int (-1), .int 0])), (h2, .inl (c1, 12, .inl f238)), (h3, .inl (c2, 12, .inl f237))] H := hP
  have hD : va_D A [(h0, .inr (9, [.ref h2, .ref h3, u2, u3, u4, u5, .ref h1, .int 0, .int 1])), (h1, .inr (8, [w0, w1, w2, w3, w4, w5, w6, w7, w8, w9, w10, w11, w12, w13, w14, .int (-1), .int 0])), (h2, .inl (c1, 12, .inl f238)), (h3, .inl (c2, 12, .inl f237))] := hD
  refine lv_aload_n hx hb dX9_begin_40 rfl (lv_at hl 1 rfl) ?_
  refine va_get (D := (dC, dI)) (ci := 9) (v := .ref h3) (C := RX9) (T := TX9) (N := 9) hx hb hts inX9 hown hK hP 0 rfl rfl 1 (by decide) (hts _ wd_24) (fun _ h9 => h9) rfl dX9_begin_41 ?_
  refine lv_iload_n hx hb dX9_begin_44 rfl (lv_at hl 0 rfl) ?_
  refine lv_iconst (v := 1) hx hb dX9_begin_45 (by decide) ?_
  refine va_iast hx hb hK hP hD hS 3 1 rfl rfl (by unfold vp_in; decide) dX9_begin_46 (fun H locs hP hD hS => ?_)
  generalize upd f237 _ _ = f239 at hP hD
  have hP : va_P (dC, dI) classes [(h0, .inr (9, [.ref h2, .ref h3, u2, u3, u4, u5, .ref h1, .int 0, .int 1])), (h1, .inr (8, [w0, w1, w2, w3, w4, w5, w6, w7, w8, w9, w10, w11, w12, w13, w14, .int (-1), .int 0])), (h2, .inl (c1, 12, .inl f238)), (h3, .inl (c2, 12, .inl f239))] H := hP
  have hD : va_D A [(h0, .inr (9, [.ref h2, .ref h3, u2, u3, u4, u5, .ref h1, .int 0, .int 1])), (h1, .inr (8, [w0, w1, w2, w3, w4, w5, w6, w7, w8, w9, w10, w11, w12, w13, w14, .int (-1), .int 0])), (h2, .inl (c1, 12, .inl f238)), (h3, .inl (c2, 12, .inl f239))] := hD
  refine lv_iinc (v := 9) (lv' := [(2, .int 9), (0, .ref h0), (1, .ref h1)]) hx hb dX9_begin_47 hl (k := 0) rfl (by decide) (by decide) rfl (fun ls hl => ?_)
  refine lv_goto (tgt := 27) hx hb dX9_begin_50 (by decide) ?_
  refine lv_iload_n hx hb dX9_begin_27 rfl (lv_at hl 0 rfl) ?_
  refine lv_bipush (v := 12) hx hb dX9_begin_28 (by decide) ?_
  refine lv_icmp_ge (tgt := 53) hx hb dX9_begin_30 (by decide) (fun hc => absurd hc (by decide)) (fun _ => ?_)
  refine lv_aload_n hx hb dX9_begin_33 rfl (lv_at hl 1 rfl) ?_
  refine va_get (D := (dC, dI)) (ci := 9) (v := .ref h2) (C := RX9) (T := TX9) (N := 9) hx hb hts inX9 hown hK hP 0 rfl rfl 0 (by decide) (hts _ wd_23) (fun _ h9 => h9) rfl dX9_begin_34 ?_
  refine lv_iload_n hx hb dX9_begin_37 rfl (lv_at hl 0 rfl) ?_
  refine lv_iconst (v := 0) hx hb dX9_begin_38 (by decide) ?_
  refine va_iast hx hb hK hP hD hS 2 0 rfl rfl (by unfold vp_in; decide) dX9_begin_39 (fun H locs hP hD hS => ?_)
  generalize upd f238 _ _ = f240 at hP hD
  have hP : va_P (dC, dI) classes [(h0, .inr (9, [.ref h2, .ref h3, u2, u3, u4, u5, .ref h1, .int 0, .int 1])), (h1, .inr (8, [w0, w1, w2, w3, w4, w5, w6, w7, w8, w9, w10, w11, w12, w13, w14, .int (-1), .int 0])), (h2, .inl (c1, 12, .inl f240)), (h3, .inl (c2, 12, .inl f239))] H := hP
  have hD : va_D A [(h0, .inr (9, [.ref h2, .ref h3, u2, u3, u4, u5, .ref h1, .int 0, .int 1])), (h1, .inr (8, [w0, w1, w2, w3, w4, w5, w6, w7, w8, w9, w10, w11, w12, w13, w14, .int (-1), .int 0])), (h2, .inl (c1, 12, .inl f240)), (h3, .inl (c2, 12, .inl f239))] := hD
  refine lv_aload_n hx hb dX9_begin_40 rfl (lv_at hl 1 rfl) ?_
  refine va_get (D := (dC, dI)) (ci := 9) (v := .ref h3) (C := RX9) (T := TX9) (N := 9) hx hb hts inX9 hown hK hP 0 rfl rfl 1 (by decide) (hts _ wd_24) (fun _ h9 => h9) rfl dX9_begin_41 ?_
  refine lv_iload_n hx hb dX9_begin_44 rfl (lv_at hl 0 rfl) ?_
  refine lv_iconst (v := 1) hx hb dX9_begin_45 (by decide) ?_
  refine va_iast hx hb hK hP hD hS 3 1 rfl rfl (by unfold vp_in; decide) dX9_begin_46 (fun H locs hP hD hS => ?_)
  generalize upd f239 _ _ = f241 at hP hD
  have hP : va_P (dC, dI) classes [(h0, .inr (9, [.ref h2, .ref h3, u2, u3, u4, u5, .ref h1, .int 0, .int 1])), (h1, .inr (8, [w0, w1, w2, w3, w4, w5, w6, w7, w8, w9, w10, w11, w12, w13, w14, .int (-1), .int 0])), (h2, .inl (c1, 12, .inl f240)), (h3, .inl (c2, 12, .inl f241))] H := hP
  have hD : va_D A [(h0, .inr (9, [.ref h2, .ref h3, u2, u3, u4, u5, .ref h1, .int 0, .int 1])), (h1, .inr (8, [w0, w1, w2, w3, w4, w5, w6, w7, w8, w9, w10, w11, w12, w13, w14, .int (-1), .int 0])), (h2, .inl (c1, 12, .inl f240)), (h3, .inl (c2, 12, .inl f241))] := hD
  refine lv_iinc (v := 10) (lv' := [(2, .int 10), (0, .ref h0), (1, .ref h1)]) hx hb dX9_begin_47 hl (k := 0) rfl (by decide) (by decide) rfl (fun ls hl => ?_)
  refine lv_goto (tgt := 27) hx hb dX9_begin_50 (by decide) ?_
  refine lv_iload_n hx hb dX9_begin_27 rfl (lv_at hl 0 rfl) ?_
  refine lv_bipush (v := 12) hx hb dX9_begin_28 (by decide) ?_
  refine lv_icmp_ge (tgt := 53) hx hb dX9_begin_30 (by decide) (fun hc => absurd hc (by decide)) (fun _ => ?_)
  refine lv_aload_n hx hb dX9_begin_33 rfl (lv_at hl 1 rfl) ?_
  refine va_get (D := (dC, dI)) (ci := 9) (v := .ref h2) (C := RX9) (T := TX9) (N := 9) hx hb hts inX9 hown hK hP 0 rfl rfl 0 (by decide) (hts _ wd_23) (fun _ h9 => h9) rfl dX9_begin_34 ?_
  refine lv_iload_n hx hb dX9_begin_37 rfl (lv_at hl 0 rfl) ?_
  refine lv_iconst (v := 0) hx hb dX9_begin_38 (by decide) ?_
  refine va_iast hx hb hK hP hD hS 2 0 rfl rfl (by unfold vp_in; decide) dX9_begin_39 (fun H locs hP hD hS => ?_)
  generalize upd f240 _ _ = f242 at hP hD
  have hP : va_P (dC, dI) classes [(h0, .inr (9, [.ref h2, .ref h3, u2, u3, u4, u5, .ref h1, .int 0, .int 1])), (h1, .inr (8, [w0, w1, w2, w3, w4, w5, w6, w7, w8, w9, w10, w11, w12, w13, w14, .int (-1), .int 0])), (h2, .inl (c1, 12, .inl f242)), (h3, .inl (c2, 12, .inl f241))] H := hP
  have hD : va_D A [(h0, .inr (9, [.ref h2, .ref h3, u2, u3, u4, u5, .ref h1, .int 0, .int 1])), (h1, .inr (8, [w0, w1, w2, w3, w4, w5, w6, w7, w8, w9, w10, w11, w12, w13, w14, .int (-1), .int 0])), (h2, .inl (c1, 12, .inl f242)), (h3, .inl (c2, 12, .inl f241))] := hD
  refine lv_aload_n hx hb dX9_begin_40 rfl (lv_at hl 1 rfl) ?_
  refine va_get (D := (dC, dI)) (ci := 9) (v := .ref h3) (C := RX9) (T := TX9) (N := 9) hx hb hts inX9 hown hK hP 0 rfl rfl 1 (by decide) (hts _ wd_24) (fun _ h9 => h9) rfl dX9_begin_41 ?_
  refine lv_iload_n hx hb dX9_begin_44 rfl (lv_at hl 0 rfl) ?_
  refine lv_iconst (v := 1) hx hb dX9_begin_45 (by decide) ?_
  refine va_iast hx hb hK hP hD hS 3 1 rfl rfl (by unfold vp_in; decide) dX9_begin_46 (fun H locs hP hD hS => ?_)
  generalize upd f241 _ _ = f243 at hP hD
  have hP : va_P (dC, dI) classes [(h0, .inr (9, [.ref h2, .ref h3, u2, u3, u4, u5, .ref h1, .int 0, .int 1])), (h1, .inr (8, [w0, w1, w2, w3, w4, w5, w6, w7, w8, w9, w10, w11, w12, w13, w14, .int (-1), .int 0])), (h2, .inl (c1, 12, .inl f242)), (h3, .inl (c2, 12, .inl f243))] H := hP
  have hD : va_D A [(h0, .inr (9, [.ref h2, .ref h3, u2, u3, u4, u5, .ref h1, .int 0, .int 1])), (h1, .inr (8, [w0, w1, w2, w3, w4, w5, w6, w7, w8, w9, w10, w11, w12, w13, w14, .int (-1), .int 0])), (h2, .inl (c1, 12, .inl f242)), (h3, .inl (c2, 12, .inl f243))] := hD
  refine lv_iinc (v := 11) (lv' := [(2, .int 11), (0, .ref h0), (1, .ref h1)]) hx hb dX9_begin_47 hl (k := 0) rfl (by decide) (by decide) rfl (fun ls hl => ?_)
  refine lv_goto (tgt := 27) hx hb dX9_begin_50 (by decide) ?_
  refine lv_iload_n hx hb dX9_begin_27 rfl (lv_at hl 0 rfl) ?_
  refine lv_bipush (v := 12) hx hb dX9_begin_28 (by decide) ?_
  refine lv_icmp_ge (tgt := 53) hx hb dX9_begin_30 (by decide) (fun hc => absurd hc (by decide)) (fun _ => ?_)
  refine lv_aload_n hx hb dX9_begin_33 rfl (lv_at hl 1 rfl) ?_
  refine va_get (D := (dC, dI)) (ci := 9) (v := .ref h2) (C := RX9) (T := TX9) (N := 9) hx hb hts inX9 hown hK hP 0 rfl rfl 0 (by decide) (hts _ wd_23) (fun _ h9 => h9) rfl dX9_begin_34 ?_
  refine lv_iload_n hx hb dX9_begin_37 rfl (lv_at hl 0 rfl) ?_
  refine lv_iconst (v := 0) hx hb dX9_begin_38 (by decide) ?_
  refine va_iast hx hb hK hP hD hS 2 0 rfl rfl (by unfold vp_in; decide) dX9_begin_39 (fun H locs hP hD hS => ?_)
  generalize upd f242 _ _ = f244 at hP hD
  have hP : va_P (dC, dI) classes [(h0, .inr (9, [.ref h2, .ref h3, u2, u3, u4, u5, .ref h1, .int 0, .int 1])), (h1, .inr (8, [w0, w1, w2, w3, w4, w5, w6, w7, w8, w9, w10, w11, w12, w13, w14, .int (-1), .int 0])), (h2, .inl (c1, 12, .inl f244)), (h3, .inl (c2, 12, .inl f243))] H := hP
  have hD : va_D A [(h0, .inr (9, [.ref h2, .ref h3, u2, u3, u4, u5, .ref h1, .int 0, .int 1])), (h1, .inr (8, [w0, w1, w2, w3, w4, w5, w6, w7, w8, w9, w10, w11, w12, w13, w14, .int (-1), .int 0])), (h2, .inl (c1, 12, .inl f244)), (h3, .inl (c2, 12, .inl f243))] := hD
  refine lv_aload_n hx hb dX9_begin_40 rfl (lv_at hl 1 rfl) ?_
  refine va_get (D := (dC, dI)) (ci := 9) (v := .ref h3) (C := RX9) (T := TX9) (N := 9) hx hb hts inX9 hown hK hP 0 rfl rfl 1 (by decide) (hts _ wd_24) (fun _ h9 => h9) rfl dX9_begin_41 ?_
  refine lv_iload_n hx hb dX9_begin_44 rfl (lv_at hl 0 rfl) ?_
  refine lv_iconst (v := 1) hx hb dX9_begin_45 (by decide) ?_
  refine va_iast hx hb hK hP hD hS 3 1 rfl rfl (by unfold vp_in; decide) dX9_begin_46 (fun H locs hP hD hS => ?_)
  generalize upd f243 _ _ = f245 at hP hD
  have hP : va_P (dC, dI) classes [(h0, .inr (9, [.ref h2, .ref h3, u2, u3, u4, u5, .ref h1, .int 0, .int 1])), (h1, .inr (8, [w0, w1, w2, w3, w4, w5, w6, w7, w8, w9, w10, w11, w12, w13, w14, .int (-1), .int 0])), (h2, .inl (c1, 12, .inl f244)), (h3, .inl (c2, 12, .inl f245))] H := hP
  have hD : va_D A [(h0, .inr (9, [.ref h2, .ref h3, u2, u3, u4, u5, .ref h1, .int 0, .int 1])), (h1, .inr (8, [w0, w1, w2, w3, w4, w5, w6, w7, w8, w9, w10, w11, w12, w13, w14, .int (-1), .int 0])), (h2, .inl (c1, 12, .inl f244)), (h3, .inl (c2, 12, .inl f245))] := hD
  refine lv_iinc (v := 12) (lv' := [(2, .int 12), (0, .ref h0), (1, .ref h1)]) hx hb dX9_begin_47 hl (k := 0) rfl (by decide) (by decide) rfl (fun ls hl => ?_)
  refine lv_goto (tgt := 27) hx hb dX9_begin_50 (by decide) ?_
  refine lv_iload_n hx hb dX9_begin_27 rfl (lv_at hl 0 rfl) ?_
  refine lv_bipush (v := 12) hx hb dX9_begin_28 (by decide) ?_
  refine lv_icmp_ge (tgt := 53) hx hb dX9_begin_30 (by decide) (fun _ => ?_) (fun hc => absurd (by decide) hc)
  have hP9 := hP.sub (ws' := [(h0, .inr (9, [.ref h2, .ref h3, u2, u3, u4, u5, .ref h1, .int 0, .int 1])), (h1, .inr (8, [w0, w1, w2, w3, w4, w5, w6, w7, w8, w9, w10, w11, w12, w13, w14, .int (-1), .int 0]))]) [0, 1] rfl
  have hD9 := hD.sub (ws' := [(h0, .inr (9, [.ref h2, .ref h3, u2, u3, u4, u5, .ref h1, .int 0, .int 1])), (h1, .inr (8, [w0, w1, w2, w3, w4, w5, w6, w7, w8, w9, w10, w11, w12, w13, w14, .int (-1), .int 0]))]) [0, 1] (by decide) rfl
  have hK9 := hK.sub (tys' := []) [] rfl
  refine W.widen (k := 0) (n := 0) (Nat.le_of_ble_eq_true rfl) (Nat.le_of_ble_eq_true rfl) ?_
  exact W.vret hx hb hr (fun t ht hW => ⟨⟨(), rfl, trivial, by rw [ht]; exact hP9, va_K.moved hW.alike hK9, hD9⟩, hS.F ht⟩) hS.2.2 dX9_begin_53
set_option maxHeartbeats 4000000 in
set_option maxRecDepth 100000 in
/-- putTime -/
theorem c_putTime (l : Launch) (dC : Nat → ClassId) (dI : Nat → Nat → Nat) (h0 : Nat) (h1 : Nat) (h2 : Nat) (k1 : Int32) (k2 : Int32) (w0 : Value) (w1 : Value) (w2 : Value) (w3 : Value) (w4 : Value) (w5 : Value) (w6 : Value) (w7 : Value) (w8 : Value) (w9 : Value) (w10 : Value) (w11 : Value) (w12 : Value) (w15 : Value) (w16 : Value) (c1 : ClassId) (f1 : Nat → Int32) (c2 : ClassId) (f2 : Nat → Int32) (sz : Nat) : Met l yX8_putTime (.code yX8_putTime cX8_putTime 4 none :: wU) ({ frames := 0, cells := 0, slots := 0, locals := 0 } : Room) (va_Pc [.ref h0, .int 0, .int k1, .int k2] (fun U => P5 dC dI [(h0, .inr (8, [w0, w1, w2, w3, w4, w5, w6, w7, w8, w9, w10, w11, w12, .ref h1, .ref h2, w15, w16])), (h1, .inl (c1, 201, .inl f1)), (h2, .inl (c2, 201, .inl f2))] [(c1, .int), (c2, .int)] sz U)) (va_Qv (fun _ : Unit => True) (fun _ t => P3 dC dI (va_A [(h0, .inr (8, [w0, w1, w2, w3, w4, w5, w6, w7, w8, w9, w10, w11, w12, .ref h1, .ref h2, w15, w16])), (h1, .inl (c1, 201, .inl f1)), (h2, .inl (c2, 201, .inl f2))] sz) [(h0, .inr (8, [w0, w1, w2, w3, w4, w5, w6, w7, w8, w9, w10, w11, w12, .ref h1, .ref h2, w15, w16]))] [] t) (va_A [(h0, .inr (8, [w0, w1, w2, w3, w4, w5, w6, w7, w8, w9, w10, w11, w12, .ref h1, .ref h2, w15, w16])), (h1, .inl (c1, 201, .inl f1)), (h2, .inl (c2, 201, .inl f2))] sz)) 0 0 (va_A [(h0, .inr (8, [w0, w1, w2, w3, w4, w5, w6, w7, w8, w9, w10, w11, w12, .ref h1, .ref h2, w15, w16])), (h1, .inl (c1, 201, .inl f1)), (h2, .inl (c2, 201, .inl f2))] sz) := by
  refine Met.ofW (cc := cX8_putTime) (maxL := 4) (ret := none) (by decide) rfl ?_
  intro p e s m args below meth c s₁ B hml hv
  obtain ⟨rfl, hsz, hP, hK, hD0, hE⟩ := hv
  have hx := B.exec
  have hb := B.bytes
  have hr := B.returns
  have hts0 := atoms_spec (ws := (.code yX8_putTime cX8_putTime 4 none :: wU)) B.pre
  have hts : ∀ w ∈ wU, w.before _ s = true := fun w h => hts0 w (List.mem_cons_of_mem _ h)
  have hown : s.vm.findClass "SpineTables$Table" = some m.cls := findClass_of_methodNamed B.named
  have hlocks := B.notSynchronized
  subst hsz
  have hD := hD0.self (sz := s.heap.size)
  generalize hAe : va_A [(h0, .inr (8, [w0, w1, w2, w3, w4, w5, w6, w7, w8, w9, w10, w11, w12, .ref h1, .ref h2, w15, w16])), (h1, .inl (c1, 201, .inl f1)), (h2, .inl (c2, 201, .inl f2))] s.heap.size = A at hD ⊢
  have hA : ∀ q : Nat, s.heap.size ≤ q → A q := fun q h => by rw [← hAe]; exact Or.inr h
  have hP : va_P (dC, dI) classes [(h0, .inr (8, [w0, w1, w2, w3, w4, w5, w6, w7, w8, w9, w10, w11, w12, .ref h1, .ref h2, w15, w16])), (h1, .inl (c1, 201, .inl f1)), (h2, .inl (c2, 201, .inl f2))] s.heap := hP
  have hl := lv_entry ([.ref h0, .int 0, .int k1, .int k2]) (n := 4) (Nat.le_of_ble_eq_true rfl)
  rw [lg_entry_eq]
  generalize (lg_sl ([.ref h0, .int 0, .int k1, .int k2]) ++ List.replicate (4 - (lg_sl ([.ref h0, .int 0, .int k1, .int k2])).length) Slot.unset).toArray = ls at hl ⊢
  have hl : lv_has ls 4 [(0, .ref h0), (1, .int 0), (2, .int k1), (3, .int k2)] := hl
  obtain ⟨H, hH⟩ : ∃ H, H = s.heap := ⟨_, rfl⟩
  rw [← hH] at hP
  have hS : va_S A s.heap H [] := by rw [hH]; exact va_S.rf
  refine w_heap hH ?_
  refine lv_iload_n hx hb dX8_putTime_0 rfl (lv_at hl 1 rfl) ?_
  refine lv_if_lt (tgt := 25) hx hb dX8_putTime_1 (by decide) (fun hc => absurd hc (by decide)) (fun _ => ?_)
  refine lv_iload_n hx hb dX8_putTime_4 rfl (lv_at hl 1 rfl) ?_
  refine lv_sipush (v := 200) hx hb dX8_putTime_5 (by decide) ?_
  refine lv_icmp_gt (tgt := 25) hx hb dX8_putTime_8 (by decide) (fun hc => absurd hc (by decide)) (fun _ => ?_)
  refine lv_aload_n hx hb dX8_putTime_11 rfl (lv_at hl 0 rfl) ?_
  refine va_get (D := (dC, dI)) (ci := 8) (v := .ref h1) (C := RX8) (T := TX8) (N := 17) hx hb hts inX8 hown hK hP 0 rfl rfl 13 (by decide) (hts _ wd_101) (fun _ h9 => h9) rfl dX8_putTime_12 ?_
  refine lv_iload_n hx hb dX8_putTime_15 rfl (lv_at hl 1 rfl) ?_
  refine lv_iload_n hx hb dX8_putTime_16 rfl (lv_at hl 2 rfl) ?_
  refine va_iast hx hb hK hP hD hS 1 0 rfl rfl (by unfold vp_in; decide) dX8_putTime_17 (fun H locs hP hD hS => ?_)
  generalize upd f1 _ _ = f246 at hP hD
  have hP : va_P (dC, dI) classes [(h0, .inr (8, [w0, w1, w2, w3, w4, w5, w6, w7, w8, w9, w10, w11, w12, .ref h1, .ref h2, w15, w16])), (h1, .inl (c1, 201, .inl f246)), (h2, .inl (c2, 201, .inl f2))] H := hP
  have hD : va_D A [(h0, .inr (8, [w0, w1, w2, w3, w4, w5, w6, w7, w8, w9, w10, w11, w12, .ref h1, .ref h2, w15, w16])), (h1, .inl (c1, 201, .inl f246)), (h2, .inl (c2, 201, .inl f2))] := hD
  refine lv_aload_n hx hb dX8_putTime_18 rfl (lv_at hl 0 rfl) ?_
  refine va_get (D := (dC, dI)) (ci := 8) (v := .ref h2) (C := RX8) (T := TX8) (N := 17) hx hb hts inX8 hown hK hP 0 rfl rfl 14 (by decide) (hts _ wd_102) (fun _ h9 => h9) rfl dX8_putTime_19 ?_
  refine lv_iload_n hx hb dX8_putTime_22 rfl (lv_at hl 1 rfl) ?_
  refine lv_iload_n hx hb dX8_putTime_23 rfl (lv_at hl 3 rfl) ?_
  refine va_iast hx hb hK hP hD hS 2 1 rfl rfl (by unfold vp_in; decide) dX8_putTime_24 (fun H locs hP hD hS => ?_)
  generalize upd f2 _ _ = f247 at hP hD
  have hP : va_P (dC, dI) classes [(h0, .inr (8, [w0, w1, w2, w3, w4, w5, w6, w7, w8, w9, w10, w11, w12, .ref h1, .ref h2, w15, w16])), (h1, .inl (c1, 201, .inl f246)), (h2, .inl (c2, 201, .inl f247))] H := hP
  have hD : va_D A [(h0, .inr (8, [w0, w1, w2, w3, w4, w5, w6, w7, w8, w9, w10, w11, w12, .ref h1, .ref h2, w15, w16])), (h1, .inl (c1, 201, .inl f246)), (h2, .inl (c2, 201, .inl f247))] := hD
  have hP9 := hP.sub (ws' := [(h0, .inr (8, [w0, w1, w2, w3, w4, w5, w6, w7, w8, w9, w10, w11, w12, .ref h1, .ref h2, w15, w16]))]) [0] rfl
  have hD9 := hD.sub (ws' := [(h0, .inr (8, [w0, w1, w2, w3, w4, w5, w6, w7, w8, w9, w10, w11, w12, .ref h1, .ref h2, w15, w16]))]) [0] (by decide) rfl
  have hK9 := hK.sub (tys' := []) [] rfl
  refine W.widen (k := 0) (n := 0) (Nat.le_of_ble_eq_true rfl) (Nat.le_of_ble_eq_true rfl) ?_
  exact W.vret hx hb hr (fun t ht hW => ⟨⟨(), rfl, trivial, by rw [ht]; exact hP9, va_K.moved hW.alike hK9, hD9⟩, hS.F ht⟩) hS.2.2 dX8_putTime_25
set_option maxHeartbeats 4000000 in
set_option maxRecDepth 100000 in
/-- go -/
theorem c_go (l : Launch) (dC : Nat → ClassId) (dI : Nat → Nat → Nat) (h0 : Nat) (h1 : Nat) (h2 : Nat) (h3 : Nat) (h4 : Nat) (h5 : Nat) (h6 : Nat) (u2 : Value) (u3 : Value) (u4 : Value) (u5 : Value) (u6 : Value) (u7 : Value) (u8 : Value) (w1 : Value) (w2 : Value) (w3 : Value) (w4 : Value) (w5 : Value) (w6 : Value) (w7 : Value) (w8 : Value) (w9 : Value) (w10 : Value) (w11 : Value) (w12 : Value) (w15 : Value) (w16 : Value) (v0 : Value) (v1 : Value) (v2 : Value) (v3 : Value) (v4 : Value) (v5 : Value) (v6 : Value) (v7 : Value) (v9 : Value) (v10 : Value) (c1 : ClassId) (c2 : ClassId) (c3 : ClassId) (c4 : ClassId) (f1 : Nat → Int32) (f2 : Nat → Int32) (f3 : Nat → Int32) (f4 : Nat → Int32) (sz : Nat) : Met l yX9_go (.code yX9_go cX9_go 4 none :: wU) ({ frames := 1, cells := 0, slots := 0, locals := 23 } : Room) (va_Pc [.ref h0, .ref h1] (fun U => P5 dC dI [(h0, .inr (9, [.ref h2, .ref h3, u2, u3, u4, u5, u6, u7, u8])), (h2, .inl (c1, 12, .inl f1)), (h3, .inl (c2, 12, .inl f2)), (h1, .inr (8, [.ref h4, w1, w2, w3, w4, w5, w6, w7, w8, w9, w10, w11, w12, .ref h5, .ref h6, w15, w16])), (h4, .inr (6, [v0, v1, v2, v3, v4, v5, v6, v7, .int 0, v9, v10])), (h5, .inl (c3, 201, .inl f3)), (h6, .inl (c4, 201, .inl f4))] [(c1, .int), (c2, .int), (c3, .int), (c4, .int)] sz U)) (va_Qv (fun _ : Unit => True) (fun _ t => P3 dC dI (va_A [(h0, .inr (9, [.ref h2, .ref h3, u2, u3, u4, u5, u6, u7, u8])), (h2, .inl (c1, 12, .inl f1)), (h3, .inl (c2, 12, .inl f2)), (h1, .inr (8, [.ref h4, w1, w2, w3, w4, w5, w6, w7, w8, w9, w10, w11, w12, .ref h5, .ref h6, w15, w16])), (h4, .inr (6, [v0, v1, v2, v3, v4, v5, v6, v7, .int 0, v9, v10])), (h5, .inl (c3, 201, .inl f3)), (h6, .inl (c4, 201, .inl f4))] sz) [(h1, .inr (8, [.ref h4, w1, w2, w3, w4, w5, w6, w7, w8, w9, w10, w11, w12, .ref h5, .ref h6, .int (-1), .int 0]))] [] t) (va_A [(h0, .inr (9, [.ref h2, .ref h3, u2, u3, u4, u5, u6, u7, u8])), (h2, .inl (c1, 12, .inl f1)), (h3, .inl (c2, 12, .inl f2)), (h1, .inr (8, [.ref h4, w1, w2, w3, w4, w5, w6, w7, w8, w9, w10, w11, w12, .ref h5, .ref h6, w15, w16])), (h4, .inr (6, [v0, v1, v2, v3, v4, v5, v6, v7, .int 0, v9, v10])), (h5, .inl (c3, 201, .inl f3)), (h6, .inl (c4, 201, .inl f4))] sz)) 0 0 (va_A [(h0, .inr (9, [.ref h2, .ref h3, u2, u3, u4, u5, u6, u7, u8])), (h2, .inl (c1, 12, .inl f1)), (h3, .inl (c2, 12, .inl f2)), (h1, .inr (8, [.ref h4, w1, w2, w3, w4, w5, w6, w7, w8, w9, w10, w11, w12, .ref h5, .ref h6, w15, w16])), (h4, .inr (6, [v0, v1, v2, v3, v4, v5, v6, v7, .int 0, v9, v10])), (h5, .inl (c3, 201, .inl f3)), (h6, .inl (c4, 201, .inl f4))] sz) := by
  refine Met.ofW (cc := cX9_go) (maxL := 4) (ret := none) (by decide) rfl ?_
  intro p e s m args below meth c s₁ B hml hv
  obtain ⟨rfl, hsz, hP, hK, hD0, hE⟩ := hv
  have hx := B.exec
  have hb := B.bytes
  have hr := B.returns
  have hts0 := atoms_spec (ws := (.code yX9_go cX9_go 4 none :: wU)) B.pre
  have hts : ∀ w ∈ wU, w.before _ s = true := fun w h => hts0 w (List.mem_cons_of_mem _ h)
  have hown : s.vm.findClass "SpineTables$Walker" = some m.cls := findClass_of_methodNamed B.named
  have hlocks := B.notSynchronized
  subst hsz
  have hD := hD0.self (sz := s.heap.size)
  generalize hAe : va_A [(h0, .inr (9, [.ref h2, .ref h3, u2, u3, u4, u5, u6, u7, u8])), (h2, .inl (c1, 12, .inl f1)), (h3, .inl (c2, 12, .inl f2)), (h1, .inr (8, [.ref h4, w1, w2, w3, w4, w5, w6, w7, w8, w9, w10, w11, w12, .ref h5, .ref h6, w15, w16])), (h4, .inr (6, [v0, v1, v2, v3, v4, v5, v6, v7, .int 0, v9, v10])), (h5, .inl (c3, 201, .inl f3)), (h6, .inl (c4, 201, .inl f4))] s.heap.size = A at hD ⊢
  have hA : ∀ q : Nat, s.heap.size ≤ q → A q := fun q h => by rw [← hAe]; exact Or.inr h
  have hP : va_P (dC, dI) classes [(h0, .inr (9, [.ref h2, .ref h3, u2, u3, u4, u5, u6, u7, u8])), (h2, .inl (c1, 12, .inl f1)), (h3, .inl (c2, 12, .inl f2)), (h1, .inr (8, [.ref h4, w1, w2, w3, w4, w5, w6, w7, w8, w9, w10, w11, w12, .ref h5, .ref h6, w15, w16])), (h4, .inr (6, [v0, v1, v2, v3, v4, v5, v6, v7, .int 0, v9, v10])), (h5, .inl (c3, 201, .inl f3)), (h6, .inl (c4, 201, .inl f4))] s.heap := hP
  have hl := lv_entry ([.ref h0, .ref h1]) (n := 4) (Nat.le_of_ble_eq_true rfl)
  rw [lg_entry_eq]
  generalize (lg_sl ([.ref h0, .ref h1]) ++ List.replicate (4 - (lg_sl ([.ref h0, .ref h1])).length) Slot.unset).toArray = ls at hl ⊢
  have hl : lv_has ls 4 [(0, .ref h0), (1, .ref h1)] := hl
  obtain ⟨H, hH⟩ : ∃ H, H = s.heap := ⟨_, rfl⟩
  rw [← hH] at hP
  have hS : va_S A s.heap H [] := by rw [hH]; exact va_S.rf
  refine w_heap hH ?_
  refine lv_aload_n hx hb dX9_go_0 rfl (lv_at hl 0 rfl) ?_
  refine lv_aload_n hx hb dX9_go_1 rfl (lv_at hl 1 rfl) ?_
  have hPc := hP.sub (ws' := [(h0, .inr (9, [.ref h2, .ref h3, u2, u3, u4, u5, u6, u7, u8])), (h1, .inr (8, [.ref h4, w1, w2, w3, w4, w5, w6, w7, w8, w9, w10, w11, w12, .ref h5, .ref h6, w15, w16])), (h2, .inl (c1, 12, .inl f1)), (h3, .inl (c2, 12, .inl f2))]) [0, 3, 1, 2] rfl
  have hDc := hD.sub (ws' := [(h0, .inr (9, [.ref h2, .ref h3, u2, u3, u4, u5, u6, u7, u8])), (h1, .inr (8, [.ref h4, w1, w2, w3, w4, w5, w6, w7, w8, w9, w10, w11, w12, .ref h5, .ref h6, w15, w16])), (h2, .inl (c1, 12, .inl f1)), (h3, .inl (c2, 12, .inl f2))]) [0, 3, 1, 2] (by decide) rfl
  have hKc := hK.sub (tys' := [(c1, .int), (c2, .int)]) [0, 1] rfl
  have hFc := va_free (wc := [(h0, .inr (9, [.ref h2, .ref h3, u2, u3, u4, u5, u6, u7, u8])), (h1, .inr (8, [.ref h4, w1, w2, w3, w4, w5, w6, w7, w8, w9, w10, w11, w12, .ref h5, .ref h6, w15, w16])), (h2, .inl (c1, 12, .inl f1)), (h3, .inl (c2, 12, .inl f2))]) hD hS hA [0, 3, 1, 2] rfl
  refine va_callv (va_runV (As := [.ref h1]) (rest := []) ⟨hx, hb, hml, hown, hts⟩ (c_begin l dC dI h0 h1 h2 h3 u2 u3 u4 u5 u6 u7 u8 (.ref h4) w1 w2 w3 w4 w5 w6 w7 w8 w9 w10 w11 w12 (.ref h5) (.ref h6) w15 w16 c1 f1 c2 f2 H.size) (cwV 1 hts (goV wd_282 wd_283 wd_281 wd_124 wd_280) rfl rfl rfl (by decide +kernel) ⟨Nat.le_of_ble_eq_true rfl, Nat.le_of_ble_eq_true rfl⟩) ⟨blind5, va_recv hKc hPc (ci := 9) (q0 := 0) rfl rfl, fun U hU hW => ⟨rfl, pre5 hU hW hPc hKc hDc hE⟩⟩ rfl rfl hl.1 rfl (lv_room (Nat.le_of_ble_eq_true rfl)) dX9_go_2 ⟨Nat.le_of_ble_eq_true rfl, Nat.le_of_ble_eq_true rfl⟩) hS (fun q _ h => hFc q h) hFc (fun u t H1 locs ht hvm hw hB hz1 hk1 hS => ?_)
  obtain ⟨hP1, hK1, hD1⟩ := hB
  rw [ht] at hP1
  have hK1 := va_K.moved hvm.symm hK1
  obtain ⟨hP, hD⟩ := va_join (wr := [(h4, .inr (6, [v0, v1, v2, v3, v4, v5, v6, v7, .int 0, v9, v10])), (h5, .inl (c3, 201, .inl f3)), (h6, .inl (c4, 201, .inl f4))]) (w1 := [(h0, .inr (9, [.ref h2, .ref h3, u2, u3, u4, u5, .ref h1, .int 0, .int 1])), (h1, .inr (8, [.ref h4, w1, w2, w3, w4, w5, w6, w7, w8, w9, w10, w11, w12, .ref h5, .ref h6, .int (-1), .int 0]))]) hP hD [0, 3, 1, 2] [4, 5, 6] rfl rfl (by decide) (by decide) hk1 hFc hP1 hD1
  have hK := (hK.sub (tys' := [(c3, .int), (c4, .int)]) [2, 3] rfl).app hK1
  generalize H1 = H at hP hS ⊢
  have hK : va_K (dC, dI) classes [(c3, .int), (c4, .int)] s := hK
  have hP : va_P (dC, dI) classes [(h4, .inr (6, [v0, v1, v2, v3, v4, v5, v6, v7, .int 0, v9, v10])), (h5, .inl (c3, 201, .inl f3)), (h6, .inl (c4, 201, .inl f4)), (h0, .inr (9, [.ref h2, .ref h3, u2, u3, u4, u5, .ref h1, .int 0, .int 1])), (h1, .inr (8, [.ref h4, w1, w2, w3, w4, w5, w6, w7, w8, w9, w10, w11, w12, .ref h5, .ref h6, .int (-1), .int 0]))] H := hP
  have hD : va_D A [(h4, .inr (6, [v0, v1, v2, v3, v4, v5, v6, v7, .int 0, v9, v10])), (h5, .inl (c3, 201, .inl f3)), (h6, .inl (c4, 201, .inl f4)), (h0, .inr (9, [.ref h2, .ref h3, u2, u3, u4, u5, .ref h1, .int 0, .int 1])), (h1, .inr (8, [.ref h4, w1, w2, w3, w4, w5, w6, w7, w8, w9, w10, w11, w12, .ref h5, .ref h6, .int (-1), .int 0]))] := hD
  refine lv_aload_n hx hb dX9_go_5 rfl (lv_at hl 1 rfl) ?_
  refine va_get (D := (dC, dI)) (ci := 8) (v := .ref h4) (C := RX8) (T := TX8) (N := 17) hx hb hts inX8 hown hK hP 4 rfl rfl 0 (by decide) (hts _ wd_284) (fun _ h9 => h9) rfl dX9_go_6 ?_
  refine va_get (D := (dC, dI)) (ci := 6) (v := .int 0) (C := RX6) (T := TX6) (N := 11) hx hb hts inX6 hown hK hP 0 rfl rfl 8 (by decide) (hts _ wd_285) (fun _ h9 => h9) rfl dX9_go_9 ?_
  refine lv_istore_n (lv' := [(2, .int 0), (0, .ref h0), (1, .ref h1)]) hx hb dX9_go_12 rfl hl (by decide) rfl (fun ls hl => ?_)
  refine lv_iconst (v := 0) hx hb dX9_go_13 (by decide) ?_
  refine lv_istore_n (lv' := [(3, .int 0), (2, .int 0), (0, .ref h0), (1, .ref h1)]) hx hb dX9_go_14 rfl hl (by decide) rfl (fun ls hl => ?_)
  refine lv_iload_n hx hb dX9_go_15 rfl (lv_at hl 0 rfl) ?_
  refine lv_iload_n hx hb dX9_go_16 rfl (lv_at hl 1 rfl) ?_
  refine lv_icmp_ge (tgt := 71) hx hb dX9_go_17 (by decide) (fun _ => ?_) (fun hc => absurd (by decide) hc)
  refine lv_aload_n hx hb dX9_go_71 rfl (lv_at hl 3 rfl) ?_
  refine lv_iload_n hx hb dX9_go_72 rfl (lv_at hl 1 rfl) ?_
  refine lv_aload_n hx hb dX9_go_73 rfl (lv_at hl 2 rfl) ?_
  refine va_get (D := (dC, dI)) (ci := 9) (v := .int 0) (C := RX9) (T := TX9) (N := 9) hx hb hts inX9 hown hK hP 3 rfl rfl 7 (by decide) (hts _ wd_35) (fun _ h9 => h9) rfl dX9_go_74 ?_
  refine lv_aload_n hx hb dX9_go_77 rfl (lv_at hl 2 rfl) ?_
  refine va_get (D := (dC, dI)) (ci := 9) (v := .int 1) (C := RX9) (T := TX9) (N := 9) hx hb hts inX9 hown hK hP 3 rfl rfl 8 (by decide) (hts _ wd_36) (fun _ h9 => h9) rfl dX9_go_78 ?_
  have hPc := hP.sub (ws' := [(h1, .inr (8, [.ref h4, w1, w2, w3, w4, w5, w6, w7, w8, w9, w10, w11, w12, .ref h5, .ref h6, .int (-1), .int 0])), (h5, .inl (c3, 201, .inl f3)), (h6, .inl (c4, 201, .inl f4))]) [4, 1, 2] rfl
  have hDc := hD.sub (ws' := [(h1, .inr (8, [.ref h4, w1, w2, w3, w4, w5, w6, w7, w8, w9, w10, w11, w12, .ref h5, .ref h6, .int (-1), .int 0])), (h5, .inl (c3, 201, .inl f3)), (h6, .inl (c4, 201, .inl f4))]) [4, 1, 2] (by decide) rfl
  have hKc := hK.sub (tys' := [(c3, .int), (c4, .int)]) [0, 1] rfl
  have hFc := va_free (wc := [(h1, .inr (8, [.ref h4, w1, w2, w3, w4, w5, w6, w7, w8, w9, w10, w11, w12, .ref h5, .ref h6, .int (-1), .int 0])), (h5, .inl (c3, 201, .inl f3)), (h6, .inl (c4, 201, .inl f4))]) hD hS hA [4, 1, 2] rfl
  refine va_callv (va_runV (As := [.int 0, .int 0, .int 1]) (rest := []) ⟨hx, hb, hml, hown, hts⟩ (c_putTime l dC dI h1 h5 h6 0 1 (.ref h4) w1 w2 w3 w4 w5 w6 w7 w8 w9 w10 w11 w12 (.int (-1)) (.int 0) c3 f3 c4 f4 H.size) (cwV 3 hts (goV wd_288 wd_289 wd_287 wd_264 wd_286) rfl rfl rfl (by decide +kernel) ⟨Nat.le_of_ble_eq_true rfl, Nat.le_of_ble_eq_true rfl⟩) ⟨blind5, va_recv hKc hPc (ci := 8) (q0 := 0) rfl rfl, fun U hU hW => ⟨rfl, pre5 hU hW hPc hKc hDc hE⟩⟩ rfl rfl hl.1 rfl (lv_room (Nat.le_of_ble_eq_true rfl)) dX9_go_81 ⟨Nat.le_of_ble_eq_true rfl, Nat.le_of_ble_eq_true rfl⟩) hS (fun q _ h => hFc q h) hFc (fun u t H1 locs ht hvm hw hB hz1 hk1 hS => ?_)
  obtain ⟨hP1, hK1, hD1⟩ := hB
  rw [ht] at hP1
  have hK1 := va_K.moved hvm.symm hK1
  obtain ⟨hP, hD⟩ := va_join (wr := [(h4, .inr (6, [v0, v1, v2, v3, v4, v5, v6, v7, .int 0, v9, v10])), (h0, .inr (9, [.ref h2, .ref h3, u2, u3, u4, u5, .ref h1, .int 0, .int 1]))]) (w1 := [(h1, .inr (8, [.ref h4, w1, w2, w3, w4, w5, w6, w7, w8, w9, w10, w11, w12, .ref h5, .ref h6, .int (-1), .int 0]))]) hP hD [4, 1, 2] [0, 3] rfl rfl (by decide) (by decide) hk1 hFc hP1 hD1
  have hK := (hK.sub (tys' := []) [] rfl).app hK1
  generalize H1 = H at hP hS ⊢
  have hK : va_K (dC, dI) classes [] s := hK
  have hP : va_P (dC, dI) classes [(h4, .inr (6, [v0, v1, v2, v3, v4, v5, v6, v7, .int 0, v9, v10])), (h0, .inr (9, [.ref h2, .ref h3, u2, u3, u4, u5, .ref h1, .int 0, .int 1])), (h1, .inr (8, [.ref h4, w1, w2, w3, w4, w5, w6, w7, w8, w9, w10, w11, w12, .ref h5, .ref h6, .int (-1), .int 0]))] H := hP
  have hD : va_D A [(h4, .inr (6, [v0, v1, v2, v3, v4, v5, v6, v7, .int 0, v9, v10])), (h0, .inr (9, [.ref h2, .ref h3, u2, u3, u4, u5, .ref h1, .int 0, .int 1])), (h1, .inr (8, [.ref h4, w1, w2, w3, w4, w5, w6, w7, w8, w9, w10, w11, w12, .ref h5, .ref h6, .int (-1), .int 0]))] := hD
  have hP9 := hP.sub (ws' := [(h1, .inr (8, [.ref h4, w1, w2, w3, w4, w5, w6, w7, w8, w9, w10, w11, w12, .ref h5, .ref h6, .int (-1), .int 0]))]) [2] rfl
  have hD9 := hD.sub (ws' := [(h1, .inr (8, [.ref h4, w1, w2, w3, w4, w5, w6, w7, w8, w9, w10, w11, w12, .ref h5, .ref h6, .int (-1), .int 0]))]) [2] (by decide) rfl
  have hK9 := hK.sub (tys' := []) [] rfl
  refine W.widen (k := 0) (n := 0) (Nat.le_of_ble_eq_true rfl) (Nat.le_of_ble_eq_true rfl) ?_
  exact W.vret hx hb hr (fun t ht hW => ⟨⟨(), rfl, trivial, by rw [ht]; exact hP9, va_K.moved hW.alike hK9, hD9⟩, hS.F ht⟩) hS.2.2 dX9_go_84
set_option maxHeartbeats 4000000 in
set_option maxRecDepth 100000 in
/-- keepBench -/
theorem c_keepBench (l : Launch) (dC : Nat → ClassId) (dI : Nat → Nat → Nat) (h0 : Nat) (h1 : Nat) (h2 : Nat) (h3 : Nat) (v0 : Value) (v1 : Value) (v2 : Value) (v3 : Value) (v4 : Value) (v8 : Value) (v9 : Value) (v10 : Value) (v11 : Value) (v12 : Value) (v13 : Value) (w0 : Value) (w1 : Value) (w2 : Value) (w3 : Value) (w4 : Value) (w5 : Value) (w6 : Value) (w7 : Value) (w8 : Value) (w9 : Value) (w10 : Value) (w11 : Value) (w12 : Value) (w13 : Value) (w14 : Value) (w15 : Value) (w16 : Value) (c1 : ClassId) (c2 : ClassId) (sz : Nat) : Met l yX11_keepBench (.code yX11_keepBench cX11_keepBench 3 (some .int) :: wU) ({ frames := 0, cells := 0, slots := 0, locals := 0 } : Room) (va_Pc [.ref h0, .int 0] (fun U => P5 dC dI [(h0, .inr (10, [v0, v1, v2, v3, v4, .ref h1, .ref h2, .ref h3, v8, v9, v10, v11, v12, v13])), (h1, .inl (c1, 8, .inr (.inr (.inr (.inr (fun _ => none)))))), (h2, .inl (c2, 8, .inl (fun _ => 0))), (h3, .inr (8, [w0, w1, w2, w3, w4, w5, w6, w7, w8, w9, w10, w11, w12, w13, w14, w15, w16]))] [(c1, .object "SpineTables$Table"), (c2, .boolean)] sz U)) (va_Qi (fun (r : Int32) (_ : Unit) => r = 0) (fun _ t => P3 dC dI (va_A [(h0, .inr (10, [v0, v1, v2, v3, v4, .ref h1, .ref h2, .ref h3, v8, v9, v10, v11, v12, v13])), (h1, .inl (c1, 8, .inr (.inr (.inr (.inr (fun _ => none)))))), (h2, .inl (c2, 8, .inl (fun _ => 0))), (h3, .inr (8, [w0, w1, w2, w3, w4, w5, w6, w7, w8, w9, w10, w11, w12, w13, w14, w15, w16]))] sz) [] [] t) (va_A [(h0, .inr (10, [v0, v1, v2, v3, v4, .ref h1, .ref h2, .ref h3, v8, v9, v10, v11, v12, v13])), (h1, .inl (c1, 8, .inr (.inr (.inr (.inr (fun _ => none)))))), (h2, .inl (c2, 8, .inl (fun _ => 0))), (h3, .inr (8, [w0, w1, w2, w3, w4, w5, w6, w7, w8, w9, w10, w11, w12, w13, w14, w15, w16]))] sz)) 0 0 (va_A [(h0, .inr (10, [v0, v1, v2, v3, v4, .ref h1, .ref h2, .ref h3, v8, v9, v10, v11, v12, v13])), (h1, .inl (c1, 8, .inr (.inr (.inr (.inr (fun _ => none)))))), (h2, .inl (c2, 8, .inl (fun _ => 0))), (h3, .inr (8, [w0, w1, w2, w3, w4, w5, w6, w7, w8, w9, w10, w11, w12, w13, w14, w15, w16]))] sz) := by
  refine Met.ofW (cc := cX11_keepBench) (maxL := 3) (ret := (some .int)) (by decide) rfl ?_
  intro p e s m args below meth c s₁ B hml hv
  obtain ⟨rfl, hsz, hP, hK, hD0, hE⟩ := hv
  have hx := B.exec
  have hb := B.bytes
  have hr := B.returns
  have hts0 := atoms_spec (ws := (.code yX11_keepBench cX11_keepBench 3 (some .int) :: wU)) B.pre
  have hts : ∀ w ∈ wU, w.before _ s = true := fun w h => hts0 w (List.mem_cons_of_mem _ h)
  have hown : s.vm.findClass "SpineTables" = some m.cls := findClass_of_methodNamed B.named
  have hlocks := B.notSynchronized
  subst hsz
  have hD := hD0.self (sz := s.heap.size)
  generalize hAe : va_A [(h0, .inr (10, [v0, v1, v2, v3, v4, .ref h1, .ref h2, .ref h3, v8, v9, v10, v11, v12, v13])), (h1, .inl (c1, 8, .inr (.inr (.inr (.inr (fun _ => none)))))), (h2, .inl (c2, 8, .inl (fun _ => 0))), (h3, .inr (8, [w0, w1, w2, w3, w4, w5, w6, w7, w8, w9, w10, w11, w12, w13, w14, w15, w16]))] s.heap.size = A at hD ⊢
  have hA : ∀ q : Nat, s.heap.size ≤ q → A q := fun q h => by rw [← hAe]; exact Or.inr h
  have hP : va_P (dC, dI) classes [(h0, .inr (10, [v0, v1, v2, v3, v4, .ref h1, .ref h2, .ref h3, v8, v9, v10, v11, v12, v13])), (h1, .inl (c1, 8, .inr (.inr (.inr (.inr (fun _ => none)))))), (h2, .inl (c2, 8, .inl (fun _ => 0))), (h3, .inr (8, [w0, w1, w2, w3, w4, w5, w6, w7, w8, w9, w10, w11, w12, w13, w14, w15, w16]))] s.heap := hP
  have hl := lv_entry ([.ref h0, .int 0]) (n := 3) (Nat.le_of_ble_eq_true rfl)
  rw [lg_entry_eq]
  generalize (lg_sl ([.ref h0, .int 0]) ++ List.replicate (3 - (lg_sl ([.ref h0, .int 0])).length) Slot.unset).toArray = ls at hl ⊢
  have hl : lv_has ls 3 [(0, .ref h0), (1, .int 0)] := hl
  obtain ⟨H, hH⟩ : ∃ H, H = s.heap := ⟨_, rfl⟩
  rw [← hH] at hP
  have hS : va_S A s.heap H [] := by rw [hH]; exact va_S.rf
  refine w_heap hH ?_
  refine lv_aload_n hx hb dX11_keepBench_0 rfl (lv_at hl 0 rfl) ?_
  refine va_get (D := (dC, dI)) (ci := 10) (v := .ref h1) (C := RX11) (T := TX11) (N := 14) hx hb hts inX11 hown hK hP 0 rfl rfl 5 (by decide) (hts _ wd_112) (fun _ h9 => h9) rfl dX11_keepBench_1 ?_
  refine lv_iload_n hx hb dX11_keepBench_4 rfl (lv_at hl 1 rfl) ?_
  refine va_aldq hx hb hK hP 1 0 rfl rfl (by unfold vp_in; decide) dX11_keepBench_5 ?_
  refine W.eq (g2 := F0 m 6 ls [.null]) rfl ?_
  refine lv_astore_nN (lv' := [(2, .null), (0, .ref h0), (1, .int 0)]) hx hb dX11_keepBench_6 rfl hl (by decide) rfl (fun ls hl => ?_)
  refine lv_aload_n hx hb dX11_keepBench_7 rfl (lv_at hl 1 rfl) ?_
  refine va_get (D := (dC, dI)) (ci := 10) (v := .ref h1) (C := RX11) (T := TX11) (N := 14) hx hb hts inX11 hown hK hP 0 rfl rfl 5 (by decide) (hts _ wd_112) (fun _ h9 => h9) rfl dX11_keepBench_8 ?_
  refine lv_iload_n hx hb dX11_keepBench_11 rfl (lv_at hl 2 rfl) ?_
  refine lv_aload_n hx hb dX11_keepBench_12 rfl (lv_at hl 1 rfl) ?_
  refine va_get (D := (dC, dI)) (ci := 10) (v := .ref h3) (C := RX11) (T := TX11) (N := 14) hx hb hts inX11 hown hK hP 0 rfl rfl 7 (by decide) (hts _ wd_115) (fun _ h9 => h9) rfl dX11_keepBench_13 ?_
  refine va_astq hx hb hK hP hD hS 1 0 3 8 rfl rfl rfl rfl (by unfold vp_in; decide) dX11_keepBench_16 (fun H locs hP hD hS => ?_)
  generalize va_up (fun _ => none) _ _ = f248 at hP hD
  have hP : va_P (dC, dI) classes [(h0, .inr (10, [v0, v1, v2, v3, v4, .ref h1, .ref h2, .ref h3, v8, v9, v10, v11, v12, v13])), (h1, .inl (c1, 8, .inr (.inr (.inr (.inr f248))))), (h2, .inl (c2, 8, .inl (fun _ => 0))), (h3, .inr (8, [w0, w1, w2, w3, w4, w5, w6, w7, w8, w9, w10, w11, w12, w13, w14, w15, w16]))] H := hP
  have hD : va_D A [(h0, .inr (10, [v0, v1, v2, v3, v4, .ref h1, .ref h2, .ref h3, v8, v9, v10, v11, v12, v13])), (h1, .inl (c1, 8, .inr (.inr (.inr (.inr f248))))), (h2, .inl (c2, 8, .inl (fun _ => 0))), (h3, .inr (8, [w0, w1, w2, w3, w4, w5, w6, w7, w8, w9, w10, w11, w12, w13, w14, w15, w16]))] := hD
  refine lv_aload_n hx hb dX11_keepBench_17 rfl (lv_at hl 1 rfl) ?_
  refine va_get (D := (dC, dI)) (ci := 10) (v := .ref h2) (C := RX11) (T := TX11) (N := 14) hx hb hts inX11 hown hK hP 0 rfl rfl 6 (by decide) (hts _ wd_114) (fun _ h9 => h9) rfl dX11_keepBench_18 ?_
  refine lv_iload_n hx hb dX11_keepBench_21 rfl (lv_at hl 2 rfl) ?_
  refine lv_iconst (v := 1) hx hb dX11_keepBench_22 (by decide) ?_
  refine va_zast hx hb hK hP hD hS 2 1 rfl rfl (by unfold vp_in; decide) dX11_keepBench_23 (fun H locs hP hD hS => ?_)
  obtain ⟨f249, hf249⟩ : ∃ g : Nat → Int32, g = upd (fun _ => 0) (0 : Int32).toNatClampNeg (vp_nar .boolean 1) := ⟨_, rfl⟩
  rw [← hf249] at hP hD
  have hP : va_P (dC, dI) classes [(h0, .inr (10, [v0, v1, v2, v3, v4, .ref h1, .ref h2, .ref h3, v8, v9, v10, v11, v12, v13])), (h1, .inl (c1, 8, .inr (.inr (.inr (.inr f248))))), (h2, .inl (c2, 8, .inl f249)), (h3, .inr (8, [w0, w1, w2, w3, w4, w5, w6, w7, w8, w9, w10, w11, w12, w13, w14, w15, w16]))] H := hP
  have hD : va_D A [(h0, .inr (10, [v0, v1, v2, v3, v4, .ref h1, .ref h2, .ref h3, v8, v9, v10, v11, v12, v13])), (h1, .inl (c1, 8, .inr (.inr (.inr (.inr f248))))), (h2, .inl (c2, 8, .inl f249)), (h3, .inr (8, [w0, w1, w2, w3, w4, w5, w6, w7, w8, w9, w10, w11, w12, w13, w14, w15, w16]))] := hD
  refine lv_aload_n hx hb dX11_keepBench_24 rfl (lv_at hl 1 rfl) ?_
  refine lv_aload_nN hx hb dX11_keepBench_25 rfl (lv_at hl 0 rfl) ?_
  refine va_put (D := (dC, dI)) (ci := 10) (v := .null) (ty := (.object "SpineTables$Table")) (C := RX11) (T := TX11) (N := 14) hx hb hts inX11 tyX11 tyX11_ok nmX11 hown hK hP hD hS 0 rfl rfl 7 (by decide) (hts _ wd_115) (fun _ h9 => h9) rfl (by decide +kernel) rfl rfl (Nat.le_of_ble_eq_true rfl) dX11_keepBench_26 (fun H locs hP hD hS => ?_)
  have hP : va_P (dC, dI) classes [(h0, .inr (10, [v0, v1, v2, v3, v4, .ref h1, .ref h2, .null, v8, v9, v10, v11, v12, v13])), (h1, .inl (c1, 8, .inr (.inr (.inr (.inr f248))))), (h2, .inl (c2, 8, .inl f249)), (h3, .inr (8, [w0, w1, w2, w3, w4, w5, w6, w7, w8, w9, w10, w11, w12, w13, w14, w15, w16]))] H := hP
  have hD : va_D A [(h0, .inr (10, [v0, v1, v2, v3, v4, .ref h1, .ref h2, .null, v8, v9, v10, v11, v12, v13])), (h1, .inl (c1, 8, .inr (.inr (.inr (.inr f248))))), (h2, .inl (c2, 8, .inl f249)), (h3, .inr (8, [w0, w1, w2, w3, w4, w5, w6, w7, w8, w9, w10, w11, w12, w13, w14, w15, w16]))] := hD
  refine lv_iload_n hx hb dX11_keepBench_29 rfl (lv_at hl 2 rfl) ?_
  have hP9 := hP.sub (ws' := []) [] rfl
  have hD9 := hD.sub (ws' := []) [] (by decide) rfl
  have hK9 := hK.sub (tys' := []) [] rfl
  refine W.widen (k := 0) (n := 0) (Nat.le_of_ble_eq_true rfl) (Nat.le_of_ble_eq_true rfl) ?_
  exact W.iret (v := 0) hx hb hr (fun t ht hW => ⟨⟨0, (), rfl, rfl, by rw [ht]; exact hP9, va_K.moved hW.alike hK9, hD9⟩, hS.F ht⟩) hS.2.2 dX11_keepBench_30
set_option maxHeartbeats 4000000 in
set_option maxRecDepth 100000 in
/-- read -/
theorem c_read (l : Launch) (dC : Nat → ClassId) (dI : Nat → Nat → Nat) (h0 : Nat) (h1 : Nat) (h2 : Nat) (h3 : Nat) (h4 : Nat) (h5 : Nat) (h6 : Nat) (h7 : Nat) (h8 : Nat) (v2 : Value) (v3 : Value) (v4 : Value) (v11 : Value) (v12 : Value) (v13 : Value) (a0 : Value) (a1 : Value) (a2 : Value) (a3 : Value) (a4 : Value) (a5 : Value) (a6 : Value) (a7 : Value) (a8 : Value) (a9 : Value) (a10 : Value) (a11 : Value) (a12 : Value) (a13 : Value) (a14 : Value) (a15 : Value) (b2 : Value) (b3 : Value) (b4 : Value) (b5 : Value) (b6 : Value) (b7 : Value) (b8 : Value) (d0 : Value) (d1 : Value) (d2 : Value) (d3 : Value) (d4 : Value) (d5 : Value) (c1 : ClassId) (c2 : ClassId) (c3 : ClassId) (c4 : ClassId) (c5 : ClassId) (f1 : Nat → Int32) (f4 : Nat → Int32) (f5 : Nat → Int32) (sz : Nat) : Met l yX11_read (.code yX11_read cX11_read 5 (some .int) :: wU) ({ frames := 4, cells := 19, slots := 16469, locals := 72 } : Room) (va_Pc [.ref h0] (fun U => P5 dC dI [(h0, .inr (10, [.ref h1, .int 0, v2, v3, v4, .ref h2, .ref h3, .null, .ref h4, .ref h5, .ref h6, v11, v12, v13])), (h1, .inl (c1, 3000, .inl f1)), (h2, .inl (c2, 8, .inr (.inr (.inr (.inr (fun _ => none)))))), (h3, .inl (c3, 8, .inl (fun _ => 0))), (h4, .inr (5, [a0, a1, a2, a3, a4, a5, a6, a7, a8, a9, a10, a11, a12, a13, a14, a15])), (h5, .inr (9, [.ref h7, .ref h8, b2, b3, b4, b5, b6, b7, b8])), (h7, .inl (c4, 12, .inl f4)), (h8, .inl (c5, 12, .inl f5)), (h6, .inr (4, [d0, d1, d2, d3, d4, d5]))] [(c1, .byte), (c2, .object "SpineTables$Table"), (c3, .boolean), (c4, .int), (c5, .int)] sz U)) (va_Qi (fun (r : Int32) (_ : Unit) => r = 0) (fun _ t => P3 dC dI (va_A [(h0, .inr (10, [.ref h1, .int 0, v2, v3, v4, .ref h2, .ref h3, .null, .ref h4, .ref h5, .ref h6, v11, v12, v13])), (h1, .inl (c1, 3000, .inl f1)), (h2, .inl (c2, 8, .inr (.inr (.inr (.inr (fun _ => none)))))), (h3, .inl (c3, 8, .inl (fun _ => 0))), (h4, .inr (5, [a0, a1, a2, a3, a4, a5, a6, a7, a8, a9, a10, a11, a12, a13, a14, a15])), (h5, .inr (9, [.ref h7, .ref h8, b2, b3, b4, b5, b6, b7, b8])), (h7, .inl (c4, 12, .inl f4)), (h8, .inl (c5, 12, .inl f5)), (h6, .inr (4, [d0, d1, d2, d3, d4, d5]))] sz) [] [] t) (va_A [(h0, .inr (10, [.ref h1, .int 0, v2, v3, v4, .ref h2, .ref h3, .null, .ref h4, .ref h5, .ref h6, v11, v12, v13])), (h1, .inl (c1, 3000, .inl f1)), (h2, .inl (c2, 8, .inr (.inr (.inr (.inr (fun _ => none)))))), (h3, .inl (c3, 8, .inl (fun _ => 0))), (h4, .inr (5, [a0, a1, a2, a3, a4, a5, a6, a7, a8, a9, a10, a11, a12, a13, a14, a15])), (h5, .inr (9, [.ref h7, .ref h8, b2, b3, b4, b5, b6, b7, b8])), (h7, .inl (c4, 12, .inl f4)), (h8, .inl (c5, 12, .inl f5)), (h6, .inr (4, [d0, d1, d2, d3, d4, d5]))] sz)) 19 16469 (va_A [(h0, .inr (10, [.ref h1, .int 0, v2, v3, v4, .ref h2, .ref h3, .null, .ref h4, .ref h5, .ref h6, v11, v12, v13])), (h1, .inl (c1, 3000, .inl f1)), (h2, .inl (c2, 8, .inr (.inr (.inr (.inr (fun _ => none)))))), (h3, .inl (c3, 8, .inl (fun _ => 0))), (h4, .inr (5, [a0, a1, a2, a3, a4, a5, a6, a7, a8, a9, a10, a11, a12, a13, a14, a15])), (h5, .inr (9, [.ref h7, .ref h8, b2, b3, b4, b5, b6, b7, b8])), (h7, .inl (c4, 12, .inl f4)), (h8, .inl (c5, 12, .inl f5)), (h6, .inr (4, [d0, d1, d2, d3, d4, d5]))] sz) := by
  refine Met.ofW (cc := cX11_read) (maxL := 5) (ret := (some .int)) (by decide) rfl ?_
  intro p e s m args below meth c s₁ B hml hv
  obtain ⟨rfl, hsz, hP, hK, hD0, hE⟩ := hv
  have hx := B.exec
  have hb := B.bytes
  have hr := B.returns
  have hts0 := atoms_spec (ws := (.code yX11_read cX11_read 5 (some .int) :: wU)) B.pre
  have hts : ∀ w ∈ wU, w.before _ s = true := fun w h => hts0 w (List.mem_cons_of_mem _ h)
  have hown : s.vm.findClass "SpineTables" = some m.cls := findClass_of_methodNamed B.named
  have hlocks := B.notSynchronized
  subst hsz
  have hD := hD0.self (sz := s.heap.size)
  generalize hAe : va_A [(h0, .inr (10, [.ref h1, .int 0, v2, v3, v4, .ref h2, .ref h3, .null, .ref h4, .ref h5, .ref h6, v11, v12, v13])), (h1, .inl (c1, 3000, .inl f1)), (h2, .inl (c2, 8, .inr (.inr (.inr (.inr (fun _ => none)))))), (h3, .inl (c3, 8, .inl (fun _ => 0))), (h4, .inr (5, [a0, a1, a2, a3, a4, a5, a6, a7, a8, a9, a10, a11, a12, a13, a14, a15])), (h5, .inr (9, [.ref h7, .ref h8, b2, b3, b4, b5, b6, b7, b8])), (h7, .inl (c4, 12, .inl f4)), (h8, .inl (c5, 12, .inl f5)), (h6, .inr (4, [d0, d1, d2, d3, d4, d5]))] s.heap.size = A at hD ⊢
  have hA : ∀ q : Nat, s.heap.size ≤ q → A q := fun q h => by rw [← hAe]; exact Or.inr h
  have hP : va_P (dC, dI) classes [(h0, .inr (10, [.ref h1, .int 0, v2, v3, v4, .ref h2, .ref h3, .null, .ref h4, .ref h5, .ref h6, v11, v12, v13])), (h1, .inl (c1, 3000, .inl f1)), (h2, .inl (c2, 8, .inr (.inr (.inr (.inr (fun _ => none)))))), (h3, .inl (c3, 8, .inl (fun _ => 0))), (h4, .inr (5, [a0, a1, a2, a3, a4, a5, a6, a7, a8, a9, a10, a11, a12, a13, a14, a15])), (h5, .inr (9, [.ref h7, .ref h8, b2, b3, b4, b5, b6, b7, b8])), (h7, .inl (c4, 12, .inl f4)), (h8, .inl (c5, 12, .inl f5)), (h6, .inr (4, [d0, d1, d2, d3, d4, d5]))] s.heap := hP
  have hl := lv_entry ([.ref h0]) (n := 5) (Nat.le_of_ble_eq_true rfl)
  rw [lg_entry_eq]
  generalize (lg_sl ([.ref h0]) ++ List.replicate (5 - (lg_sl ([.ref h0])).length) Slot.unset).toArray = ls at hl ⊢
  have hl : lv_has ls 5 [(0, .ref h0)] := hl
  obtain ⟨H, hH⟩ : ∃ H, H = s.heap := ⟨_, rfl⟩
  rw [← hH] at hP
  have hS : va_S A s.heap H [] := by rw [hH]; exact va_S.rf
  refine w_heap hH ?_
  refine lv_aload_n hx hb dX11_read_0 rfl (lv_at hl 0 rfl) ?_
  refine va_get (D := (dC, dI)) (ci := 10) (v := .int 0) (C := RX11) (T := TX11) (N := 14) hx hb hts inX11 hown hK hP 0 rfl rfl 1 (by decide) (hts _ wd_107) (fun _ h9 => h9) rfl dX11_read_1 ?_
  refine lv_istore_n (lv' := [(1, .int 0), (0, .ref h0)]) hx hb dX11_read_4 rfl hl (by decide) rfl (fun ls hl => ?_)
  refine lv_aload_n hx hb dX11_read_5 rfl (lv_at hl 1 rfl) ?_
  refine lv_iconst (v := 0) hx hb dX11_read_6 (by decide) ?_
  refine va_put (D := (dC, dI)) (ci := 10) (v := .int 0) (ty := .int) (C := RX11) (T := TX11) (N := 14) hx hb hts inX11 tyX11 tyX11_ok nmX11 hown hK hP hD hS 0 rfl rfl 1 (by decide) (hts _ wd_107) (fun _ h9 => h9) rfl (by decide +kernel) rfl rfl (Nat.le_of_ble_eq_true rfl) dX11_read_7 (fun H locs hP hD hS => ?_)
  have hP : va_P (dC, dI) classes [(h0, .inr (10, [.ref h1, .int 0, v2, v3, v4, .ref h2, .ref h3, .null, .ref h4, .ref h5, .ref h6, v11, v12, v13])), (h1, .inl (c1, 3000, .inl f1)), (h2, .inl (c2, 8, .inr (.inr (.inr (.inr (fun _ => none)))))), (h3, .inl (c3, 8, .inl (fun _ => 0))), (h4, .inr (5, [a0, a1, a2, a3, a4, a5, a6, a7, a8, a9, a10, a11, a12, a13, a14, a15])), (h5, .inr (9, [.ref h7, .ref h8, b2, b3, b4, b5, b6, b7, b8])), (h7, .inl (c4, 12, .inl f4)), (h8, .inl (c5, 12, .inl f5)), (h6, .inr (4, [d0, d1, d2, d3, d4, d5]))] H := hP
  have hD : va_D A [(h0, .inr (10, [.ref h1, .int 0, v2, v3, v4, .ref h2, .ref h3, .null, .ref h4, .ref h5, .ref h6, v11, v12, v13])), (h1, .inl (c1, 3000, .inl f1)), (h2, .inl (c2, 8, .inr (.inr (.inr (.inr (fun _ => none)))))), (h3, .inl (c3, 8, .inl (fun _ => 0))), (h4, .inr (5, [a0, a1, a2, a3, a4, a5, a6, a7, a8, a9, a10, a11, a12, a13, a14, a15])), (h5, .inr (9, [.ref h7, .ref h8, b2, b3, b4, b5, b6, b7, b8])), (h7, .inl (c4, 12, .inl f4)), (h8, .inl (c5, 12, .inl f5)), (h6, .inr (4, [d0, d1, d2, d3, d4, d5]))] := hD
  refine lv_aload_n hx hb dX11_read_10 rfl (lv_at hl 1 rfl) ?_
  have hPc := hP.sub (ws' := [(h0, .inr (10, [.ref h1, .int 0, v2, v3, v4, .ref h2, .ref h3, .null, .ref h4, .ref h5, .ref h6, v11, v12, v13])), (h3, .inl (c3, 8, .inl (fun _ => 0)))]) [0, 3] rfl
  have hDc := hD.sub (ws' := [(h0, .inr (10, [.ref h1, .int 0, v2, v3, v4, .ref h2, .ref h3, .null, .ref h4, .ref h5, .ref h6, v11, v12, v13])), (h3, .inl (c3, 8, .inl (fun _ => 0)))]) [0, 3] (by decide) rfl
  have hKc := hK.sub (tys' := [(c3, .boolean)]) [2] rfl
  have hFc := va_free (wc := [(h0, .inr (10, [.ref h1, .int 0, v2, v3, v4, .ref h2, .ref h3, .null, .ref h4, .ref h5, .ref h6, v11, v12, v13])), (h3, .inl (c3, 8, .inl (fun _ => 0)))]) hD hS hA [0, 3] rfl
  refine va_calli (va_runV (As := []) (rest := []) ⟨hx, hb, hml, hown, hts⟩ (c_freePlace l dC dI h0 h3 (.ref h1) (.int 0) v2 v3 v4 (.ref h2) (.null) (.ref h4) (.ref h5) (.ref h6) v11 v12 v13 c3 H.size) (cwV 0 hts (goV wd_292 wd_293 wd_291 wd_191 wd_290) rfl rfl rfl (by decide +kernel) ⟨Nat.le_of_ble_eq_true rfl, Nat.le_of_ble_eq_true rfl⟩) ⟨blind5, va_recv hKc hPc (ci := 10) (q0 := 0) rfl rfl, fun U hU hW => ⟨rfl, pre5 hU hW hPc hKc hDc hE⟩⟩ rfl rfl hl.1 rfl (lv_room (Nat.le_of_ble_eq_true rfl)) dX11_read_11 ⟨Nat.le_of_ble_eq_true rfl, Nat.le_of_ble_eq_true rfl⟩) hS (fun q _ h => hFc q h) hFc (fun r250 u t H1 locs ht hvm hw hB hz1 hk1 hS => ?_)
  obtain rfl : r250 = 0 := hw
  obtain ⟨hP1, hK1, hD1⟩ := hB
  rw [ht] at hP1
  have hK1 := va_K.moved hvm.symm hK1
  obtain ⟨hP, hD⟩ := va_join (wr := [(h1, .inl (c1, 3000, .inl f1)), (h2, .inl (c2, 8, .inr (.inr (.inr (.inr (fun _ => none)))))), (h4, .inr (5, [a0, a1, a2, a3, a4, a5, a6, a7, a8, a9, a10, a11, a12, a13, a14, a15])), (h5, .inr (9, [.ref h7, .ref h8, b2, b3, b4, b5, b6, b7, b8])), (h7, .inl (c4, 12, .inl f4)), (h8, .inl (c5, 12, .inl f5)), (h6, .inr (4, [d0, d1, d2, d3, d4, d5]))]) (w1 := [(h0, .inr (10, [.ref h1, .int 0, v2, v3, v4, .ref h2, .ref h3, .null, .ref h4, .ref h5, .ref h6, v11, v12, v13])), (h3, .inl (c3, 8, .inl (fun _ => 0)))]) hP hD [0, 3] [1, 2, 4, 5, 6, 7, 8] rfl rfl (by decide) (by decide) hk1 hFc hP1 hD1
  have hK := (hK.sub (tys' := [(c1, .byte), (c2, .object "SpineTables$Table"), (c4, .int), (c5, .int)]) [0, 1, 3, 4] rfl).app hK1
  generalize H1 = H at hP hS ⊢
  have hK : va_K (dC, dI) classes [(c1, .byte), (c2, .object "SpineTables$Table"), (c4, .int), (c5, .int), (c3, .boolean)] s := hK
  have hP : va_P (dC, dI) classes [(h1, .inl (c1, 3000, .inl f1)), (h2, .inl (c2, 8, .inr (.inr (.inr (.inr (fun _ => none)))))), (h4, .inr (5, [a0, a1, a2, a3, a4, a5, a6, a7, a8, a9, a10, a11, a12, a13, a14, a15])), (h5, .inr (9, [.ref h7, .ref h8, b2, b3, b4, b5, b6, b7, b8])), (h7, .inl (c4, 12, .inl f4)), (h8, .inl (c5, 12, .inl f5)), (h6, .inr (4, [d0, d1, d2, d3, d4, d5])), (h0, .inr (10, [.ref h1, .int 0, v2, v3, v4, .ref h2, .ref h3, .null, .ref h4, .ref h5, .ref h6, v11, v12, v13])), (h3, .inl (c3, 8, .inl (fun _ => 0)))] H := hP
  have hD : va_D A [(h1, .inl (c1, 3000, .inl f1)), (h2, .inl (c2, 8, .inr (.inr (.inr (.inr (fun _ => none)))))), (h4, .inr (5, [a0, a1, a2, a3, a4, a5, a6, a7, a8, a9, a10, a11, a12, a13, a14, a15])), (h5, .inr (9, [.ref h7, .ref h8, b2, b3, b4, b5, b6, b7, b8])), (h7, .inl (c4, 12, .inl f4)), (h8, .inl (c5, 12, .inl f5)), (h6, .inr (4, [d0, d1, d2, d3, d4, d5])), (h0, .inr (10, [.ref h1, .int 0, v2, v3, v4, .ref h2, .ref h3, .null, .ref h4, .ref h5, .ref h6, v11, v12, v13])), (h3, .inl (c3, 8, .inl (fun _ => 0)))] := hD
  refine lv_istore_n (lv' := [(2, .int 0), (1, .int 0), (0, .ref h0)]) hx hb dX11_read_14 rfl hl (by decide) rfl (fun ls hl => ?_)
  refine lv_iload_n hx hb dX11_read_15 rfl (lv_at hl 0 rfl) ?_
  refine lv_iconst (v := -1) hx hb dX11_read_16 (by decide) ?_
  refine lv_icmp_ne (tgt := 23) hx hb dX11_read_17 (by decide) (fun _ => ?_) (fun hc => absurd hc (by decide))
  refine lv_aload_n hx hb dX11_read_23 rfl (lv_at hl 2 rfl) ?_
  have hPc := hP.sub (ws' := [(h0, .inr (10, [.ref h1, .int 0, v2, v3, v4, .ref h2, .ref h3, .null, .ref h4, .ref h5, .ref h6, v11, v12, v13]))]) [7] rfl
  have hDc := hD.sub (ws' := [(h0, .inr (10, [.ref h1, .int 0, v2, v3, v4, .ref h2, .ref h3, .null, .ref h4, .ref h5, .ref h6, v11, v12, v13]))]) [7] (by decide) rfl
  have hKc := hK.sub (tys' := []) [] rfl
  have hFc := va_free (wc := [(h0, .inr (10, [.ref h1, .int 0, v2, v3, v4, .ref h2, .ref h3, .null, .ref h4, .ref h5, .ref h6, v11, v12, v13]))]) hD hS hA [7] rfl
  refine va_callr (va_runV (As := []) (rest := []) ⟨hx, hb, hml, hown, hts⟩ (c_clearBench l dC dI h0 (.ref h1) (.int 0) v2 v3 v4 (.ref h2) (.ref h3) (.ref h4) (.ref h5) (.ref h6) v11 v12 v13 H.size) (cwV 0 hts (goV wd_296 wd_297 wd_295 wd_191 wd_294) rfl rfl rfl (by decide +kernel) ⟨Nat.le_of_ble_eq_true rfl, Nat.le_of_ble_eq_true rfl⟩) ⟨blind5, va_recv hKc hPc (ci := 10) (q0 := 0) rfl rfl, fun U hU hW => ⟨rfl, pre5 hU hW hPc hKc hDc hE⟩⟩ rfl rfl hl.1 rfl (lv_room (Nat.le_of_ble_eq_true rfl)) dX11_read_24 ⟨Nat.le_of_ble_eq_true rfl, Nat.le_of_ble_eq_true rfl⟩) hS (fun q _ h => hFc q h) hFc (fun u q251 t H1 locs ht hvm hw hB hz1 hk1 hS => ?_)
  obtain ⟨q252, q253, q254, q255, q256, q257, q258, q259, q260, q261, q262, q263, q264, q265, q266, q267, q268, q269, y270, y271, hP1, hK1, hD1⟩ := hB
  rw [ht] at hP1
  have hK1 := va_K.moved hvm.symm hK1
  obtain ⟨hP, hD⟩ := va_join (wr := [(h1, .inl (c1, 3000, .inl f1)), (h2, .inl (c2, 8, .inr (.inr (.inr (.inr (fun _ => none)))))), (h4, .inr (5, [a0, a1, a2, a3, a4, a5, a6, a7, a8, a9, a10, a11, a12, a13, a14, a15])), (h5, .inr (9, [.ref h7, .ref h8, b2, b3, b4, b5, b6, b7, b8])), (h7, .inl (c4, 12, .inl f4)), (h8, .inl (c5, 12, .inl f5)), (h6, .inr (4, [d0, d1, d2, d3, d4, d5])), (h3, .inl (c3, 8, .inl (fun _ => 0)))]) (w1 := [(h0, .inr (10, [.ref h1, .int 0, v2, v3, v4, .ref h2, .ref h3, .ref q251, .ref h4, .ref h5, .ref h6, v11, v12, v13])), (q251, .inr (8, [.ref q252, .ref q253, .ref q254, .ref q255, .ref q256, .ref q257, .ref q258, .ref q259, .int 0, .int 0, .int (-1), .int 0, .ref q260, .ref q261, .ref q262, .int (-1), .int 0])), (q252, .inr (6, [.ref q263, .ref q264, .ref q265, .ref q266, .ref q267, .ref q268, .ref q269, .int 0, .int 0, .int 0, .int 0])), (q261, .inl (y270, 201, .inl (fun _ => 0))), (q262, .inl (y271, 201, .inl (fun _ => 0)))]) hP hD [7] [0, 1, 2, 3, 4, 5, 6, 8] rfl rfl (by decide) (by decide) hk1 hFc hP1 hD1
  have hK := (hK.sub (tys' := [(c1, .byte), (c2, .object "SpineTables$Table"), (c4, .int), (c5, .int), (c3, .boolean)]) [0, 1, 2, 3, 4] rfl).app hK1
  generalize H1 = H at hP hS ⊢
  have hK : va_K (dC, dI) classes [(c1, .byte), (c2, .object "SpineTables$Table"), (c4, .int), (c5, .int), (c3, .boolean), (y270, .int), (y271, .int)] s := hK
  have hP : va_P (dC, dI) classes [(h1, .inl (c1, 3000, .inl f1)), (h2, .inl (c2, 8, .inr (.inr (.inr (.inr (fun _ => none)))))), (h4, .inr (5, [a0, a1, a2, a3, a4, a5, a6, a7, a8, a9, a10, a11, a12, a13, a14, a15])), (h5, .inr (9, [.ref h7, .ref h8, b2, b3, b4, b5, b6, b7, b8])), (h7, .inl (c4, 12, .inl f4)), (h8, .inl (c5, 12, .inl f5)), (h6, .inr (4, [d0, d1, d2, d3, d4, d5])), (h3, .inl (c3, 8, .inl (fun _ => 0))), (h0, .inr (10, [.ref h1, .int 0, v2, v3, v4, .ref h2, .ref h3, .ref q251, .ref h4, .ref h5, .ref h6, v11, v12, v13])), (q251, .inr (8, [.ref q252, .ref q253, .ref q254, .ref q255, .ref q256, .ref q257, .ref q258, .ref q259, .int 0, .int 0, .int (-1), .int 0, .ref q260, .ref q261, .ref q262, .int (-1), .int 0])), (q252, .inr (6, [.ref q263, .ref q264, .ref q265, .ref q266, .ref q267, .ref q268, .ref q269, .int 0, .int 0, .int 0, .int 0])), (q261, .inl (y270, 201, .inl (fun _ => 0))), (q262, .inl (y271, 201, .inl (fun _ => 0)))] H := hP
  have hD : va_D A [(h1, .inl (c1, 3000, .inl f1)), (h2, .inl (c2, 8, .inr (.inr (.inr (.inr (fun _ => none)))))), (h4, .inr (5, [a0, a1, a2, a3, a4, a5, a6, a7, a8, a9, a10, a11, a12, a13, a14, a15])), (h5, .inr (9, [.ref h7, .ref h8, b2, b3, b4, b5, b6, b7, b8])), (h7, .inl (c4, 12, .inl f4)), (h8, .inl (c5, 12, .inl f5)), (h6, .inr (4, [d0, d1, d2, d3, d4, d5])), (h3, .inl (c3, 8, .inl (fun _ => 0))), (h0, .inr (10, [.ref h1, .int 0, v2, v3, v4, .ref h2, .ref h3, .ref q251, .ref h4, .ref h5, .ref h6, v11, v12, v13])), (q251, .inr (8, [.ref q252, .ref q253, .ref q254, .ref q255, .ref q256, .ref q257, .ref q258, .ref q259, .int 0, .int 0, .int (-1), .int 0, .ref q260, .ref q261, .ref q262, .int (-1), .int 0])), (q252, .inr (6, [.ref q263, .ref q264, .ref q265, .ref q266, .ref q267, .ref q268, .ref q269, .int 0, .int 0, .int 0, .int 0])), (q261, .inl (y270, 201, .inl (fun _ => 0))), (q262, .inl (y271, 201, .inl (fun _ => 0)))] := hD
  refine W.widen (k := 19) (n := 16469) (Nat.le_of_ble_eq_true rfl) (Nat.le_of_ble_eq_true rfl) ?_
  refine lv_astore_n (lv' := [(3, .ref q251), (2, .int 0), (1, .int 0), (0, .ref h0)]) hx hb dX11_read_27 rfl hl (by decide) rfl (fun ls hl => ?_)
  refine lv_aload_n hx hb dX11_read_28 rfl (lv_at hl 3 rfl) ?_
  refine va_get (D := (dC, dI)) (ci := 10) (v := .ref h4) (C := RX11) (T := TX11) (N := 14) hx hb hts inX11 hown hK hP 8 rfl rfl 8 (by decide) (hts _ wd_121) (fun _ h9 => h9) rfl dX11_read_29 ?_
  refine lv_aload_n hx hb dX11_read_32 rfl (lv_at hl 3 rfl) ?_
  refine va_get (D := (dC, dI)) (ci := 10) (v := .ref h1) (C := RX11) (T := TX11) (N := 14) hx hb hts inX11 hown hK hP 8 rfl rfl 0 (by decide) (hts _ wd_106) (fun _ h9 => h9) rfl dX11_read_33 ?_
  refine lv_iload_n hx hb dX11_read_36 rfl (lv_at hl 2 rfl) ?_
  refine lv_aload_n hx hb dX11_read_37 rfl (lv_at hl 0 rfl) ?_
  have hPc := hP.sub (ws' := [(h4, .inr (5, [a0, a1, a2, a3, a4, a5, a6, a7, a8, a9, a10, a11, a12, a13, a14, a15])), (h1, .inl (c1, 3000, .inl f1)), (q251, .inr (8, [.ref q252, .ref q253, .ref q254, .ref q255, .ref q256, .ref q257, .ref q258, .ref q259, .int 0, .int 0, .int (-1), .int 0, .ref q260, .ref q261, .ref q262, .int (-1), .int 0]))]) [2, 0, 9] rfl
  have hDc := hD.sub (ws' := [(h4, .inr (5, [a0, a1, a2, a3, a4, a5, a6, a7, a8, a9, a10, a11, a12, a13, a14, a15])), (h1, .inl (c1, 3000, .inl f1)), (q251, .inr (8, [.ref q252, .ref q253, .ref q254, .ref q255, .ref q256, .ref q257, .ref q258, .ref q259, .int 0, .int 0, .int (-1), .int 0, .ref q260, .ref q261, .ref q262, .int (-1), .int 0]))]) [2, 0, 9] (by decide) rfl
  have hKc := hK.sub (tys' := [(c1, .byte)]) [0] rfl
  have hFc := va_free (wc := [(h4, .inr (5, [a0, a1, a2, a3, a4, a5, a6, a7, a8, a9, a10, a11, a12, a13, a14, a15])), (h1, .inl (c1, 3000, .inl f1)), (q251, .inr (8, [.ref q252, .ref q253, .ref q254, .ref q255, .ref q256, .ref q257, .ref q258, .ref q259, .int 0, .int 0, .int (-1), .int 0, .ref q260, .ref q261, .ref q262, .int (-1), .int 0]))]) hD hS hA [2, 0, 9] rfl
  refine va_calli (va_runV (As := [.ref h1, .int 0, .ref q251]) (rest := []) ⟨hx, hb, hml, hown, hts⟩ (c_take l dC dI h4 h1 q251 a0 a1 a2 a3 a4 a5 a6 a7 a8 a9 a10 a11 a12 a13 a14 a15 (.ref q252) (.ref q253) (.ref q254) (.ref q255) (.ref q256) (.ref q257) (.ref q258) (.ref q259) (.int 0) (.int 0) (.int (-1)) (.ref q260) (.ref q261) (.ref q262) (.int (-1)) (.int 0) c1 f1 H.size) (cwV 3 hts (goV wd_300 wd_301 wd_299 wd_118 wd_298) rfl rfl rfl (by decide +kernel) ⟨Nat.le_of_ble_eq_true rfl, Nat.le_of_ble_eq_true rfl⟩) ⟨blind5, va_recv hKc hPc (ci := 5) (q0 := 0) rfl rfl, fun U hU hW => ⟨rfl, pre5 hU hW hPc hKc hDc hE⟩⟩ rfl rfl hl.1 rfl (lv_room (Nat.le_of_ble_eq_true rfl)) dX11_read_38 ⟨Nat.le_of_ble_eq_true rfl, Nat.le_of_ble_eq_true rfl⟩) hS (fun q _ h => hFc q h) hFc (fun r272 u t H1 locs ht hvm hw hB hz1 hk1 hS => ?_)
  obtain rfl : r272 = 1 := hw
  obtain ⟨hP1, hK1, hD1⟩ := hB
  rw [ht] at hP1
  have hK1 := va_K.moved hvm.symm hK1
  obtain ⟨hP, hD⟩ := va_join (wr := [(h2, .inl (c2, 8, .inr (.inr (.inr (.inr (fun _ => none)))))), (h5, .inr (9, [.ref h7, .ref h8, b2, b3, b4, b5, b6, b7, b8])), (h7, .inl (c4, 12, .inl f4)), (h8, .inl (c5, 12, .inl f5)), (h6, .inr (4, [d0, d1, d2, d3, d4, d5])), (h3, .inl (c3, 8, .inl (fun _ => 0))), (h0, .inr (10, [.ref h1, .int 0, v2, v3, v4, .ref h2, .ref h3, .ref q251, .ref h4, .ref h5, .ref h6, v11, v12, v13])), (q252, .inr (6, [.ref q263, .ref q264, .ref q265, .ref q266, .ref q267, .ref q268, .ref q269, .int 0, .int 0, .int 0, .int 0])), (q261, .inl (y270, 201, .inl (fun _ => 0))), (q262, .inl (y271, 201, .inl (fun _ => 0)))]) (w1 := [(h4, .inr (5, [.int 0, .int 0, .ref h1, .int 0, .ref q251, a5, a6, a7, a8, a9, a10, a11, a12, a13, a14, a15])), (q251, .inr (8, [.ref q252, .ref q253, .ref q254, .ref q255, .ref q256, .ref q257, .ref q258, .ref q259, .int 0, .int 0, .int (-1), .int 0, .ref q260, .ref q261, .ref q262, .int (-1), .int 0]))]) hP hD [2, 0, 9] [1, 3, 4, 5, 6, 7, 8, 10, 11, 12] rfl rfl (by decide) (by decide) hk1 hFc hP1 hD1
  have hK := (hK.sub (tys' := [(c2, .object "SpineTables$Table"), (c4, .int), (c5, .int), (c3, .boolean), (y270, .int), (y271, .int)]) [1, 2, 3, 4, 5, 6] rfl).app hK1
  generalize H1 = H at hP hS ⊢
  have hK : va_K (dC, dI) classes [(c2, .object "SpineTables$Table"), (c4, .int), (c5, .int), (c3, .boolean), (y270, .int), (y271, .int)] s := hK
  have hP : va_P (dC, dI) classes [(h2, .inl (c2, 8, .inr (.inr (.inr (.inr (fun _ => none)))))), (h5, .inr (9, [.ref h7, .ref h8, b2, b3, b4, b5, b6, b7, b8])), (h7, .inl (c4, 12, .inl f4)), (h8, .inl (c5, 12, .inl f5)), (h6, .inr (4, [d0, d1, d2, d3, d4, d5])), (h3, .inl (c3, 8, .inl (fun _ => 0))), (h0, .inr (10, [.ref h1, .int 0, v2, v3, v4, .ref h2, .ref h3, .ref q251, .ref h4, .ref h5, .ref h6, v11, v12, v13])), (q252, .inr (6, [.ref q263, .ref q264, .ref q265, .ref q266, .ref q267, .ref q268, .ref q269, .int 0, .int 0, .int 0, .int 0])), (q261, .inl (y270, 201, .inl (fun _ => 0))), (q262, .inl (y271, 201, .inl (fun _ => 0))), (h4, .inr (5, [.int 0, .int 0, .ref h1, .int 0, .ref q251, a5, a6, a7, a8, a9, a10, a11, a12, a13, a14, a15])), (q251, .inr (8, [.ref q252, .ref q253, .ref q254, .ref q255, .ref q256, .ref q257, .ref q258, .ref q259, .int 0, .int 0, .int (-1), .int 0, .ref q260, .ref q261, .ref q262, .int (-1), .int 0]))] H := hP
  have hD : va_D A [(h2, .inl (c2, 8, .inr (.inr (.inr (.inr (fun _ => none)))))), (h5, .inr (9, [.ref h7, .ref h8, b2, b3, b4, b5, b6, b7, b8])), (h7, .inl (c4, 12, .inl f4)), (h8, .inl (c5, 12, .inl f5)), (h6, .inr (4, [d0, d1, d2, d3, d4, d5])), (h3, .inl (c3, 8, .inl (fun _ => 0))), (h0, .inr (10, [.ref h1, .int 0, v2, v3, v4, .ref h2, .ref h3, .ref q251, .ref h4, .ref h5, .ref h6, v11, v12, v13])), (q252, .inr (6, [.ref q263, .ref q264, .ref q265, .ref q266, .ref q267, .ref q268, .ref q269, .int 0, .int 0, .int 0, .int 0])), (q261, .inl (y270, 201, .inl (fun _ => 0))), (q262, .inl (y271, 201, .inl (fun _ => 0))), (h4, .inr (5, [.int 0, .int 0, .ref h1, .int 0, .ref q251, a5, a6, a7, a8, a9, a10, a11, a12, a13, a14, a15])), (q251, .inr (8, [.ref q252, .ref q253, .ref q254, .ref q255, .ref q256, .ref q257, .ref q258, .ref q259, .int 0, .int 0, .int (-1), .int 0, .ref q260, .ref q261, .ref q262, .int (-1), .int 0]))] := hD
  refine lv_istore (lv' := [(4, .int 1), (3, .ref q251), (2, .int 0), (1, .int 0), (0, .ref h0)]) hx hb dX11_read_41 hl (by decide) rfl (fun ls hl => ?_)
  refine lv_aload_n hx hb dX11_read_43 rfl (lv_at hl 4 rfl) ?_
  refine lv_aload_n hx hb dX11_read_44 rfl (lv_at hl 4 rfl) ?_
  refine va_get (D := (dC, dI)) (ci := 10) (v := .ref h4) (C := RX11) (T := TX11) (N := 14) hx hb hts inX11 hown hK hP 6 rfl rfl 8 (by decide) (hts _ wd_121) (fun _ h9 => h9) rfl dX11_read_45 ?_
  refine va_get (D := (dC, dI)) (ci := 5) (v := .int 0) (C := RX5) (T := TX5) (N := 16) hx hb hts inX5 hown hK hP 10 rfl rfl 0 (by decide) (hts _ wd_302) (fun _ h9 => h9) rfl dX11_read_48 ?_
  refine va_put (D := (dC, dI)) (ci := 10) (v := .int 0) (ty := .int) (C := RX11) (T := TX11) (N := 14) hx hb hts inX11 tyX11 tyX11_ok nmX11 hown hK hP hD hS 6 rfl rfl 4 (by decide) (hts _ wd_110) (fun _ h9 => h9) rfl (by decide +kernel) rfl rfl (Nat.le_of_ble_eq_true rfl) dX11_read_51 (fun H locs hP hD hS => ?_)
  have hP : va_P (dC, dI) classes [(h2, .inl (c2, 8, .inr (.inr (.inr (.inr (fun _ => none)))))), (h5, .inr (9, [.ref h7, .ref h8, b2, b3, b4, b5, b6, b7, b8])), (h7, .inl (c4, 12, .inl f4)), (h8, .inl (c5, 12, .inl f5)), (h6, .inr (4, [d0, d1, d2, d3, d4, d5])), (h3, .inl (c3, 8, .inl (fun _ => 0))), (h0, .inr (10, [.ref h1, .int 0, v2, v3, .int 0, .ref h2, .ref h3, .ref q251, .ref h4, .ref h5, .ref h6, v11, v12, v13])), (q252, .inr (6, [.ref q263, .ref q264, .ref q265, .ref q266, .ref q267, .ref q268, .ref q269, .int 0, .int 0, .int 0, .int 0])), (q261, .inl (y270, 201, .inl (fun _ => 0))), (q262, .inl (y271, 201, .inl (fun _ => 0))), (h4, .inr (5, [.int 0, .int 0, .ref h1, .int 0, .ref q251, a5, a6, a7, a8, a9, a10, a11, a12, a13, a14, a15])), (q251, .inr (8, [.ref q252, .ref q253, .ref q254, .ref q255, .ref q256, .ref q257, .ref q258, .ref q259, .int 0, .int 0, .int (-1), .int 0, .ref q260, .ref q261, .ref q262, .int (-1), .int 0]))] H := hP
  have hD : va_D A [(h2, .inl (c2, 8, .inr (.inr (.inr (.inr (fun _ => none)))))), (h5, .inr (9, [.ref h7, .ref h8, b2, b3, b4, b5, b6, b7, b8])), (h7, .inl (c4, 12, .inl f4)), (h8, .inl (c5, 12, .inl f5)), (h6, .inr (4, [d0, d1, d2, d3, d4, d5])), (h3, .inl (c3, 8, .inl (fun _ => 0))), (h0, .inr (10, [.ref h1, .int 0, v2, v3, .int 0, .ref h2, .ref h3, .ref q251, .ref h4, .ref h5, .ref h6, v11, v12, v13])), (q252, .inr (6, [.ref q263, .ref q264, .ref q265, .ref q266, .ref q267, .ref q268, .ref q269, .int 0, .int 0, .int 0, .int 0])), (q261, .inl (y270, 201, .inl (fun _ => 0))), (q262, .inl (y271, 201, .inl (fun _ => 0))), (h4, .inr (5, [.int 0, .int 0, .ref h1, .int 0, .ref q251, a5, a6, a7, a8, a9, a10, a11, a12, a13, a14, a15])), (q251, .inr (8, [.ref q252, .ref q253, .ref q254, .ref q255, .ref q256, .ref q257, .ref q258, .ref q259, .int 0, .int 0, .int (-1), .int 0, .ref q260, .ref q261, .ref q262, .int (-1), .int 0]))] := hD
  refine lv_iload hx hb dX11_read_54 (lv_at hl 0 rfl) ?_
  refine lv_if_ne (tgt := 70) hx hb dX11_read_56 (by decide) (fun _ => ?_) (fun hc => absurd hc (by decide))
  refine lv_aload_n hx hb dX11_read_70 rfl (lv_at hl 4 rfl) ?_
  refine va_get (D := (dC, dI)) (ci := 10) (v := .ref h6) (C := RX11) (T := TX11) (N := 14) hx hb hts inX11 hown hK hP 6 rfl rfl 10 (by decide) (hts _ wd_133) (fun _ h9 => h9) rfl dX11_read_71 ?_
  refine lv_aload_n hx hb dX11_read_74 rfl (lv_at hl 1 rfl) ?_
  have hPc := hP.sub (ws' := [(h6, .inr (4, [d0, d1, d2, d3, d4, d5])), (q251, .inr (8, [.ref q252, .ref q253, .ref q254, .ref q255, .ref q256, .ref q257, .ref q258, .ref q259, .int 0, .int 0, .int (-1), .int 0, .ref q260, .ref q261, .ref q262, .int (-1), .int 0])), (q252, .inr (6, [.ref q263, .ref q264, .ref q265, .ref q266, .ref q267, .ref q268, .ref q269, .int 0, .int 0, .int 0, .int 0]))]) [4, 11, 7] rfl
  have hDc := hD.sub (ws' := [(h6, .inr (4, [d0, d1, d2, d3, d4, d5])), (q251, .inr (8, [.ref q252, .ref q253, .ref q254, .ref q255, .ref q256, .ref q257, .ref q258, .ref q259, .int 0, .int 0, .int (-1), .int 0, .ref q260, .ref q261, .ref q262, .int (-1), .int 0])), (q252, .inr (6, [.ref q263, .ref q264, .ref q265, .ref q266, .ref q267, .ref q268, .ref q269, .int 0, .int 0, .int 0, .int 0]))]) [4, 11, 7] (by decide) rfl
  have hKc := hK.sub (tys' := []) [] rfl
  have hFc := va_free (wc := [(h6, .inr (4, [d0, d1, d2, d3, d4, d5])), (q251, .inr (8, [.ref q252, .ref q253, .ref q254, .ref q255, .ref q256, .ref q257, .ref q258, .ref q259, .int 0, .int 0, .int (-1), .int 0, .ref q260, .ref q261, .ref q262, .int (-1), .int 0])), (q252, .inr (6, [.ref q263, .ref q264, .ref q265, .ref q266, .ref q267, .ref q268, .ref q269, .int 0, .int 0, .int 0, .int 0]))]) hD hS hA [4, 11, 7] rfl
  refine va_callv (va_runV (As := [.ref q251]) (rest := []) ⟨hx, hb, hml, hown, hts⟩ (c_fill l dC dI h6 q251 q252 d0 d1 d2 d3 d4 d5 (.ref q253) (.ref q254) (.ref q255) (.ref q256) (.ref q257) (.ref q258) (.ref q259) (.int 0) (.int 0) (.int (-1)) (.int 0) (.ref q260) (.ref q261) (.ref q262) (.int (-1)) (.int 0) (.ref q263) (.ref q264) (.ref q265) (.ref q266) (.ref q267) (.ref q268) (.ref q269) (.int 0) (.int 0) (.int 0) H.size) (cwV 1 hts (goV wd_305 wd_306 wd_304 wd_130 wd_303) rfl rfl rfl (by decide +kernel) ⟨Nat.le_of_ble_eq_true rfl, Nat.le_of_ble_eq_true rfl⟩) ⟨blind5, va_recv hKc hPc (ci := 4) (q0 := 0) rfl rfl, fun U hU hW => ⟨rfl, pre5 hU hW hPc hKc hDc hE⟩⟩ rfl rfl hl.1 rfl (lv_room (Nat.le_of_ble_eq_true rfl)) dX11_read_75 ⟨Nat.le_of_ble_eq_true rfl, Nat.le_of_ble_eq_true rfl⟩) hS (fun q _ h => hFc q h) hFc (fun u t H1 locs ht hvm hw hB hz1 hk1 hS => ?_)
  obtain ⟨hP1, hK1, hD1⟩ := hB
  rw [ht] at hP1
  have hK1 := va_K.moved hvm.symm hK1
  obtain ⟨hP, hD⟩ := va_join (wr := [(h2, .inl (c2, 8, .inr (.inr (.inr (.inr (fun _ => none)))))), (h5, .inr (9, [.ref h7, .ref h8, b2, b3, b4, b5, b6, b7, b8])), (h7, .inl (c4, 12, .inl f4)), (h8, .inl (c5, 12, .inl f5)), (h3, .inl (c3, 8, .inl (fun _ => 0))), (h0, .inr (10, [.ref h1, .int 0, v2, v3, .int 0, .ref h2, .ref h3, .ref q251, .ref h4, .ref h5, .ref h6, v11, v12, v13])), (q261, .inl (y270, 201, .inl (fun _ => 0))), (q262, .inl (y271, 201, .inl (fun _ => 0))), (h4, .inr (5, [.int 0, .int 0, .ref h1, .int 0, .ref q251, a5, a6, a7, a8, a9, a10, a11, a12, a13, a14, a15]))]) (w1 := [(q251, .inr (8, [.ref q252, .ref q253, .ref q254, .ref q255, .ref q256, .ref q257, .ref q258, .ref q259, .int 0, .int 0, .int (-1), .int 0, .ref q260, .ref q261, .ref q262, .int (-1), .int 0])), (q252, .inr (6, [.ref q263, .ref q264, .ref q265, .ref q266, .ref q267, .ref q268, .ref q269, .int 0, .int 0, .int 0, .int 0]))]) hP hD [4, 11, 7] [0, 1, 2, 3, 5, 6, 8, 9, 10] rfl rfl (by decide) (by decide) hk1 hFc hP1 hD1
  have hK := (hK.sub (tys' := [(c2, .object "SpineTables$Table"), (c4, .int), (c5, .int), (c3, .boolean), (y270, .int), (y271, .int)]) [0, 1, 2, 3, 4, 5] rfl).app hK1
  generalize H1 = H at hP hS ⊢
  have hK : va_K (dC, dI) classes [(c2, .object "SpineTables$Table"), (c4, .int), (c5, .int), (c3, .boolean), (y270, .int), (y271, .int)] s := hK
  have hP : va_P (dC, dI) classes [(h2, .inl (c2, 8, .inr (.inr (.inr (.inr (fun _ => none)))))), (h5, .inr (9, [.ref h7, .ref h8, b2, b3, b4, b5, b6, b7, b8])), (h7, .inl (c4, 12, .inl f4)), (h8, .inl (c5, 12, .inl f5)), (h3, .inl (c3, 8, .inl (fun _ => 0))), (h0, .inr (10, [.ref h1, .int 0, v2, v3, .int 0, .ref h2, .ref h3, .ref q251, .ref h4, .ref h5, .ref h6, v11, v12, v13])), (q261, .inl (y270, 201, .inl (fun _ => 0))), (q262, .inl (y271, 201, .inl (fun _ => 0))), (h4, .inr (5, [.int 0, .int 0, .ref h1, .int 0, .ref q251, a5, a6, a7, a8, a9, a10, a11, a12, a13, a14, a15])), (q251, .inr (8, [.ref q252, .ref q253, .ref q254, .ref q255, .ref q256, .ref q257, .ref q258, .ref q259, .int 0, .int 0, .int (-1), .int 0, .ref q260, .ref q261, .ref q262, .int (-1), .int 0])), (q252, .inr (6, [.ref q263, .ref q264, .ref q265, .ref q266, .ref q267, .ref q268, .ref q269, .int 0, .int 0, .int 0, .int 0]))] H := hP
  have hD : va_D A [(h2, .inl (c2, 8, .inr (.inr (.inr (.inr (fun _ => none)))))), (h5, .inr (9, [.ref h7, .ref h8, b2, b3, b4, b5, b6, b7, b8])), (h7, .inl (c4, 12, .inl f4)), (h8, .inl (c5, 12, .inl f5)), (h3, .inl (c3, 8, .inl (fun _ => 0))), (h0, .inr (10, [.ref h1, .int 0, v2, v3, .int 0, .ref h2, .ref h3, .ref q251, .ref h4, .ref h5, .ref h6, v11, v12, v13])), (q261, .inl (y270, 201, .inl (fun _ => 0))), (q262, .inl (y271, 201, .inl (fun _ => 0))), (h4, .inr (5, [.int 0, .int 0, .ref h1, .int 0, .ref q251, a5, a6, a7, a8, a9, a10, a11, a12, a13, a14, a15])), (q251, .inr (8, [.ref q252, .ref q253, .ref q254, .ref q255, .ref q256, .ref q257, .ref q258, .ref q259, .int 0, .int 0, .int (-1), .int 0, .ref q260, .ref q261, .ref q262, .int (-1), .int 0])), (q252, .inr (6, [.ref q263, .ref q264, .ref q265, .ref q266, .ref q267, .ref q268, .ref q269, .int 0, .int 0, .int 0, .int 0]))] := hD
  refine lv_aload_n hx hb dX11_read_78 rfl (lv_at hl 4 rfl) ?_
  refine va_get (D := (dC, dI)) (ci := 10) (v := .ref h5) (C := RX11) (T := TX11) (N := 14) hx hb hts inX11 hown hK hP 5 rfl rfl 9 (by decide) (hts _ wd_127) (fun _ h9 => h9) rfl dX11_read_79 ?_
  refine lv_aload_n hx hb dX11_read_82 rfl (lv_at hl 1 rfl) ?_
  have hPc := hP.sub (ws' := [(h5, .inr (9, [.ref h7, .ref h8, b2, b3, b4, b5, b6, b7, b8])), (h7, .inl (c4, 12, .inl f4)), (h8, .inl (c5, 12, .inl f5)), (q251, .inr (8, [.ref q252, .ref q253, .ref q254, .ref q255, .ref q256, .ref q257, .ref q258, .ref q259, .int 0, .int 0, .int (-1), .int 0, .ref q260, .ref q261, .ref q262, .int (-1), .int 0])), (q252, .inr (6, [.ref q263, .ref q264, .ref q265, .ref q266, .ref q267, .ref q268, .ref q269, .int 0, .int 0, .int 0, .int 0])), (q261, .inl (y270, 201, .inl (fun _ => 0))), (q262, .inl (y271, 201, .inl (fun _ => 0)))]) [1, 2, 3, 9, 10, 6, 7] rfl
  have hDc := hD.sub (ws' := [(h5, .inr (9, [.ref h7, .ref h8, b2, b3, b4, b5, b6, b7, b8])), (h7, .inl (c4, 12, .inl f4)), (h8, .inl (c5, 12, .inl f5)), (q251, .inr (8, [.ref q252, .ref q253, .ref q254, .ref q255, .ref q256, .ref q257, .ref q258, .ref q259, .int 0, .int 0, .int (-1), .int 0, .ref q260, .ref q261, .ref q262, .int (-1), .int 0])), (q252, .inr (6, [.ref q263, .ref q264, .ref q265, .ref q266, .ref q267, .ref q268, .ref q269, .int 0, .int 0, .int 0, .int 0])), (q261, .inl (y270, 201, .inl (fun _ => 0))), (q262, .inl (y271, 201, .inl (fun _ => 0)))]) [1, 2, 3, 9, 10, 6, 7] (by decide) rfl
  have hKc := hK.sub (tys' := [(c4, .int), (c5, .int), (y270, .int), (y271, .int)]) [1, 2, 4, 5] rfl
  have hFc := va_free (wc := [(h5, .inr (9, [.ref h7, .ref h8, b2, b3, b4, b5, b6, b7, b8])), (h7, .inl (c4, 12, .inl f4)), (h8, .inl (c5, 12, .inl f5)), (q251, .inr (8, [.ref q252, .ref q253, .ref q254, .ref q255, .ref q256, .ref q257, .ref q258, .ref q259, .int 0, .int 0, .int (-1), .int 0, .ref q260, .ref q261, .ref q262, .int (-1), .int 0])), (q252, .inr (6, [.ref q263, .ref q264, .ref q265, .ref q266, .ref q267, .ref q268, .ref q269, .int 0, .int 0, .int 0, .int 0])), (q261, .inl (y270, 201, .inl (fun _ => 0))), (q262, .inl (y271, 201, .inl (fun _ => 0)))]) hD hS hA [1, 2, 3, 9, 10, 6, 7] rfl
  refine va_callv (va_runV (As := [.ref q251]) (rest := []) ⟨hx, hb, hml, hown, hts⟩ (c_go l dC dI h5 q251 h7 h8 q252 q261 q262 b2 b3 b4 b5 b6 b7 b8 (.ref q253) (.ref q254) (.ref q255) (.ref q256) (.ref q257) (.ref q258) (.ref q259) (.int 0) (.int 0) (.int (-1)) (.int 0) (.ref q260) (.int (-1)) (.int 0) (.ref q263) (.ref q264) (.ref q265) (.ref q266) (.ref q267) (.ref q268) (.ref q269) (.int 0) (.int 0) (.int 0) c4 c5 y270 y271 f4 f5 (fun _ => 0) (fun _ => 0) H.size) (cwV 1 hts (goV wd_309 wd_310 wd_308 wd_124 wd_307) rfl rfl rfl (by decide +kernel) ⟨Nat.le_of_ble_eq_true rfl, Nat.le_of_ble_eq_true rfl⟩) ⟨blind5, va_recv hKc hPc (ci := 9) (q0 := 0) rfl rfl, fun U hU hW => ⟨rfl, pre5 hU hW hPc hKc hDc hE⟩⟩ rfl rfl hl.1 rfl (lv_room (Nat.le_of_ble_eq_true rfl)) dX11_read_83 ⟨Nat.le_of_ble_eq_true rfl, Nat.le_of_ble_eq_true rfl⟩) hS (fun q _ h => hFc q h) hFc (fun u t H1 locs ht hvm hw hB hz1 hk1 hS => ?_)
  obtain ⟨hP1, hK1, hD1⟩ := hB
  rw [ht] at hP1
  have hK1 := va_K.moved hvm.symm hK1
  obtain ⟨hP, hD⟩ := va_join (wr := [(h2, .inl (c2, 8, .inr (.inr (.inr (.inr (fun _ => none)))))), (h3, .inl (c3, 8, .inl (fun _ => 0))), (h0, .inr (10, [.ref h1, .int 0, v2, v3, .int 0, .ref h2, .ref h3, .ref q251, .ref h4, .ref h5, .ref h6, v11, v12, v13])), (h4, .inr (5, [.int 0, .int 0, .ref h1, .int 0, .ref q251, a5, a6, a7, a8, a9, a10, a11, a12, a13, a14, a15]))]) (w1 := [(q251, .inr (8, [.ref q252, .ref q253, .ref q254, .ref q255, .ref q256, .ref q257, .ref q258, .ref q259, .int 0, .int 0, .int (-1), .int 0, .ref q260, .ref q261, .ref q262, .int (-1), .int 0]))]) hP hD [1, 2, 3, 9, 10, 6, 7] [0, 4, 5, 8] rfl rfl (by decide) (by decide) hk1 hFc hP1 hD1
  have hK := (hK.sub (tys' := [(c2, .object "SpineTables$Table"), (c3, .boolean)]) [0, 3] rfl).app hK1
  generalize H1 = H at hP hS ⊢
  have hK : va_K (dC, dI) classes [(c2, .object "SpineTables$Table"), (c3, .boolean)] s := hK
  have hP : va_P (dC, dI) classes [(h2, .inl (c2, 8, .inr (.inr (.inr (.inr (fun _ => none)))))), (h3, .inl (c3, 8, .inl (fun _ => 0))), (h0, .inr (10, [.ref h1, .int 0, v2, v3, .int 0, .ref h2, .ref h3, .ref q251, .ref h4, .ref h5, .ref h6, v11, v12, v13])), (h4, .inr (5, [.int 0, .int 0, .ref h1, .int 0, .ref q251, a5, a6, a7, a8, a9, a10, a11, a12, a13, a14, a15])), (q251, .inr (8, [.ref q252, .ref q253, .ref q254, .ref q255, .ref q256, .ref q257, .ref q258, .ref q259, .int 0, .int 0, .int (-1), .int 0, .ref q260, .ref q261, .ref q262, .int (-1), .int 0]))] H := hP
  have hD : va_D A [(h2, .inl (c2, 8, .inr (.inr (.inr (.inr (fun _ => none)))))), (h3, .inl (c3, 8, .inl (fun _ => 0))), (h0, .inr (10, [.ref h1, .int 0, v2, v3, .int 0, .ref h2, .ref h3, .ref q251, .ref h4, .ref h5, .ref h6, v11, v12, v13])), (h4, .inr (5, [.int 0, .int 0, .ref h1, .int 0, .ref q251, a5, a6, a7, a8, a9, a10, a11, a12, a13, a14, a15])), (q251, .inr (8, [.ref q252, .ref q253, .ref q254, .ref q255, .ref q256, .ref q257, .ref q258, .ref q259, .int 0, .int 0, .int (-1), .int 0, .ref q260, .ref q261, .ref q262, .int (-1), .int 0]))] := hD
  refine lv_aload_n hx hb dX11_read_86 rfl (lv_at hl 4 rfl) ?_
  refine lv_iload_n hx hb dX11_read_87 rfl (lv_at hl 2 rfl) ?_
  have hPc := hP.sub (ws' := [(h0, .inr (10, [.ref h1, .int 0, v2, v3, .int 0, .ref h2, .ref h3, .ref q251, .ref h4, .ref h5, .ref h6, v11, v12, v13])), (h2, .inl (c2, 8, .inr (.inr (.inr (.inr (fun _ => none)))))), (h3, .inl (c3, 8, .inl (fun _ => 0))), (q251, .inr (8, [.ref q252, .ref q253, .ref q254, .ref q255, .ref q256, .ref q257, .ref q258, .ref q259, .int 0, .int 0, .int (-1), .int 0, .ref q260, .ref q261, .ref q262, .int (-1), .int 0]))]) [2, 0, 1, 4] rfl
  have hDc := hD.sub (ws' := [(h0, .inr (10, [.ref h1, .int 0, v2, v3, .int 0, .ref h2, .ref h3, .ref q251, .ref h4, .ref h5, .ref h6, v11, v12, v13])), (h2, .inl (c2, 8, .inr (.inr (.inr (.inr (fun _ => none)))))), (h3, .inl (c3, 8, .inl (fun _ => 0))), (q251, .inr (8, [.ref q252, .ref q253, .ref q254, .ref q255, .ref q256, .ref q257, .ref q258, .ref q259, .int 0, .int 0, .int (-1), .int 0, .ref q260, .ref q261, .ref q262, .int (-1), .int 0]))]) [2, 0, 1, 4] (by decide) rfl
  have hKc := hK.sub (tys' := [(c2, .object "SpineTables$Table"), (c3, .boolean)]) [0, 1] rfl
  have hFc := va_free (wc := [(h0, .inr (10, [.ref h1, .int 0, v2, v3, .int 0, .ref h2, .ref h3, .ref q251, .ref h4, .ref h5, .ref h6, v11, v12, v13])), (h2, .inl (c2, 8, .inr (.inr (.inr (.inr (fun _ => none)))))), (h3, .inl (c3, 8, .inl (fun _ => 0))), (q251, .inr (8, [.ref q252, .ref q253, .ref q254, .ref q255, .ref q256, .ref q257, .ref q258, .ref q259, .int 0, .int 0, .int (-1), .int 0, .ref q260, .ref q261, .ref q262, .int (-1), .int 0]))]) hD hS hA [2, 0, 1, 4] rfl
  refine va_calli (va_runV (As := [.int 0]) (rest := []) ⟨hx, hb, hml, hown, hts⟩ (c_keepBench l dC dI h0 h2 h3 q251 (.ref h1) (.int 0) v2 v3 (.int 0) (.ref h4) (.ref h5) (.ref h6) v11 v12 v13 (.ref q252) (.ref q253) (.ref q254) (.ref q255) (.ref q256) (.ref q257) (.ref q258) (.ref q259) (.int 0) (.int 0) (.int (-1)) (.int 0) (.ref q260) (.ref q261) (.ref q262) (.int (-1)) (.int 0) c2 c3 H.size) (cwV 1 hts (goV wd_313 wd_314 wd_312 wd_191 wd_311) rfl rfl rfl (by decide +kernel) ⟨Nat.le_of_ble_eq_true rfl, Nat.le_of_ble_eq_true rfl⟩) ⟨blind5, va_recv hKc hPc (ci := 10) (q0 := 0) rfl rfl, fun U hU hW => ⟨rfl, pre5 hU hW hPc hKc hDc hE⟩⟩ rfl rfl hl.1 rfl (lv_room (Nat.le_of_ble_eq_true rfl)) dX11_read_88 ⟨Nat.le_of_ble_eq_true rfl, Nat.le_of_ble_eq_true rfl⟩) hS (fun q _ h => hFc q h) hFc (fun r273 u t H1 locs ht hvm hw hB hz1 hk1 hS => ?_)
  obtain rfl : r273 = 0 := hw
  obtain ⟨hP1, hK1, hD1⟩ := hB
  rw [ht] at hP1
  have hK1 := va_K.moved hvm.symm hK1
  obtain ⟨hP, hD⟩ := va_join (wr := [(h4, .inr (5, [.int 0, .int 0, .ref h1, .int 0, .ref q251, a5, a6, a7, a8, a9, a10, a11, a12, a13, a14, a15]))]) (w1 := []) hP hD [2, 0, 1, 4] [3] rfl rfl (by decide) (by decide) hk1 hFc hP1 hD1
  have hK := (hK.sub (tys' := []) [] rfl).app hK1
  generalize H1 = H at hP hS ⊢
  have hK : va_K (dC, dI) classes [] s := hK
  have hP : va_P (dC, dI) classes [(h4, .inr (5, [.int 0, .int 0, .ref h1, .int 0, .ref q251, a5, a6, a7, a8, a9, a10, a11, a12, a13, a14, a15]))] H := hP
  have hD : va_D A [(h4, .inr (5, [.int 0, .int 0, .ref h1, .int 0, .ref q251, a5, a6, a7, a8, a9, a10, a11, a12, a13, a14, a15]))] := hD
  have hP9 := hP.sub (ws' := []) [] rfl
  have hD9 := hD.sub (ws' := []) [] (by decide) rfl
  have hK9 := hK.sub (tys' := []) [] rfl
  refine W.widen (k := 19) (n := 16469) (Nat.le_of_ble_eq_true rfl) (Nat.le_of_ble_eq_true rfl) ?_
  exact W.iret (v := 0) hx hb hr (fun t ht hW => ⟨⟨0, (), rfl, rfl, by rw [ht]; exact hP9, va_K.moved hW.alike hK9, hD9⟩, hS.F ht⟩) hS.2.2 dX11_read_91
