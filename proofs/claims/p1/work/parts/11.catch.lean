set_option maxHeartbeats 4000000 in
set_option maxRecDepth 100000 in
/-- l_drop -/
theorem c_l_drop (l : Launch) (hlt : l.stackTraces = false) (dC : Nat → ClassId) (dI : Nat → Nat → Nat) (h0 : Nat) (k : Int32) (ho : Nat) (h1 : Nat) (v0 : Value) (v1 : Value) (v2 : Value) (v3 : Value) (v4 : Value) (v5 : Value) (v7 : Value) (v8 : Value) (v9 : Value) (v10 : Value) (v11 : Value) (v12 : Value) (v13 : Value) (cZ : ClassId) (sa : Nat) (sz : Nat) : vx_Met l yL_drop (.codeWith yL_drop cL_drop 4 (some .int) [(0, 9, 12, 13)] :: wU) ({ frames := 8, cells := 1, slots := 6, locals := 126 } : Room) (va_Pc [.ref h0, .int k, .ref ho] (fun U => P5 dC dI [(h0, .inr (10, [v0, v1, v2, v3, v4, v5, .ref h1, v7, v8, v9, v10, v11, v12, v13])), (h1, .inl (cZ, 8, .inl (fun _ => 0)))] [(cZ, .boolean)] sz U ∧ Tn (va_A [(h0, .inr (10, [v0, v1, v2, v3, v4, v5, .ref h1, v7, v8, v9, v10, v11, v12, v13])), (h1, .inl (cZ, 8, .inl (fun _ => 0)))] sz) sa U)) (va_Qi (fun (r : Int32) (_ : Unit) => r = 1) (fun _ t => P3 dC dI (va_A [(h0, .inr (10, [v0, v1, v2, v3, v4, v5, .ref h1, v7, v8, v9, v10, v11, v12, v13])), (h1, .inl (cZ, 8, .inl (fun _ => 0)))] sz) [] [] t) (va_A [(h0, .inr (10, [v0, v1, v2, v3, v4, v5, .ref h1, v7, v8, v9, v10, v11, v12, v13])), (h1, .inl (cZ, 8, .inl (fun _ => 0)))] sz)) (vx_X (fun _ : Unit => False) (fun _ _ _ => False) (va_A [(h0, .inr (10, [v0, v1, v2, v3, v4, v5, .ref h1, v7, v8, v9, v10, v11, v12, v13])), (h1, .inl (cZ, 8, .inl (fun _ => 0)))] sz)) 1 6 (va_A [(h0, .inr (10, [v0, v1, v2, v3, v4, v5, .ref h1, v7, v8, v9, v10, v11, v12, v13])), (h1, .inl (cZ, 8, .inl (fun _ => 0)))] sz) := by
  refine vx_ofWH (cc := cL_drop) (maxL := 4) (ret := (some .int)) (hh := [(0, 9, 12, 13)]) (by decide) rfl ?_
  intro p e s m args below meth c s₁ B hml hv
  obtain ⟨rfl, ⟨hsz, hP, hK, hD0, hE⟩, hT⟩ := hv
  have hx := B.exec
  have hb := B.bytes
  have hr := B.returns
  have hts0 := atoms_spec (ws := (.codeWith yL_drop cL_drop 4 (some .int) [(0, 9, 12, 13)] :: wU)) B.pre
  have hts : ∀ w ∈ wU, w.before _ s = true := fun w h => hts0 w (List.mem_cons_of_mem _ h)
  have hown : s.vm.findClass "SpineTablesLaw" = some m.cls := findClass_of_methodNamed B.named
  have hlocks := B.notSynchronized
  have htab := vx_table (x := yL_drop) B (hts0 _ List.mem_cons_self)
  subst hsz
  have hD := hD0.self (sz := s.heap.size)
  generalize hAe : va_A [(h0, .inr (10, [v0, v1, v2, v3, v4, v5, .ref h1, v7, v8, v9, v10, v11, v12, v13])), (h1, .inl (cZ, 8, .inl (fun _ => 0)))] s.heap.size = A at hT hD ⊢
  have hA : ∀ q : Nat, s.heap.size ≤ q → A q := fun q h => by rw [← hAe]; exact Or.inr h
  have hP : va_P (dC, dI) classes [(h0, .inr (10, [v0, v1, v2, v3, v4, v5, .ref h1, v7, v8, v9, v10, v11, v12, v13])), (h1, .inl (cZ, 8, .inl (fun _ => 0)))] s.heap := hP
  have hl := lv_entry ([.ref h0, .int k, .ref ho]) (n := 4) (Nat.le_of_ble_eq_true rfl)
  rw [lg_entry_eq]
  generalize (lg_sl ([.ref h0, .int k, .ref ho]) ++ List.replicate (4 - (lg_sl ([.ref h0, .int k, .ref ho])).length) Slot.unset).toArray = ls at hl ⊢
  have hl : lv_has ls 4 [(0, .ref h0), (1, .int k), (2, .ref ho)] := hl
  obtain ⟨H, hH⟩ : ∃ H, H = s.heap := ⟨_, rfl⟩
  rw [← hH] at hP
  have hS : va_S A s.heap H [] := by rw [hH]; exact va_S.rf
  refine w_heap hH ?_
  refine lv_aload_n hx hb dL_drop_0 rfl (lv_at hl 2 rfl) ?_
  refine lv_iconst (v := 0) hx hb dL_drop_1 (by decide) ?_
  refine lv_aload_n hx hb dL_drop_2 rfl (lv_at hl 0 rfl) ?_
  refine lv_iload_n hx hb dL_drop_3 rfl (lv_at hl 1 rfl) ?_
  have hPc := hP.sub (ws' := [(h0, .inr (10, [v0, v1, v2, v3, v4, v5, .ref h1, v7, v8, v9, v10, v11, v12, v13])), (h1, .inl (cZ, 8, .inl (fun _ => 0)))]) [0, 1] rfl
  have hDc := hD.sub (ws' := [(h0, .inr (10, [v0, v1, v2, v3, v4, v5, .ref h1, v7, v8, v9, v10, v11, v12, v13])), (h1, .inl (cZ, 8, .inl (fun _ => 0)))]) [0, 1] (by decide) rfl
  have hKc := hK.sub (tys' := [(cZ, .boolean)]) [0] rfl
  have hFc := va_free (wc := [(h0, .inr (10, [v0, v1, v2, v3, v4, v5, .ref h1, v7, v8, v9, v10, v11, v12, v13])), (h1, .inl (cZ, 8, .inl (fun _ => 0)))]) hD hS hA [0, 1] rfl
  refine vy_callX (vx_runV (As := [.int k]) (rest := [.int 0, .ref ho]) ⟨hx, hb, hml, hown, hts⟩ (c_x_drop l hlt dC dI h0 k h1 v0 v1 v2 v3 v4 v5 v7 v8 v9 v10 v11 v12 v13 cZ sa H.size) (cwV 1 hts (goV wd_200 wd_201 wd_199 wd_191 wd_198) rfl rfl rfl (by decide +kernel) ⟨Nat.le_of_ble_eq_true rfl, Nat.le_of_ble_eq_true rfl⟩) ⟨blind6, va_recv hKc hPc (ci := 10) (q0 := 0) rfl rfl, fun U hU hW => ⟨rfl, pre6 hU hW hPc hKc hDc hE (hT.call hS hFc)⟩⟩ rfl rfl hl.1 rfl (lv_room (Nat.le_of_ble_eq_true rfl)) dL_drop_4 ⟨Nat.le_of_ble_eq_true rfl, Nat.le_of_ble_eq_true rfl⟩) hS hFc (fun q _ h => hFc q h) (fun E ce q9 u t H locs ht hvm hw hB hz1 hk1 hS hce hcv hcl => ?_)
  obtain rfl : E = _ := hB
  refine vy_catch (name := "java/lang/IndexOutOfBoundsException") hown ⟨0, 9, 12, 13⟩ _ (by rw [htab]; rfl) (by decide) (by decide) (hts _ wd_202) (va_Nw.use rfl (hE.1 _ (List.mem_of_getElem? (i := 11) rfl))) hce hcv hcl ?_
  refine W.eq (g2 := F0 m 12 ls [.ref q9]) rfl ?_
  have hP : va_P (dC, dI) classes [] H := fun k q h => by simp at h
  have hD : va_D A [] := ⟨fun i j p q h => by simp at h, fun k q h => by simp at h⟩
  have hK : va_K (dC, dI) classes [] s := hK.sub [] rfl
  refine W.widen (k := 1) (n := 6) (Nat.le_of_ble_eq_true rfl) (Nat.le_of_ble_eq_true rfl) ?_
  refine lv_astore_n (lv' := [(3, .ref q9), (0, .ref h0), (1, .int k), (2, .ref ho)]) hx hb dL_drop_12 rfl hl (by decide) rfl (fun ls hl => ?_)
  refine lv_iconst (v := 1) hx hb dL_drop_13 (by decide) ?_
  have hP9 := hP.sub (ws' := []) [] rfl
  have hD9 := hD.sub (ws' := []) [] (by decide) rfl
  have hK9 := hK.sub (tys' := []) [] rfl
  refine W.widen (k := 1) (n := 6) (Nat.le_of_ble_eq_true rfl) (Nat.le_of_ble_eq_true rfl) ?_
  exact vx_ret (W.iret (v := 1) hx hb hr (fun t ht hW => ⟨⟨1, (), rfl, rfl, by rw [ht]; exact hP9, va_K.moved hW.alike hK9, hD9⟩, hS.F ht⟩) hS.2.2 dL_drop_14)
set_option maxHeartbeats 4000000 in
set_option maxRecDepth 100000 in
/-- l_told -/
theorem c_l_told (l : Launch) (hlt : l.stackTraces = false) (dC : Nat → ClassId) (dI : Nat → Nat → Nat) (h0 : Nat) (k : Int32) (k1 : Int32) (ho : Nat) (h1 : Nat) (v0 : Value) (v1 : Value) (v2 : Value) (v3 : Value) (v4 : Value) (v5 : Value) (v7 : Value) (v8 : Value) (v9 : Value) (v10 : Value) (v11 : Value) (v12 : Value) (v13 : Value) (cZ : ClassId) (sa : Nat) (sz : Nat) : vx_Met l yL_told (.codeWith yL_told cL_told 5 (some .int) [(0, 10, 13, 13), (0, 10, 17, 19)] :: wU) ({ frames := 8, cells := 1, slots := 6, locals := 127 } : Room) (va_Pc [.ref h0, .int k, .int k1, .ref ho] (fun U => P5 dC dI [(h0, .inr (10, [v0, v1, v2, v3, v4, v5, .ref h1, v7, v8, v9, v10, v11, v12, v13])), (h1, .inl (cZ, 8, .inl (fun _ => 0)))] [(cZ, .boolean)] sz U ∧ Tn (va_A [(h0, .inr (10, [v0, v1, v2, v3, v4, v5, .ref h1, v7, v8, v9, v10, v11, v12, v13])), (h1, .inl (cZ, 8, .inl (fun _ => 0)))] sz) sa U)) (va_Qi (fun (r : Int32) (_ : Unit) => r = 1) (fun _ t => P3 dC dI (va_A [(h0, .inr (10, [v0, v1, v2, v3, v4, v5, .ref h1, v7, v8, v9, v10, v11, v12, v13])), (h1, .inl (cZ, 8, .inl (fun _ => 0)))] sz) [] [] t) (va_A [(h0, .inr (10, [v0, v1, v2, v3, v4, v5, .ref h1, v7, v8, v9, v10, v11, v12, v13])), (h1, .inl (cZ, 8, .inl (fun _ => 0)))] sz)) (vx_X (fun _ : Unit => False) (fun _ _ _ => False) (va_A [(h0, .inr (10, [v0, v1, v2, v3, v4, v5, .ref h1, v7, v8, v9, v10, v11, v12, v13])), (h1, .inl (cZ, 8, .inl (fun _ => 0)))] sz)) 1 6 (va_A [(h0, .inr (10, [v0, v1, v2, v3, v4, v5, .ref h1, v7, v8, v9, v10, v11, v12, v13])), (h1, .inl (cZ, 8, .inl (fun _ => 0)))] sz) := by
  refine vx_ofWH (cc := cL_told) (maxL := 5) (ret := (some .int)) (hh := [(0, 10, 13, 13), (0, 10, 17, 19)]) (by decide) rfl ?_
  intro p e s m args below meth c s₁ B hml hv
  obtain ⟨rfl, ⟨hsz, hP, hK, hD0, hE⟩, hT⟩ := hv
  have hx := B.exec
  have hb := B.bytes
  have hr := B.returns
  have hts0 := atoms_spec (ws := (.codeWith yL_told cL_told 5 (some .int) [(0, 10, 13, 13), (0, 10, 17, 19)] :: wU)) B.pre
  have hts : ∀ w ∈ wU, w.before _ s = true := fun w h => hts0 w (List.mem_cons_of_mem _ h)
  have hown : s.vm.findClass "SpineTablesLaw" = some m.cls := findClass_of_methodNamed B.named
  have hlocks := B.notSynchronized
  have htab := vx_table (x := yL_told) B (hts0 _ List.mem_cons_self)
  subst hsz
  have hD := hD0.self (sz := s.heap.size)
  generalize hAe : va_A [(h0, .inr (10, [v0, v1, v2, v3, v4, v5, .ref h1, v7, v8, v9, v10, v11, v12, v13])), (h1, .inl (cZ, 8, .inl (fun _ => 0)))] s.heap.size = A at hT hD ⊢
  have hA : ∀ q : Nat, s.heap.size ≤ q → A q := fun q h => by rw [← hAe]; exact Or.inr h
  have hP : va_P (dC, dI) classes [(h0, .inr (10, [v0, v1, v2, v3, v4, v5, .ref h1, v7, v8, v9, v10, v11, v12, v13])), (h1, .inl (cZ, 8, .inl (fun _ => 0)))] s.heap := hP
  have hl := lv_entry ([.ref h0, .int k, .int k1, .ref ho]) (n := 5) (Nat.le_of_ble_eq_true rfl)
  rw [lg_entry_eq]
  generalize (lg_sl ([.ref h0, .int k, .int k1, .ref ho]) ++ List.replicate (5 - (lg_sl ([.ref h0, .int k, .int k1, .ref ho])).length) Slot.unset).toArray = ls at hl ⊢
  have hl : lv_has ls 5 [(0, .ref h0), (1, .int k), (2, .int k1), (3, .ref ho)] := hl
  obtain ⟨H, hH⟩ : ∃ H, H = s.heap := ⟨_, rfl⟩
  rw [← hH] at hP
  have hS : va_S A s.heap H [] := by rw [hH]; exact va_S.rf
  refine w_heap hH ?_
  refine lv_aload_n hx hb dL_told_0 rfl (lv_at hl 3 rfl) ?_
  refine lv_iconst (v := 0) hx hb dL_told_1 (by decide) ?_
  refine lv_aload_n hx hb dL_told_2 rfl (lv_at hl 0 rfl) ?_
  refine lv_iload_n hx hb dL_told_3 rfl (lv_at hl 1 rfl) ?_
  refine lv_iload_n hx hb dL_told_4 rfl (lv_at hl 2 rfl) ?_
  have hPc := hP.sub (ws' := [(h0, .inr (10, [v0, v1, v2, v3, v4, v5, .ref h1, v7, v8, v9, v10, v11, v12, v13])), (h1, .inl (cZ, 8, .inl (fun _ => 0)))]) [0, 1] rfl
  have hDc := hD.sub (ws' := [(h0, .inr (10, [v0, v1, v2, v3, v4, v5, .ref h1, v7, v8, v9, v10, v11, v12, v13])), (h1, .inl (cZ, 8, .inl (fun _ => 0)))]) [0, 1] (by decide) rfl
  have hKc := hK.sub (tys' := [(cZ, .boolean)]) [0] rfl
  have hFc := va_free (wc := [(h0, .inr (10, [v0, v1, v2, v3, v4, v5, .ref h1, v7, v8, v9, v10, v11, v12, v13])), (h1, .inl (cZ, 8, .inl (fun _ => 0)))]) hD hS hA [0, 1] rfl
  refine vy_callX (vx_runV (As := [.int k, .int k1]) (rest := [.int 0, .ref ho]) ⟨hx, hb, hml, hown, hts⟩ (c_x_told l hlt dC dI h0 k k1 h1 v0 v1 v2 v3 v4 v5 v7 v8 v9 v10 v11 v12 v13 cZ sa H.size) (cwV 2 hts (goV wd_205 wd_206 wd_204 wd_191 wd_203) rfl rfl rfl (by decide +kernel) ⟨Nat.le_of_ble_eq_true rfl, Nat.le_of_ble_eq_true rfl⟩) ⟨blind6, va_recv hKc hPc (ci := 10) (q0 := 0) rfl rfl, fun U hU hW => ⟨rfl, pre6 hU hW hPc hKc hDc hE (hT.call hS hFc)⟩⟩ rfl rfl hl.1 rfl (lv_room (Nat.le_of_ble_eq_true rfl)) dL_told_5 ⟨Nat.le_of_ble_eq_true rfl, Nat.le_of_ble_eq_true rfl⟩) hS hFc (fun q _ h => hFc q h) (fun E ce q9 u t H locs ht hvm hw hB hz1 hk1 hS hce hcv hcl => ?_)
  obtain rfl : E = _ := hB
  refine vy_catch (name := "java/lang/IndexOutOfBoundsException") hown ⟨0, 10, 13, 13⟩ _ (by rw [htab]; rfl) (by decide) (by decide) (hts _ wd_202) (va_Nw.use rfl (hE.1 _ (List.mem_of_getElem? (i := 11) rfl))) hce hcv hcl ?_
  refine W.eq (g2 := F0 m 13 ls [.ref q9]) rfl ?_
  have hP : va_P (dC, dI) classes [] H := fun k q h => by simp at h
  have hD : va_D A [] := ⟨fun i j p q h => by simp at h, fun k q h => by simp at h⟩
  have hK : va_K (dC, dI) classes [] s := hK.sub [] rfl
  refine W.widen (k := 1) (n := 6) (Nat.le_of_ble_eq_true rfl) (Nat.le_of_ble_eq_true rfl) ?_
  refine lv_astore (lv' := [(4, .ref q9), (0, .ref h0), (1, .int k), (2, .int k1), (3, .ref ho)]) hx hb dL_told_13 hl (by decide) rfl (fun ls hl => ?_)
  refine lv_iconst (v := 1) hx hb dL_told_15 (by decide) ?_
  have hP9 := hP.sub (ws' := []) [] rfl
  have hD9 := hD.sub (ws' := []) [] (by decide) rfl
  have hK9 := hK.sub (tys' := []) [] rfl
  refine W.widen (k := 1) (n := 6) (Nat.le_of_ble_eq_true rfl) (Nat.le_of_ble_eq_true rfl) ?_
  exact vx_ret (W.iret (v := 1) hx hb hr (fun t ht hW => ⟨⟨1, (), rfl, rfl, by rw [ht]; exact hP9, va_K.moved hW.alike hK9, hD9⟩, hS.F ht⟩) hS.2.2 dL_told_16)
set_option maxHeartbeats 4000000 in
set_option maxRecDepth 100000 in
/-- l_row -/
theorem c_l_row (l : Launch) (hlt : l.stackTraces = false) (dC : Nat → ClassId) (dI : Nat → Nat → Nat) (h0 : Nat) (k : Int32) (k1 : Int32) (k2 : Int32) (ho : Nat) (h1 : Nat) (v0 : Value) (v1 : Value) (v2 : Value) (v3 : Value) (v4 : Value) (v5 : Value) (v7 : Value) (v8 : Value) (v9 : Value) (v10 : Value) (v11 : Value) (v12 : Value) (v13 : Value) (cZ : ClassId) (sa : Nat) (sz : Nat) : vx_Met l yL_row (.codeWith yL_row cL_row 6 (some .int) [(0, 12, 15, 13), (0, 12, 19, 19)] :: wU) ({ frames := 8, cells := 1, slots := 6, locals := 128 } : Room) (va_Pc [.ref h0, .int k, .int k1, .int k2, .ref ho] (fun U => P5 dC dI [(h0, .inr (10, [v0, v1, v2, v3, v4, v5, .ref h1, v7, v8, v9, v10, v11, v12, v13])), (h1, .inl (cZ, 8, .inl (fun _ => 0)))] [(cZ, .boolean)] sz U ∧ Tn (va_A [(h0, .inr (10, [v0, v1, v2, v3, v4, v5, .ref h1, v7, v8, v9, v10, v11, v12, v13])), (h1, .inl (cZ, 8, .inl (fun _ => 0)))] sz) sa U)) (va_Qi (fun (r : Int32) (_ : Unit) => r = 1) (fun _ t => P3 dC dI (va_A [(h0, .inr (10, [v0, v1, v2, v3, v4, v5, .ref h1, v7, v8, v9, v10, v11, v12, v13])), (h1, .inl (cZ, 8, .inl (fun _ => 0)))] sz) [] [] t) (va_A [(h0, .inr (10, [v0, v1, v2, v3, v4, v5, .ref h1, v7, v8, v9, v10, v11, v12, v13])), (h1, .inl (cZ, 8, .inl (fun _ => 0)))] sz)) (vx_X (fun _ : Unit => False) (fun _ _ _ => False) (va_A [(h0, .inr (10, [v0, v1, v2, v3, v4, v5, .ref h1, v7, v8, v9, v10, v11, v12, v13])), (h1, .inl (cZ, 8, .inl (fun _ => 0)))] sz)) 1 6 (va_A [(h0, .inr (10, [v0, v1, v2, v3, v4, v5, .ref h1, v7, v8, v9, v10, v11, v12, v13])), (h1, .inl (cZ, 8, .inl (fun _ => 0)))] sz) := by
  refine vx_ofWH (cc := cL_row) (maxL := 6) (ret := (some .int)) (hh := [(0, 12, 15, 13), (0, 12, 19, 19)]) (by decide) rfl ?_
  intro p e s m args below meth c s₁ B hml hv
  obtain ⟨rfl, ⟨hsz, hP, hK, hD0, hE⟩, hT⟩ := hv
  have hx := B.exec
  have hb := B.bytes
  have hr := B.returns
  have hts0 := atoms_spec (ws := (.codeWith yL_row cL_row 6 (some .int) [(0, 12, 15, 13), (0, 12, 19, 19)] :: wU)) B.pre
  have hts : ∀ w ∈ wU, w.before _ s = true := fun w h => hts0 w (List.mem_cons_of_mem _ h)
  have hown : s.vm.findClass "SpineTablesLaw" = some m.cls := findClass_of_methodNamed B.named
  have hlocks := B.notSynchronized
  have htab := vx_table (x := yL_row) B (hts0 _ List.mem_cons_self)
  subst hsz
  have hD := hD0.self (sz := s.heap.size)
  generalize hAe : va_A [(h0, .inr (10, [v0, v1, v2, v3, v4, v5, .ref h1, v7, v8, v9, v10, v11, v12, v13])), (h1, .inl (cZ, 8, .inl (fun _ => 0)))] s.heap.size = A at hT hD ⊢
  have hA : ∀ q : Nat, s.heap.size ≤ q → A q := fun q h => by rw [← hAe]; exact Or.inr h
  have hP : va_P (dC, dI) classes [(h0, .inr (10, [v0, v1, v2, v3, v4, v5, .ref h1, v7, v8, v9, v10, v11, v12, v13])), (h1, .inl (cZ, 8, .inl (fun _ => 0)))] s.heap := hP
  have hl := lv_entry ([.ref h0, .int k, .int k1, .int k2, .ref ho]) (n := 6) (Nat.le_of_ble_eq_true rfl)
  rw [lg_entry_eq]
  generalize (lg_sl ([.ref h0, .int k, .int k1, .int k2, .ref ho]) ++ List.replicate (6 - (lg_sl ([.ref h0, .int k, .int k1, .int k2, .ref ho])).length) Slot.unset).toArray = ls at hl ⊢
  have hl : lv_has ls 6 [(0, .ref h0), (1, .int k), (2, .int k1), (3, .int k2), (4, .ref ho)] := hl
  obtain ⟨H, hH⟩ : ∃ H, H = s.heap := ⟨_, rfl⟩
  rw [← hH] at hP
  have hS : va_S A s.heap H [] := by rw [hH]; exact va_S.rf
  refine w_heap hH ?_
  refine lv_aload hx hb dL_row_0 (lv_at hl 4 rfl) ?_
  refine lv_iconst (v := 0) hx hb dL_row_2 (by decide) ?_
  refine lv_aload_n hx hb dL_row_3 rfl (lv_at hl 0 rfl) ?_
  refine lv_iload_n hx hb dL_row_4 rfl (lv_at hl 1 rfl) ?_
  refine lv_iload_n hx hb dL_row_5 rfl (lv_at hl 2 rfl) ?_
  refine lv_iload_n hx hb dL_row_6 rfl (lv_at hl 3 rfl) ?_
  have hPc := hP.sub (ws' := [(h0, .inr (10, [v0, v1, v2, v3, v4, v5, .ref h1, v7, v8, v9, v10, v11, v12, v13])), (h1, .inl (cZ, 8, .inl (fun _ => 0)))]) [0, 1] rfl
  have hDc := hD.sub (ws' := [(h0, .inr (10, [v0, v1, v2, v3, v4, v5, .ref h1, v7, v8, v9, v10, v11, v12, v13])), (h1, .inl (cZ, 8, .inl (fun _ => 0)))]) [0, 1] (by decide) rfl
  have hKc := hK.sub (tys' := [(cZ, .boolean)]) [0] rfl
  have hFc := va_free (wc := [(h0, .inr (10, [v0, v1, v2, v3, v4, v5, .ref h1, v7, v8, v9, v10, v11, v12, v13])), (h1, .inl (cZ, 8, .inl (fun _ => 0)))]) hD hS hA [0, 1] rfl
  refine vy_callX (vx_runV (As := [.int k, .int k1, .int k2]) (rest := [.int 0, .ref ho]) ⟨hx, hb, hml, hown, hts⟩ (c_x_row l hlt dC dI h0 k k1 k2 h1 v0 v1 v2 v3 v4 v5 v7 v8 v9 v10 v11 v12 v13 cZ sa H.size) (cwV 3 hts (goV wd_209 wd_210 wd_208 wd_191 wd_207) rfl rfl rfl (by decide +kernel) ⟨Nat.le_of_ble_eq_true rfl, Nat.le_of_ble_eq_true rfl⟩) ⟨blind6, va_recv hKc hPc (ci := 10) (q0 := 0) rfl rfl, fun U hU hW => ⟨rfl, pre6 hU hW hPc hKc hDc hE (hT.call hS hFc)⟩⟩ rfl rfl hl.1 rfl (lv_room (Nat.le_of_ble_eq_true rfl)) dL_row_7 ⟨Nat.le_of_ble_eq_true rfl, Nat.le_of_ble_eq_true rfl⟩) hS hFc (fun q _ h => hFc q h) (fun E ce q9 u t H locs ht hvm hw hB hz1 hk1 hS hce hcv hcl => ?_)
  obtain rfl : E = _ := hB
  refine vy_catch (name := "java/lang/IndexOutOfBoundsException") hown ⟨0, 12, 15, 13⟩ _ (by rw [htab]; rfl) (by decide) (by decide) (hts _ wd_202) (va_Nw.use rfl (hE.1 _ (List.mem_of_getElem? (i := 11) rfl))) hce hcv hcl ?_
  refine W.eq (g2 := F0 m 15 ls [.ref q9]) rfl ?_
  have hP : va_P (dC, dI) classes [] H := fun k q h => by simp at h
  have hD : va_D A [] := ⟨fun i j p q h => by simp at h, fun k q h => by simp at h⟩
  have hK : va_K (dC, dI) classes [] s := hK.sub [] rfl
  refine W.widen (k := 1) (n := 6) (Nat.le_of_ble_eq_true rfl) (Nat.le_of_ble_eq_true rfl) ?_
  refine lv_astore (lv' := [(5, .ref q9), (0, .ref h0), (1, .int k), (2, .int k1), (3, .int k2), (4, .ref ho)]) hx hb dL_row_15 hl (by decide) rfl (fun ls hl => ?_)
  refine lv_iconst (v := 1) hx hb dL_row_17 (by decide) ?_
  have hP9 := hP.sub (ws' := []) [] rfl
  have hD9 := hD.sub (ws' := []) [] (by decide) rfl
  have hK9 := hK.sub (tys' := []) [] rfl
  refine W.widen (k := 1) (n := 6) (Nat.le_of_ble_eq_true rfl) (Nat.le_of_ble_eq_true rfl) ?_
  exact vx_ret (W.iret (v := 1) hx hb hr (fun t ht hW => ⟨⟨1, (), rfl, rfl, by rw [ht]; exact hP9, va_K.moved hW.alike hK9, hD9⟩, hS.F ht⟩) hS.2.2 dL_row_18)
set_option maxHeartbeats 4000000 in
set_option maxRecDepth 100000 in
/-- l_strand -/
theorem c_l_strand (l : Launch) (hlt : l.stackTraces = false) (dC : Nat → ClassId) (dI : Nat → Nat → Nat) (h0 : Nat) (k : Int32) (k1 : Int32) (k2 : Int32) (k3 : Int32) (ho : Nat) (h1 : Nat) (v0 : Value) (v1 : Value) (v2 : Value) (v3 : Value) (v4 : Value) (v5 : Value) (v7 : Value) (v8 : Value) (v9 : Value) (v10 : Value) (v11 : Value) (v12 : Value) (v13 : Value) (cZ : ClassId) (sa : Nat) (sz : Nat) : vx_Met l yL_strand (.codeWith yL_strand cL_strand 7 (some .int) [(0, 14, 17, 13), (0, 14, 21, 19)] :: wU) ({ frames := 8, cells := 1, slots := 6, locals := 130 } : Room) (va_Pc [.ref h0, .int k, .int k1, .int k2, .int k3, .ref ho] (fun U => P5 dC dI [(h0, .inr (10, [v0, v1, v2, v3, v4, v5, .ref h1, v7, v8, v9, v10, v11, v12, v13])), (h1, .inl (cZ, 8, .inl (fun _ => 0)))] [(cZ, .boolean)] sz U ∧ Tn (va_A [(h0, .inr (10, [v0, v1, v2, v3, v4, v5, .ref h1, v7, v8, v9, v10, v11, v12, v13])), (h1, .inl (cZ, 8, .inl (fun _ => 0)))] sz) sa U)) (va_Qi (fun (r : Int32) (_ : Unit) => r = 1) (fun _ t => P3 dC dI (va_A [(h0, .inr (10, [v0, v1, v2, v3, v4, v5, .ref h1, v7, v8, v9, v10, v11, v12, v13])), (h1, .inl (cZ, 8, .inl (fun _ => 0)))] sz) [] [] t) (va_A [(h0, .inr (10, [v0, v1, v2, v3, v4, v5, .ref h1, v7, v8, v9, v10, v11, v12, v13])), (h1, .inl (cZ, 8, .inl (fun _ => 0)))] sz)) (vx_X (fun _ : Unit => False) (fun _ _ _ => False) (va_A [(h0, .inr (10, [v0, v1, v2, v3, v4, v5, .ref h1, v7, v8, v9, v10, v11, v12, v13])), (h1, .inl (cZ, 8, .inl (fun _ => 0)))] sz)) 1 6 (va_A [(h0, .inr (10, [v0, v1, v2, v3, v4, v5, .ref h1, v7, v8, v9, v10, v11, v12, v13])), (h1, .inl (cZ, 8, .inl (fun _ => 0)))] sz) := by
  refine vx_ofWH (cc := cL_strand) (maxL := 7) (ret := (some .int)) (hh := [(0, 14, 17, 13), (0, 14, 21, 19)]) (by decide) rfl ?_
  intro p e s m args below meth c s₁ B hml hv
  obtain ⟨rfl, ⟨hsz, hP, hK, hD0, hE⟩, hT⟩ := hv
  have hx := B.exec
  have hb := B.bytes
  have hr := B.returns
  have hts0 := atoms_spec (ws := (.codeWith yL_strand cL_strand 7 (some .int) [(0, 14, 17, 13), (0, 14, 21, 19)] :: wU)) B.pre
  have hts : ∀ w ∈ wU, w.before _ s = true := fun w h => hts0 w (List.mem_cons_of_mem _ h)
  have hown : s.vm.findClass "SpineTablesLaw" = some m.cls := findClass_of_methodNamed B.named
  have hlocks := B.notSynchronized
  have htab := vx_table (x := yL_strand) B (hts0 _ List.mem_cons_self)
  subst hsz
  have hD := hD0.self (sz := s.heap.size)
  generalize hAe : va_A [(h0, .inr (10, [v0, v1, v2, v3, v4, v5, .ref h1, v7, v8, v9, v10, v11, v12, v13])), (h1, .inl (cZ, 8, .inl (fun _ => 0)))] s.heap.size = A at hT hD ⊢
  have hA : ∀ q : Nat, s.heap.size ≤ q → A q := fun q h => by rw [← hAe]; exact Or.inr h
  have hP : va_P (dC, dI) classes [(h0, .inr (10, [v0, v1, v2, v3, v4, v5, .ref h1, v7, v8, v9, v10, v11, v12, v13])), (h1, .inl (cZ, 8, .inl (fun _ => 0)))] s.heap := hP
  have hl := lv_entry ([.ref h0, .int k, .int k1, .int k2, .int k3, .ref ho]) (n := 7) (Nat.le_of_ble_eq_true rfl)
  rw [lg_entry_eq]
  generalize (lg_sl ([.ref h0, .int k, .int k1, .int k2, .int k3, .ref ho]) ++ List.replicate (7 - (lg_sl ([.ref h0, .int k, .int k1, .int k2, .int k3, .ref ho])).length) Slot.unset).toArray = ls at hl ⊢
  have hl : lv_has ls 7 [(0, .ref h0), (1, .int k), (2, .int k1), (3, .int k2), (4, .int k3), (5, .ref ho)] := hl
  obtain ⟨H, hH⟩ : ∃ H, H = s.heap := ⟨_, rfl⟩
  rw [← hH] at hP
  have hS : va_S A s.heap H [] := by rw [hH]; exact va_S.rf
  refine w_heap hH ?_
  refine lv_aload hx hb dL_strand_0 (lv_at hl 5 rfl) ?_
  refine lv_iconst (v := 0) hx hb dL_strand_2 (by decide) ?_
  refine lv_aload_n hx hb dL_strand_3 rfl (lv_at hl 0 rfl) ?_
  refine lv_iload_n hx hb dL_strand_4 rfl (lv_at hl 1 rfl) ?_
  refine lv_iload_n hx hb dL_strand_5 rfl (lv_at hl 2 rfl) ?_
  refine lv_iload_n hx hb dL_strand_6 rfl (lv_at hl 3 rfl) ?_
  refine lv_iload hx hb dL_strand_7 (lv_at hl 4 rfl) ?_
  have hPc := hP.sub (ws' := [(h0, .inr (10, [v0, v1, v2, v3, v4, v5, .ref h1, v7, v8, v9, v10, v11, v12, v13])), (h1, .inl (cZ, 8, .inl (fun _ => 0)))]) [0, 1] rfl
  have hDc := hD.sub (ws' := [(h0, .inr (10, [v0, v1, v2, v3, v4, v5, .ref h1, v7, v8, v9, v10, v11, v12, v13])), (h1, .inl (cZ, 8, .inl (fun _ => 0)))]) [0, 1] (by decide) rfl
  have hKc := hK.sub (tys' := [(cZ, .boolean)]) [0] rfl
  have hFc := va_free (wc := [(h0, .inr (10, [v0, v1, v2, v3, v4, v5, .ref h1, v7, v8, v9, v10, v11, v12, v13])), (h1, .inl (cZ, 8, .inl (fun _ => 0)))]) hD hS hA [0, 1] rfl
  refine vy_callX (vx_runV (As := [.int k, .int k1, .int k2, .int k3]) (rest := [.int 0, .ref ho]) ⟨hx, hb, hml, hown, hts⟩ (c_x_strand l hlt dC dI h0 k k1 k2 k3 h1 v0 v1 v2 v3 v4 v5 v7 v8 v9 v10 v11 v12 v13 cZ sa H.size) (cwV 4 hts (goV wd_213 wd_214 wd_212 wd_191 wd_211) rfl rfl rfl (by decide +kernel) ⟨Nat.le_of_ble_eq_true rfl, Nat.le_of_ble_eq_true rfl⟩) ⟨blind6, va_recv hKc hPc (ci := 10) (q0 := 0) rfl rfl, fun U hU hW => ⟨rfl, pre6 hU hW hPc hKc hDc hE (hT.call hS hFc)⟩⟩ rfl rfl hl.1 rfl (lv_room (Nat.le_of_ble_eq_true rfl)) dL_strand_9 ⟨Nat.le_of_ble_eq_true rfl, Nat.le_of_ble_eq_true rfl⟩) hS hFc (fun q _ h => hFc q h) (fun E ce q9 u t H locs ht hvm hw hB hz1 hk1 hS hce hcv hcl => ?_)
  obtain rfl : E = _ := hB
  refine vy_catch (name := "java/lang/IndexOutOfBoundsException") hown ⟨0, 14, 17, 13⟩ _ (by rw [htab]; rfl) (by decide) (by decide) (hts _ wd_202) (va_Nw.use rfl (hE.1 _ (List.mem_of_getElem? (i := 11) rfl))) hce hcv hcl ?_
  refine W.eq (g2 := F0 m 17 ls [.ref q9]) rfl ?_
  have hP : va_P (dC, dI) classes [] H := fun k q h => by simp at h
  have hD : va_D A [] := ⟨fun i j p q h => by simp at h, fun k q h => by simp at h⟩
  have hK : va_K (dC, dI) classes [] s := hK.sub [] rfl
  refine W.widen (k := 1) (n := 6) (Nat.le_of_ble_eq_true rfl) (Nat.le_of_ble_eq_true rfl) ?_
  refine lv_astore (lv' := [(6, .ref q9), (0, .ref h0), (1, .int k), (2, .int k1), (3, .int k2), (4, .int k3), (5, .ref ho)]) hx hb dL_strand_17 hl (by decide) rfl (fun ls hl => ?_)
  refine lv_iconst (v := 1) hx hb dL_strand_19 (by decide) ?_
  have hP9 := hP.sub (ws' := []) [] rfl
  have hD9 := hD.sub (ws' := []) [] (by decide) rfl
  have hK9 := hK.sub (tys' := []) [] rfl
  refine W.widen (k := 1) (n := 6) (Nat.le_of_ble_eq_true rfl) (Nat.le_of_ble_eq_true rfl) ?_
  exact vx_ret (W.iret (v := 1) hx hb hr (fun t ht hW => ⟨⟨1, (), rfl, rfl, by rw [ht]; exact hP9, va_K.moved hW.alike hK9, hD9⟩, hS.F ht⟩) hS.2.2 dL_strand_20)
set_option maxHeartbeats 4000000 in
set_option maxRecDepth 100000 in
/-- l_kind -/
theorem c_l_kind (l : Launch) (hlt : l.stackTraces = false) (dC : Nat → ClassId) (dI : Nat → Nat → Nat) (h0 : Nat) (k : Int32) (k1 : Int32) (k2 : Int32) (ho : Nat) (h1 : Nat) (v0 : Value) (v1 : Value) (v2 : Value) (v3 : Value) (v4 : Value) (v5 : Value) (v7 : Value) (v8 : Value) (v9 : Value) (v10 : Value) (v11 : Value) (v12 : Value) (v13 : Value) (cZ : ClassId) (sa : Nat) (sz : Nat) : vx_Met l yL_kind (.codeWith yL_kind cL_kind 6 (some .int) [(0, 12, 15, 13)] :: wU) ({ frames := 8, cells := 1, slots := 6, locals := 128 } : Room) (va_Pc [.ref h0, .int k, .int k1, .int k2, .ref ho] (fun U => P5 dC dI [(h0, .inr (10, [v0, v1, v2, v3, v4, v5, .ref h1, v7, v8, v9, v10, v11, v12, v13])), (h1, .inl (cZ, 8, .inl (fun _ => 0)))] [(cZ, .boolean)] sz U ∧ Tn (va_A [(h0, .inr (10, [v0, v1, v2, v3, v4, v5, .ref h1, v7, v8, v9, v10, v11, v12, v13])), (h1, .inl (cZ, 8, .inl (fun _ => 0)))] sz) sa U)) (va_Qi (fun (r : Int32) (_ : Unit) => r = 1) (fun _ t => P3 dC dI (va_A [(h0, .inr (10, [v0, v1, v2, v3, v4, v5, .ref h1, v7, v8, v9, v10, v11, v12, v13])), (h1, .inl (cZ, 8, .inl (fun _ => 0)))] sz) [] [] t) (va_A [(h0, .inr (10, [v0, v1, v2, v3, v4, v5, .ref h1, v7, v8, v9, v10, v11, v12, v13])), (h1, .inl (cZ, 8, .inl (fun _ => 0)))] sz)) (vx_X (fun _ : Unit => False) (fun _ _ _ => False) (va_A [(h0, .inr (10, [v0, v1, v2, v3, v4, v5, .ref h1, v7, v8, v9, v10, v11, v12, v13])), (h1, .inl (cZ, 8, .inl (fun _ => 0)))] sz)) 1 6 (va_A [(h0, .inr (10, [v0, v1, v2, v3, v4, v5, .ref h1, v7, v8, v9, v10, v11, v12, v13])), (h1, .inl (cZ, 8, .inl (fun _ => 0)))] sz) := by
  refine vx_ofWH (cc := cL_kind) (maxL := 6) (ret := (some .int)) (hh := [(0, 12, 15, 13)]) (by decide) rfl ?_
  intro p e s m args below meth c s₁ B hml hv
  obtain ⟨rfl, ⟨hsz, hP, hK, hD0, hE⟩, hT⟩ := hv
  have hx := B.exec
  have hb := B.bytes
  have hr := B.returns
  have hts0 := atoms_spec (ws := (.codeWith yL_kind cL_kind 6 (some .int) [(0, 12, 15, 13)] :: wU)) B.pre
  have hts : ∀ w ∈ wU, w.before _ s = true := fun w h => hts0 w (List.mem_cons_of_mem _ h)
  have hown : s.vm.findClass "SpineTablesLaw" = some m.cls := findClass_of_methodNamed B.named
  have hlocks := B.notSynchronized
  have htab := vx_table (x := yL_kind) B (hts0 _ List.mem_cons_self)
  subst hsz
  have hD := hD0.self (sz := s.heap.size)
  generalize hAe : va_A [(h0, .inr (10, [v0, v1, v2, v3, v4, v5, .ref h1, v7, v8, v9, v10, v11, v12, v13])), (h1, .inl (cZ, 8, .inl (fun _ => 0)))] s.heap.size = A at hT hD ⊢
  have hA : ∀ q : Nat, s.heap.size ≤ q → A q := fun q h => by rw [← hAe]; exact Or.inr h
  have hP : va_P (dC, dI) classes [(h0, .inr (10, [v0, v1, v2, v3, v4, v5, .ref h1, v7, v8, v9, v10, v11, v12, v13])), (h1, .inl (cZ, 8, .inl (fun _ => 0)))] s.heap := hP
  have hl := lv_entry ([.ref h0, .int k, .int k1, .int k2, .ref ho]) (n := 6) (Nat.le_of_ble_eq_true rfl)
  rw [lg_entry_eq]
  generalize (lg_sl ([.ref h0, .int k, .int k1, .int k2, .ref ho]) ++ List.replicate (6 - (lg_sl ([.ref h0, .int k, .int k1, .int k2, .ref ho])).length) Slot.unset).toArray = ls at hl ⊢
  have hl : lv_has ls 6 [(0, .ref h0), (1, .int k), (2, .int k1), (3, .int k2), (4, .ref ho)] := hl
  obtain ⟨H, hH⟩ : ∃ H, H = s.heap := ⟨_, rfl⟩
  rw [← hH] at hP
  have hS : va_S A s.heap H [] := by rw [hH]; exact va_S.rf
  refine w_heap hH ?_
  refine lv_aload hx hb dL_kind_0 (lv_at hl 4 rfl) ?_
  refine lv_iconst (v := 0) hx hb dL_kind_2 (by decide) ?_
  refine lv_aload_n hx hb dL_kind_3 rfl (lv_at hl 0 rfl) ?_
  refine lv_iload_n hx hb dL_kind_4 rfl (lv_at hl 1 rfl) ?_
  refine lv_iload_n hx hb dL_kind_5 rfl (lv_at hl 2 rfl) ?_
  refine lv_iload_n hx hb dL_kind_6 rfl (lv_at hl 3 rfl) ?_
  have hPc := hP.sub (ws' := [(h0, .inr (10, [v0, v1, v2, v3, v4, v5, .ref h1, v7, v8, v9, v10, v11, v12, v13])), (h1, .inl (cZ, 8, .inl (fun _ => 0)))]) [0, 1] rfl
  have hDc := hD.sub (ws' := [(h0, .inr (10, [v0, v1, v2, v3, v4, v5, .ref h1, v7, v8, v9, v10, v11, v12, v13])), (h1, .inl (cZ, 8, .inl (fun _ => 0)))]) [0, 1] (by decide) rfl
  have hKc := hK.sub (tys' := [(cZ, .boolean)]) [0] rfl
  have hFc := va_free (wc := [(h0, .inr (10, [v0, v1, v2, v3, v4, v5, .ref h1, v7, v8, v9, v10, v11, v12, v13])), (h1, .inl (cZ, 8, .inl (fun _ => 0)))]) hD hS hA [0, 1] rfl
  refine vy_callX (vx_runV (As := [.int k, .int k1, .int k2]) (rest := [.int 0, .ref ho]) ⟨hx, hb, hml, hown, hts⟩ (c_x_kind l hlt dC dI h0 k k1 k2 h1 v0 v1 v2 v3 v4 v5 v7 v8 v9 v10 v11 v12 v13 cZ sa H.size) (cwV 3 hts (goV wd_217 wd_218 wd_216 wd_191 wd_215) rfl rfl rfl (by decide +kernel) ⟨Nat.le_of_ble_eq_true rfl, Nat.le_of_ble_eq_true rfl⟩) ⟨blind6, va_recv hKc hPc (ci := 10) (q0 := 0) rfl rfl, fun U hU hW => ⟨rfl, pre6 hU hW hPc hKc hDc hE (hT.call hS hFc)⟩⟩ rfl rfl hl.1 rfl (lv_room (Nat.le_of_ble_eq_true rfl)) dL_kind_7 ⟨Nat.le_of_ble_eq_true rfl, Nat.le_of_ble_eq_true rfl⟩) hS hFc (fun q _ h => hFc q h) (fun E ce q9 u t H locs ht hvm hw hB hz1 hk1 hS hce hcv hcl => ?_)
  obtain rfl : E = _ := hB
  refine vy_catch (name := "java/lang/IndexOutOfBoundsException") hown ⟨0, 12, 15, 13⟩ _ (by rw [htab]; rfl) (by decide) (by decide) (hts _ wd_202) (va_Nw.use rfl (hE.1 _ (List.mem_of_getElem? (i := 11) rfl))) hce hcv hcl ?_
  refine W.eq (g2 := F0 m 15 ls [.ref q9]) rfl ?_
  have hP : va_P (dC, dI) classes [] H := fun k q h => by simp at h
  have hD : va_D A [] := ⟨fun i j p q h => by simp at h, fun k q h => by simp at h⟩
  have hK : va_K (dC, dI) classes [] s := hK.sub [] rfl
  refine W.widen (k := 1) (n := 6) (Nat.le_of_ble_eq_true rfl) (Nat.le_of_ble_eq_true rfl) ?_
  refine lv_astore (lv' := [(5, .ref q9), (0, .ref h0), (1, .int k), (2, .int k1), (3, .int k2), (4, .ref ho)]) hx hb dL_kind_15 hl (by decide) rfl (fun ls hl => ?_)
  refine lv_iconst (v := 1) hx hb dL_kind_17 (by decide) ?_
  have hP9 := hP.sub (ws' := []) [] rfl
  have hD9 := hD.sub (ws' := []) [] (by decide) rfl
  have hK9 := hK.sub (tys' := []) [] rfl
  refine W.widen (k := 1) (n := 6) (Nat.le_of_ble_eq_true rfl) (Nat.le_of_ble_eq_true rfl) ?_
  exact vx_ret (W.iret (v := 1) hx hb hr (fun t ht hW => ⟨⟨1, (), rfl, rfl, by rw [ht]; exact hP9, va_K.moved hW.alike hK9, hD9⟩, hS.F ht⟩) hS.2.2 dL_kind_18)
set_option maxHeartbeats 4000000 in
set_option maxRecDepth 100000 in
/-- l_token -/
theorem c_l_token (l : Launch) (hlt : l.stackTraces = false) (dC : Nat → ClassId) (dI : Nat → Nat → Nat) (h0 : Nat) (k : Int32) (k1 : Int32) (k2 : Int32) (k3 : Int32) (ho : Nat) (h1 : Nat) (v0 : Value) (v1 : Value) (v2 : Value) (v3 : Value) (v4 : Value) (v5 : Value) (v7 : Value) (v8 : Value) (v9 : Value) (v10 : Value) (v11 : Value) (v12 : Value) (v13 : Value) (cZ : ClassId) (sa : Nat) (sz : Nat) : vx_Met l yL_token (.codeWith yL_token cL_token 7 (some .int) [(0, 14, 17, 13)] :: wU) ({ frames := 8, cells := 1, slots := 6, locals := 130 } : Room) (va_Pc [.ref h0, .int k, .int k1, .int k2, .int k3, .ref ho] (fun U => P5 dC dI [(h0, .inr (10, [v0, v1, v2, v3, v4, v5, .ref h1, v7, v8, v9, v10, v11, v12, v13])), (h1, .inl (cZ, 8, .inl (fun _ => 0)))] [(cZ, .boolean)] sz U ∧ Tn (va_A [(h0, .inr (10, [v0, v1, v2, v3, v4, v5, .ref h1, v7, v8, v9, v10, v11, v12, v13])), (h1, .inl (cZ, 8, .inl (fun _ => 0)))] sz) sa U)) (va_Qi (fun (r : Int32) (_ : Unit) => r = 1) (fun _ t => P3 dC dI (va_A [(h0, .inr (10, [v0, v1, v2, v3, v4, v5, .ref h1, v7, v8, v9, v10, v11, v12, v13])), (h1, .inl (cZ, 8, .inl (fun _ => 0)))] sz) [] [] t) (va_A [(h0, .inr (10, [v0, v1, v2, v3, v4, v5, .ref h1, v7, v8, v9, v10, v11, v12, v13])), (h1, .inl (cZ, 8, .inl (fun _ => 0)))] sz)) (vx_X (fun _ : Unit => False) (fun _ _ _ => False) (va_A [(h0, .inr (10, [v0, v1, v2, v3, v4, v5, .ref h1, v7, v8, v9, v10, v11, v12, v13])), (h1, .inl (cZ, 8, .inl (fun _ => 0)))] sz)) 1 6 (va_A [(h0, .inr (10, [v0, v1, v2, v3, v4, v5, .ref h1, v7, v8, v9, v10, v11, v12, v13])), (h1, .inl (cZ, 8, .inl (fun _ => 0)))] sz) := by
  refine vx_ofWH (cc := cL_token) (maxL := 7) (ret := (some .int)) (hh := [(0, 14, 17, 13)]) (by decide) rfl ?_
  intro p e s m args below meth c s₁ B hml hv
  obtain ⟨rfl, ⟨hsz, hP, hK, hD0, hE⟩, hT⟩ := hv
  have hx := B.exec
  have hb := B.bytes
  have hr := B.returns
  have hts0 := atoms_spec (ws := (.codeWith yL_token cL_token 7 (some .int) [(0, 14, 17, 13)] :: wU)) B.pre
  have hts : ∀ w ∈ wU, w.before _ s = true := fun w h => hts0 w (List.mem_cons_of_mem _ h)
  have hown : s.vm.findClass "SpineTablesLaw" = some m.cls := findClass_of_methodNamed B.named
  have hlocks := B.notSynchronized
  have htab := vx_table (x := yL_token) B (hts0 _ List.mem_cons_self)
  subst hsz
  have hD := hD0.self (sz := s.heap.size)
  generalize hAe : va_A [(h0, .inr (10, [v0, v1, v2, v3, v4, v5, .ref h1, v7, v8, v9, v10, v11, v12, v13])), (h1, .inl (cZ, 8, .inl (fun _ => 0)))] s.heap.size = A at hT hD ⊢
  have hA : ∀ q : Nat, s.heap.size ≤ q → A q := fun q h => by rw [← hAe]; exact Or.inr h
  have hP : va_P (dC, dI) classes [(h0, .inr (10, [v0, v1, v2, v3, v4, v5, .ref h1, v7, v8, v9, v10, v11, v12, v13])), (h1, .inl (cZ, 8, .inl (fun _ => 0)))] s.heap := hP
  have hl := lv_entry ([.ref h0, .int k, .int k1, .int k2, .int k3, .ref ho]) (n := 7) (Nat.le_of_ble_eq_true rfl)
  rw [lg_entry_eq]
  generalize (lg_sl ([.ref h0, .int k, .int k1, .int k2, .int k3, .ref ho]) ++ List.replicate (7 - (lg_sl ([.ref h0, .int k, .int k1, .int k2, .int k3, .ref ho])).length) Slot.unset).toArray = ls at hl ⊢
  have hl : lv_has ls 7 [(0, .ref h0), (1, .int k), (2, .int k1), (3, .int k2), (4, .int k3), (5, .ref ho)] := hl
  obtain ⟨H, hH⟩ : ∃ H, H = s.heap := ⟨_, rfl⟩
  rw [← hH] at hP
  have hS : va_S A s.heap H [] := by rw [hH]; exact va_S.rf
  refine w_heap hH ?_
  refine lv_aload hx hb dL_token_0 (lv_at hl 5 rfl) ?_
  refine lv_iconst (v := 0) hx hb dL_token_2 (by decide) ?_
  refine lv_aload_n hx hb dL_token_3 rfl (lv_at hl 0 rfl) ?_
  refine lv_iload_n hx hb dL_token_4 rfl (lv_at hl 1 rfl) ?_
  refine lv_iload_n hx hb dL_token_5 rfl (lv_at hl 2 rfl) ?_
  refine lv_iload_n hx hb dL_token_6 rfl (lv_at hl 3 rfl) ?_
  refine lv_iload hx hb dL_token_7 (lv_at hl 4 rfl) ?_
  have hPc := hP.sub (ws' := [(h0, .inr (10, [v0, v1, v2, v3, v4, v5, .ref h1, v7, v8, v9, v10, v11, v12, v13])), (h1, .inl (cZ, 8, .inl (fun _ => 0)))]) [0, 1] rfl
  have hDc := hD.sub (ws' := [(h0, .inr (10, [v0, v1, v2, v3, v4, v5, .ref h1, v7, v8, v9, v10, v11, v12, v13])), (h1, .inl (cZ, 8, .inl (fun _ => 0)))]) [0, 1] (by decide) rfl
  have hKc := hK.sub (tys' := [(cZ, .boolean)]) [0] rfl
  have hFc := va_free (wc := [(h0, .inr (10, [v0, v1, v2, v3, v4, v5, .ref h1, v7, v8, v9, v10, v11, v12, v13])), (h1, .inl (cZ, 8, .inl (fun _ => 0)))]) hD hS hA [0, 1] rfl
  refine vy_callX (vx_runV (As := [.int k, .int k1, .int k2, .int k3]) (rest := [.int 0, .ref ho]) ⟨hx, hb, hml, hown, hts⟩ (c_x_token l hlt dC dI h0 k k1 k2 k3 h1 v0 v1 v2 v3 v4 v5 v7 v8 v9 v10 v11 v12 v13 cZ sa H.size) (cwV 4 hts (goV wd_221 wd_222 wd_220 wd_191 wd_219) rfl rfl rfl (by decide +kernel) ⟨Nat.le_of_ble_eq_true rfl, Nat.le_of_ble_eq_true rfl⟩) ⟨blind6, va_recv hKc hPc (ci := 10) (q0 := 0) rfl rfl, fun U hU hW => ⟨rfl, pre6 hU hW hPc hKc hDc hE (hT.call hS hFc)⟩⟩ rfl rfl hl.1 rfl (lv_room (Nat.le_of_ble_eq_true rfl)) dL_token_9 ⟨Nat.le_of_ble_eq_true rfl, Nat.le_of_ble_eq_true rfl⟩) hS hFc (fun q _ h => hFc q h) (fun E ce q9 u t H locs ht hvm hw hB hz1 hk1 hS hce hcv hcl => ?_)
  obtain rfl : E = _ := hB
  refine vy_catch (name := "java/lang/IndexOutOfBoundsException") hown ⟨0, 14, 17, 13⟩ _ (by rw [htab]; rfl) (by decide) (by decide) (hts _ wd_202) (va_Nw.use rfl (hE.1 _ (List.mem_of_getElem? (i := 11) rfl))) hce hcv hcl ?_
  refine W.eq (g2 := F0 m 17 ls [.ref q9]) rfl ?_
  have hP : va_P (dC, dI) classes [] H := fun k q h => by simp at h
  have hD : va_D A [] := ⟨fun i j p q h => by simp at h, fun k q h => by simp at h⟩
  have hK : va_K (dC, dI) classes [] s := hK.sub [] rfl
  refine W.widen (k := 1) (n := 6) (Nat.le_of_ble_eq_true rfl) (Nat.le_of_ble_eq_true rfl) ?_
  refine lv_astore (lv' := [(6, .ref q9), (0, .ref h0), (1, .int k), (2, .int k1), (3, .int k2), (4, .int k3), (5, .ref ho)]) hx hb dL_token_17 hl (by decide) rfl (fun ls hl => ?_)
  refine lv_iconst (v := 1) hx hb dL_token_19 (by decide) ?_
  have hP9 := hP.sub (ws' := []) [] rfl
  have hD9 := hD.sub (ws' := []) [] (by decide) rfl
  have hK9 := hK.sub (tys' := []) [] rfl
  refine W.widen (k := 1) (n := 6) (Nat.le_of_ble_eq_true rfl) (Nat.le_of_ble_eq_true rfl) ?_
  exact vx_ret (W.iret (v := 1) hx hb hr (fun t ht hW => ⟨⟨1, (), rfl, rfl, by rw [ht]; exact hP9, va_K.moved hW.alike hK9, hD9⟩, hS.F ht⟩) hS.2.2 dL_token_20)
set_option maxHeartbeats 4000000 in
set_option maxRecDepth 100000 in
/-- l_walk -/
theorem c_l_walk (l : Launch) (hlt : l.stackTraces = false) (dC : Nat → ClassId) (dI : Nat → Nat → Nat) (h0 : Nat) (k : Int32) (ho : Nat) (h1 : Nat) (v0 : Value) (v1 : Value) (v2 : Value) (v3 : Value) (v4 : Value) (v5 : Value) (v7 : Value) (v8 : Value) (v9 : Value) (v10 : Value) (v11 : Value) (v12 : Value) (v13 : Value) (cZ : ClassId) (sa : Nat) (sz : Nat) : vx_Met l yL_walk (.codeWith yL_walk cL_walk 4 (some .int) [(0, 9, 12, 13)] :: wU) ({ frames := 8, cells := 1, slots := 6, locals := 125 } : Room) (va_Pc [.ref h0, .int k, .ref ho] (fun U => P5 dC dI [(h0, .inr (10, [v0, v1, v2, v3, v4, v5, .ref h1, v7, v8, v9, v10, v11, v12, v13])), (h1, .inl (cZ, 8, .inl (fun _ => 0)))] [(cZ, .boolean)] sz U ∧ Tn (va_A [(h0, .inr (10, [v0, v1, v2, v3, v4, v5, .ref h1, v7, v8, v9, v10, v11, v12, v13])), (h1, .inl (cZ, 8, .inl (fun _ => 0)))] sz) sa U)) (va_Qi (fun (r : Int32) (_ : Unit) => r = 1) (fun _ t => P3 dC dI (va_A [(h0, .inr (10, [v0, v1, v2, v3, v4, v5, .ref h1, v7, v8, v9, v10, v11, v12, v13])), (h1, .inl (cZ, 8, .inl (fun _ => 0)))] sz) [] [] t) (va_A [(h0, .inr (10, [v0, v1, v2, v3, v4, v5, .ref h1, v7, v8, v9, v10, v11, v12, v13])), (h1, .inl (cZ, 8, .inl (fun _ => 0)))] sz)) (vx_X (fun _ : Unit => False) (fun _ _ _ => False) (va_A [(h0, .inr (10, [v0, v1, v2, v3, v4, v5, .ref h1, v7, v8, v9, v10, v11, v12, v13])), (h1, .inl (cZ, 8, .inl (fun _ => 0)))] sz)) 1 6 (va_A [(h0, .inr (10, [v0, v1, v2, v3, v4, v5, .ref h1, v7, v8, v9, v10, v11, v12, v13])), (h1, .inl (cZ, 8, .inl (fun _ => 0)))] sz) := by
  refine vx_ofWH (cc := cL_walk) (maxL := 4) (ret := (some .int)) (hh := [(0, 9, 12, 13)]) (by decide) rfl ?_
  intro p e s m args below meth c s₁ B hml hv
  obtain ⟨rfl, ⟨hsz, hP, hK, hD0, hE⟩, hT⟩ := hv
  have hx := B.exec
  have hb := B.bytes
  have hr := B.returns
  have hts0 := atoms_spec (ws := (.codeWith yL_walk cL_walk 4 (some .int) [(0, 9, 12, 13)] :: wU)) B.pre
  have hts : ∀ w ∈ wU, w.before _ s = true := fun w h => hts0 w (List.mem_cons_of_mem _ h)
  have hown : s.vm.findClass "SpineTablesLaw" = some m.cls := findClass_of_methodNamed B.named
  have hlocks := B.notSynchronized
  have htab := vx_table (x := yL_walk) B (hts0 _ List.mem_cons_self)
  subst hsz
  have hD := hD0.self (sz := s.heap.size)
  generalize hAe : va_A [(h0, .inr (10, [v0, v1, v2, v3, v4, v5, .ref h1, v7, v8, v9, v10, v11, v12, v13])), (h1, .inl (cZ, 8, .inl (fun _ => 0)))] s.heap.size = A at hT hD ⊢
  have hA : ∀ q : Nat, s.heap.size ≤ q → A q := fun q h => by rw [← hAe]; exact Or.inr h
  have hP : va_P (dC, dI) classes [(h0, .inr (10, [v0, v1, v2, v3, v4, v5, .ref h1, v7, v8, v9, v10, v11, v12, v13])), (h1, .inl (cZ, 8, .inl (fun _ => 0)))] s.heap := hP
  have hl := lv_entry ([.ref h0, .int k, .ref ho]) (n := 4) (Nat.le_of_ble_eq_true rfl)
  rw [lg_entry_eq]
  generalize (lg_sl ([.ref h0, .int k, .ref ho]) ++ List.replicate (4 - (lg_sl ([.ref h0, .int k, .ref ho])).length) Slot.unset).toArray = ls at hl ⊢
  have hl : lv_has ls 4 [(0, .ref h0), (1, .int k), (2, .ref ho)] := hl
  obtain ⟨H, hH⟩ : ∃ H, H = s.heap := ⟨_, rfl⟩
  rw [← hH] at hP
  have hS : va_S A s.heap H [] := by rw [hH]; exact va_S.rf
  refine w_heap hH ?_
  refine lv_aload_n hx hb dL_walk_0 rfl (lv_at hl 2 rfl) ?_
  refine lv_iconst (v := 0) hx hb dL_walk_1 (by decide) ?_
  refine lv_aload_n hx hb dL_walk_2 rfl (lv_at hl 0 rfl) ?_
  refine lv_iload_n hx hb dL_walk_3 rfl (lv_at hl 1 rfl) ?_
  have hPc := hP.sub (ws' := [(h0, .inr (10, [v0, v1, v2, v3, v4, v5, .ref h1, v7, v8, v9, v10, v11, v12, v13])), (h1, .inl (cZ, 8, .inl (fun _ => 0)))]) [0, 1] rfl
  have hDc := hD.sub (ws' := [(h0, .inr (10, [v0, v1, v2, v3, v4, v5, .ref h1, v7, v8, v9, v10, v11, v12, v13])), (h1, .inl (cZ, 8, .inl (fun _ => 0)))]) [0, 1] (by decide) rfl
  have hKc := hK.sub (tys' := [(cZ, .boolean)]) [0] rfl
  have hFc := va_free (wc := [(h0, .inr (10, [v0, v1, v2, v3, v4, v5, .ref h1, v7, v8, v9, v10, v11, v12, v13])), (h1, .inl (cZ, 8, .inl (fun _ => 0)))]) hD hS hA [0, 1] rfl
  refine vy_callX (vx_runV (As := [.int k]) (rest := [.int 0, .ref ho]) ⟨hx, hb, hml, hown, hts⟩ (c_x_walk l hlt dC dI h0 k h1 v0 v1 v2 v3 v4 v5 v7 v8 v9 v10 v11 v12 v13 cZ sa H.size) (cwV 1 hts (goV wd_225 wd_226 wd_224 wd_191 wd_223) rfl rfl rfl (by decide +kernel) ⟨Nat.le_of_ble_eq_true rfl, Nat.le_of_ble_eq_true rfl⟩) ⟨blind6, va_recv hKc hPc (ci := 10) (q0 := 0) rfl rfl, fun U hU hW => ⟨rfl, pre6 hU hW hPc hKc hDc hE (hT.call hS hFc)⟩⟩ rfl rfl hl.1 rfl (lv_room (Nat.le_of_ble_eq_true rfl)) dL_walk_4 ⟨Nat.le_of_ble_eq_true rfl, Nat.le_of_ble_eq_true rfl⟩) hS hFc (fun q _ h => hFc q h) (fun E ce q9 u t H locs ht hvm hw hB hz1 hk1 hS hce hcv hcl => ?_)
  obtain rfl : E = _ := hB
  refine vy_catch (name := "java/lang/IndexOutOfBoundsException") hown ⟨0, 9, 12, 13⟩ _ (by rw [htab]; rfl) (by decide) (by decide) (hts _ wd_202) (va_Nw.use rfl (hE.1 _ (List.mem_of_getElem? (i := 11) rfl))) hce hcv hcl ?_
  refine W.eq (g2 := F0 m 12 ls [.ref q9]) rfl ?_
  have hP : va_P (dC, dI) classes [] H := fun k q h => by simp at h
  have hD : va_D A [] := ⟨fun i j p q h => by simp at h, fun k q h => by simp at h⟩
  have hK : va_K (dC, dI) classes [] s := hK.sub [] rfl
  refine W.widen (k := 1) (n := 6) (Nat.le_of_ble_eq_true rfl) (Nat.le_of_ble_eq_true rfl) ?_
  refine lv_astore_n (lv' := [(3, .ref q9), (0, .ref h0), (1, .int k), (2, .ref ho)]) hx hb dL_walk_12 rfl hl (by decide) rfl (fun ls hl => ?_)
  refine lv_iconst (v := 1) hx hb dL_walk_13 (by decide) ?_
  have hP9 := hP.sub (ws' := []) [] rfl
  have hD9 := hD.sub (ws' := []) [] (by decide) rfl
  have hK9 := hK.sub (tys' := []) [] rfl
  refine W.widen (k := 1) (n := 6) (Nat.le_of_ble_eq_true rfl) (Nat.le_of_ble_eq_true rfl) ?_
  exact vx_ret (W.iret (v := 1) hx hb hr (fun t ht hW => ⟨⟨1, (), rfl, rfl, by rw [ht]; exact hP9, va_K.moved hW.alike hK9, hD9⟩, hS.F ht⟩) hS.2.2 dL_walk_14)
set_option maxHeartbeats 4000000 in
set_option maxRecDepth 100000 in
/-- l_misfit -/
theorem c_l_misfit (l : Launch) (hlt : l.stackTraces = false) (dC : Nat → ClassId) (dI : Nat → Nat → Nat) (h0 : Nat) (k : Int32) (ho : Nat) (h1 : Nat) (v0 : Value) (v1 : Value) (v2 : Value) (v3 : Value) (v4 : Value) (v5 : Value) (v7 : Value) (v8 : Value) (v9 : Value) (v10 : Value) (v11 : Value) (v12 : Value) (v13 : Value) (cZ : ClassId) (sa : Nat) (sz : Nat) : vx_Met l yL_misfit (.codeWith yL_misfit cL_misfit 4 (some .int) [(0, 9, 12, 13)] :: wU) ({ frames := 8, cells := 1, slots := 6, locals := 125 } : Room) (va_Pc [.ref h0, .int k, .ref ho] (fun U => P5 dC dI [(h0, .inr (10, [v0, v1, v2, v3, v4, v5, .ref h1, v7, v8, v9, v10, v11, v12, v13])), (h1, .inl (cZ, 8, .inl (fun _ => 0)))] [(cZ, .boolean)] sz U ∧ Tn (va_A [(h0, .inr (10, [v0, v1, v2, v3, v4, v5, .ref h1, v7, v8, v9, v10, v11, v12, v13])), (h1, .inl (cZ, 8, .inl (fun _ => 0)))] sz) sa U)) (va_Qi (fun (r : Int32) (_ : Unit) => r = 1) (fun _ t => P3 dC dI (va_A [(h0, .inr (10, [v0, v1, v2, v3, v4, v5, .ref h1, v7, v8, v9, v10, v11, v12, v13])), (h1, .inl (cZ, 8, .inl (fun _ => 0)))] sz) [] [] t) (va_A [(h0, .inr (10, [v0, v1, v2, v3, v4, v5, .ref h1, v7, v8, v9, v10, v11, v12, v13])), (h1, .inl (cZ, 8, .inl (fun _ => 0)))] sz)) (vx_X (fun _ : Unit => False) (fun _ _ _ => False) (va_A [(h0, .inr (10, [v0, v1, v2, v3, v4, v5, .ref h1, v7, v8, v9, v10, v11, v12, v13])), (h1, .inl (cZ, 8, .inl (fun _ => 0)))] sz)) 1 6 (va_A [(h0, .inr (10, [v0, v1, v2, v3, v4, v5, .ref h1, v7, v8, v9, v10, v11, v12, v13])), (h1, .inl (cZ, 8, .inl (fun _ => 0)))] sz) := by
  refine vx_ofWH (cc := cL_misfit) (maxL := 4) (ret := (some .int)) (hh := [(0, 9, 12, 13)]) (by decide) rfl ?_
  intro p e s m args below meth c s₁ B hml hv
  obtain ⟨rfl, ⟨hsz, hP, hK, hD0, hE⟩, hT⟩ := hv
  have hx := B.exec
  have hb := B.bytes
  have hr := B.returns
  have hts0 := atoms_spec (ws := (.codeWith yL_misfit cL_misfit 4 (some .int) [(0, 9, 12, 13)] :: wU)) B.pre
  have hts : ∀ w ∈ wU, w.before _ s = true := fun w h => hts0 w (List.mem_cons_of_mem _ h)
  have hown : s.vm.findClass "SpineTablesLaw" = some m.cls := findClass_of_methodNamed B.named
  have hlocks := B.notSynchronized
  have htab := vx_table (x := yL_misfit) B (hts0 _ List.mem_cons_self)
  subst hsz
  have hD := hD0.self (sz := s.heap.size)
  generalize hAe : va_A [(h0, .inr (10, [v0, v1, v2, v3, v4, v5, .ref h1, v7, v8, v9, v10, v11, v12, v13])), (h1, .inl (cZ, 8, .inl (fun _ => 0)))] s.heap.size = A at hT hD ⊢
  have hA : ∀ q : Nat, s.heap.size ≤ q → A q := fun q h => by rw [← hAe]; exact Or.inr h
  have hP : va_P (dC, dI) classes [(h0, .inr (10, [v0, v1, v2, v3, v4, v5, .ref h1, v7, v8, v9, v10, v11, v12, v13])), (h1, .inl (cZ, 8, .inl (fun _ => 0)))] s.heap := hP
  have hl := lv_entry ([.ref h0, .int k, .ref ho]) (n := 4) (Nat.le_of_ble_eq_true rfl)
  rw [lg_entry_eq]
  generalize (lg_sl ([.ref h0, .int k, .ref ho]) ++ List.replicate (4 - (lg_sl ([.ref h0, .int k, .ref ho])).length) Slot.unset).toArray = ls at hl ⊢
  have hl : lv_has ls 4 [(0, .ref h0), (1, .int k), (2, .ref ho)] := hl
  obtain ⟨H, hH⟩ : ∃ H, H = s.heap := ⟨_, rfl⟩
  rw [← hH] at hP
  have hS : va_S A s.heap H [] := by rw [hH]; exact va_S.rf
  refine w_heap hH ?_
  refine lv_aload_n hx hb dL_misfit_0 rfl (lv_at hl 2 rfl) ?_
  refine lv_iconst (v := 0) hx hb dL_misfit_1 (by decide) ?_
  refine lv_aload_n hx hb dL_misfit_2 rfl (lv_at hl 0 rfl) ?_
  refine lv_iload_n hx hb dL_misfit_3 rfl (lv_at hl 1 rfl) ?_
  have hPc := hP.sub (ws' := [(h0, .inr (10, [v0, v1, v2, v3, v4, v5, .ref h1, v7, v8, v9, v10, v11, v12, v13])), (h1, .inl (cZ, 8, .inl (fun _ => 0)))]) [0, 1] rfl
  have hDc := hD.sub (ws' := [(h0, .inr (10, [v0, v1, v2, v3, v4, v5, .ref h1, v7, v8, v9, v10, v11, v12, v13])), (h1, .inl (cZ, 8, .inl (fun _ => 0)))]) [0, 1] (by decide) rfl
  have hKc := hK.sub (tys' := [(cZ, .boolean)]) [0] rfl
  have hFc := va_free (wc := [(h0, .inr (10, [v0, v1, v2, v3, v4, v5, .ref h1, v7, v8, v9, v10, v11, v12, v13])), (h1, .inl (cZ, 8, .inl (fun _ => 0)))]) hD hS hA [0, 1] rfl
  refine vy_callX (vx_runV (As := [.int k]) (rest := [.int 0, .ref ho]) ⟨hx, hb, hml, hown, hts⟩ (c_x_misfit l hlt dC dI h0 k h1 v0 v1 v2 v3 v4 v5 v7 v8 v9 v10 v11 v12 v13 cZ sa H.size) (cwV 1 hts (goV wd_229 wd_230 wd_228 wd_191 wd_227) rfl rfl rfl (by decide +kernel) ⟨Nat.le_of_ble_eq_true rfl, Nat.le_of_ble_eq_true rfl⟩) ⟨blind6, va_recv hKc hPc (ci := 10) (q0 := 0) rfl rfl, fun U hU hW => ⟨rfl, pre6 hU hW hPc hKc hDc hE (hT.call hS hFc)⟩⟩ rfl rfl hl.1 rfl (lv_room (Nat.le_of_ble_eq_true rfl)) dL_misfit_4 ⟨Nat.le_of_ble_eq_true rfl, Nat.le_of_ble_eq_true rfl⟩) hS hFc (fun q _ h => hFc q h) (fun E ce q9 u t H locs ht hvm hw hB hz1 hk1 hS hce hcv hcl => ?_)
  obtain rfl : E = _ := hB
  refine vy_catch (name := "java/lang/IndexOutOfBoundsException") hown ⟨0, 9, 12, 13⟩ _ (by rw [htab]; rfl) (by decide) (by decide) (hts _ wd_202) (va_Nw.use rfl (hE.1 _ (List.mem_of_getElem? (i := 11) rfl))) hce hcv hcl ?_
  refine W.eq (g2 := F0 m 12 ls [.ref q9]) rfl ?_
  have hP : va_P (dC, dI) classes [] H := fun k q h => by simp at h
  have hD : va_D A [] := ⟨fun i j p q h => by simp at h, fun k q h => by simp at h⟩
  have hK : va_K (dC, dI) classes [] s := hK.sub [] rfl
  refine W.widen (k := 1) (n := 6) (Nat.le_of_ble_eq_true rfl) (Nat.le_of_ble_eq_true rfl) ?_
  refine lv_astore_n (lv' := [(3, .ref q9), (0, .ref h0), (1, .int k), (2, .ref ho)]) hx hb dL_misfit_12 rfl hl (by decide) rfl (fun ls hl => ?_)
  refine lv_iconst (v := 1) hx hb dL_misfit_13 (by decide) ?_
  have hP9 := hP.sub (ws' := []) [] rfl
  have hD9 := hD.sub (ws' := []) [] (by decide) rfl
  have hK9 := hK.sub (tys' := []) [] rfl
  refine W.widen (k := 1) (n := 6) (Nat.le_of_ble_eq_true rfl) (Nat.le_of_ble_eq_true rfl) ?_
  exact vx_ret (W.iret (v := 1) hx hb hr (fun t ht hW => ⟨⟨1, (), rfl, rfl, by rw [ht]; exact hP9, va_K.moved hW.alike hK9, hD9⟩, hS.F ht⟩) hS.2.2 dL_misfit_14)
set_option maxHeartbeats 4000000 in
set_option maxRecDepth 100000 in
/-- l_time -/
theorem c_l_time (l : Launch) (hlt : l.stackTraces = false) (dC : Nat → ClassId) (dI : Nat → Nat → Nat) (h0 : Nat) (k : Int32) (k1 : Int32) (k2 : Int32) (ho : Nat) (h1 : Nat) (v0 : Value) (v1 : Value) (v2 : Value) (v3 : Value) (v4 : Value) (v5 : Value) (v7 : Value) (v8 : Value) (v9 : Value) (v10 : Value) (v11 : Value) (v12 : Value) (v13 : Value) (cZ : ClassId) (sa : Nat) (sz : Nat) : vx_Met l yL_time (.codeWith yL_time cL_time 6 (some .int) [(0, 12, 15, 13), (0, 12, 19, 19), (0, 12, 23, 44)] :: wU) ({ frames := 8, cells := 1, slots := 6, locals := 128 } : Room) (va_Pc [.ref h0, .int k, .int k1, .int k2, .ref ho] (fun U => P5 dC dI [(h0, .inr (10, [v0, v1, v2, v3, v4, v5, .ref h1, v7, v8, v9, v10, v11, v12, v13])), (h1, .inl (cZ, 8, .inl (fun _ => 0)))] [(cZ, .boolean)] sz U ∧ Tn (va_A [(h0, .inr (10, [v0, v1, v2, v3, v4, v5, .ref h1, v7, v8, v9, v10, v11, v12, v13])), (h1, .inl (cZ, 8, .inl (fun _ => 0)))] sz) sa U)) (va_Qi (fun (r : Int32) (_ : Unit) => r = 1) (fun _ t => P3 dC dI (va_A [(h0, .inr (10, [v0, v1, v2, v3, v4, v5, .ref h1, v7, v8, v9, v10, v11, v12, v13])), (h1, .inl (cZ, 8, .inl (fun _ => 0)))] sz) [] [] t) (va_A [(h0, .inr (10, [v0, v1, v2, v3, v4, v5, .ref h1, v7, v8, v9, v10, v11, v12, v13])), (h1, .inl (cZ, 8, .inl (fun _ => 0)))] sz)) (vx_X (fun _ : Unit => False) (fun _ _ _ => False) (va_A [(h0, .inr (10, [v0, v1, v2, v3, v4, v5, .ref h1, v7, v8, v9, v10, v11, v12, v13])), (h1, .inl (cZ, 8, .inl (fun _ => 0)))] sz)) 1 6 (va_A [(h0, .inr (10, [v0, v1, v2, v3, v4, v5, .ref h1, v7, v8, v9, v10, v11, v12, v13])), (h1, .inl (cZ, 8, .inl (fun _ => 0)))] sz) := by
  refine vx_ofWH (cc := cL_time) (maxL := 6) (ret := (some .int)) (hh := [(0, 12, 15, 13), (0, 12, 19, 19), (0, 12, 23, 44)]) (by decide) rfl ?_
  intro p e s m args below meth c s₁ B hml hv
  obtain ⟨rfl, ⟨hsz, hP, hK, hD0, hE⟩, hT⟩ := hv
  have hx := B.exec
  have hb := B.bytes
  have hr := B.returns
  have hts0 := atoms_spec (ws := (.codeWith yL_time cL_time 6 (some .int) [(0, 12, 15, 13), (0, 12, 19, 19), (0, 12, 23, 44)] :: wU)) B.pre
  have hts : ∀ w ∈ wU, w.before _ s = true := fun w h => hts0 w (List.mem_cons_of_mem _ h)
  have hown : s.vm.findClass "SpineTablesLaw" = some m.cls := findClass_of_methodNamed B.named
  have hlocks := B.notSynchronized
  have htab := vx_table (x := yL_time) B (hts0 _ List.mem_cons_self)
  subst hsz
  have hD := hD0.self (sz := s.heap.size)
  generalize hAe : va_A [(h0, .inr (10, [v0, v1, v2, v3, v4, v5, .ref h1, v7, v8, v9, v10, v11, v12, v13])), (h1, .inl (cZ, 8, .inl (fun _ => 0)))] s.heap.size = A at hT hD ⊢
  have hA : ∀ q : Nat, s.heap.size ≤ q → A q := fun q h => by rw [← hAe]; exact Or.inr h
  have hP : va_P (dC, dI) classes [(h0, .inr (10, [v0, v1, v2, v3, v4, v5, .ref h1, v7, v8, v9, v10, v11, v12, v13])), (h1, .inl (cZ, 8, .inl (fun _ => 0)))] s.heap := hP
  have hl := lv_entry ([.ref h0, .int k, .int k1, .int k2, .ref ho]) (n := 6) (Nat.le_of_ble_eq_true rfl)
  rw [lg_entry_eq]
  generalize (lg_sl ([.ref h0, .int k, .int k1, .int k2, .ref ho]) ++ List.replicate (6 - (lg_sl ([.ref h0, .int k, .int k1, .int k2, .ref ho])).length) Slot.unset).toArray = ls at hl ⊢
  have hl : lv_has ls 6 [(0, .ref h0), (1, .int k), (2, .int k1), (3, .int k2), (4, .ref ho)] := hl
  obtain ⟨H, hH⟩ : ∃ H, H = s.heap := ⟨_, rfl⟩
  rw [← hH] at hP
  have hS : va_S A s.heap H [] := by rw [hH]; exact va_S.rf
  refine w_heap hH ?_
  refine lv_aload hx hb dL_time_0 (lv_at hl 4 rfl) ?_
  refine lv_iconst (v := 0) hx hb dL_time_2 (by decide) ?_
  refine lv_aload_n hx hb dL_time_3 rfl (lv_at hl 0 rfl) ?_
  refine lv_iload_n hx hb dL_time_4 rfl (lv_at hl 1 rfl) ?_
  refine lv_iload_n hx hb dL_time_5 rfl (lv_at hl 2 rfl) ?_
  refine lv_iload_n hx hb dL_time_6 rfl (lv_at hl 3 rfl) ?_
  have hPc := hP.sub (ws' := [(h0, .inr (10, [v0, v1, v2, v3, v4, v5, .ref h1, v7, v8, v9, v10, v11, v12, v13])), (h1, .inl (cZ, 8, .inl (fun _ => 0)))]) [0, 1] rfl
  have hDc := hD.sub (ws' := [(h0, .inr (10, [v0, v1, v2, v3, v4, v5, .ref h1, v7, v8, v9, v10, v11, v12, v13])), (h1, .inl (cZ, 8, .inl (fun _ => 0)))]) [0, 1] (by decide) rfl
  have hKc := hK.sub (tys' := [(cZ, .boolean)]) [0] rfl
  have hFc := va_free (wc := [(h0, .inr (10, [v0, v1, v2, v3, v4, v5, .ref h1, v7, v8, v9, v10, v11, v12, v13])), (h1, .inl (cZ, 8, .inl (fun _ => 0)))]) hD hS hA [0, 1] rfl
  refine vy_callX (vx_runV (As := [.int k, .int k1, .int k2]) (rest := [.int 0, .ref ho]) ⟨hx, hb, hml, hown, hts⟩ (c_x_time l hlt dC dI h0 k k1 k2 h1 v0 v1 v2 v3 v4 v5 v7 v8 v9 v10 v11 v12 v13 cZ sa H.size) (cwV 3 hts (goV wd_233 wd_234 wd_232 wd_191 wd_231) rfl rfl rfl (by decide +kernel) ⟨Nat.le_of_ble_eq_true rfl, Nat.le_of_ble_eq_true rfl⟩) ⟨blind6, va_recv hKc hPc (ci := 10) (q0 := 0) rfl rfl, fun U hU hW => ⟨rfl, pre6 hU hW hPc hKc hDc hE (hT.call hS hFc)⟩⟩ rfl rfl hl.1 rfl (lv_room (Nat.le_of_ble_eq_true rfl)) dL_time_7 ⟨Nat.le_of_ble_eq_true rfl, Nat.le_of_ble_eq_true rfl⟩) hS hFc (fun q _ h => hFc q h) (fun E ce q9 u t H locs ht hvm hw hB hz1 hk1 hS hce hcv hcl => ?_)
  obtain rfl : E = _ := hB
  refine vy_catch (name := "java/lang/IndexOutOfBoundsException") hown ⟨0, 12, 15, 13⟩ _ (by rw [htab]; rfl) (by decide) (by decide) (hts _ wd_202) (va_Nw.use rfl (hE.1 _ (List.mem_of_getElem? (i := 11) rfl))) hce hcv hcl ?_
  refine W.eq (g2 := F0 m 15 ls [.ref q9]) rfl ?_
  have hP : va_P (dC, dI) classes [] H := fun k q h => by simp at h
  have hD : va_D A [] := ⟨fun i j p q h => by simp at h, fun k q h => by simp at h⟩
  have hK : va_K (dC, dI) classes [] s := hK.sub [] rfl
  refine W.widen (k := 1) (n := 6) (Nat.le_of_ble_eq_true rfl) (Nat.le_of_ble_eq_true rfl) ?_
  refine lv_astore (lv' := [(5, .ref q9), (0, .ref h0), (1, .int k), (2, .int k1), (3, .int k2), (4, .ref ho)]) hx hb dL_time_15 hl (by decide) rfl (fun ls hl => ?_)
  refine lv_iconst (v := 1) hx hb dL_time_17 (by decide) ?_
  have hP9 := hP.sub (ws' := []) [] rfl
  have hD9 := hD.sub (ws' := []) [] (by decide) rfl
  have hK9 := hK.sub (tys' := []) [] rfl
  refine W.widen (k := 1) (n := 6) (Nat.le_of_ble_eq_true rfl) (Nat.le_of_ble_eq_true rfl) ?_
  exact vx_ret (W.iret (v := 1) hx hb hr (fun t ht hW => ⟨⟨1, (), rfl, rfl, by rw [ht]; exact hP9, va_K.moved hW.alike hK9, hD9⟩, hS.F ht⟩) hS.2.2 dL_time_18)
set_option maxHeartbeats 4000000 in
set_option maxRecDepth 100000 in
/-- l_length -/
theorem c_l_length (l : Launch) (hlt : l.stackTraces = false) (dC : Nat → ClassId) (dI : Nat → Nat → Nat) (h0 : Nat) (k : Int32) (k1 : Int32) (k2 : Int32) (k3 : Int32) (ho : Nat) (h1 : Nat) (v0 : Value) (v1 : Value) (v2 : Value) (v3 : Value) (v4 : Value) (v5 : Value) (v7 : Value) (v8 : Value) (v9 : Value) (v10 : Value) (v11 : Value) (v12 : Value) (v13 : Value) (cZ : ClassId) (sa : Nat) (sz : Nat) : vx_Met l yL_length (.codeWith yL_length cL_length 7 (some .int) [(0, 14, 17, 13), (0, 14, 21, 19), (0, 14, 25, 44)] :: wU) ({ frames := 8, cells := 1, slots := 6, locals := 130 } : Room) (va_Pc [.ref h0, .int k, .int k1, .int k2, .int k3, .ref ho] (fun U => P5 dC dI [(h0, .inr (10, [v0, v1, v2, v3, v4, v5, .ref h1, v7, v8, v9, v10, v11, v12, v13])), (h1, .inl (cZ, 8, .inl (fun _ => 0)))] [(cZ, .boolean)] sz U ∧ Tn (va_A [(h0, .inr (10, [v0, v1, v2, v3, v4, v5, .ref h1, v7, v8, v9, v10, v11, v12, v13])), (h1, .inl (cZ, 8, .inl (fun _ => 0)))] sz) sa U)) (va_Qi (fun (r : Int32) (_ : Unit) => r = 1) (fun _ t => P3 dC dI (va_A [(h0, .inr (10, [v0, v1, v2, v3, v4, v5, .ref h1, v7, v8, v9, v10, v11, v12, v13])), (h1, .inl (cZ, 8, .inl (fun _ => 0)))] sz) [] [] t) (va_A [(h0, .inr (10, [v0, v1, v2, v3, v4, v5, .ref h1, v7, v8, v9, v10, v11, v12, v13])), (h1, .inl (cZ, 8, .inl (fun _ => 0)))] sz)) (vx_X (fun _ : Unit => False) (fun _ _ _ => False) (va_A [(h0, .inr (10, [v0, v1, v2, v3, v4, v5, .ref h1, v7, v8, v9, v10, v11, v12, v13])), (h1, .inl (cZ, 8, .inl (fun _ => 0)))] sz)) 1 6 (va_A [(h0, .inr (10, [v0, v1, v2, v3, v4, v5, .ref h1, v7, v8, v9, v10, v11, v12, v13])), (h1, .inl (cZ, 8, .inl (fun _ => 0)))] sz) := by
  refine vx_ofWH (cc := cL_length) (maxL := 7) (ret := (some .int)) (hh := [(0, 14, 17, 13), (0, 14, 21, 19), (0, 14, 25, 44)]) (by decide) rfl ?_
  intro p e s m args below meth c s₁ B hml hv
  obtain ⟨rfl, ⟨hsz, hP, hK, hD0, hE⟩, hT⟩ := hv
  have hx := B.exec
  have hb := B.bytes
  have hr := B.returns
  have hts0 := atoms_spec (ws := (.codeWith yL_length cL_length 7 (some .int) [(0, 14, 17, 13), (0, 14, 21, 19), (0, 14, 25, 44)] :: wU)) B.pre
  have hts : ∀ w ∈ wU, w.before _ s = true := fun w h => hts0 w (List.mem_cons_of_mem _ h)
  have hown : s.vm.findClass "SpineTablesLaw" = some m.cls := findClass_of_methodNamed B.named
  have hlocks := B.notSynchronized
  have htab := vx_table (x := yL_length) B (hts0 _ List.mem_cons_self)
  subst hsz
  have hD := hD0.self (sz := s.heap.size)
  generalize hAe : va_A [(h0, .inr (10, [v0, v1, v2, v3, v4, v5, .ref h1, v7, v8, v9, v10, v11, v12, v13])), (h1, .inl (cZ, 8, .inl (fun _ => 0)))] s.heap.size = A at hT hD ⊢
  have hA : ∀ q : Nat, s.heap.size ≤ q → A q := fun q h => by rw [← hAe]; exact Or.inr h
  have hP : va_P (dC, dI) classes [(h0, .inr (10, [v0, v1, v2, v3, v4, v5, .ref h1, v7, v8, v9, v10, v11, v12, v13])), (h1, .inl (cZ, 8, .inl (fun _ => 0)))] s.heap := hP
  have hl := lv_entry ([.ref h0, .int k, .int k1, .int k2, .int k3, .ref ho]) (n := 7) (Nat.le_of_ble_eq_true rfl)
  rw [lg_entry_eq]
  generalize (lg_sl ([.ref h0, .int k, .int k1, .int k2, .int k3, .ref ho]) ++ List.replicate (7 - (lg_sl ([.ref h0, .int k, .int k1, .int k2, .int k3, .ref ho])).length) Slot.unset).toArray = ls at hl ⊢
  have hl : lv_has ls 7 [(0, .ref h0), (1, .int k), (2, .int k1), (3, .int k2), (4, .int k3), (5, .ref ho)] := hl
  obtain ⟨H, hH⟩ : ∃ H, H = s.heap := ⟨_, rfl⟩
  rw [← hH] at hP
  have hS : va_S A s.heap H [] := by rw [hH]; exact va_S.rf
  refine w_heap hH ?_
  refine lv_aload hx hb dL_length_0 (lv_at hl 5 rfl) ?_
  refine lv_iconst (v := 0) hx hb dL_length_2 (by decide) ?_
  refine lv_aload_n hx hb dL_length_3 rfl (lv_at hl 0 rfl) ?_
  refine lv_iload_n hx hb dL_length_4 rfl (lv_at hl 1 rfl) ?_
  refine lv_iload_n hx hb dL_length_5 rfl (lv_at hl 2 rfl) ?_
  refine lv_iload_n hx hb dL_length_6 rfl (lv_at hl 3 rfl) ?_
  refine lv_iload hx hb dL_length_7 (lv_at hl 4 rfl) ?_
  have hPc := hP.sub (ws' := [(h0, .inr (10, [v0, v1, v2, v3, v4, v5, .ref h1, v7, v8, v9, v10, v11, v12, v13])), (h1, .inl (cZ, 8, .inl (fun _ => 0)))]) [0, 1] rfl
  have hDc := hD.sub (ws' := [(h0, .inr (10, [v0, v1, v2, v3, v4, v5, .ref h1, v7, v8, v9, v10, v11, v12, v13])), (h1, .inl (cZ, 8, .inl (fun _ => 0)))]) [0, 1] (by decide) rfl
  have hKc := hK.sub (tys' := [(cZ, .boolean)]) [0] rfl
  have hFc := va_free (wc := [(h0, .inr (10, [v0, v1, v2, v3, v4, v5, .ref h1, v7, v8, v9, v10, v11, v12, v13])), (h1, .inl (cZ, 8, .inl (fun _ => 0)))]) hD hS hA [0, 1] rfl
  refine vy_callX (vx_runV (As := [.int k, .int k1, .int k2, .int k3]) (rest := [.int 0, .ref ho]) ⟨hx, hb, hml, hown, hts⟩ (c_x_length l hlt dC dI h0 k k1 k2 k3 h1 v0 v1 v2 v3 v4 v5 v7 v8 v9 v10 v11 v12 v13 cZ sa H.size) (cwV 4 hts (goV wd_237 wd_238 wd_236 wd_191 wd_235) rfl rfl rfl (by decide +kernel) ⟨Nat.le_of_ble_eq_true rfl, Nat.le_of_ble_eq_true rfl⟩) ⟨blind6, va_recv hKc hPc (ci := 10) (q0 := 0) rfl rfl, fun U hU hW => ⟨rfl, pre6 hU hW hPc hKc hDc hE (hT.call hS hFc)⟩⟩ rfl rfl hl.1 rfl (lv_room (Nat.le_of_ble_eq_true rfl)) dL_length_9 ⟨Nat.le_of_ble_eq_true rfl, Nat.le_of_ble_eq_true rfl⟩) hS hFc (fun q _ h => hFc q h) (fun E ce q9 u t H locs ht hvm hw hB hz1 hk1 hS hce hcv hcl => ?_)
  obtain rfl : E = _ := hB
  refine vy_catch (name := "java/lang/IndexOutOfBoundsException") hown ⟨0, 14, 17, 13⟩ _ (by rw [htab]; rfl) (by decide) (by decide) (hts _ wd_202) (va_Nw.use rfl (hE.1 _ (List.mem_of_getElem? (i := 11) rfl))) hce hcv hcl ?_
  refine W.eq (g2 := F0 m 17 ls [.ref q9]) rfl ?_
  have hP : va_P (dC, dI) classes [] H := fun k q h => by simp at h
  have hD : va_D A [] := ⟨fun i j p q h => by simp at h, fun k q h => by simp at h⟩
  have hK : va_K (dC, dI) classes [] s := hK.sub [] rfl
  refine W.widen (k := 1) (n := 6) (Nat.le_of_ble_eq_true rfl) (Nat.le_of_ble_eq_true rfl) ?_
  refine lv_astore (lv' := [(6, .ref q9), (0, .ref h0), (1, .int k), (2, .int k1), (3, .int k2), (4, .int k3), (5, .ref ho)]) hx hb dL_length_17 hl (by decide) rfl (fun ls hl => ?_)
  refine lv_iconst (v := 1) hx hb dL_length_19 (by decide) ?_
  have hP9 := hP.sub (ws' := []) [] rfl
  have hD9 := hD.sub (ws' := []) [] (by decide) rfl
  have hK9 := hK.sub (tys' := []) [] rfl
  refine W.widen (k := 1) (n := 6) (Nat.le_of_ble_eq_true rfl) (Nat.le_of_ble_eq_true rfl) ?_
  exact vx_ret (W.iret (v := 1) hx hb hr (fun t ht hW => ⟨⟨1, (), rfl, rfl, by rw [ht]; exact hP9, va_K.moved hW.alike hK9, hD9⟩, hS.F ht⟩) hS.2.2 dL_length_20)
set_option maxHeartbeats 4000000 in
set_option maxRecDepth 100000 in
/-- l_bars -/
theorem c_l_bars (l : Launch) (hlt : l.stackTraces = false) (dC : Nat → ClassId) (dI : Nat → Nat → Nat) (h0 : Nat) (k : Int32) (ho : Nat) (h1 : Nat) (v0 : Value) (v1 : Value) (v2 : Value) (v3 : Value) (v4 : Value) (v5 : Value) (v7 : Value) (v8 : Value) (v9 : Value) (v10 : Value) (v11 : Value) (v12 : Value) (v13 : Value) (cZ : ClassId) (sa : Nat) (sz : Nat) : vx_Met l yL_bars (.codeWith yL_bars cL_bars 4 (some .int) [(0, 9, 12, 13), (0, 9, 15, 44)] :: wU) ({ frames := 8, cells := 1, slots := 6, locals := 126 } : Room) (va_Pc [.ref h0, .int k, .ref ho] (fun U => P5 dC dI [(h0, .inr (10, [v0, v1, v2, v3, v4, v5, .ref h1, v7, v8, v9, v10, v11, v12, v13])), (h1, .inl (cZ, 8, .inl (fun _ => 0)))] [(cZ, .boolean)] sz U ∧ Tn (va_A [(h0, .inr (10, [v0, v1, v2, v3, v4, v5, .ref h1, v7, v8, v9, v10, v11, v12, v13])), (h1, .inl (cZ, 8, .inl (fun _ => 0)))] sz) sa U)) (va_Qi (fun (r : Int32) (_ : Unit) => r = 1) (fun _ t => P3 dC dI (va_A [(h0, .inr (10, [v0, v1, v2, v3, v4, v5, .ref h1, v7, v8, v9, v10, v11, v12, v13])), (h1, .inl (cZ, 8, .inl (fun _ => 0)))] sz) [] [] t) (va_A [(h0, .inr (10, [v0, v1, v2, v3, v4, v5, .ref h1, v7, v8, v9, v10, v11, v12, v13])), (h1, .inl (cZ, 8, .inl (fun _ => 0)))] sz)) (vx_X (fun _ : Unit => False) (fun _ _ _ => False) (va_A [(h0, .inr (10, [v0, v1, v2, v3, v4, v5, .ref h1, v7, v8, v9, v10, v11, v12, v13])), (h1, .inl (cZ, 8, .inl (fun _ => 0)))] sz)) 1 6 (va_A [(h0, .inr (10, [v0, v1, v2, v3, v4, v5, .ref h1, v7, v8, v9, v10, v11, v12, v13])), (h1, .inl (cZ, 8, .inl (fun _ => 0)))] sz) := by
  refine vx_ofWH (cc := cL_bars) (maxL := 4) (ret := (some .int)) (hh := [(0, 9, 12, 13), (0, 9, 15, 44)]) (by decide) rfl ?_
  intro p e s m args below meth c s₁ B hml hv
  obtain ⟨rfl, ⟨hsz, hP, hK, hD0, hE⟩, hT⟩ := hv
  have hx := B.exec
  have hb := B.bytes
  have hr := B.returns
  have hts0 := atoms_spec (ws := (.codeWith yL_bars cL_bars 4 (some .int) [(0, 9, 12, 13), (0, 9, 15, 44)] :: wU)) B.pre
  have hts : ∀ w ∈ wU, w.before _ s = true := fun w h => hts0 w (List.mem_cons_of_mem _ h)
  have hown : s.vm.findClass "SpineTablesLaw" = some m.cls := findClass_of_methodNamed B.named
  have hlocks := B.notSynchronized
  have htab := vx_table (x := yL_bars) B (hts0 _ List.mem_cons_self)
  subst hsz
  have hD := hD0.self (sz := s.heap.size)
  generalize hAe : va_A [(h0, .inr (10, [v0, v1, v2, v3, v4, v5, .ref h1, v7, v8, v9, v10, v11, v12, v13])), (h1, .inl (cZ, 8, .inl (fun _ => 0)))] s.heap.size = A at hT hD ⊢
  have hA : ∀ q : Nat, s.heap.size ≤ q → A q := fun q h => by rw [← hAe]; exact Or.inr h
  have hP : va_P (dC, dI) classes [(h0, .inr (10, [v0, v1, v2, v3, v4, v5, .ref h1, v7, v8, v9, v10, v11, v12, v13])), (h1, .inl (cZ, 8, .inl (fun _ => 0)))] s.heap := hP
  have hl := lv_entry ([.ref h0, .int k, .ref ho]) (n := 4) (Nat.le_of_ble_eq_true rfl)
  rw [lg_entry_eq]
  generalize (lg_sl ([.ref h0, .int k, .ref ho]) ++ List.replicate (4 - (lg_sl ([.ref h0, .int k, .ref ho])).length) Slot.unset).toArray = ls at hl ⊢
  have hl : lv_has ls 4 [(0, .ref h0), (1, .int k), (2, .ref ho)] := hl
  obtain ⟨H, hH⟩ : ∃ H, H = s.heap := ⟨_, rfl⟩
  rw [← hH] at hP
  have hS : va_S A s.heap H [] := by rw [hH]; exact va_S.rf
  refine w_heap hH ?_
  refine lv_aload_n hx hb dL_bars_0 rfl (lv_at hl 2 rfl) ?_
  refine lv_iconst (v := 0) hx hb dL_bars_1 (by decide) ?_
  refine lv_aload_n hx hb dL_bars_2 rfl (lv_at hl 0 rfl) ?_
  refine lv_iload_n hx hb dL_bars_3 rfl (lv_at hl 1 rfl) ?_
  have hPc := hP.sub (ws' := [(h0, .inr (10, [v0, v1, v2, v3, v4, v5, .ref h1, v7, v8, v9, v10, v11, v12, v13])), (h1, .inl (cZ, 8, .inl (fun _ => 0)))]) [0, 1] rfl
  have hDc := hD.sub (ws' := [(h0, .inr (10, [v0, v1, v2, v3, v4, v5, .ref h1, v7, v8, v9, v10, v11, v12, v13])), (h1, .inl (cZ, 8, .inl (fun _ => 0)))]) [0, 1] (by decide) rfl
  have hKc := hK.sub (tys' := [(cZ, .boolean)]) [0] rfl
  have hFc := va_free (wc := [(h0, .inr (10, [v0, v1, v2, v3, v4, v5, .ref h1, v7, v8, v9, v10, v11, v12, v13])), (h1, .inl (cZ, 8, .inl (fun _ => 0)))]) hD hS hA [0, 1] rfl
  refine vy_callX (vx_runV (As := [.int k]) (rest := [.int 0, .ref ho]) ⟨hx, hb, hml, hown, hts⟩ (c_x_bars l hlt dC dI h0 k h1 v0 v1 v2 v3 v4 v5 v7 v8 v9 v10 v11 v12 v13 cZ sa H.size) (cwV 1 hts (goV wd_241 wd_242 wd_240 wd_191 wd_239) rfl rfl rfl (by decide +kernel) ⟨Nat.le_of_ble_eq_true rfl, Nat.le_of_ble_eq_true rfl⟩) ⟨blind6, va_recv hKc hPc (ci := 10) (q0 := 0) rfl rfl, fun U hU hW => ⟨rfl, pre6 hU hW hPc hKc hDc hE (hT.call hS hFc)⟩⟩ rfl rfl hl.1 rfl (lv_room (Nat.le_of_ble_eq_true rfl)) dL_bars_4 ⟨Nat.le_of_ble_eq_true rfl, Nat.le_of_ble_eq_true rfl⟩) hS hFc (fun q _ h => hFc q h) (fun E ce q9 u t H locs ht hvm hw hB hz1 hk1 hS hce hcv hcl => ?_)
  obtain rfl : E = _ := hB
  refine vy_catch (name := "java/lang/IndexOutOfBoundsException") hown ⟨0, 9, 12, 13⟩ _ (by rw [htab]; rfl) (by decide) (by decide) (hts _ wd_202) (va_Nw.use rfl (hE.1 _ (List.mem_of_getElem? (i := 11) rfl))) hce hcv hcl ?_
  refine W.eq (g2 := F0 m 12 ls [.ref q9]) rfl ?_
  have hP : va_P (dC, dI) classes [] H := fun k q h => by simp at h
  have hD : va_D A [] := ⟨fun i j p q h => by simp at h, fun k q h => by simp at h⟩
  have hK : va_K (dC, dI) classes [] s := hK.sub [] rfl
  refine W.widen (k := 1) (n := 6) (Nat.le_of_ble_eq_true rfl) (Nat.le_of_ble_eq_true rfl) ?_
  refine lv_astore_n (lv' := [(3, .ref q9), (0, .ref h0), (1, .int k), (2, .ref ho)]) hx hb dL_bars_12 rfl hl (by decide) rfl (fun ls hl => ?_)
  refine lv_iconst (v := 1) hx hb dL_bars_13 (by decide) ?_
  have hP9 := hP.sub (ws' := []) [] rfl
  have hD9 := hD.sub (ws' := []) [] (by decide) rfl
  have hK9 := hK.sub (tys' := []) [] rfl
  refine W.widen (k := 1) (n := 6) (Nat.le_of_ble_eq_true rfl) (Nat.le_of_ble_eq_true rfl) ?_
  exact vx_ret (W.iret (v := 1) hx hb hr (fun t ht hW => ⟨⟨1, (), rfl, rfl, by rw [ht]; exact hP9, va_K.moved hW.alike hK9, hD9⟩, hS.F ht⟩) hS.2.2 dL_bars_14)
set_option maxHeartbeats 4000000 in
set_option maxRecDepth 100000 in
/-- l_extract -/
theorem c_l_extract (l : Launch) (hlt : l.stackTraces = false) (dC : Nat → ClassId) (dI : Nat → Nat → Nat) (h0 : Nat) (k : Int32) (ho : Nat) (h1 : Nat) (v0 : Value) (v1 : Value) (v2 : Value) (v3 : Value) (v4 : Value) (v5 : Value) (v7 : Value) (v8 : Value) (v9 : Value) (v10 : Value) (v11 : Value) (v12 : Value) (v13 : Value) (cZ : ClassId) (sa : Nat) (sz : Nat) : vx_Met l yL_extract (.codeWith yL_extract cL_extract 4 (some .int) [(0, 9, 12, 13)] :: wU) ({ frames := 8, cells := 1, slots := 6, locals := 130 } : Room) (va_Pc [.ref h0, .int k, .ref ho] (fun U => P5 dC dI [(h0, .inr (10, [v0, v1, v2, v3, v4, v5, .ref h1, v7, v8, v9, v10, v11, v12, v13])), (h1, .inl (cZ, 8, .inl (fun _ => 0)))] [(cZ, .boolean)] sz U ∧ Tn (va_A [(h0, .inr (10, [v0, v1, v2, v3, v4, v5, .ref h1, v7, v8, v9, v10, v11, v12, v13])), (h1, .inl (cZ, 8, .inl (fun _ => 0)))] sz) sa U)) (va_Qi (fun (r : Int32) (_ : Unit) => r = 1) (fun _ t => P3 dC dI (va_A [(h0, .inr (10, [v0, v1, v2, v3, v4, v5, .ref h1, v7, v8, v9, v10, v11, v12, v13])), (h1, .inl (cZ, 8, .inl (fun _ => 0)))] sz) [] [] t) (va_A [(h0, .inr (10, [v0, v1, v2, v3, v4, v5, .ref h1, v7, v8, v9, v10, v11, v12, v13])), (h1, .inl (cZ, 8, .inl (fun _ => 0)))] sz)) (vx_X (fun _ : Unit => False) (fun _ _ _ => False) (va_A [(h0, .inr (10, [v0, v1, v2, v3, v4, v5, .ref h1, v7, v8, v9, v10, v11, v12, v13])), (h1, .inl (cZ, 8, .inl (fun _ => 0)))] sz)) 1 6 (va_A [(h0, .inr (10, [v0, v1, v2, v3, v4, v5, .ref h1, v7, v8, v9, v10, v11, v12, v13])), (h1, .inl (cZ, 8, .inl (fun _ => 0)))] sz) := by
  refine vx_ofWH (cc := cL_extract) (maxL := 4) (ret := (some .int)) (hh := [(0, 9, 12, 13)]) (by decide) rfl ?_
  intro p e s m args below meth c s₁ B hml hv
  obtain ⟨rfl, ⟨hsz, hP, hK, hD0, hE⟩, hT⟩ := hv
  have hx := B.exec
  have hb := B.bytes
  have hr := B.returns
  have hts0 := atoms_spec (ws := (.codeWith yL_extract cL_extract 4 (some .int) [(0, 9, 12, 13)] :: wU)) B.pre
  have hts : ∀ w ∈ wU, w.before _ s = true := fun w h => hts0 w (List.mem_cons_of_mem _ h)
  have hown : s.vm.findClass "SpineTablesLaw" = some m.cls := findClass_of_methodNamed B.named
  have hlocks := B.notSynchronized
  have htab := vx_table (x := yL_extract) B (hts0 _ List.mem_cons_self)
  subst hsz
  have hD := hD0.self (sz := s.heap.size)
  generalize hAe : va_A [(h0, .inr (10, [v0, v1, v2, v3, v4, v5, .ref h1, v7, v8, v9, v10, v11, v12, v13])), (h1, .inl (cZ, 8, .inl (fun _ => 0)))] s.heap.size = A at hT hD ⊢
  have hA : ∀ q : Nat, s.heap.size ≤ q → A q := fun q h => by rw [← hAe]; exact Or.inr h
  have hP : va_P (dC, dI) classes [(h0, .inr (10, [v0, v1, v2, v3, v4, v5, .ref h1, v7, v8, v9, v10, v11, v12, v13])), (h1, .inl (cZ, 8, .inl (fun _ => 0)))] s.heap := hP
  have hl := lv_entry ([.ref h0, .int k, .ref ho]) (n := 4) (Nat.le_of_ble_eq_true rfl)
  rw [lg_entry_eq]
  generalize (lg_sl ([.ref h0, .int k, .ref ho]) ++ List.replicate (4 - (lg_sl ([.ref h0, .int k, .ref ho])).length) Slot.unset).toArray = ls at hl ⊢
  have hl : lv_has ls 4 [(0, .ref h0), (1, .int k), (2, .ref ho)] := hl
  obtain ⟨H, hH⟩ : ∃ H, H = s.heap := ⟨_, rfl⟩
  rw [← hH] at hP
  have hS : va_S A s.heap H [] := by rw [hH]; exact va_S.rf
  refine w_heap hH ?_
  refine lv_aload_n hx hb dL_extract_0 rfl (lv_at hl 2 rfl) ?_
  refine lv_iconst (v := 0) hx hb dL_extract_1 (by decide) ?_
  refine lv_aload_n hx hb dL_extract_2 rfl (lv_at hl 0 rfl) ?_
  refine lv_iload_n hx hb dL_extract_3 rfl (lv_at hl 1 rfl) ?_
  have hPc := hP.sub (ws' := [(h0, .inr (10, [v0, v1, v2, v3, v4, v5, .ref h1, v7, v8, v9, v10, v11, v12, v13])), (h1, .inl (cZ, 8, .inl (fun _ => 0)))]) [0, 1] rfl
  have hDc := hD.sub (ws' := [(h0, .inr (10, [v0, v1, v2, v3, v4, v5, .ref h1, v7, v8, v9, v10, v11, v12, v13])), (h1, .inl (cZ, 8, .inl (fun _ => 0)))]) [0, 1] (by decide) rfl
  have hKc := hK.sub (tys' := [(cZ, .boolean)]) [0] rfl
  have hFc := va_free (wc := [(h0, .inr (10, [v0, v1, v2, v3, v4, v5, .ref h1, v7, v8, v9, v10, v11, v12, v13])), (h1, .inl (cZ, 8, .inl (fun _ => 0)))]) hD hS hA [0, 1] rfl
  refine vy_callX (vx_runV (As := [.int k]) (rest := [.int 0, .ref ho]) ⟨hx, hb, hml, hown, hts⟩ (c_x_extract l hlt dC dI h0 k h1 v0 v1 v2 v3 v4 v5 v7 v8 v9 v10 v11 v12 v13 cZ sa H.size) (cwV 1 hts (goV wd_245 wd_246 wd_244 wd_191 wd_243) rfl rfl rfl (by decide +kernel) ⟨Nat.le_of_ble_eq_true rfl, Nat.le_of_ble_eq_true rfl⟩) ⟨blind6, va_recv hKc hPc (ci := 10) (q0 := 0) rfl rfl, fun U hU hW => ⟨rfl, pre6 hU hW hPc hKc hDc hE (hT.call hS hFc)⟩⟩ rfl rfl hl.1 rfl (lv_room (Nat.le_of_ble_eq_true rfl)) dL_extract_4 ⟨Nat.le_of_ble_eq_true rfl, Nat.le_of_ble_eq_true rfl⟩) hS hFc (fun q _ h => hFc q h) (fun E ce q9 u t H locs ht hvm hw hB hz1 hk1 hS hce hcv hcl => ?_)
  obtain rfl : E = _ := hB
  refine vy_catch (name := "java/lang/IndexOutOfBoundsException") hown ⟨0, 9, 12, 13⟩ _ (by rw [htab]; rfl) (by decide) (by decide) (hts _ wd_202) (va_Nw.use rfl (hE.1 _ (List.mem_of_getElem? (i := 11) rfl))) hce hcv hcl ?_
  refine W.eq (g2 := F0 m 12 ls [.ref q9]) rfl ?_
  have hP : va_P (dC, dI) classes [] H := fun k q h => by simp at h
  have hD : va_D A [] := ⟨fun i j p q h => by simp at h, fun k q h => by simp at h⟩
  have hK : va_K (dC, dI) classes [] s := hK.sub [] rfl
  refine W.widen (k := 1) (n := 6) (Nat.le_of_ble_eq_true rfl) (Nat.le_of_ble_eq_true rfl) ?_
  refine lv_astore_n (lv' := [(3, .ref q9), (0, .ref h0), (1, .int k), (2, .ref ho)]) hx hb dL_extract_12 rfl hl (by decide) rfl (fun ls hl => ?_)
  refine lv_iconst (v := 1) hx hb dL_extract_13 (by decide) ?_
  have hP9 := hP.sub (ws' := []) [] rfl
  have hD9 := hD.sub (ws' := []) [] (by decide) rfl
  have hK9 := hK.sub (tys' := []) [] rfl
  refine W.widen (k := 1) (n := 6) (Nat.le_of_ble_eq_true rfl) (Nat.le_of_ble_eq_true rfl) ?_
  exact vx_ret (W.iret (v := 1) hx hb hr (fun t ht hW => ⟨⟨1, (), rfl, rfl, by rw [ht]; exact hP9, va_K.moved hW.alike hK9, hD9⟩, hS.F ht⟩) hS.2.2 dL_extract_14)
set_option maxHeartbeats 4000000 in
set_option maxRecDepth 100000 in
/-- l_assemble -/
theorem c_l_assemble (l : Launch) (hlt : l.stackTraces = false) (dC : Nat → ClassId) (dI : Nat → Nat → Nat) (h0 : Nat) (k : Int32) (k1 : Int32) (ho : Nat) (h1 : Nat) (v0 : Value) (v1 : Value) (v2 : Value) (v3 : Value) (v4 : Value) (v5 : Value) (v7 : Value) (v8 : Value) (v9 : Value) (v10 : Value) (v11 : Value) (v12 : Value) (v13 : Value) (cZ : ClassId) (sa : Nat) (sz : Nat) : vx_Met l yL_assemble (.codeWith yL_assemble cL_assemble 5 (some .int) [(0, 10, 13, 13)] :: wU) ({ frames := 8, cells := 1, slots := 6, locals := 130 } : Room) (va_Pc [.ref h0, .int k, .int k1, .ref ho] (fun U => P5 dC dI [(h0, .inr (10, [v0, v1, v2, v3, v4, v5, .ref h1, v7, v8, v9, v10, v11, v12, v13])), (h1, .inl (cZ, 8, .inl (fun _ => 0)))] [(cZ, .boolean)] sz U ∧ Tn (va_A [(h0, .inr (10, [v0, v1, v2, v3, v4, v5, .ref h1, v7, v8, v9, v10, v11, v12, v13])), (h1, .inl (cZ, 8, .inl (fun _ => 0)))] sz) sa U)) (va_Qi (fun (r : Int32) (_ : Unit) => r = 1) (fun _ t => P3 dC dI (va_A [(h0, .inr (10, [v0, v1, v2, v3, v4, v5, .ref h1, v7, v8, v9, v10, v11, v12, v13])), (h1, .inl (cZ, 8, .inl (fun _ => 0)))] sz) [] [] t) (va_A [(h0, .inr (10, [v0, v1, v2, v3, v4, v5, .ref h1, v7, v8, v9, v10, v11, v12, v13])), (h1, .inl (cZ, 8, .inl (fun _ => 0)))] sz)) (vx_X (fun _ : Unit => False) (fun _ _ _ => False) (va_A [(h0, .inr (10, [v0, v1, v2, v3, v4, v5, .ref h1, v7, v8, v9, v10, v11, v12, v13])), (h1, .inl (cZ, 8, .inl (fun _ => 0)))] sz)) 1 6 (va_A [(h0, .inr (10, [v0, v1, v2, v3, v4, v5, .ref h1, v7, v8, v9, v10, v11, v12, v13])), (h1, .inl (cZ, 8, .inl (fun _ => 0)))] sz) := by
  refine vx_ofWH (cc := cL_assemble) (maxL := 5) (ret := (some .int)) (hh := [(0, 10, 13, 13)]) (by decide) rfl ?_
  intro p e s m args below meth c s₁ B hml hv
  obtain ⟨rfl, ⟨hsz, hP, hK, hD0, hE⟩, hT⟩ := hv
  have hx := B.exec
  have hb := B.bytes
  have hr := B.returns
  have hts0 := atoms_spec (ws := (.codeWith yL_assemble cL_assemble 5 (some .int) [(0, 10, 13, 13)] :: wU)) B.pre
  have hts : ∀ w ∈ wU, w.before _ s = true := fun w h => hts0 w (List.mem_cons_of_mem _ h)
  have hown : s.vm.findClass "SpineTablesLaw" = some m.cls := findClass_of_methodNamed B.named
  have hlocks := B.notSynchronized
  have htab := vx_table (x := yL_assemble) B (hts0 _ List.mem_cons_self)
  subst hsz
  have hD := hD0.self (sz := s.heap.size)
  generalize hAe : va_A [(h0, .inr (10, [v0, v1, v2, v3, v4, v5, .ref h1, v7, v8, v9, v10, v11, v12, v13])), (h1, .inl (cZ, 8, .inl (fun _ => 0)))] s.heap.size = A at hT hD ⊢
  have hA : ∀ q : Nat, s.heap.size ≤ q → A q := fun q h => by rw [← hAe]; exact Or.inr h
  have hP : va_P (dC, dI) classes [(h0, .inr (10, [v0, v1, v2, v3, v4, v5, .ref h1, v7, v8, v9, v10, v11, v12, v13])), (h1, .inl (cZ, 8, .inl (fun _ => 0)))] s.heap := hP
  have hl := lv_entry ([.ref h0, .int k, .int k1, .ref ho]) (n := 5) (Nat.le_of_ble_eq_true rfl)
  rw [lg_entry_eq]
  generalize (lg_sl ([.ref h0, .int k, .int k1, .ref ho]) ++ List.replicate (5 - (lg_sl ([.ref h0, .int k, .int k1, .ref ho])).length) Slot.unset).toArray = ls at hl ⊢
  have hl : lv_has ls 5 [(0, .ref h0), (1, .int k), (2, .int k1), (3, .ref ho)] := hl
  obtain ⟨H, hH⟩ : ∃ H, H = s.heap := ⟨_, rfl⟩
  rw [← hH] at hP
  have hS : va_S A s.heap H [] := by rw [hH]; exact va_S.rf
  refine w_heap hH ?_
  refine lv_aload_n hx hb dL_assemble_0 rfl (lv_at hl 3 rfl) ?_
  refine lv_iconst (v := 0) hx hb dL_assemble_1 (by decide) ?_
  refine lv_aload_n hx hb dL_assemble_2 rfl (lv_at hl 0 rfl) ?_
  refine lv_iload_n hx hb dL_assemble_3 rfl (lv_at hl 1 rfl) ?_
  refine lv_iload_n hx hb dL_assemble_4 rfl (lv_at hl 2 rfl) ?_
  have hPc := hP.sub (ws' := [(h0, .inr (10, [v0, v1, v2, v3, v4, v5, .ref h1, v7, v8, v9, v10, v11, v12, v13])), (h1, .inl (cZ, 8, .inl (fun _ => 0)))]) [0, 1] rfl
  have hDc := hD.sub (ws' := [(h0, .inr (10, [v0, v1, v2, v3, v4, v5, .ref h1, v7, v8, v9, v10, v11, v12, v13])), (h1, .inl (cZ, 8, .inl (fun _ => 0)))]) [0, 1] (by decide) rfl
  have hKc := hK.sub (tys' := [(cZ, .boolean)]) [0] rfl
  have hFc := va_free (wc := [(h0, .inr (10, [v0, v1, v2, v3, v4, v5, .ref h1, v7, v8, v9, v10, v11, v12, v13])), (h1, .inl (cZ, 8, .inl (fun _ => 0)))]) hD hS hA [0, 1] rfl
  refine vy_callX (vx_runV (As := [.int k, .int k1]) (rest := [.int 0, .ref ho]) ⟨hx, hb, hml, hown, hts⟩ (c_x_assemble l hlt dC dI h0 k k1 h1 v0 v1 v2 v3 v4 v5 v7 v8 v9 v10 v11 v12 v13 cZ sa H.size) (cwV 2 hts (goV wd_249 wd_250 wd_248 wd_191 wd_247) rfl rfl rfl (by decide +kernel) ⟨Nat.le_of_ble_eq_true rfl, Nat.le_of_ble_eq_true rfl⟩) ⟨blind6, va_recv hKc hPc (ci := 10) (q0 := 0) rfl rfl, fun U hU hW => ⟨rfl, pre6 hU hW hPc hKc hDc hE (hT.call hS hFc)⟩⟩ rfl rfl hl.1 rfl (lv_room (Nat.le_of_ble_eq_true rfl)) dL_assemble_5 ⟨Nat.le_of_ble_eq_true rfl, Nat.le_of_ble_eq_true rfl⟩) hS hFc (fun q _ h => hFc q h) (fun E ce q9 u t H locs ht hvm hw hB hz1 hk1 hS hce hcv hcl => ?_)
  obtain rfl : E = _ := hB
  refine vy_catch (name := "java/lang/IndexOutOfBoundsException") hown ⟨0, 10, 13, 13⟩ _ (by rw [htab]; rfl) (by decide) (by decide) (hts _ wd_202) (va_Nw.use rfl (hE.1 _ (List.mem_of_getElem? (i := 11) rfl))) hce hcv hcl ?_
  refine W.eq (g2 := F0 m 13 ls [.ref q9]) rfl ?_
  have hP : va_P (dC, dI) classes [] H := fun k q h => by simp at h
  have hD : va_D A [] := ⟨fun i j p q h => by simp at h, fun k q h => by simp at h⟩
  have hK : va_K (dC, dI) classes [] s := hK.sub [] rfl
  refine W.widen (k := 1) (n := 6) (Nat.le_of_ble_eq_true rfl) (Nat.le_of_ble_eq_true rfl) ?_
  refine lv_astore (lv' := [(4, .ref q9), (0, .ref h0), (1, .int k), (2, .int k1), (3, .ref ho)]) hx hb dL_assemble_13 hl (by decide) rfl (fun ls hl => ?_)
  refine lv_iconst (v := 1) hx hb dL_assemble_15 (by decide) ?_
  have hP9 := hP.sub (ws' := []) [] rfl
  have hD9 := hD.sub (ws' := []) [] (by decide) rfl
  have hK9 := hK.sub (tys' := []) [] rfl
  refine W.widen (k := 1) (n := 6) (Nat.le_of_ble_eq_true rfl) (Nat.le_of_ble_eq_true rfl) ?_
  exact vx_ret (W.iret (v := 1) hx hb hr (fun t ht hW => ⟨⟨1, (), rfl, rfl, by rw [ht]; exact hP9, va_K.moved hW.alike hK9, hD9⟩, hS.F ht⟩) hS.2.2 dL_assemble_16)
set_option maxHeartbeats 4000000 in
set_option maxRecDepth 100000 in
/-- l_same -/
theorem c_l_same (l : Launch) (hlt : l.stackTraces = false) (dC : Nat → ClassId) (dI : Nat → Nat → Nat) (h0 : Nat) (k : Int32) (k1 : Int32) (ho : Nat) (h1 : Nat) (v0 : Value) (v1 : Value) (v2 : Value) (v3 : Value) (v4 : Value) (v5 : Value) (v7 : Value) (v8 : Value) (v9 : Value) (v10 : Value) (v11 : Value) (v12 : Value) (v13 : Value) (cZ : ClassId) (sa : Nat) (sz : Nat) : vx_Met l yL_same (.codeWith yL_same cL_same 5 (some .int) [(0, 17, 20, 13)] :: wU) ({ frames := 8, cells := 1, slots := 6, locals := 128 } : Room) (va_Pc [.ref h0, .int k, .int k1, .ref ho] (fun U => P5 dC dI [(h0, .inr (10, [v0, v1, v2, v3, v4, v5, .ref h1, v7, v8, v9, v10, v11, v12, v13])), (h1, .inl (cZ, 8, .inl (fun _ => 0)))] [(cZ, .boolean)] sz U ∧ Tn (va_A [(h0, .inr (10, [v0, v1, v2, v3, v4, v5, .ref h1, v7, v8, v9, v10, v11, v12, v13])), (h1, .inl (cZ, 8, .inl (fun _ => 0)))] sz) sa U)) (va_Qi (fun (r : Int32) (_ : Unit) => r = 1) (fun _ t => P3 dC dI (va_A [(h0, .inr (10, [v0, v1, v2, v3, v4, v5, .ref h1, v7, v8, v9, v10, v11, v12, v13])), (h1, .inl (cZ, 8, .inl (fun _ => 0)))] sz) [] [] t) (va_A [(h0, .inr (10, [v0, v1, v2, v3, v4, v5, .ref h1, v7, v8, v9, v10, v11, v12, v13])), (h1, .inl (cZ, 8, .inl (fun _ => 0)))] sz)) (vx_X (fun _ : Unit => False) (fun _ _ _ => False) (va_A [(h0, .inr (10, [v0, v1, v2, v3, v4, v5, .ref h1, v7, v8, v9, v10, v11, v12, v13])), (h1, .inl (cZ, 8, .inl (fun _ => 0)))] sz)) 1 6 (va_A [(h0, .inr (10, [v0, v1, v2, v3, v4, v5, .ref h1, v7, v8, v9, v10, v11, v12, v13])), (h1, .inl (cZ, 8, .inl (fun _ => 0)))] sz) := by
  refine vx_ofWH (cc := cL_same) (maxL := 5) (ret := (some .int)) (hh := [(0, 17, 20, 13)]) (by decide) rfl ?_
  intro p e s m args below meth c s₁ B hml hv
  obtain ⟨rfl, ⟨hsz, hP, hK, hD0, hE⟩, hT⟩ := hv
  have hx := B.exec
  have hb := B.bytes
  have hr := B.returns
  have hts0 := atoms_spec (ws := (.codeWith yL_same cL_same 5 (some .int) [(0, 17, 20, 13)] :: wU)) B.pre
  have hts : ∀ w ∈ wU, w.before _ s = true := fun w h => hts0 w (List.mem_cons_of_mem _ h)
  have hown : s.vm.findClass "SpineTablesLaw" = some m.cls := findClass_of_methodNamed B.named
  have hlocks := B.notSynchronized
  have htab := vx_table (x := yL_same) B (hts0 _ List.mem_cons_self)
  subst hsz
  have hD := hD0.self (sz := s.heap.size)
  generalize hAe : va_A [(h0, .inr (10, [v0, v1, v2, v3, v4, v5, .ref h1, v7, v8, v9, v10, v11, v12, v13])), (h1, .inl (cZ, 8, .inl (fun _ => 0)))] s.heap.size = A at hT hD ⊢
  have hA : ∀ q : Nat, s.heap.size ≤ q → A q := fun q h => by rw [← hAe]; exact Or.inr h
  have hP : va_P (dC, dI) classes [(h0, .inr (10, [v0, v1, v2, v3, v4, v5, .ref h1, v7, v8, v9, v10, v11, v12, v13])), (h1, .inl (cZ, 8, .inl (fun _ => 0)))] s.heap := hP
  have hl := lv_entry ([.ref h0, .int k, .int k1, .ref ho]) (n := 5) (Nat.le_of_ble_eq_true rfl)
  rw [lg_entry_eq]
  generalize (lg_sl ([.ref h0, .int k, .int k1, .ref ho]) ++ List.replicate (5 - (lg_sl ([.ref h0, .int k, .int k1, .ref ho])).length) Slot.unset).toArray = ls at hl ⊢
  have hl : lv_has ls 5 [(0, .ref h0), (1, .int k), (2, .int k1), (3, .ref ho)] := hl
  obtain ⟨H, hH⟩ : ∃ H, H = s.heap := ⟨_, rfl⟩
  rw [← hH] at hP
  have hS : va_S A s.heap H [] := by rw [hH]; exact va_S.rf
  refine w_heap hH ?_
  refine lv_aload_n hx hb dL_same_0 rfl (lv_at hl 3 rfl) ?_
  refine lv_iconst (v := 0) hx hb dL_same_1 (by decide) ?_
  refine lv_aload_n hx hb dL_same_2 rfl (lv_at hl 0 rfl) ?_
  refine lv_iload_n hx hb dL_same_3 rfl (lv_at hl 1 rfl) ?_
  refine lv_iload_n hx hb dL_same_4 rfl (lv_at hl 2 rfl) ?_
  have hPc := hP.sub (ws' := [(h0, .inr (10, [v0, v1, v2, v3, v4, v5, .ref h1, v7, v8, v9, v10, v11, v12, v13])), (h1, .inl (cZ, 8, .inl (fun _ => 0)))]) [0, 1] rfl
  have hDc := hD.sub (ws' := [(h0, .inr (10, [v0, v1, v2, v3, v4, v5, .ref h1, v7, v8, v9, v10, v11, v12, v13])), (h1, .inl (cZ, 8, .inl (fun _ => 0)))]) [0, 1] (by decide) rfl
  have hKc := hK.sub (tys' := [(cZ, .boolean)]) [0] rfl
  have hFc := va_free (wc := [(h0, .inr (10, [v0, v1, v2, v3, v4, v5, .ref h1, v7, v8, v9, v10, v11, v12, v13])), (h1, .inl (cZ, 8, .inl (fun _ => 0)))]) hD hS hA [0, 1] rfl
  refine vy_callX (vx_runV (As := [.int k, .int k1]) (rest := [.int 0, .ref ho]) ⟨hx, hb, hml, hown, hts⟩ (c_x_same l hlt dC dI h0 k k1 h1 v0 v1 v2 v3 v4 v5 v7 v8 v9 v10 v11 v12 v13 cZ sa H.size) (cwV 2 hts (goV wd_253 wd_254 wd_252 wd_191 wd_251) rfl rfl rfl (by decide +kernel) ⟨Nat.le_of_ble_eq_true rfl, Nat.le_of_ble_eq_true rfl⟩) ⟨blind6, va_recv hKc hPc (ci := 10) (q0 := 0) rfl rfl, fun U hU hW => ⟨rfl, pre6 hU hW hPc hKc hDc hE (hT.call hS hFc)⟩⟩ rfl rfl hl.1 rfl (lv_room (Nat.le_of_ble_eq_true rfl)) dL_same_5 ⟨Nat.le_of_ble_eq_true rfl, Nat.le_of_ble_eq_true rfl⟩) hS hFc (fun q _ h => hFc q h) (fun E ce q9 u t H locs ht hvm hw hB hz1 hk1 hS hce hcv hcl => ?_)
  obtain rfl : E = _ := hB
  refine vy_catch (name := "java/lang/IndexOutOfBoundsException") hown ⟨0, 17, 20, 13⟩ _ (by rw [htab]; rfl) (by decide) (by decide) (hts _ wd_202) (va_Nw.use rfl (hE.1 _ (List.mem_of_getElem? (i := 11) rfl))) hce hcv hcl ?_
  refine W.eq (g2 := F0 m 20 ls [.ref q9]) rfl ?_
  have hP : va_P (dC, dI) classes [] H := fun k q h => by simp at h
  have hD : va_D A [] := ⟨fun i j p q h => by simp at h, fun k q h => by simp at h⟩
  have hK : va_K (dC, dI) classes [] s := hK.sub [] rfl
  refine W.widen (k := 1) (n := 6) (Nat.le_of_ble_eq_true rfl) (Nat.le_of_ble_eq_true rfl) ?_
  refine lv_astore (lv' := [(4, .ref q9), (0, .ref h0), (1, .int k), (2, .int k1), (3, .ref ho)]) hx hb dL_same_20 hl (by decide) rfl (fun ls hl => ?_)
  refine lv_iconst (v := 1) hx hb dL_same_22 (by decide) ?_
  have hP9 := hP.sub (ws' := []) [] rfl
  have hD9 := hD.sub (ws' := []) [] (by decide) rfl
  have hK9 := hK.sub (tys' := []) [] rfl
  refine W.widen (k := 1) (n := 6) (Nat.le_of_ble_eq_true rfl) (Nat.le_of_ble_eq_true rfl) ?_
  exact vx_ret (W.iret (v := 1) hx hb hr (fun t ht hW => ⟨⟨1, (), rfl, rfl, by rw [ht]; exact hP9, va_K.moved hW.alike hK9, hD9⟩, hS.F ht⟩) hS.2.2 dL_same_23)
set_option maxHeartbeats 4000000 in
set_option maxRecDepth 100000 in
/-- l_write -/
theorem c_l_write (l : Launch) (hlt : l.stackTraces = false) (dC : Nat → ClassId) (dI : Nat → Nat → Nat) (h0 : Nat) (k : Int32) (ho : Nat) (h1 : Nat) (v0 : Value) (v1 : Value) (v2 : Value) (v3 : Value) (v4 : Value) (v5 : Value) (v7 : Value) (v8 : Value) (v9 : Value) (v10 : Value) (v11 : Value) (v12 : Value) (v13 : Value) (cZ : ClassId) (sa : Nat) (sz : Nat) : vx_Met l yL_write (.codeWith yL_write cL_write 4 (some .int) [(0, 9, 12, 13)] :: wU) ({ frames := 8, cells := 1, slots := 6, locals := 126 } : Room) (va_Pc [.ref h0, .int k, .ref ho] (fun U => P5 dC dI [(h0, .inr (10, [v0, v1, v2, v3, v4, v5, .ref h1, v7, v8, v9, v10, v11, v12, v13])), (h1, .inl (cZ, 8, .inl (fun _ => 0)))] [(cZ, .boolean)] sz U ∧ Tn (va_A [(h0, .inr (10, [v0, v1, v2, v3, v4, v5, .ref h1, v7, v8, v9, v10, v11, v12, v13])), (h1, .inl (cZ, 8, .inl (fun _ => 0)))] sz) sa U)) (va_Qi (fun (r : Int32) (_ : Unit) => r = 1) (fun _ t => P3 dC dI (va_A [(h0, .inr (10, [v0, v1, v2, v3, v4, v5, .ref h1, v7, v8, v9, v10, v11, v12, v13])), (h1, .inl (cZ, 8, .inl (fun _ => 0)))] sz) [] [] t) (va_A [(h0, .inr (10, [v0, v1, v2, v3, v4, v5, .ref h1, v7, v8, v9, v10, v11, v12, v13])), (h1, .inl (cZ, 8, .inl (fun _ => 0)))] sz)) (vx_X (fun _ : Unit => False) (fun _ _ _ => False) (va_A [(h0, .inr (10, [v0, v1, v2, v3, v4, v5, .ref h1, v7, v8, v9, v10, v11, v12, v13])), (h1, .inl (cZ, 8, .inl (fun _ => 0)))] sz)) 1 6 (va_A [(h0, .inr (10, [v0, v1, v2, v3, v4, v5, .ref h1, v7, v8, v9, v10, v11, v12, v13])), (h1, .inl (cZ, 8, .inl (fun _ => 0)))] sz) := by
  refine vx_ofWH (cc := cL_write) (maxL := 4) (ret := (some .int)) (hh := [(0, 9, 12, 13)]) (by decide) rfl ?_
  intro p e s m args below meth c s₁ B hml hv
  obtain ⟨rfl, ⟨hsz, hP, hK, hD0, hE⟩, hT⟩ := hv
  have hx := B.exec
  have hb := B.bytes
  have hr := B.returns
  have hts0 := atoms_spec (ws := (.codeWith yL_write cL_write 4 (some .int) [(0, 9, 12, 13)] :: wU)) B.pre
  have hts : ∀ w ∈ wU, w.before _ s = true := fun w h => hts0 w (List.mem_cons_of_mem _ h)
  have hown : s.vm.findClass "SpineTablesLaw" = some m.cls := findClass_of_methodNamed B.named
  have hlocks := B.notSynchronized
  have htab := vx_table (x := yL_write) B (hts0 _ List.mem_cons_self)
  subst hsz
  have hD := hD0.self (sz := s.heap.size)
  generalize hAe : va_A [(h0, .inr (10, [v0, v1, v2, v3, v4, v5, .ref h1, v7, v8, v9, v10, v11, v12, v13])), (h1, .inl (cZ, 8, .inl (fun _ => 0)))] s.heap.size = A at hT hD ⊢
  have hA : ∀ q : Nat, s.heap.size ≤ q → A q := fun q h => by rw [← hAe]; exact Or.inr h
  have hP : va_P (dC, dI) classes [(h0, .inr (10, [v0, v1, v2, v3, v4, v5, .ref h1, v7, v8, v9, v10, v11, v12, v13])), (h1, .inl (cZ, 8, .inl (fun _ => 0)))] s.heap := hP
  have hl := lv_entry ([.ref h0, .int k, .ref ho]) (n := 4) (Nat.le_of_ble_eq_true rfl)
  rw [lg_entry_eq]
  generalize (lg_sl ([.ref h0, .int k, .ref ho]) ++ List.replicate (4 - (lg_sl ([.ref h0, .int k, .ref ho])).length) Slot.unset).toArray = ls at hl ⊢
  have hl : lv_has ls 4 [(0, .ref h0), (1, .int k), (2, .ref ho)] := hl
  obtain ⟨H, hH⟩ : ∃ H, H = s.heap := ⟨_, rfl⟩
  rw [← hH] at hP
  have hS : va_S A s.heap H [] := by rw [hH]; exact va_S.rf
  refine w_heap hH ?_
  refine lv_aload_n hx hb dL_write_0 rfl (lv_at hl 2 rfl) ?_
  refine lv_iconst (v := 0) hx hb dL_write_1 (by decide) ?_
  refine lv_aload_n hx hb dL_write_2 rfl (lv_at hl 0 rfl) ?_
  refine lv_iload_n hx hb dL_write_3 rfl (lv_at hl 1 rfl) ?_
  have hPc := hP.sub (ws' := [(h0, .inr (10, [v0, v1, v2, v3, v4, v5, .ref h1, v7, v8, v9, v10, v11, v12, v13])), (h1, .inl (cZ, 8, .inl (fun _ => 0)))]) [0, 1] rfl
  have hDc := hD.sub (ws' := [(h0, .inr (10, [v0, v1, v2, v3, v4, v5, .ref h1, v7, v8, v9, v10, v11, v12, v13])), (h1, .inl (cZ, 8, .inl (fun _ => 0)))]) [0, 1] (by decide) rfl
  have hKc := hK.sub (tys' := [(cZ, .boolean)]) [0] rfl
  have hFc := va_free (wc := [(h0, .inr (10, [v0, v1, v2, v3, v4, v5, .ref h1, v7, v8, v9, v10, v11, v12, v13])), (h1, .inl (cZ, 8, .inl (fun _ => 0)))]) hD hS hA [0, 1] rfl
  refine vy_callX (vx_runV (As := [.int k]) (rest := [.int 0, .ref ho]) ⟨hx, hb, hml, hown, hts⟩ (c_x_write l hlt dC dI h0 k h1 v0 v1 v2 v3 v4 v5 v7 v8 v9 v10 v11 v12 v13 cZ sa H.size) (cwV 1 hts (goV wd_257 wd_258 wd_256 wd_191 wd_255) rfl rfl rfl (by decide +kernel) ⟨Nat.le_of_ble_eq_true rfl, Nat.le_of_ble_eq_true rfl⟩) ⟨blind6, va_recv hKc hPc (ci := 10) (q0 := 0) rfl rfl, fun U hU hW => ⟨rfl, pre6 hU hW hPc hKc hDc hE (hT.call hS hFc)⟩⟩ rfl rfl hl.1 rfl (lv_room (Nat.le_of_ble_eq_true rfl)) dL_write_4 ⟨Nat.le_of_ble_eq_true rfl, Nat.le_of_ble_eq_true rfl⟩) hS hFc (fun q _ h => hFc q h) (fun E ce q9 u t H locs ht hvm hw hB hz1 hk1 hS hce hcv hcl => ?_)
  obtain rfl : E = _ := hB
  refine vy_catch (name := "java/lang/IndexOutOfBoundsException") hown ⟨0, 9, 12, 13⟩ _ (by rw [htab]; rfl) (by decide) (by decide) (hts _ wd_202) (va_Nw.use rfl (hE.1 _ (List.mem_of_getElem? (i := 11) rfl))) hce hcv hcl ?_
  refine W.eq (g2 := F0 m 12 ls [.ref q9]) rfl ?_
  have hP : va_P (dC, dI) classes [] H := fun k q h => by simp at h
  have hD : va_D A [] := ⟨fun i j p q h => by simp at h, fun k q h => by simp at h⟩
  have hK : va_K (dC, dI) classes [] s := hK.sub [] rfl
  refine W.widen (k := 1) (n := 6) (Nat.le_of_ble_eq_true rfl) (Nat.le_of_ble_eq_true rfl) ?_
  refine lv_astore_n (lv' := [(3, .ref q9), (0, .ref h0), (1, .int k), (2, .ref ho)]) hx hb dL_write_12 rfl hl (by decide) rfl (fun ls hl => ?_)
  refine lv_iconst (v := 1) hx hb dL_write_13 (by decide) ?_
  have hP9 := hP.sub (ws' := []) [] rfl
  have hD9 := hD.sub (ws' := []) [] (by decide) rfl
  have hK9 := hK.sub (tys' := []) [] rfl
  refine W.widen (k := 1) (n := 6) (Nat.le_of_ble_eq_true rfl) (Nat.le_of_ble_eq_true rfl) ?_
  exact vx_ret (W.iret (v := 1) hx hb hr (fun t ht hW => ⟨⟨1, (), rfl, rfl, by rw [ht]; exact hP9, va_K.moved hW.alike hK9, hD9⟩, hS.F ht⟩) hS.2.2 dL_write_14)
