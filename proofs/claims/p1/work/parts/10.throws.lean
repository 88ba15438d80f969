set_option maxHeartbeats 4000000 in
set_option maxRecDepth 100000 in
/-- tableAt -/
theorem c_tableAt (l : Launch) (hlt : l.stackTraces = false) (dC : Nat → ClassId) (dI : Nat → Nat → Nat) (h0 : Nat) (k : Int32) (h1 : Nat) (v0 : Value) (v1 : Value) (v2 : Value) (v3 : Value) (v4 : Value) (v5 : Value) (v7 : Value) (v8 : Value) (v9 : Value) (v10 : Value) (v11 : Value) (v12 : Value) (v13 : Value) (cZ : ClassId) (sa : Nat) (sz : Nat) : vx_Met l yX11_tableAt (.code yX11_tableAt cX11_tableAt 3 (some (.object "SpineTables$Table")) :: wU) ({ frames := 6, cells := 1, slots := 6, locals := 82 } : Room) (va_Pc [.ref h0, .int k] (fun U => P5 dC dI [(h0, .inr (10, [v0, v1, v2, v3, v4, v5, .ref h1, v7, v8, v9, v10, v11, v12, v13])), (h1, .inl (cZ, 8, .inl (fun _ => 0)))] [(cZ, .boolean)] sz U ∧ Tn (va_A [(h0, .inr (10, [v0, v1, v2, v3, v4, v5, .ref h1, v7, v8, v9, v10, v11, v12, v13])), (h1, .inl (cZ, 8, .inl (fun _ => 0)))] sz) sa U)) (fun _ _ _ _ => False) (vx_X (fun _ : Unit => True) (fun E _ _ => E = "java/lang/IndexOutOfBoundsException") (va_A [(h0, .inr (10, [v0, v1, v2, v3, v4, v5, .ref h1, v7, v8, v9, v10, v11, v12, v13])), (h1, .inl (cZ, 8, .inl (fun _ => 0)))] sz)) 1 6 (va_A [(h0, .inr (10, [v0, v1, v2, v3, v4, v5, .ref h1, v7, v8, v9, v10, v11, v12, v13])), (h1, .inl (cZ, 8, .inl (fun _ => 0)))] sz) := by
  refine vx_ofW (cc := cX11_tableAt) (maxL := 3) (ret := (some (.object "SpineTables$Table"))) (by decide) rfl ?_
  intro p e s m args below meth c s₁ B hml htb hv
  obtain ⟨rfl, ⟨hsz, hP, hK, hD0, hE⟩, hT⟩ := hv
  have hx := B.exec
  have hb := B.bytes
  have hr := B.returns
  have hts0 := atoms_spec (ws := (.code yX11_tableAt cX11_tableAt 3 (some (.object "SpineTables$Table")) :: wU)) B.pre
  have hts : ∀ w ∈ wU, w.before _ s = true := fun w h => hts0 w (List.mem_cons_of_mem _ h)
  have hown : s.vm.findClass "SpineTables" = some m.cls := findClass_of_methodNamed B.named
  have hlocks := B.notSynchronized
  subst hsz
  have hD := hD0.self (sz := s.heap.size)
  generalize hAe : va_A [(h0, .inr (10, [v0, v1, v2, v3, v4, v5, .ref h1, v7, v8, v9, v10, v11, v12, v13])), (h1, .inl (cZ, 8, .inl (fun _ => 0)))] s.heap.size = A at hT hD ⊢
  have hA : ∀ q : Nat, s.heap.size ≤ q → A q := fun q h => by rw [← hAe]; exact Or.inr h
  have hP : va_P (dC, dI) classes [(h0, .inr (10, [v0, v1, v2, v3, v4, v5, .ref h1, v7, v8, v9, v10, v11, v12, v13])), (h1, .inl (cZ, 8, .inl (fun _ => 0)))] s.heap := hP
  have hl := lv_entry ([.ref h0, .int k]) (n := 3) (Nat.le_of_ble_eq_true rfl)
  rw [lg_entry_eq]
  generalize (lg_sl ([.ref h0, .int k]) ++ List.replicate (3 - (lg_sl ([.ref h0, .int k])).length) Slot.unset).toArray = ls at hl ⊢
  have hl : lv_has ls 3 [(0, .ref h0), (1, .int k)] := hl
  obtain ⟨H, hH⟩ : ∃ H, H = s.heap := ⟨_, rfl⟩
  rw [← hH] at hP
  have hS : va_S A s.heap H [] := by rw [hH]; exact va_S.rf
  refine w_heap hH ?_
  refine lv_iload_n hx hb dX11_tableAt_0 rfl (lv_at hl 1 rfl) ?_
  refine lv_if_lt (tgt := 19) hx hb dX11_tableAt_1 (by decide) (fun c194 => ?_) (fun c194 => ?_)
  · refine lv_null hx hb dX11_tableAt_19 ?_
    refine lv_goto (tgt := 29) hx hb dX11_tableAt_20 (by decide) ?_
    refine lv_astore_nN (lv' := [(2, .null), (0, .ref h0), (1, .int k)]) hx hb dX11_tableAt_29 rfl hl (by decide) rfl (fun ls hl => ?_)
    refine lv_aload_nN hx hb dX11_tableAt_30 rfl (lv_at hl 0 rfl) ?_
    refine lv_ifnonnullN hx hb dX11_tableAt_31 ?_
    exact vx_throwSW (rest := []) (own := "SpineTables") (cls := "java/lang/IndexOutOfBoundsException") (names := ["java/lang/RuntimeException", "java/lang/Exception"]) (ik := 177) (is := 274) (ic := 181) (A := A) hx hb hlt hown (by decide +kernel) (by decide +kernel) (hts _ wd_192) (hts _ wd_193) hT.1 (thr_at hts hE) thr_ot hT.2.1 hT.2.2 hS (by rw [hml]; exact hl.1) dX11_tableAt_34 dX11_tableAt_37 dX11_tableAt_38 dX11_tableAt_41 dX11_tableAt_44 (fun x hx => (htb x hx).elim) (Nat.le_of_ble_eq_true rfl) (Nat.le_of_ble_eq_true rfl) (Nat.le_of_ble_eq_true rfl) (Nat.le_of_ble_eq_true rfl) hlocks (fun t ha hz hq => ⟨(), trivial, rfl, thr_F hS hz hq⟩) hS.2.2 (Nat.le_of_ble_eq_true rfl) (Nat.le_of_ble_eq_true rfl)
  · refine lv_iload_n hx hb dX11_tableAt_4 rfl (lv_at hl 1 rfl) ?_
    refine lv_bipush (v := 8) hx hb dX11_tableAt_5 (by decide) ?_
    refine lv_icmp_ge (tgt := 19) hx hb dX11_tableAt_7 (by decide) (fun c195 => ?_) (fun c195 => ?_)
    · refine lv_null hx hb dX11_tableAt_19 ?_
      refine lv_goto (tgt := 29) hx hb dX11_tableAt_20 (by decide) ?_
      refine lv_astore_nN (lv' := [(2, .null), (0, .ref h0), (1, .int k)]) hx hb dX11_tableAt_29 rfl hl (by decide) rfl (fun ls hl => ?_)
      refine lv_aload_nN hx hb dX11_tableAt_30 rfl (lv_at hl 0 rfl) ?_
      refine lv_ifnonnullN hx hb dX11_tableAt_31 ?_
      exact vx_throwSW (rest := []) (own := "SpineTables") (cls := "java/lang/IndexOutOfBoundsException") (names := ["java/lang/RuntimeException", "java/lang/Exception"]) (ik := 177) (is := 274) (ic := 181) (A := A) hx hb hlt hown (by decide +kernel) (by decide +kernel) (hts _ wd_192) (hts _ wd_193) hT.1 (thr_at hts hE) thr_ot hT.2.1 hT.2.2 hS (by rw [hml]; exact hl.1) dX11_tableAt_34 dX11_tableAt_37 dX11_tableAt_38 dX11_tableAt_41 dX11_tableAt_44 (fun x hx => (htb x hx).elim) (Nat.le_of_ble_eq_true rfl) (Nat.le_of_ble_eq_true rfl) (Nat.le_of_ble_eq_true rfl) (Nat.le_of_ble_eq_true rfl) hlocks (fun t ha hz hq => ⟨(), trivial, rfl, thr_F hS hz hq⟩) hS.2.2 (Nat.le_of_ble_eq_true rfl) (Nat.le_of_ble_eq_true rfl)
    · refine lv_aload_n hx hb dX11_tableAt_10 rfl (lv_at hl 0 rfl) ?_
      refine va_get (D := (dC, dI)) (ci := 10) (v := .ref h1) (C := RX11) (T := TX11) (N := 14) hx hb hts inX11 hown hK hP 0 rfl rfl 6 (by decide) (hts _ wd_114) (fun _ h9 => h9) rfl dX11_tableAt_11 ?_
      refine lv_iload_n hx hb dX11_tableAt_14 rfl (lv_at hl 1 rfl) ?_
      refine va_zald hx hb hK hP 1 0 rfl rfl (in8 c194 c195) dX11_tableAt_15 ?_
      refine lv_topi (fun z9 ez9 => ?_)
      obtain rfl : z9 = 0 := ez9
      refine lv_if_ne (tgt := 23) hx hb dX11_tableAt_16 (by decide) (fun hc => absurd hc (by decide)) (fun _ => ?_)
      refine lv_null hx hb dX11_tableAt_19 ?_
      refine lv_goto (tgt := 29) hx hb dX11_tableAt_20 (by decide) ?_
      refine lv_astore_nN (lv' := [(2, .null), (0, .ref h0), (1, .int k)]) hx hb dX11_tableAt_29 rfl hl (by decide) rfl (fun ls hl => ?_)
      refine lv_aload_nN hx hb dX11_tableAt_30 rfl (lv_at hl 0 rfl) ?_
      refine lv_ifnonnullN hx hb dX11_tableAt_31 ?_
      exact vx_throwSW (rest := []) (own := "SpineTables") (cls := "java/lang/IndexOutOfBoundsException") (names := ["java/lang/RuntimeException", "java/lang/Exception"]) (ik := 177) (is := 274) (ic := 181) (A := A) hx hb hlt hown (by decide +kernel) (by decide +kernel) (hts _ wd_192) (hts _ wd_193) hT.1 (thr_at hts hE) thr_ot hT.2.1 hT.2.2 hS (by rw [hml]; exact hl.1) dX11_tableAt_34 dX11_tableAt_37 dX11_tableAt_38 dX11_tableAt_41 dX11_tableAt_44 (fun x hx => (htb x hx).elim) (Nat.le_of_ble_eq_true rfl) (Nat.le_of_ble_eq_true rfl) (Nat.le_of_ble_eq_true rfl) (Nat.le_of_ble_eq_true rfl) hlocks (fun t ha hz hq => ⟨(), trivial, rfl, thr_F hS hz hq⟩) hS.2.2 (Nat.le_of_ble_eq_true rfl) (Nat.le_of_ble_eq_true rfl)
set_option maxHeartbeats 4000000 in
set_option maxRecDepth 100000 in
/-- x_drop -/
theorem c_x_drop (l : Launch) (hlt : l.stackTraces = false) (dC : Nat → ClassId) (dI : Nat → Nat → Nat) (h0 : Nat) (k : Int32) (h1 : Nat) (v0 : Value) (v1 : Value) (v2 : Value) (v3 : Value) (v4 : Value) (v5 : Value) (v7 : Value) (v8 : Value) (v9 : Value) (v10 : Value) (v11 : Value) (v12 : Value) (v13 : Value) (cZ : ClassId) (sa : Nat) (sz : Nat) : vx_Met l yX11_drop (.code yX11_drop cX11_drop 3 (some .int) :: wU) ({ frames := 7, cells := 1, slots := 6, locals := 104 } : Room) (va_Pc [.ref h0, .int k] (fun U => P5 dC dI [(h0, .inr (10, [v0, v1, v2, v3, v4, v5, .ref h1, v7, v8, v9, v10, v11, v12, v13])), (h1, .inl (cZ, 8, .inl (fun _ => 0)))] [(cZ, .boolean)] sz U ∧ Tn (va_A [(h0, .inr (10, [v0, v1, v2, v3, v4, v5, .ref h1, v7, v8, v9, v10, v11, v12, v13])), (h1, .inl (cZ, 8, .inl (fun _ => 0)))] sz) sa U)) (fun _ _ _ _ => False) (vx_X (fun _ : Unit => True) (fun E _ _ => E = "java/lang/IndexOutOfBoundsException") (va_A [(h0, .inr (10, [v0, v1, v2, v3, v4, v5, .ref h1, v7, v8, v9, v10, v11, v12, v13])), (h1, .inl (cZ, 8, .inl (fun _ => 0)))] sz)) 1 6 (va_A [(h0, .inr (10, [v0, v1, v2, v3, v4, v5, .ref h1, v7, v8, v9, v10, v11, v12, v13])), (h1, .inl (cZ, 8, .inl (fun _ => 0)))] sz) := by
  refine vx_ofW (cc := cX11_drop) (maxL := 3) (ret := (some .int)) (by decide) rfl ?_
  intro p e s m args below meth c s₁ B hml htb hv
  obtain ⟨rfl, ⟨hsz, hP, hK, hD0, hE⟩, hT⟩ := hv
  have hx := B.exec
  have hb := B.bytes
  have hr := B.returns
  have hts0 := atoms_spec (ws := (.code yX11_drop cX11_drop 3 (some .int) :: wU)) B.pre
  have hts : ∀ w ∈ wU, w.before _ s = true := fun w h => hts0 w (List.mem_cons_of_mem _ h)
  have hown : s.vm.findClass "SpineTables" = some m.cls := findClass_of_methodNamed B.named
  have hlocks := B.notSynchronized
  subst hsz
  have hD := hD0.self (sz := s.heap.size)
  generalize hAe : va_A [(h0, .inr (10, [v0, v1, v2, v3, v4, v5, .ref h1, v7, v8, v9, v10, v11, v12, v13])), (h1, .inl (cZ, 8, .inl (fun _ => 0)))] s.heap.size = A at hT hD ⊢
  have hA : ∀ q : Nat, s.heap.size ≤ q → A q := fun q h => by rw [← hAe]; exact Or.inr h
  have hP : va_P (dC, dI) classes [(h0, .inr (10, [v0, v1, v2, v3, v4, v5, .ref h1, v7, v8, v9, v10, v11, v12, v13])), (h1, .inl (cZ, 8, .inl (fun _ => 0)))] s.heap := hP
  have hl := lv_entry ([.ref h0, .int k]) (n := 3) (Nat.le_of_ble_eq_true rfl)
  rw [lg_entry_eq]
  generalize (lg_sl ([.ref h0, .int k]) ++ List.replicate (3 - (lg_sl ([.ref h0, .int k])).length) Slot.unset).toArray = ls at hl ⊢
  have hl : lv_has ls 3 [(0, .ref h0), (1, .int k)] := hl
  obtain ⟨H, hH⟩ : ∃ H, H = s.heap := ⟨_, rfl⟩
  rw [← hH] at hP
  have hS : va_S A s.heap H [] := by rw [hH]; exact va_S.rf
  refine w_heap hH ?_
  refine lv_aload_n hx hb dX11_drop_0 rfl (lv_at hl 0 rfl) ?_
  refine lv_iload_n hx hb dX11_drop_1 rfl (lv_at hl 1 rfl) ?_
  have hPc := hP.sub (ws' := [(h0, .inr (10, [v0, v1, v2, v3, v4, v5, .ref h1, v7, v8, v9, v10, v11, v12, v13])), (h1, .inl (cZ, 8, .inl (fun _ => 0)))]) [0, 1] rfl
  have hDc := hD.sub (ws' := [(h0, .inr (10, [v0, v1, v2, v3, v4, v5, .ref h1, v7, v8, v9, v10, v11, v12, v13])), (h1, .inl (cZ, 8, .inl (fun _ => 0)))]) [0, 1] (by decide) rfl
  have hKc := hK.sub (tys' := [(cZ, .boolean)]) [0] rfl
  have hFc := va_free (wc := [(h0, .inr (10, [v0, v1, v2, v3, v4, v5, .ref h1, v7, v8, v9, v10, v11, v12, v13])), (h1, .inl (cZ, 8, .inl (fun _ => 0)))]) hD hS hA [0, 1] rfl
  refine vy_callX (vx_runV (As := [.int k]) (rest := []) ⟨hx, hb, hml, hown, hts⟩ (c_tableAt l hlt dC dI h0 k h1 v0 v1 v2 v3 v4 v5 v7 v8 v9 v10 v11 v12 v13 cZ sa H.size) (cwV 1 hts (goV wd_196 wd_197 wd_195 wd_191 wd_194) rfl rfl rfl (by decide +kernel) ⟨Nat.le_of_ble_eq_true rfl, Nat.le_of_ble_eq_true rfl⟩) ⟨blind6, va_recv hKc hPc (ci := 10) (q0 := 0) rfl rfl, fun U hU hW => ⟨rfl, pre6 hU hW hPc hKc hDc hE (hT.call hS hFc)⟩⟩ rfl rfl hl.1 rfl (lv_room (Nat.le_of_ble_eq_true rfl)) dX11_drop_2 ⟨Nat.le_of_ble_eq_true rfl, Nat.le_of_ble_eq_true rfl⟩) hS hFc (fun q _ h => hFc q h) (fun E ce q9 u t H locs ht hvm hw hB hz1 hk1 hS hce hcv hcl => ?_)
  obtain rfl : E = _ := hB
  exact vx_out (fun x hx => (htb x hx).elim) hlocks hce hcv hcl (fun t ht ha => ⟨(), trivial, rfl, hS.F ht⟩) hS.2.2 (Nat.le_of_ble_eq_true rfl) (Nat.le_of_ble_eq_true rfl)
set_option maxHeartbeats 4000000 in
set_option maxRecDepth 100000 in
/-- x_told -/
theorem c_x_told (l : Launch) (hlt : l.stackTraces = false) (dC : Nat → ClassId) (dI : Nat → Nat → Nat) (h0 : Nat) (k : Int32) (k1 : Int32) (h1 : Nat) (v0 : Value) (v1 : Value) (v2 : Value) (v3 : Value) (v4 : Value) (v5 : Value) (v7 : Value) (v8 : Value) (v9 : Value) (v10 : Value) (v11 : Value) (v12 : Value) (v13 : Value) (cZ : ClassId) (sa : Nat) (sz : Nat) : vx_Met l yX11_told (.code yX11_told cX11_told 4 (some .int) :: wU) ({ frames := 7, cells := 1, slots := 6, locals := 104 } : Room) (va_Pc [.ref h0, .int k, .int k1] (fun U => P5 dC dI [(h0, .inr (10, [v0, v1, v2, v3, v4, v5, .ref h1, v7, v8, v9, v10, v11, v12, v13])), (h1, .inl (cZ, 8, .inl (fun _ => 0)))] [(cZ, .boolean)] sz U ∧ Tn (va_A [(h0, .inr (10, [v0, v1, v2, v3, v4, v5, .ref h1, v7, v8, v9, v10, v11, v12, v13])), (h1, .inl (cZ, 8, .inl (fun _ => 0)))] sz) sa U)) (fun _ _ _ _ => False) (vx_X (fun _ : Unit => True) (fun E _ _ => E = "java/lang/IndexOutOfBoundsException") (va_A [(h0, .inr (10, [v0, v1, v2, v3, v4, v5, .ref h1, v7, v8, v9, v10, v11, v12, v13])), (h1, .inl (cZ, 8, .inl (fun _ => 0)))] sz)) 1 6 (va_A [(h0, .inr (10, [v0, v1, v2, v3, v4, v5, .ref h1, v7, v8, v9, v10, v11, v12, v13])), (h1, .inl (cZ, 8, .inl (fun _ => 0)))] sz) := by
  refine vx_ofW (cc := cX11_told) (maxL := 4) (ret := (some .int)) (by decide) rfl ?_
  intro p e s m args below meth c s₁ B hml htb hv
  obtain ⟨rfl, ⟨hsz, hP, hK, hD0, hE⟩, hT⟩ := hv
  have hx := B.exec
  have hb := B.bytes
  have hr := B.returns
  have hts0 := atoms_spec (ws := (.code yX11_told cX11_told 4 (some .int) :: wU)) B.pre
  have hts : ∀ w ∈ wU, w.before _ s = true := fun w h => hts0 w (List.mem_cons_of_mem _ h)
  have hown : s.vm.findClass "SpineTables" = some m.cls := findClass_of_methodNamed B.named
  have hlocks := B.notSynchronized
  subst hsz
  have hD := hD0.self (sz := s.heap.size)
  generalize hAe : va_A [(h0, .inr (10, [v0, v1, v2, v3, v4, v5, .ref h1, v7, v8, v9, v10, v11, v12, v13])), (h1, .inl (cZ, 8, .inl (fun _ => 0)))] s.heap.size = A at hT hD ⊢
  have hA : ∀ q : Nat, s.heap.size ≤ q → A q := fun q h => by rw [← hAe]; exact Or.inr h
  have hP : va_P (dC, dI) classes [(h0, .inr (10, [v0, v1, v2, v3, v4, v5, .ref h1, v7, v8, v9, v10, v11, v12, v13])), (h1, .inl (cZ, 8, .inl (fun _ => 0)))] s.heap := hP
  have hl := lv_entry ([.ref h0, .int k, .int k1]) (n := 4) (Nat.le_of_ble_eq_true rfl)
  rw [lg_entry_eq]
  generalize (lg_sl ([.ref h0, .int k, .int k1]) ++ List.replicate (4 - (lg_sl ([.ref h0, .int k, .int k1])).length) Slot.unset).toArray = ls at hl ⊢
  have hl : lv_has ls 4 [(0, .ref h0), (1, .int k), (2, .int k1)] := hl
  obtain ⟨H, hH⟩ : ∃ H, H = s.heap := ⟨_, rfl⟩
  rw [← hH] at hP
  have hS : va_S A s.heap H [] := by rw [hH]; exact va_S.rf
  refine w_heap hH ?_
  refine lv_aload_n hx hb dX11_told_0 rfl (lv_at hl 0 rfl) ?_
  refine lv_iload_n hx hb dX11_told_1 rfl (lv_at hl 1 rfl) ?_
  have hPc := hP.sub (ws' := [(h0, .inr (10, [v0, v1, v2, v3, v4, v5, .ref h1, v7, v8, v9, v10, v11, v12, v13])), (h1, .inl (cZ, 8, .inl (fun _ => 0)))]) [0, 1] rfl
  have hDc := hD.sub (ws' := [(h0, .inr (10, [v0, v1, v2, v3, v4, v5, .ref h1, v7, v8, v9, v10, v11, v12, v13])), (h1, .inl (cZ, 8, .inl (fun _ => 0)))]) [0, 1] (by decide) rfl
  have hKc := hK.sub (tys' := [(cZ, .boolean)]) [0] rfl
  have hFc := va_free (wc := [(h0, .inr (10, [v0, v1, v2, v3, v4, v5, .ref h1, v7, v8, v9, v10, v11, v12, v13])), (h1, .inl (cZ, 8, .inl (fun _ => 0)))]) hD hS hA [0, 1] rfl
  refine vy_callX (vx_runV (As := [.int k]) (rest := []) ⟨hx, hb, hml, hown, hts⟩ (c_tableAt l hlt dC dI h0 k h1 v0 v1 v2 v3 v4 v5 v7 v8 v9 v10 v11 v12 v13 cZ sa H.size) (cwV 1 hts (goV wd_196 wd_197 wd_195 wd_191 wd_194) rfl rfl rfl (by decide +kernel) ⟨Nat.le_of_ble_eq_true rfl, Nat.le_of_ble_eq_true rfl⟩) ⟨blind6, va_recv hKc hPc (ci := 10) (q0 := 0) rfl rfl, fun U hU hW => ⟨rfl, pre6 hU hW hPc hKc hDc hE (hT.call hS hFc)⟩⟩ rfl rfl hl.1 rfl (lv_room (Nat.le_of_ble_eq_true rfl)) dX11_told_2 ⟨Nat.le_of_ble_eq_true rfl, Nat.le_of_ble_eq_true rfl⟩) hS hFc (fun q _ h => hFc q h) (fun E ce q9 u t H locs ht hvm hw hB hz1 hk1 hS hce hcv hcl => ?_)
  obtain rfl : E = _ := hB
  exact vx_out (fun x hx => (htb x hx).elim) hlocks hce hcv hcl (fun t ht ha => ⟨(), trivial, rfl, hS.F ht⟩) hS.2.2 (Nat.le_of_ble_eq_true rfl) (Nat.le_of_ble_eq_true rfl)
set_option maxHeartbeats 4000000 in
set_option maxRecDepth 100000 in
/-- x_row -/
theorem c_x_row (l : Launch) (hlt : l.stackTraces = false) (dC : Nat → ClassId) (dI : Nat → Nat → Nat) (h0 : Nat) (k : Int32) (k1 : Int32) (k2 : Int32) (h1 : Nat) (v0 : Value) (v1 : Value) (v2 : Value) (v3 : Value) (v4 : Value) (v5 : Value) (v7 : Value) (v8 : Value) (v9 : Value) (v10 : Value) (v11 : Value) (v12 : Value) (v13 : Value) (cZ : ClassId) (sa : Nat) (sz : Nat) : vx_Met l yX11_row (.code yX11_row cX11_row 5 (some .int) :: wU) ({ frames := 7, cells := 1, slots := 6, locals := 104 } : Room) (va_Pc [.ref h0, .int k, .int k1, .int k2] (fun U => P5 dC dI [(h0, .inr (10, [v0, v1, v2, v3, v4, v5, .ref h1, v7, v8, v9, v10, v11, v12, v13])), (h1, .inl (cZ, 8, .inl (fun _ => 0)))] [(cZ, .boolean)] sz U ∧ Tn (va_A [(h0, .inr (10, [v0, v1, v2, v3, v4, v5, .ref h1, v7, v8, v9, v10, v11, v12, v13])), (h1, .inl (cZ, 8, .inl (fun _ => 0)))] sz) sa U)) (fun _ _ _ _ => False) (vx_X (fun _ : Unit => True) (fun E _ _ => E = "java/lang/IndexOutOfBoundsException") (va_A [(h0, .inr (10, [v0, v1, v2, v3, v4, v5, .ref h1, v7, v8, v9, v10, v11, v12, v13])), (h1, .inl (cZ, 8, .inl (fun _ => 0)))] sz)) 1 6 (va_A [(h0, .inr (10, [v0, v1, v2, v3, v4, v5, .ref h1, v7, v8, v9, v10, v11, v12, v13])), (h1, .inl (cZ, 8, .inl (fun _ => 0)))] sz) := by
  refine vx_ofW (cc := cX11_row) (maxL := 5) (ret := (some .int)) (by decide) rfl ?_
  intro p e s m args below meth c s₁ B hml htb hv
  obtain ⟨rfl, ⟨hsz, hP, hK, hD0, hE⟩, hT⟩ := hv
  have hx := B.exec
  have hb := B.bytes
  have hr := B.returns
  have hts0 := atoms_spec (ws := (.code yX11_row cX11_row 5 (some .int) :: wU)) B.pre
  have hts : ∀ w ∈ wU, w.before _ s = true := fun w h => hts0 w (List.mem_cons_of_mem _ h)
  have hown : s.vm.findClass "SpineTables" = some m.cls := findClass_of_methodNamed B.named
  have hlocks := B.notSynchronized
  subst hsz
  have hD := hD0.self (sz := s.heap.size)
  generalize hAe : va_A [(h0, .inr (10, [v0, v1, v2, v3, v4, v5, .ref h1, v7, v8, v9, v10, v11, v12, v13])), (h1, .inl (cZ, 8, .inl (fun _ => 0)))] s.heap.size = A at hT hD ⊢
  have hA : ∀ q : Nat, s.heap.size ≤ q → A q := fun q h => by rw [← hAe]; exact Or.inr h
  have hP : va_P (dC, dI) classes [(h0, .inr (10, [v0, v1, v2, v3, v4, v5, .ref h1, v7, v8, v9, v10, v11, v12, v13])), (h1, .inl (cZ, 8, .inl (fun _ => 0)))] s.heap := hP
  have hl := lv_entry ([.ref h0, .int k, .int k1, .int k2]) (n := 5) (Nat.le_of_ble_eq_true rfl)
  rw [lg_entry_eq]
  generalize (lg_sl ([.ref h0, .int k, .int k1, .int k2]) ++ List.replicate (5 - (lg_sl ([.ref h0, .int k, .int k1, .int k2])).length) Slot.unset).toArray = ls at hl ⊢
  have hl : lv_has ls 5 [(0, .ref h0), (1, .int k), (2, .int k1), (3, .int k2)] := hl
  obtain ⟨H, hH⟩ : ∃ H, H = s.heap := ⟨_, rfl⟩
  rw [← hH] at hP
  have hS : va_S A s.heap H [] := by rw [hH]; exact va_S.rf
  refine w_heap hH ?_
  refine lv_aload_n hx hb dX11_row_0 rfl (lv_at hl 0 rfl) ?_
  refine lv_iload_n hx hb dX11_row_1 rfl (lv_at hl 1 rfl) ?_
  have hPc := hP.sub (ws' := [(h0, .inr (10, [v0, v1, v2, v3, v4, v5, .ref h1, v7, v8, v9, v10, v11, v12, v13])), (h1, .inl (cZ, 8, .inl (fun _ => 0)))]) [0, 1] rfl
  have hDc := hD.sub (ws' := [(h0, .inr (10, [v0, v1, v2, v3, v4, v5, .ref h1, v7, v8, v9, v10, v11, v12, v13])), (h1, .inl (cZ, 8, .inl (fun _ => 0)))]) [0, 1] (by decide) rfl
  have hKc := hK.sub (tys' := [(cZ, .boolean)]) [0] rfl
  have hFc := va_free (wc := [(h0, .inr (10, [v0, v1, v2, v3, v4, v5, .ref h1, v7, v8, v9, v10, v11, v12, v13])), (h1, .inl (cZ, 8, .inl (fun _ => 0)))]) hD hS hA [0, 1] rfl
  refine vy_callX (vx_runV (As := [.int k]) (rest := []) ⟨hx, hb, hml, hown, hts⟩ (c_tableAt l hlt dC dI h0 k h1 v0 v1 v2 v3 v4 v5 v7 v8 v9 v10 v11 v12 v13 cZ sa H.size) (cwV 1 hts (goV wd_196 wd_197 wd_195 wd_191 wd_194) rfl rfl rfl (by decide +kernel) ⟨Nat.le_of_ble_eq_true rfl, Nat.le_of_ble_eq_true rfl⟩) ⟨blind6, va_recv hKc hPc (ci := 10) (q0 := 0) rfl rfl, fun U hU hW => ⟨rfl, pre6 hU hW hPc hKc hDc hE (hT.call hS hFc)⟩⟩ rfl rfl hl.1 rfl (lv_room (Nat.le_of_ble_eq_true rfl)) dX11_row_2 ⟨Nat.le_of_ble_eq_true rfl, Nat.le_of_ble_eq_true rfl⟩) hS hFc (fun q _ h => hFc q h) (fun E ce q9 u t H locs ht hvm hw hB hz1 hk1 hS hce hcv hcl => ?_)
  obtain rfl : E = _ := hB
  exact vx_out (fun x hx => (htb x hx).elim) hlocks hce hcv hcl (fun t ht ha => ⟨(), trivial, rfl, hS.F ht⟩) hS.2.2 (Nat.le_of_ble_eq_true rfl) (Nat.le_of_ble_eq_true rfl)
set_option maxHeartbeats 4000000 in
set_option maxRecDepth 100000 in
/-- x_strand -/
theorem c_x_strand (l : Launch) (hlt : l.stackTraces = false) (dC : Nat → ClassId) (dI : Nat → Nat → Nat) (h0 : Nat) (k : Int32) (k1 : Int32) (k2 : Int32) (k3 : Int32) (h1 : Nat) (v0 : Value) (v1 : Value) (v2 : Value) (v3 : Value) (v4 : Value) (v5 : Value) (v7 : Value) (v8 : Value) (v9 : Value) (v10 : Value) (v11 : Value) (v12 : Value) (v13 : Value) (cZ : ClassId) (sa : Nat) (sz : Nat) : vx_Met l yX11_strand (.code yX11_strand cX11_strand 7 (some .int) :: wU) ({ frames := 7, cells := 1, slots := 6, locals := 104 } : Room) (va_Pc [.ref h0, .int k, .int k1, .int k2, .int k3] (fun U => P5 dC dI [(h0, .inr (10, [v0, v1, v2, v3, v4, v5, .ref h1, v7, v8, v9, v10, v11, v12, v13])), (h1, .inl (cZ, 8, .inl (fun _ => 0)))] [(cZ, .boolean)] sz U ∧ Tn (va_A [(h0, .inr (10, [v0, v1, v2, v3, v4, v5, .ref h1, v7, v8, v9, v10, v11, v12, v13])), (h1, .inl (cZ, 8, .inl (fun _ => 0)))] sz) sa U)) (fun _ _ _ _ => False) (vx_X (fun _ : Unit => True) (fun E _ _ => E = "java/lang/IndexOutOfBoundsException") (va_A [(h0, .inr (10, [v0, v1, v2, v3, v4, v5, .ref h1, v7, v8, v9, v10, v11, v12, v13])), (h1, .inl (cZ, 8, .inl (fun _ => 0)))] sz)) 1 6 (va_A [(h0, .inr (10, [v0, v1, v2, v3, v4, v5, .ref h1, v7, v8, v9, v10, v11, v12, v13])), (h1, .inl (cZ, 8, .inl (fun _ => 0)))] sz) := by
  refine vx_ofW (cc := cX11_strand) (maxL := 7) (ret := (some .int)) (by decide) rfl ?_
  intro p e s m args below meth c s₁ B hml htb hv
  obtain ⟨rfl, ⟨hsz, hP, hK, hD0, hE⟩, hT⟩ := hv
  have hx := B.exec
  have hb := B.bytes
  have hr := B.returns
  have hts0 := atoms_spec (ws := (.code yX11_strand cX11_strand 7 (some .int) :: wU)) B.pre
  have hts : ∀ w ∈ wU, w.before _ s = true := fun w h => hts0 w (List.mem_cons_of_mem _ h)
  have hown : s.vm.findClass "SpineTables" = some m.cls := findClass_of_methodNamed B.named
  have hlocks := B.notSynchronized
  subst hsz
  have hD := hD0.self (sz := s.heap.size)
  generalize hAe : va_A [(h0, .inr (10, [v0, v1, v2, v3, v4, v5, .ref h1, v7, v8, v9, v10, v11, v12, v13])), (h1, .inl (cZ, 8, .inl (fun _ => 0)))] s.heap.size = A at hT hD ⊢
  have hA : ∀ q : Nat, s.heap.size ≤ q → A q := fun q h => by rw [← hAe]; exact Or.inr h
  have hP : va_P (dC, dI) classes [(h0, .inr (10, [v0, v1, v2, v3, v4, v5, .ref h1, v7, v8, v9, v10, v11, v12, v13])), (h1, .inl (cZ, 8, .inl (fun _ => 0)))] s.heap := hP
  have hl := lv_entry ([.ref h0, .int k, .int k1, .int k2, .int k3]) (n := 7) (Nat.le_of_ble_eq_true rfl)
  rw [lg_entry_eq]
  generalize (lg_sl ([.ref h0, .int k, .int k1, .int k2, .int k3]) ++ List.replicate (7 - (lg_sl ([.ref h0, .int k, .int k1, .int k2, .int k3])).length) Slot.unset).toArray = ls at hl ⊢
  have hl : lv_has ls 7 [(0, .ref h0), (1, .int k), (2, .int k1), (3, .int k2), (4, .int k3)] := hl
  obtain ⟨H, hH⟩ : ∃ H, H = s.heap := ⟨_, rfl⟩
  rw [← hH] at hP
  have hS : va_S A s.heap H [] := by rw [hH]; exact va_S.rf
  refine w_heap hH ?_
  refine lv_aload_n hx hb dX11_strand_0 rfl (lv_at hl 0 rfl) ?_
  refine lv_iload_n hx hb dX11_strand_1 rfl (lv_at hl 1 rfl) ?_
  have hPc := hP.sub (ws' := [(h0, .inr (10, [v0, v1, v2, v3, v4, v5, .ref h1, v7, v8, v9, v10, v11, v12, v13])), (h1, .inl (cZ, 8, .inl (fun _ => 0)))]) [0, 1] rfl
  have hDc := hD.sub (ws' := [(h0, .inr (10, [v0, v1, v2, v3, v4, v5, .ref h1, v7, v8, v9, v10, v11, v12, v13])), (h1, .inl (cZ, 8, .inl (fun _ => 0)))]) [0, 1] (by decide) rfl
  have hKc := hK.sub (tys' := [(cZ, .boolean)]) [0] rfl
  have hFc := va_free (wc := [(h0, .inr (10, [v0, v1, v2, v3, v4, v5, .ref h1, v7, v8, v9, v10, v11, v12, v13])), (h1, .inl (cZ, 8, .inl (fun _ => 0)))]) hD hS hA [0, 1] rfl
  refine vy_callX (vx_runV (As := [.int k]) (rest := []) ⟨hx, hb, hml, hown, hts⟩ (c_tableAt l hlt dC dI h0 k h1 v0 v1 v2 v3 v4 v5 v7 v8 v9 v10 v11 v12 v13 cZ sa H.size) (cwV 1 hts (goV wd_196 wd_197 wd_195 wd_191 wd_194) rfl rfl rfl (by decide +kernel) ⟨Nat.le_of_ble_eq_true rfl, Nat.le_of_ble_eq_true rfl⟩) ⟨blind6, va_recv hKc hPc (ci := 10) (q0 := 0) rfl rfl, fun U hU hW => ⟨rfl, pre6 hU hW hPc hKc hDc hE (hT.call hS hFc)⟩⟩ rfl rfl hl.1 rfl (lv_room (Nat.le_of_ble_eq_true rfl)) dX11_strand_2 ⟨Nat.le_of_ble_eq_true rfl, Nat.le_of_ble_eq_true rfl⟩) hS hFc (fun q _ h => hFc q h) (fun E ce q9 u t H locs ht hvm hw hB hz1 hk1 hS hce hcv hcl => ?_)
  obtain rfl : E = _ := hB
  exact vx_out (fun x hx => (htb x hx).elim) hlocks hce hcv hcl (fun t ht ha => ⟨(), trivial, rfl, hS.F ht⟩) hS.2.2 (Nat.le_of_ble_eq_true rfl) (Nat.le_of_ble_eq_true rfl)
set_option maxHeartbeats 4000000 in
set_option maxRecDepth 100000 in
/-- x_kind -/
theorem c_x_kind (l : Launch) (hlt : l.stackTraces = false) (dC : Nat → ClassId) (dI : Nat → Nat → Nat) (h0 : Nat) (k : Int32) (k1 : Int32) (k2 : Int32) (h1 : Nat) (v0 : Value) (v1 : Value) (v2 : Value) (v3 : Value) (v4 : Value) (v5 : Value) (v7 : Value) (v8 : Value) (v9 : Value) (v10 : Value) (v11 : Value) (v12 : Value) (v13 : Value) (cZ : ClassId) (sa : Nat) (sz : Nat) : vx_Met l yX11_kind (.code yX11_kind cX11_kind 5 (some .int) :: wU) ({ frames := 7, cells := 1, slots := 6, locals := 104 } : Room) (va_Pc [.ref h0, .int k, .int k1, .int k2] (fun U => P5 dC dI [(h0, .inr (10, [v0, v1, v2, v3, v4, v5, .ref h1, v7, v8, v9, v10, v11, v12, v13])), (h1, .inl (cZ, 8, .inl (fun _ => 0)))] [(cZ, .boolean)] sz U ∧ Tn (va_A [(h0, .inr (10, [v0, v1, v2, v3, v4, v5, .ref h1, v7, v8, v9, v10, v11, v12, v13])), (h1, .inl (cZ, 8, .inl (fun _ => 0)))] sz) sa U)) (fun _ _ _ _ => False) (vx_X (fun _ : Unit => True) (fun E _ _ => E = "java/lang/IndexOutOfBoundsException") (va_A [(h0, .inr (10, [v0, v1, v2, v3, v4, v5, .ref h1, v7, v8, v9, v10, v11, v12, v13])), (h1, .inl (cZ, 8, .inl (fun _ => 0)))] sz)) 1 6 (va_A [(h0, .inr (10, [v0, v1, v2, v3, v4, v5, .ref h1, v7, v8, v9, v10, v11, v12, v13])), (h1, .inl (cZ, 8, .inl (fun _ => 0)))] sz) := by
  refine vx_ofW (cc := cX11_kind) (maxL := 5) (ret := (some .int)) (by decide) rfl ?_
  intro p e s m args below meth c s₁ B hml htb hv
  obtain ⟨rfl, ⟨hsz, hP, hK, hD0, hE⟩, hT⟩ := hv
  have hx := B.exec
  have hb := B.bytes
  have hr := B.returns
  have hts0 := atoms_spec (ws := (.code yX11_kind cX11_kind 5 (some .int) :: wU)) B.pre
  have hts : ∀ w ∈ wU, w.before _ s = true := fun w h => hts0 w (List.mem_cons_of_mem _ h)
  have hown : s.vm.findClass "SpineTables" = some m.cls := findClass_of_methodNamed B.named
  have hlocks := B.notSynchronized
  subst hsz
  have hD := hD0.self (sz := s.heap.size)
  generalize hAe : va_A [(h0, .inr (10, [v0, v1, v2, v3, v4, v5, .ref h1, v7, v8, v9, v10, v11, v12, v13])), (h1, .inl (cZ, 8, .inl (fun _ => 0)))] s.heap.size = A at hT hD ⊢
  have hA : ∀ q : Nat, s.heap.size ≤ q → A q := fun q h => by rw [← hAe]; exact Or.inr h
  have hP : va_P (dC, dI) classes [(h0, .inr (10, [v0, v1, v2, v3, v4, v5, .ref h1, v7, v8, v9, v10, v11, v12, v13])), (h1, .inl (cZ, 8, .inl (fun _ => 0)))] s.heap := hP
  have hl := lv_entry ([.ref h0, .int k, .int k1, .int k2]) (n := 5) (Nat.le_of_ble_eq_true rfl)
  rw [lg_entry_eq]
  generalize (lg_sl ([.ref h0, .int k, .int k1, .int k2]) ++ List.replicate (5 - (lg_sl ([.ref h0, .int k, .int k1, .int k2])).length) Slot.unset).toArray = ls at hl ⊢
  have hl : lv_has ls 5 [(0, .ref h0), (1, .int k), (2, .int k1), (3, .int k2)] := hl
  obtain ⟨H, hH⟩ : ∃ H, H = s.heap := ⟨_, rfl⟩
  rw [← hH] at hP
  have hS : va_S A s.heap H [] := by rw [hH]; exact va_S.rf
  refine w_heap hH ?_
  refine lv_aload_n hx hb dX11_kind_0 rfl (lv_at hl 0 rfl) ?_
  refine lv_iload_n hx hb dX11_kind_1 rfl (lv_at hl 1 rfl) ?_
  have hPc := hP.sub (ws' := [(h0, .inr (10, [v0, v1, v2, v3, v4, v5, .ref h1, v7, v8, v9, v10, v11, v12, v13])), (h1, .inl (cZ, 8, .inl (fun _ => 0)))]) [0, 1] rfl
  have hDc := hD.sub (ws' := [(h0, .inr (10, [v0, v1, v2, v3, v4, v5, .ref h1, v7, v8, v9, v10, v11, v12, v13])), (h1, .inl (cZ, 8, .inl (fun _ => 0)))]) [0, 1] (by decide) rfl
  have hKc := hK.sub (tys' := [(cZ, .boolean)]) [0] rfl
  have hFc := va_free (wc := [(h0, .inr (10, [v0, v1, v2, v3, v4, v5, .ref h1, v7, v8, v9, v10, v11, v12, v13])), (h1, .inl (cZ, 8, .inl (fun _ => 0)))]) hD hS hA [0, 1] rfl
  refine vy_callX (vx_runV (As := [.int k]) (rest := []) ⟨hx, hb, hml, hown, hts⟩ (c_tableAt l hlt dC dI h0 k h1 v0 v1 v2 v3 v4 v5 v7 v8 v9 v10 v11 v12 v13 cZ sa H.size) (cwV 1 hts (goV wd_196 wd_197 wd_195 wd_191 wd_194) rfl rfl rfl (by decide +kernel) ⟨Nat.le_of_ble_eq_true rfl, Nat.le_of_ble_eq_true rfl⟩) ⟨blind6, va_recv hKc hPc (ci := 10) (q0 := 0) rfl rfl, fun U hU hW => ⟨rfl, pre6 hU hW hPc hKc hDc hE (hT.call hS hFc)⟩⟩ rfl rfl hl.1 rfl (lv_room (Nat.le_of_ble_eq_true rfl)) dX11_kind_2 ⟨Nat.le_of_ble_eq_true rfl, Nat.le_of_ble_eq_true rfl⟩) hS hFc (fun q _ h => hFc q h) (fun E ce q9 u t H locs ht hvm hw hB hz1 hk1 hS hce hcv hcl => ?_)
  obtain rfl : E = _ := hB
  exact vx_out (fun x hx => (htb x hx).elim) hlocks hce hcv hcl (fun t ht ha => ⟨(), trivial, rfl, hS.F ht⟩) hS.2.2 (Nat.le_of_ble_eq_true rfl) (Nat.le_of_ble_eq_true rfl)
set_option maxHeartbeats 4000000 in
set_option maxRecDepth 100000 in
/-- x_token -/
theorem c_x_token (l : Launch) (hlt : l.stackTraces = false) (dC : Nat → ClassId) (dI : Nat → Nat → Nat) (h0 : Nat) (k : Int32) (k1 : Int32) (k2 : Int32) (k3 : Int32) (h1 : Nat) (v0 : Value) (v1 : Value) (v2 : Value) (v3 : Value) (v4 : Value) (v5 : Value) (v7 : Value) (v8 : Value) (v9 : Value) (v10 : Value) (v11 : Value) (v12 : Value) (v13 : Value) (cZ : ClassId) (sa : Nat) (sz : Nat) : vx_Met l yX11_token (.code yX11_token cX11_token 7 (some .int) :: wU) ({ frames := 7, cells := 1, slots := 6, locals := 104 } : Room) (va_Pc [.ref h0, .int k, .int k1, .int k2, .int k3] (fun U => P5 dC dI [(h0, .inr (10, [v0, v1, v2, v3, v4, v5, .ref h1, v7, v8, v9, v10, v11, v12, v13])), (h1, .inl (cZ, 8, .inl (fun _ => 0)))] [(cZ, .boolean)] sz U ∧ Tn (va_A [(h0, .inr (10, [v0, v1, v2, v3, v4, v5, .ref h1, v7, v8, v9, v10, v11, v12, v13])), (h1, .inl (cZ, 8, .inl (fun _ => 0)))] sz) sa U)) (fun _ _ _ _ => False) (vx_X (fun _ : Unit => True) (fun E _ _ => E = "java/lang/IndexOutOfBoundsException") (va_A [(h0, .inr (10, [v0, v1, v2, v3, v4, v5, .ref h1, v7, v8, v9, v10, v11, v12, v13])), (h1, .inl (cZ, 8, .inl (fun _ => 0)))] sz)) 1 6 (va_A [(h0, .inr (10, [v0, v1, v2, v3, v4, v5, .ref h1, v7, v8, v9, v10, v11, v12, v13])), (h1, .inl (cZ, 8, .inl (fun _ => 0)))] sz) := by
  refine vx_ofW (cc := cX11_token) (maxL := 7) (ret := (some .int)) (by decide) rfl ?_
  intro p e s m args below meth c s₁ B hml htb hv
  obtain ⟨rfl, ⟨hsz, hP, hK, hD0, hE⟩, hT⟩ := hv
  have hx := B.exec
  have hb := B.bytes
  have hr := B.returns
  have hts0 := atoms_spec (ws := (.code yX11_token cX11_token 7 (some .int) :: wU)) B.pre
  have hts : ∀ w ∈ wU, w.before _ s = true := fun w h => hts0 w (List.mem_cons_of_mem _ h)
  have hown : s.vm.findClass "SpineTables" = some m.cls := findClass_of_methodNamed B.named
  have hlocks := B.notSynchronized
  subst hsz
  have hD := hD0.self (sz := s.heap.size)
  generalize hAe : va_A [(h0, .inr (10, [v0, v1, v2, v3, v4, v5, .ref h1, v7, v8, v9, v10, v11, v12, v13])), (h1, .inl (cZ, 8, .inl (fun _ => 0)))] s.heap.size = A at hT hD ⊢
  have hA : ∀ q : Nat, s.heap.size ≤ q → A q := fun q h => by rw [← hAe]; exact Or.inr h
  have hP : va_P (dC, dI) classes [(h0, .inr (10, [v0, v1, v2, v3, v4, v5, .ref h1, v7, v8, v9, v10, v11, v12, v13])), (h1, .inl (cZ, 8, .inl (fun _ => 0)))] s.heap := hP
  have hl := lv_entry ([.ref h0, .int k, .int k1, .int k2, .int k3]) (n := 7) (Nat.le_of_ble_eq_true rfl)
  rw [lg_entry_eq]
  generalize (lg_sl ([.ref h0, .int k, .int k1, .int k2, .int k3]) ++ List.replicate (7 - (lg_sl ([.ref h0, .int k, .int k1, .int k2, .int k3])).length) Slot.unset).toArray = ls at hl ⊢
  have hl : lv_has ls 7 [(0, .ref h0), (1, .int k), (2, .int k1), (3, .int k2), (4, .int k3)] := hl
  obtain ⟨H, hH⟩ : ∃ H, H = s.heap := ⟨_, rfl⟩
  rw [← hH] at hP
  have hS : va_S A s.heap H [] := by rw [hH]; exact va_S.rf
  refine w_heap hH ?_
  refine lv_aload_n hx hb dX11_token_0 rfl (lv_at hl 0 rfl) ?_
  refine lv_iload_n hx hb dX11_token_1 rfl (lv_at hl 1 rfl) ?_
  have hPc := hP.sub (ws' := [(h0, .inr (10, [v0, v1, v2, v3, v4, v5, .ref h1, v7, v8, v9, v10, v11, v12, v13])), (h1, .inl (cZ, 8, .inl (fun _ => 0)))]) [0, 1] rfl
  have hDc := hD.sub (ws' := [(h0, .inr (10, [v0, v1, v2, v3, v4, v5, .ref h1, v7, v8, v9, v10, v11, v12, v13])), (h1, .inl (cZ, 8, .inl (fun _ => 0)))]) [0, 1] (by decide) rfl
  have hKc := hK.sub (tys' := [(cZ, .boolean)]) [0] rfl
  have hFc := va_free (wc := [(h0, .inr (10, [v0, v1, v2, v3, v4, v5, .ref h1, v7, v8, v9, v10, v11, v12, v13])), (h1, .inl (cZ, 8, .inl (fun _ => 0)))]) hD hS hA [0, 1] rfl
  refine vy_callX (vx_runV (As := [.int k]) (rest := []) ⟨hx, hb, hml, hown, hts⟩ (c_tableAt l hlt dC dI h0 k h1 v0 v1 v2 v3 v4 v5 v7 v8 v9 v10 v11 v12 v13 cZ sa H.size) (cwV 1 hts (goV wd_196 wd_197 wd_195 wd_191 wd_194) rfl rfl rfl (by decide +kernel) ⟨Nat.le_of_ble_eq_true rfl, Nat.le_of_ble_eq_true rfl⟩) ⟨blind6, va_recv hKc hPc (ci := 10) (q0 := 0) rfl rfl, fun U hU hW => ⟨rfl, pre6 hU hW hPc hKc hDc hE (hT.call hS hFc)⟩⟩ rfl rfl hl.1 rfl (lv_room (Nat.le_of_ble_eq_true rfl)) dX11_token_2 ⟨Nat.le_of_ble_eq_true rfl, Nat.le_of_ble_eq_true rfl⟩) hS hFc (fun q _ h => hFc q h) (fun E ce q9 u t H locs ht hvm hw hB hz1 hk1 hS hce hcv hcl => ?_)
  obtain rfl : E = _ := hB
  exact vx_out (fun x hx => (htb x hx).elim) hlocks hce hcv hcl (fun t ht ha => ⟨(), trivial, rfl, hS.F ht⟩) hS.2.2 (Nat.le_of_ble_eq_true rfl) (Nat.le_of_ble_eq_true rfl)
set_option maxHeartbeats 4000000 in
set_option maxRecDepth 100000 in
/-- x_walk -/
theorem c_x_walk (l : Launch) (hlt : l.stackTraces = false) (dC : Nat → ClassId) (dI : Nat → Nat → Nat) (h0 : Nat) (k : Int32) (h1 : Nat) (v0 : Value) (v1 : Value) (v2 : Value) (v3 : Value) (v4 : Value) (v5 : Value) (v7 : Value) (v8 : Value) (v9 : Value) (v10 : Value) (v11 : Value) (v12 : Value) (v13 : Value) (cZ : ClassId) (sa : Nat) (sz : Nat) : vx_Met l yX11_walk (.code yX11_walk cX11_walk 2 (some .int) :: wU) ({ frames := 7, cells := 1, slots := 6, locals := 104 } : Room) (va_Pc [.ref h0, .int k] (fun U => P5 dC dI [(h0, .inr (10, [v0, v1, v2, v3, v4, v5, .ref h1, v7, v8, v9, v10, v11, v12, v13])), (h1, .inl (cZ, 8, .inl (fun _ => 0)))] [(cZ, .boolean)] sz U ∧ Tn (va_A [(h0, .inr (10, [v0, v1, v2, v3, v4, v5, .ref h1, v7, v8, v9, v10, v11, v12, v13])), (h1, .inl (cZ, 8, .inl (fun _ => 0)))] sz) sa U)) (fun _ _ _ _ => False) (vx_X (fun _ : Unit => True) (fun E _ _ => E = "java/lang/IndexOutOfBoundsException") (va_A [(h0, .inr (10, [v0, v1, v2, v3, v4, v5, .ref h1, v7, v8, v9, v10, v11, v12, v13])), (h1, .inl (cZ, 8, .inl (fun _ => 0)))] sz)) 1 6 (va_A [(h0, .inr (10, [v0, v1, v2, v3, v4, v5, .ref h1, v7, v8, v9, v10, v11, v12, v13])), (h1, .inl (cZ, 8, .inl (fun _ => 0)))] sz) := by
  refine vx_ofW (cc := cX11_walk) (maxL := 2) (ret := (some .int)) (by decide) rfl ?_
  intro p e s m args below meth c s₁ B hml htb hv
  obtain ⟨rfl, ⟨hsz, hP, hK, hD0, hE⟩, hT⟩ := hv
  have hx := B.exec
  have hb := B.bytes
  have hr := B.returns
  have hts0 := atoms_spec (ws := (.code yX11_walk cX11_walk 2 (some .int) :: wU)) B.pre
  have hts : ∀ w ∈ wU, w.before _ s = true := fun w h => hts0 w (List.mem_cons_of_mem _ h)
  have hown : s.vm.findClass "SpineTables" = some m.cls := findClass_of_methodNamed B.named
  have hlocks := B.notSynchronized
  subst hsz
  have hD := hD0.self (sz := s.heap.size)
  generalize hAe : va_A [(h0, .inr (10, [v0, v1, v2, v3, v4, v5, .ref h1, v7, v8, v9, v10, v11, v12, v13])), (h1, .inl (cZ, 8, .inl (fun _ => 0)))] s.heap.size = A at hT hD ⊢
  have hA : ∀ q : Nat, s.heap.size ≤ q → A q := fun q h => by rw [← hAe]; exact Or.inr h
  have hP : va_P (dC, dI) classes [(h0, .inr (10, [v0, v1, v2, v3, v4, v5, .ref h1, v7, v8, v9, v10, v11, v12, v13])), (h1, .inl (cZ, 8, .inl (fun _ => 0)))] s.heap := hP
  have hl := lv_entry ([.ref h0, .int k]) (n := 2) (Nat.le_of_ble_eq_true rfl)
  rw [lg_entry_eq]
  generalize (lg_sl ([.ref h0, .int k]) ++ List.replicate (2 - (lg_sl ([.ref h0, .int k])).length) Slot.unset).toArray = ls at hl ⊢
  have hl : lv_has ls 2 [(0, .ref h0), (1, .int k)] := hl
  obtain ⟨H, hH⟩ : ∃ H, H = s.heap := ⟨_, rfl⟩
  rw [← hH] at hP
  have hS : va_S A s.heap H [] := by rw [hH]; exact va_S.rf
  refine w_heap hH ?_
  refine lv_aload_n hx hb dX11_walk_0 rfl (lv_at hl 0 rfl) ?_
  refine lv_iload_n hx hb dX11_walk_1 rfl (lv_at hl 1 rfl) ?_
  have hPc := hP.sub (ws' := [(h0, .inr (10, [v0, v1, v2, v3, v4, v5, .ref h1, v7, v8, v9, v10, v11, v12, v13])), (h1, .inl (cZ, 8, .inl (fun _ => 0)))]) [0, 1] rfl
  have hDc := hD.sub (ws' := [(h0, .inr (10, [v0, v1, v2, v3, v4, v5, .ref h1, v7, v8, v9, v10, v11, v12, v13])), (h1, .inl (cZ, 8, .inl (fun _ => 0)))]) [0, 1] (by decide) rfl
  have hKc := hK.sub (tys' := [(cZ, .boolean)]) [0] rfl
  have hFc := va_free (wc := [(h0, .inr (10, [v0, v1, v2, v3, v4, v5, .ref h1, v7, v8, v9, v10, v11, v12, v13])), (h1, .inl (cZ, 8, .inl (fun _ => 0)))]) hD hS hA [0, 1] rfl
  refine vy_callX (vx_runV (As := [.int k]) (rest := []) ⟨hx, hb, hml, hown, hts⟩ (c_tableAt l hlt dC dI h0 k h1 v0 v1 v2 v3 v4 v5 v7 v8 v9 v10 v11 v12 v13 cZ sa H.size) (cwV 1 hts (goV wd_196 wd_197 wd_195 wd_191 wd_194) rfl rfl rfl (by decide +kernel) ⟨Nat.le_of_ble_eq_true rfl, Nat.le_of_ble_eq_true rfl⟩) ⟨blind6, va_recv hKc hPc (ci := 10) (q0 := 0) rfl rfl, fun U hU hW => ⟨rfl, pre6 hU hW hPc hKc hDc hE (hT.call hS hFc)⟩⟩ rfl rfl hl.1 rfl (lv_room (Nat.le_of_ble_eq_true rfl)) dX11_walk_2 ⟨Nat.le_of_ble_eq_true rfl, Nat.le_of_ble_eq_true rfl⟩) hS hFc (fun q _ h => hFc q h) (fun E ce q9 u t H locs ht hvm hw hB hz1 hk1 hS hce hcv hcl => ?_)
  obtain rfl : E = _ := hB
  exact vx_out (fun x hx => (htb x hx).elim) hlocks hce hcv hcl (fun t ht ha => ⟨(), trivial, rfl, hS.F ht⟩) hS.2.2 (Nat.le_of_ble_eq_true rfl) (Nat.le_of_ble_eq_true rfl)
set_option maxHeartbeats 4000000 in
set_option maxRecDepth 100000 in
/-- x_misfit -/
theorem c_x_misfit (l : Launch) (hlt : l.stackTraces = false) (dC : Nat → ClassId) (dI : Nat → Nat → Nat) (h0 : Nat) (k : Int32) (h1 : Nat) (v0 : Value) (v1 : Value) (v2 : Value) (v3 : Value) (v4 : Value) (v5 : Value) (v7 : Value) (v8 : Value) (v9 : Value) (v10 : Value) (v11 : Value) (v12 : Value) (v13 : Value) (cZ : ClassId) (sa : Nat) (sz : Nat) : vx_Met l yX11_misfit (.code yX11_misfit cX11_misfit 2 (some .int) :: wU) ({ frames := 7, cells := 1, slots := 6, locals := 104 } : Room) (va_Pc [.ref h0, .int k] (fun U => P5 dC dI [(h0, .inr (10, [v0, v1, v2, v3, v4, v5, .ref h1, v7, v8, v9, v10, v11, v12, v13])), (h1, .inl (cZ, 8, .inl (fun _ => 0)))] [(cZ, .boolean)] sz U ∧ Tn (va_A [(h0, .inr (10, [v0, v1, v2, v3, v4, v5, .ref h1, v7, v8, v9, v10, v11, v12, v13])), (h1, .inl (cZ, 8, .inl (fun _ => 0)))] sz) sa U)) (fun _ _ _ _ => False) (vx_X (fun _ : Unit => True) (fun E _ _ => E = "java/lang/IndexOutOfBoundsException") (va_A [(h0, .inr (10, [v0, v1, v2, v3, v4, v5, .ref h1, v7, v8, v9, v10, v11, v12, v13])), (h1, .inl (cZ, 8, .inl (fun _ => 0)))] sz)) 1 6 (va_A [(h0, .inr (10, [v0, v1, v2, v3, v4, v5, .ref h1, v7, v8, v9, v10, v11, v12, v13])), (h1, .inl (cZ, 8, .inl (fun _ => 0)))] sz) := by
  refine vx_ofW (cc := cX11_misfit) (maxL := 2) (ret := (some .int)) (by decide) rfl ?_
  intro p e s m args below meth c s₁ B hml htb hv
  obtain ⟨rfl, ⟨hsz, hP, hK, hD0, hE⟩, hT⟩ := hv
  have hx := B.exec
  have hb := B.bytes
  have hr := B.returns
  have hts0 := atoms_spec (ws := (.code yX11_misfit cX11_misfit 2 (some .int) :: wU)) B.pre
  have hts : ∀ w ∈ wU, w.before _ s = true := fun w h => hts0 w (List.mem_cons_of_mem _ h)
  have hown : s.vm.findClass "SpineTables" = some m.cls := findClass_of_methodNamed B.named
  have hlocks := B.notSynchronized
  subst hsz
  have hD := hD0.self (sz := s.heap.size)
  generalize hAe : va_A [(h0, .inr (10, [v0, v1, v2, v3, v4, v5, .ref h1, v7, v8, v9, v10, v11, v12, v13])), (h1, .inl (cZ, 8, .inl (fun _ => 0)))] s.heap.size = A at hT hD ⊢
  have hA : ∀ q : Nat, s.heap.size ≤ q → A q := fun q h => by rw [← hAe]; exact Or.inr h
  have hP : va_P (dC, dI) classes [(h0, .inr (10, [v0, v1, v2, v3, v4, v5, .ref h1, v7, v8, v9, v10, v11, v12, v13])), (h1, .inl (cZ, 8, .inl (fun _ => 0)))] s.heap := hP
  have hl := lv_entry ([.ref h0, .int k]) (n := 2) (Nat.le_of_ble_eq_true rfl)
  rw [lg_entry_eq]
  generalize (lg_sl ([.ref h0, .int k]) ++ List.replicate (2 - (lg_sl ([.ref h0, .int k])).length) Slot.unset).toArray = ls at hl ⊢
  have hl : lv_has ls 2 [(0, .ref h0), (1, .int k)] := hl
  obtain ⟨H, hH⟩ : ∃ H, H = s.heap := ⟨_, rfl⟩
  rw [← hH] at hP
  have hS : va_S A s.heap H [] := by rw [hH]; exact va_S.rf
  refine w_heap hH ?_
  refine lv_aload_n hx hb dX11_misfit_0 rfl (lv_at hl 0 rfl) ?_
  refine lv_iload_n hx hb dX11_misfit_1 rfl (lv_at hl 1 rfl) ?_
  have hPc := hP.sub (ws' := [(h0, .inr (10, [v0, v1, v2, v3, v4, v5, .ref h1, v7, v8, v9, v10, v11, v12, v13])), (h1, .inl (cZ, 8, .inl (fun _ => 0)))]) [0, 1] rfl
  have hDc := hD.sub (ws' := [(h0, .inr (10, [v0, v1, v2, v3, v4, v5, .ref h1, v7, v8, v9, v10, v11, v12, v13])), (h1, .inl (cZ, 8, .inl (fun _ => 0)))]) [0, 1] (by decide) rfl
  have hKc := hK.sub (tys' := [(cZ, .boolean)]) [0] rfl
  have hFc := va_free (wc := [(h0, .inr (10, [v0, v1, v2, v3, v4, v5, .ref h1, v7, v8, v9, v10, v11, v12, v13])), (h1, .inl (cZ, 8, .inl (fun _ => 0)))]) hD hS hA [0, 1] rfl
  refine vy_callX (vx_runV (As := [.int k]) (rest := []) ⟨hx, hb, hml, hown, hts⟩ (c_tableAt l hlt dC dI h0 k h1 v0 v1 v2 v3 v4 v5 v7 v8 v9 v10 v11 v12 v13 cZ sa H.size) (cwV 1 hts (goV wd_196 wd_197 wd_195 wd_191 wd_194) rfl rfl rfl (by decide +kernel) ⟨Nat.le_of_ble_eq_true rfl, Nat.le_of_ble_eq_true rfl⟩) ⟨blind6, va_recv hKc hPc (ci := 10) (q0 := 0) rfl rfl, fun U hU hW => ⟨rfl, pre6 hU hW hPc hKc hDc hE (hT.call hS hFc)⟩⟩ rfl rfl hl.1 rfl (lv_room (Nat.le_of_ble_eq_true rfl)) dX11_misfit_2 ⟨Nat.le_of_ble_eq_true rfl, Nat.le_of_ble_eq_true rfl⟩) hS hFc (fun q _ h => hFc q h) (fun E ce q9 u t H locs ht hvm hw hB hz1 hk1 hS hce hcv hcl => ?_)
  obtain rfl : E = _ := hB
  exact vx_out (fun x hx => (htb x hx).elim) hlocks hce hcv hcl (fun t ht ha => ⟨(), trivial, rfl, hS.F ht⟩) hS.2.2 (Nat.le_of_ble_eq_true rfl) (Nat.le_of_ble_eq_true rfl)
set_option maxHeartbeats 4000000 in
set_option maxRecDepth 100000 in
/-- x_time -/
theorem c_x_time (l : Launch) (hlt : l.stackTraces = false) (dC : Nat → ClassId) (dI : Nat → Nat → Nat) (h0 : Nat) (k : Int32) (k1 : Int32) (k2 : Int32) (h1 : Nat) (v0 : Value) (v1 : Value) (v2 : Value) (v3 : Value) (v4 : Value) (v5 : Value) (v7 : Value) (v8 : Value) (v9 : Value) (v10 : Value) (v11 : Value) (v12 : Value) (v13 : Value) (cZ : ClassId) (sa : Nat) (sz : Nat) : vx_Met l yX11_time (.code yX11_time cX11_time 5 (some .int) :: wU) ({ frames := 7, cells := 1, slots := 6, locals := 104 } : Room) (va_Pc [.ref h0, .int k, .int k1, .int k2] (fun U => P5 dC dI [(h0, .inr (10, [v0, v1, v2, v3, v4, v5, .ref h1, v7, v8, v9, v10, v11, v12, v13])), (h1, .inl (cZ, 8, .inl (fun _ => 0)))] [(cZ, .boolean)] sz U ∧ Tn (va_A [(h0, .inr (10, [v0, v1, v2, v3, v4, v5, .ref h1, v7, v8, v9, v10, v11, v12, v13])), (h1, .inl (cZ, 8, .inl (fun _ => 0)))] sz) sa U)) (fun _ _ _ _ => False) (vx_X (fun _ : Unit => True) (fun E _ _ => E = "java/lang/IndexOutOfBoundsException") (va_A [(h0, .inr (10, [v0, v1, v2, v3, v4, v5, .ref h1, v7, v8, v9, v10, v11, v12, v13])), (h1, .inl (cZ, 8, .inl (fun _ => 0)))] sz)) 1 6 (va_A [(h0, .inr (10, [v0, v1, v2, v3, v4, v5, .ref h1, v7, v8, v9, v10, v11, v12, v13])), (h1, .inl (cZ, 8, .inl (fun _ => 0)))] sz) := by
  refine vx_ofW (cc := cX11_time) (maxL := 5) (ret := (some .int)) (by decide) rfl ?_
  intro p e s m args below meth c s₁ B hml htb hv
  obtain ⟨rfl, ⟨hsz, hP, hK, hD0, hE⟩, hT⟩ := hv
  have hx := B.exec
  have hb := B.bytes
  have hr := B.returns
  have hts0 := atoms_spec (ws := (.code yX11_time cX11_time 5 (some .int) :: wU)) B.pre
  have hts : ∀ w ∈ wU, w.before _ s = true := fun w h => hts0 w (List.mem_cons_of_mem _ h)
  have hown : s.vm.findClass "SpineTables" = some m.cls := findClass_of_methodNamed B.named
  have hlocks := B.notSynchronized
  subst hsz
  have hD := hD0.self (sz := s.heap.size)
  generalize hAe : va_A [(h0, .inr (10, [v0, v1, v2, v3, v4, v5, .ref h1, v7, v8, v9, v10, v11, v12, v13])), (h1, .inl (cZ, 8, .inl (fun _ => 0)))] s.heap.size = A at hT hD ⊢
  have hA : ∀ q : Nat, s.heap.size ≤ q → A q := fun q h => by rw [← hAe]; exact Or.inr h
  have hP : va_P (dC, dI) classes [(h0, .inr (10, [v0, v1, v2, v3, v4, v5, .ref h1, v7, v8, v9, v10, v11, v12, v13])), (h1, .inl (cZ, 8, .inl (fun _ => 0)))] s.heap := hP
  have hl := lv_entry ([.ref h0, .int k, .int k1, .int k2]) (n := 5) (Nat.le_of_ble_eq_true rfl)
  rw [lg_entry_eq]
  generalize (lg_sl ([.ref h0, .int k, .int k1, .int k2]) ++ List.replicate (5 - (lg_sl ([.ref h0, .int k, .int k1, .int k2])).length) Slot.unset).toArray = ls at hl ⊢
  have hl : lv_has ls 5 [(0, .ref h0), (1, .int k), (2, .int k1), (3, .int k2)] := hl
  obtain ⟨H, hH⟩ : ∃ H, H = s.heap := ⟨_, rfl⟩
  rw [← hH] at hP
  have hS : va_S A s.heap H [] := by rw [hH]; exact va_S.rf
  refine w_heap hH ?_
  refine lv_aload_n hx hb dX11_time_0 rfl (lv_at hl 0 rfl) ?_
  refine lv_iload_n hx hb dX11_time_1 rfl (lv_at hl 1 rfl) ?_
  have hPc := hP.sub (ws' := [(h0, .inr (10, [v0, v1, v2, v3, v4, v5, .ref h1, v7, v8, v9, v10, v11, v12, v13])), (h1, .inl (cZ, 8, .inl (fun _ => 0)))]) [0, 1] rfl
  have hDc := hD.sub (ws' := [(h0, .inr (10, [v0, v1, v2, v3, v4, v5, .ref h1, v7, v8, v9, v10, v11, v12, v13])), (h1, .inl (cZ, 8, .inl (fun _ => 0)))]) [0, 1] (by decide) rfl
  have hKc := hK.sub (tys' := [(cZ, .boolean)]) [0] rfl
  have hFc := va_free (wc := [(h0, .inr (10, [v0, v1, v2, v3, v4, v5, .ref h1, v7, v8, v9, v10, v11, v12, v13])), (h1, .inl (cZ, 8, .inl (fun _ => 0)))]) hD hS hA [0, 1] rfl
  refine vy_callX (vx_runV (As := [.int k]) (rest := []) ⟨hx, hb, hml, hown, hts⟩ (c_tableAt l hlt dC dI h0 k h1 v0 v1 v2 v3 v4 v5 v7 v8 v9 v10 v11 v12 v13 cZ sa H.size) (cwV 1 hts (goV wd_196 wd_197 wd_195 wd_191 wd_194) rfl rfl rfl (by decide +kernel) ⟨Nat.le_of_ble_eq_true rfl, Nat.le_of_ble_eq_true rfl⟩) ⟨blind6, va_recv hKc hPc (ci := 10) (q0 := 0) rfl rfl, fun U hU hW => ⟨rfl, pre6 hU hW hPc hKc hDc hE (hT.call hS hFc)⟩⟩ rfl rfl hl.1 rfl (lv_room (Nat.le_of_ble_eq_true rfl)) dX11_time_2 ⟨Nat.le_of_ble_eq_true rfl, Nat.le_of_ble_eq_true rfl⟩) hS hFc (fun q _ h => hFc q h) (fun E ce q9 u t H locs ht hvm hw hB hz1 hk1 hS hce hcv hcl => ?_)
  obtain rfl : E = _ := hB
  exact vx_out (fun x hx => (htb x hx).elim) hlocks hce hcv hcl (fun t ht ha => ⟨(), trivial, rfl, hS.F ht⟩) hS.2.2 (Nat.le_of_ble_eq_true rfl) (Nat.le_of_ble_eq_true rfl)
set_option maxHeartbeats 4000000 in
set_option maxRecDepth 100000 in
/-- x_length -/
theorem c_x_length (l : Launch) (hlt : l.stackTraces = false) (dC : Nat → ClassId) (dI : Nat → Nat → Nat) (h0 : Nat) (k : Int32) (k1 : Int32) (k2 : Int32) (k3 : Int32) (h1 : Nat) (v0 : Value) (v1 : Value) (v2 : Value) (v3 : Value) (v4 : Value) (v5 : Value) (v7 : Value) (v8 : Value) (v9 : Value) (v10 : Value) (v11 : Value) (v12 : Value) (v13 : Value) (cZ : ClassId) (sa : Nat) (sz : Nat) : vx_Met l yX11_length (.code yX11_length cX11_length 7 (some .int) :: wU) ({ frames := 7, cells := 1, slots := 6, locals := 104 } : Room) (va_Pc [.ref h0, .int k, .int k1, .int k2, .int k3] (fun U => P5 dC dI [(h0, .inr (10, [v0, v1, v2, v3, v4, v5, .ref h1, v7, v8, v9, v10, v11, v12, v13])), (h1, .inl (cZ, 8, .inl (fun _ => 0)))] [(cZ, .boolean)] sz U ∧ Tn (va_A [(h0, .inr (10, [v0, v1, v2, v3, v4, v5, .ref h1, v7, v8, v9, v10, v11, v12, v13])), (h1, .inl (cZ, 8, .inl (fun _ => 0)))] sz) sa U)) (fun _ _ _ _ => False) (vx_X (fun _ : Unit => True) (fun E _ _ => E = "java/lang/IndexOutOfBoundsException") (va_A [(h0, .inr (10, [v0, v1, v2, v3, v4, v5, .ref h1, v7, v8, v9, v10, v11, v12, v13])), (h1, .inl (cZ, 8, .inl (fun _ => 0)))] sz)) 1 6 (va_A [(h0, .inr (10, [v0, v1, v2, v3, v4, v5, .ref h1, v7, v8, v9, v10, v11, v12, v13])), (h1, .inl (cZ, 8, .inl (fun _ => 0)))] sz) := by
  refine vx_ofW (cc := cX11_length) (maxL := 7) (ret := (some .int)) (by decide) rfl ?_
  intro p e s m args below meth c s₁ B hml htb hv
  obtain ⟨rfl, ⟨hsz, hP, hK, hD0, hE⟩, hT⟩ := hv
  have hx := B.exec
  have hb := B.bytes
  have hr := B.returns
  have hts0 := atoms_spec (ws := (.code yX11_length cX11_length 7 (some .int) :: wU)) B.pre
  have hts : ∀ w ∈ wU, w.before _ s = true := fun w h => hts0 w (List.mem_cons_of_mem _ h)
  have hown : s.vm.findClass "SpineTables" = some m.cls := findClass_of_methodNamed B.named
  have hlocks := B.notSynchronized
  subst hsz
  have hD := hD0.self (sz := s.heap.size)
  generalize hAe : va_A [(h0, .inr (10, [v0, v1, v2, v3, v4, v5, .ref h1, v7, v8, v9, v10, v11, v12, v13])), (h1, .inl (cZ, 8, .inl (fun _ => 0)))] s.heap.size = A at hT hD ⊢
  have hA : ∀ q : Nat, s.heap.size ≤ q → A q := fun q h => by rw [← hAe]; exact Or.inr h
  have hP : va_P (dC, dI) classes [(h0, .inr (10, [v0, v1, v2, v3, v4, v5, .ref h1, v7, v8, v9, v10, v11, v12, v13])), (h1, .inl (cZ, 8, .inl (fun _ => 0)))] s.heap := hP
  have hl := lv_entry ([.ref h0, .int k, .int k1, .int k2, .int k3]) (n := 7) (Nat.le_of_ble_eq_true rfl)
  rw [lg_entry_eq]
  generalize (lg_sl ([.ref h0, .int k, .int k1, .int k2, .int k3]) ++ List.replicate (7 - (lg_sl ([.ref h0, .int k, .int k1, .int k2, .int k3])).length) Slot.unset).toArray = ls at hl ⊢
  have hl : lv_has ls 7 [(0, .ref h0), (1, .int k), (2, .int k1), (3, .int k2), (4, .int k3)] := hl
  obtain ⟨H, hH⟩ : ∃ H, H = s.heap := ⟨_, rfl⟩
  rw [← hH] at hP
  have hS : va_S A s.heap H [] := by rw [hH]; exact va_S.rf
  refine w_heap hH ?_
  refine lv_aload_n hx hb dX11_length_0 rfl (lv_at hl 0 rfl) ?_
  refine lv_iload_n hx hb dX11_length_1 rfl (lv_at hl 1 rfl) ?_
  have hPc := hP.sub (ws' := [(h0, .inr (10, [v0, v1, v2, v3, v4, v5, .ref h1, v7, v8, v9, v10, v11, v12, v13])), (h1, .inl (cZ, 8, .inl (fun _ => 0)))]) [0, 1] rfl
  have hDc := hD.sub (ws' := [(h0, .inr (10, [v0, v1, v2, v3, v4, v5, .ref h1, v7, v8, v9, v10, v11, v12, v13])), (h1, .inl (cZ, 8, .inl (fun _ => 0)))]) [0, 1] (by decide) rfl
  have hKc := hK.sub (tys' := [(cZ, .boolean)]) [0] rfl
  have hFc := va_free (wc := [(h0, .inr (10, [v0, v1, v2, v3, v4, v5, .ref h1, v7, v8, v9, v10, v11, v12, v13])), (h1, .inl (cZ, 8, .inl (fun _ => 0)))]) hD hS hA [0, 1] rfl
  refine vy_callX (vx_runV (As := [.int k]) (rest := []) ⟨hx, hb, hml, hown, hts⟩ (c_tableAt l hlt dC dI h0 k h1 v0 v1 v2 v3 v4 v5 v7 v8 v9 v10 v11 v12 v13 cZ sa H.size) (cwV 1 hts (goV wd_196 wd_197 wd_195 wd_191 wd_194) rfl rfl rfl (by decide +kernel) ⟨Nat.le_of_ble_eq_true rfl, Nat.le_of_ble_eq_true rfl⟩) ⟨blind6, va_recv hKc hPc (ci := 10) (q0 := 0) rfl rfl, fun U hU hW => ⟨rfl, pre6 hU hW hPc hKc hDc hE (hT.call hS hFc)⟩⟩ rfl rfl hl.1 rfl (lv_room (Nat.le_of_ble_eq_true rfl)) dX11_length_2 ⟨Nat.le_of_ble_eq_true rfl, Nat.le_of_ble_eq_true rfl⟩) hS hFc (fun q _ h => hFc q h) (fun E ce q9 u t H locs ht hvm hw hB hz1 hk1 hS hce hcv hcl => ?_)
  obtain rfl : E = _ := hB
  exact vx_out (fun x hx => (htb x hx).elim) hlocks hce hcv hcl (fun t ht ha => ⟨(), trivial, rfl, hS.F ht⟩) hS.2.2 (Nat.le_of_ble_eq_true rfl) (Nat.le_of_ble_eq_true rfl)
set_option maxHeartbeats 4000000 in
set_option maxRecDepth 100000 in
/-- x_bars -/
theorem c_x_bars (l : Launch) (hlt : l.stackTraces = false) (dC : Nat → ClassId) (dI : Nat → Nat → Nat) (h0 : Nat) (k : Int32) (h1 : Nat) (v0 : Value) (v1 : Value) (v2 : Value) (v3 : Value) (v4 : Value) (v5 : Value) (v7 : Value) (v8 : Value) (v9 : Value) (v10 : Value) (v11 : Value) (v12 : Value) (v13 : Value) (cZ : ClassId) (sa : Nat) (sz : Nat) : vx_Met l yX11_bars (.code yX11_bars cX11_bars 3 (some .int) :: wU) ({ frames := 7, cells := 1, slots := 6, locals := 104 } : Room) (va_Pc [.ref h0, .int k] (fun U => P5 dC dI [(h0, .inr (10, [v0, v1, v2, v3, v4, v5, .ref h1, v7, v8, v9, v10, v11, v12, v13])), (h1, .inl (cZ, 8, .inl (fun _ => 0)))] [(cZ, .boolean)] sz U ∧ Tn (va_A [(h0, .inr (10, [v0, v1, v2, v3, v4, v5, .ref h1, v7, v8, v9, v10, v11, v12, v13])), (h1, .inl (cZ, 8, .inl (fun _ => 0)))] sz) sa U)) (fun _ _ _ _ => False) (vx_X (fun _ : Unit => True) (fun E _ _ => E = "java/lang/IndexOutOfBoundsException") (va_A [(h0, .inr (10, [v0, v1, v2, v3, v4, v5, .ref h1, v7, v8, v9, v10, v11, v12, v13])), (h1, .inl (cZ, 8, .inl (fun _ => 0)))] sz)) 1 6 (va_A [(h0, .inr (10, [v0, v1, v2, v3, v4, v5, .ref h1, v7, v8, v9, v10, v11, v12, v13])), (h1, .inl (cZ, 8, .inl (fun _ => 0)))] sz) := by
  refine vx_ofW (cc := cX11_bars) (maxL := 3) (ret := (some .int)) (by decide) rfl ?_
  intro p e s m args below meth c s₁ B hml htb hv
  obtain ⟨rfl, ⟨hsz, hP, hK, hD0, hE⟩, hT⟩ := hv
  have hx := B.exec
  have hb := B.bytes
  have hr := B.returns
  have hts0 := atoms_spec (ws := (.code yX11_bars cX11_bars 3 (some .int) :: wU)) B.pre
  have hts : ∀ w ∈ wU, w.before _ s = true := fun w h => hts0 w (List.mem_cons_of_mem _ h)
  have hown : s.vm.findClass "SpineTables" = some m.cls := findClass_of_methodNamed B.named
  have hlocks := B.notSynchronized
  subst hsz
  have hD := hD0.self (sz := s.heap.size)
  generalize hAe : va_A [(h0, .inr (10, [v0, v1, v2, v3, v4, v5, .ref h1, v7, v8, v9, v10, v11, v12, v13])), (h1, .inl (cZ, 8, .inl (fun _ => 0)))] s.heap.size = A at hT hD ⊢
  have hA : ∀ q : Nat, s.heap.size ≤ q → A q := fun q h => by rw [← hAe]; exact Or.inr h
  have hP : va_P (dC, dI) classes [(h0, .inr (10, [v0, v1, v2, v3, v4, v5, .ref h1, v7, v8, v9, v10, v11, v12, v13])), (h1, .inl (cZ, 8, .inl (fun _ => 0)))] s.heap := hP
  have hl := lv_entry ([.ref h0, .int k]) (n := 3) (Nat.le_of_ble_eq_true rfl)
  rw [lg_entry_eq]
  generalize (lg_sl ([.ref h0, .int k]) ++ List.replicate (3 - (lg_sl ([.ref h0, .int k])).length) Slot.unset).toArray = ls at hl ⊢
  have hl : lv_has ls 3 [(0, .ref h0), (1, .int k)] := hl
  obtain ⟨H, hH⟩ : ∃ H, H = s.heap := ⟨_, rfl⟩
  rw [← hH] at hP
  have hS : va_S A s.heap H [] := by rw [hH]; exact va_S.rf
  refine w_heap hH ?_
  refine lv_aload_n hx hb dX11_bars_0 rfl (lv_at hl 0 rfl) ?_
  refine lv_iload_n hx hb dX11_bars_1 rfl (lv_at hl 1 rfl) ?_
  have hPc := hP.sub (ws' := [(h0, .inr (10, [v0, v1, v2, v3, v4, v5, .ref h1, v7, v8, v9, v10, v11, v12, v13])), (h1, .inl (cZ, 8, .inl (fun _ => 0)))]) [0, 1] rfl
  have hDc := hD.sub (ws' := [(h0, .inr (10, [v0, v1, v2, v3, v4, v5, .ref h1, v7, v8, v9, v10, v11, v12, v13])), (h1, .inl (cZ, 8, .inl (fun _ => 0)))]) [0, 1] (by decide) rfl
  have hKc := hK.sub (tys' := [(cZ, .boolean)]) [0] rfl
  have hFc := va_free (wc := [(h0, .inr (10, [v0, v1, v2, v3, v4, v5, .ref h1, v7, v8, v9, v10, v11, v12, v13])), (h1, .inl (cZ, 8, .inl (fun _ => 0)))]) hD hS hA [0, 1] rfl
  refine vy_callX (vx_runV (As := [.int k]) (rest := []) ⟨hx, hb, hml, hown, hts⟩ (c_tableAt l hlt dC dI h0 k h1 v0 v1 v2 v3 v4 v5 v7 v8 v9 v10 v11 v12 v13 cZ sa H.size) (cwV 1 hts (goV wd_196 wd_197 wd_195 wd_191 wd_194) rfl rfl rfl (by decide +kernel) ⟨Nat.le_of_ble_eq_true rfl, Nat.le_of_ble_eq_true rfl⟩) ⟨blind6, va_recv hKc hPc (ci := 10) (q0 := 0) rfl rfl, fun U hU hW => ⟨rfl, pre6 hU hW hPc hKc hDc hE (hT.call hS hFc)⟩⟩ rfl rfl hl.1 rfl (lv_room (Nat.le_of_ble_eq_true rfl)) dX11_bars_2 ⟨Nat.le_of_ble_eq_true rfl, Nat.le_of_ble_eq_true rfl⟩) hS hFc (fun q _ h => hFc q h) (fun E ce q9 u t H locs ht hvm hw hB hz1 hk1 hS hce hcv hcl => ?_)
  obtain rfl : E = _ := hB
  exact vx_out (fun x hx => (htb x hx).elim) hlocks hce hcv hcl (fun t ht ha => ⟨(), trivial, rfl, hS.F ht⟩) hS.2.2 (Nat.le_of_ble_eq_true rfl) (Nat.le_of_ble_eq_true rfl)
set_option maxHeartbeats 4000000 in
set_option maxRecDepth 100000 in
/-- x_extract -/
theorem c_x_extract (l : Launch) (hlt : l.stackTraces = false) (dC : Nat → ClassId) (dI : Nat → Nat → Nat) (h0 : Nat) (k : Int32) (h1 : Nat) (v0 : Value) (v1 : Value) (v2 : Value) (v3 : Value) (v4 : Value) (v5 : Value) (v7 : Value) (v8 : Value) (v9 : Value) (v10 : Value) (v11 : Value) (v12 : Value) (v13 : Value) (cZ : ClassId) (sa : Nat) (sz : Nat) : vx_Met l yX11_extract (.code yX11_extract cX11_extract 7 (some .int) :: wU) ({ frames := 7, cells := 1, slots := 6, locals := 104 } : Room) (va_Pc [.ref h0, .int k] (fun U => P5 dC dI [(h0, .inr (10, [v0, v1, v2, v3, v4, v5, .ref h1, v7, v8, v9, v10, v11, v12, v13])), (h1, .inl (cZ, 8, .inl (fun _ => 0)))] [(cZ, .boolean)] sz U ∧ Tn (va_A [(h0, .inr (10, [v0, v1, v2, v3, v4, v5, .ref h1, v7, v8, v9, v10, v11, v12, v13])), (h1, .inl (cZ, 8, .inl (fun _ => 0)))] sz) sa U)) (fun _ _ _ _ => False) (vx_X (fun _ : Unit => True) (fun E _ _ => E = "java/lang/IndexOutOfBoundsException") (va_A [(h0, .inr (10, [v0, v1, v2, v3, v4, v5, .ref h1, v7, v8, v9, v10, v11, v12, v13])), (h1, .inl (cZ, 8, .inl (fun _ => 0)))] sz)) 1 6 (va_A [(h0, .inr (10, [v0, v1, v2, v3, v4, v5, .ref h1, v7, v8, v9, v10, v11, v12, v13])), (h1, .inl (cZ, 8, .inl (fun _ => 0)))] sz) := by
  refine vx_ofW (cc := cX11_extract) (maxL := 7) (ret := (some .int)) (by decide) rfl ?_
  intro p e s m args below meth c s₁ B hml htb hv
  obtain ⟨rfl, ⟨hsz, hP, hK, hD0, hE⟩, hT⟩ := hv
  have hx := B.exec
  have hb := B.bytes
  have hr := B.returns
  have hts0 := atoms_spec (ws := (.code yX11_extract cX11_extract 7 (some .int) :: wU)) B.pre
  have hts : ∀ w ∈ wU, w.before _ s = true := fun w h => hts0 w (List.mem_cons_of_mem _ h)
  have hown : s.vm.findClass "SpineTables" = some m.cls := findClass_of_methodNamed B.named
  have hlocks := B.notSynchronized
  subst hsz
  have hD := hD0.self (sz := s.heap.size)
  generalize hAe : va_A [(h0, .inr (10, [v0, v1, v2, v3, v4, v5, .ref h1, v7, v8, v9, v10, v11, v12, v13])), (h1, .inl (cZ, 8, .inl (fun _ => 0)))] s.heap.size = A at hT hD ⊢
  have hA : ∀ q : Nat, s.heap.size ≤ q → A q := fun q h => by rw [← hAe]; exact Or.inr h
  have hP : va_P (dC, dI) classes [(h0, .inr (10, [v0, v1, v2, v3, v4, v5, .ref h1, v7, v8, v9, v10, v11, v12, v13])), (h1, .inl (cZ, 8, .inl (fun _ => 0)))] s.heap := hP
  have hl := lv_entry ([.ref h0, .int k]) (n := 7) (Nat.le_of_ble_eq_true rfl)
  rw [lg_entry_eq]
  generalize (lg_sl ([.ref h0, .int k]) ++ List.replicate (7 - (lg_sl ([.ref h0, .int k])).length) Slot.unset).toArray = ls at hl ⊢
  have hl : lv_has ls 7 [(0, .ref h0), (1, .int k)] := hl
  obtain ⟨H, hH⟩ : ∃ H, H = s.heap := ⟨_, rfl⟩
  rw [← hH] at hP
  have hS : va_S A s.heap H [] := by rw [hH]; exact va_S.rf
  refine w_heap hH ?_
  refine lv_aload_n hx hb dX11_extract_0 rfl (lv_at hl 0 rfl) ?_
  refine lv_iload_n hx hb dX11_extract_1 rfl (lv_at hl 1 rfl) ?_
  have hPc := hP.sub (ws' := [(h0, .inr (10, [v0, v1, v2, v3, v4, v5, .ref h1, v7, v8, v9, v10, v11, v12, v13])), (h1, .inl (cZ, 8, .inl (fun _ => 0)))]) [0, 1] rfl
  have hDc := hD.sub (ws' := [(h0, .inr (10, [v0, v1, v2, v3, v4, v5, .ref h1, v7, v8, v9, v10, v11, v12, v13])), (h1, .inl (cZ, 8, .inl (fun _ => 0)))]) [0, 1] (by decide) rfl
  have hKc := hK.sub (tys' := [(cZ, .boolean)]) [0] rfl
  have hFc := va_free (wc := [(h0, .inr (10, [v0, v1, v2, v3, v4, v5, .ref h1, v7, v8, v9, v10, v11, v12, v13])), (h1, .inl (cZ, 8, .inl (fun _ => 0)))]) hD hS hA [0, 1] rfl
  refine vy_callX (vx_runV (As := [.int k]) (rest := []) ⟨hx, hb, hml, hown, hts⟩ (c_tableAt l hlt dC dI h0 k h1 v0 v1 v2 v3 v4 v5 v7 v8 v9 v10 v11 v12 v13 cZ sa H.size) (cwV 1 hts (goV wd_196 wd_197 wd_195 wd_191 wd_194) rfl rfl rfl (by decide +kernel) ⟨Nat.le_of_ble_eq_true rfl, Nat.le_of_ble_eq_true rfl⟩) ⟨blind6, va_recv hKc hPc (ci := 10) (q0 := 0) rfl rfl, fun U hU hW => ⟨rfl, pre6 hU hW hPc hKc hDc hE (hT.call hS hFc)⟩⟩ rfl rfl hl.1 rfl (lv_room (Nat.le_of_ble_eq_true rfl)) dX11_extract_2 ⟨Nat.le_of_ble_eq_true rfl, Nat.le_of_ble_eq_true rfl⟩) hS hFc (fun q _ h => hFc q h) (fun E ce q9 u t H locs ht hvm hw hB hz1 hk1 hS hce hcv hcl => ?_)
  obtain rfl : E = _ := hB
  exact vx_out (fun x hx => (htb x hx).elim) hlocks hce hcv hcl (fun t ht ha => ⟨(), trivial, rfl, hS.F ht⟩) hS.2.2 (Nat.le_of_ble_eq_true rfl) (Nat.le_of_ble_eq_true rfl)
set_option maxHeartbeats 4000000 in
set_option maxRecDepth 100000 in
/-- x_assemble -/
theorem c_x_assemble (l : Launch) (hlt : l.stackTraces = false) (dC : Nat → ClassId) (dI : Nat → Nat → Nat) (h0 : Nat) (k : Int32) (k1 : Int32) (h1 : Nat) (v0 : Value) (v1 : Value) (v2 : Value) (v3 : Value) (v4 : Value) (v5 : Value) (v7 : Value) (v8 : Value) (v9 : Value) (v10 : Value) (v11 : Value) (v12 : Value) (v13 : Value) (cZ : ClassId) (sa : Nat) (sz : Nat) : vx_Met l yX11_assemble (.code yX11_assemble cX11_assemble 7 (some .int) :: wU) ({ frames := 7, cells := 1, slots := 6, locals := 104 } : Room) (va_Pc [.ref h0, .int k, .int k1] (fun U => P5 dC dI [(h0, .inr (10, [v0, v1, v2, v3, v4, v5, .ref h1, v7, v8, v9, v10, v11, v12, v13])), (h1, .inl (cZ, 8, .inl (fun _ => 0)))] [(cZ, .boolean)] sz U ∧ Tn (va_A [(h0, .inr (10, [v0, v1, v2, v3, v4, v5, .ref h1, v7, v8, v9, v10, v11, v12, v13])), (h1, .inl (cZ, 8, .inl (fun _ => 0)))] sz) sa U)) (fun _ _ _ _ => False) (vx_X (fun _ : Unit => True) (fun E _ _ => E = "java/lang/IndexOutOfBoundsException") (va_A [(h0, .inr (10, [v0, v1, v2, v3, v4, v5, .ref h1, v7, v8, v9, v10, v11, v12, v13])), (h1, .inl (cZ, 8, .inl (fun _ => 0)))] sz)) 1 6 (va_A [(h0, .inr (10, [v0, v1, v2, v3, v4, v5, .ref h1, v7, v8, v9, v10, v11, v12, v13])), (h1, .inl (cZ, 8, .inl (fun _ => 0)))] sz) := by
  refine vx_ofW (cc := cX11_assemble) (maxL := 7) (ret := (some .int)) (by decide) rfl ?_
  intro p e s m args below meth c s₁ B hml htb hv
  obtain ⟨rfl, ⟨hsz, hP, hK, hD0, hE⟩, hT⟩ := hv
  have hx := B.exec
  have hb := B.bytes
  have hr := B.returns
  have hts0 := atoms_spec (ws := (.code yX11_assemble cX11_assemble 7 (some .int) :: wU)) B.pre
  have hts : ∀ w ∈ wU, w.before _ s = true := fun w h => hts0 w (List.mem_cons_of_mem _ h)
  have hown : s.vm.findClass "SpineTables" = some m.cls := findClass_of_methodNamed B.named
  have hlocks := B.notSynchronized
  subst hsz
  have hD := hD0.self (sz := s.heap.size)
  generalize hAe : va_A [(h0, .inr (10, [v0, v1, v2, v3, v4, v5, .ref h1, v7, v8, v9, v10, v11, v12, v13])), (h1, .inl (cZ, 8, .inl (fun _ => 0)))] s.heap.size = A at hT hD ⊢
  have hA : ∀ q : Nat, s.heap.size ≤ q → A q := fun q h => by rw [← hAe]; exact Or.inr h
  have hP : va_P (dC, dI) classes [(h0, .inr (10, [v0, v1, v2, v3, v4, v5, .ref h1, v7, v8, v9, v10, v11, v12, v13])), (h1, .inl (cZ, 8, .inl (fun _ => 0)))] s.heap := hP
  have hl := lv_entry ([.ref h0, .int k, .int k1]) (n := 7) (Nat.le_of_ble_eq_true rfl)
  rw [lg_entry_eq]
  generalize (lg_sl ([.ref h0, .int k, .int k1]) ++ List.replicate (7 - (lg_sl ([.ref h0, .int k, .int k1])).length) Slot.unset).toArray = ls at hl ⊢
  have hl : lv_has ls 7 [(0, .ref h0), (1, .int k), (2, .int k1)] := hl
  obtain ⟨H, hH⟩ : ∃ H, H = s.heap := ⟨_, rfl⟩
  rw [← hH] at hP
  have hS : va_S A s.heap H [] := by rw [hH]; exact va_S.rf
  refine w_heap hH ?_
  refine lv_aload_n hx hb dX11_assemble_0 rfl (lv_at hl 0 rfl) ?_
  refine lv_iload_n hx hb dX11_assemble_1 rfl (lv_at hl 1 rfl) ?_
  have hPc := hP.sub (ws' := [(h0, .inr (10, [v0, v1, v2, v3, v4, v5, .ref h1, v7, v8, v9, v10, v11, v12, v13])), (h1, .inl (cZ, 8, .inl (fun _ => 0)))]) [0, 1] rfl
  have hDc := hD.sub (ws' := [(h0, .inr (10, [v0, v1, v2, v3, v4, v5, .ref h1, v7, v8, v9, v10, v11, v12, v13])), (h1, .inl (cZ, 8, .inl (fun _ => 0)))]) [0, 1] (by decide) rfl
  have hKc := hK.sub (tys' := [(cZ, .boolean)]) [0] rfl
  have hFc := va_free (wc := [(h0, .inr (10, [v0, v1, v2, v3, v4, v5, .ref h1, v7, v8, v9, v10, v11, v12, v13])), (h1, .inl (cZ, 8, .inl (fun _ => 0)))]) hD hS hA [0, 1] rfl
  refine vy_callX (vx_runV (As := [.int k]) (rest := []) ⟨hx, hb, hml, hown, hts⟩ (c_tableAt l hlt dC dI h0 k h1 v0 v1 v2 v3 v4 v5 v7 v8 v9 v10 v11 v12 v13 cZ sa H.size) (cwV 1 hts (goV wd_196 wd_197 wd_195 wd_191 wd_194) rfl rfl rfl (by decide +kernel) ⟨Nat.le_of_ble_eq_true rfl, Nat.le_of_ble_eq_true rfl⟩) ⟨blind6, va_recv hKc hPc (ci := 10) (q0 := 0) rfl rfl, fun U hU hW => ⟨rfl, pre6 hU hW hPc hKc hDc hE (hT.call hS hFc)⟩⟩ rfl rfl hl.1 rfl (lv_room (Nat.le_of_ble_eq_true rfl)) dX11_assemble_2 ⟨Nat.le_of_ble_eq_true rfl, Nat.le_of_ble_eq_true rfl⟩) hS hFc (fun q _ h => hFc q h) (fun E ce q9 u t H locs ht hvm hw hB hz1 hk1 hS hce hcv hcl => ?_)
  obtain rfl : E = _ := hB
  exact vx_out (fun x hx => (htb x hx).elim) hlocks hce hcv hcl (fun t ht ha => ⟨(), trivial, rfl, hS.F ht⟩) hS.2.2 (Nat.le_of_ble_eq_true rfl) (Nat.le_of_ble_eq_true rfl)
set_option maxHeartbeats 4000000 in
set_option maxRecDepth 100000 in
/-- x_same -/
theorem c_x_same (l : Launch) (hlt : l.stackTraces = false) (dC : Nat → ClassId) (dI : Nat → Nat → Nat) (h0 : Nat) (k : Int32) (k1 : Int32) (h1 : Nat) (v0 : Value) (v1 : Value) (v2 : Value) (v3 : Value) (v4 : Value) (v5 : Value) (v7 : Value) (v8 : Value) (v9 : Value) (v10 : Value) (v11 : Value) (v12 : Value) (v13 : Value) (cZ : ClassId) (sa : Nat) (sz : Nat) : vx_Met l yX11_same (.code yX11_same cX11_same 5 (some .boolean) :: wU) ({ frames := 7, cells := 1, slots := 6, locals := 104 } : Room) (va_Pc [.ref h0, .int k, .int k1] (fun U => P5 dC dI [(h0, .inr (10, [v0, v1, v2, v3, v4, v5, .ref h1, v7, v8, v9, v10, v11, v12, v13])), (h1, .inl (cZ, 8, .inl (fun _ => 0)))] [(cZ, .boolean)] sz U ∧ Tn (va_A [(h0, .inr (10, [v0, v1, v2, v3, v4, v5, .ref h1, v7, v8, v9, v10, v11, v12, v13])), (h1, .inl (cZ, 8, .inl (fun _ => 0)))] sz) sa U)) (fun _ _ _ _ => False) (vx_X (fun _ : Unit => True) (fun E _ _ => E = "java/lang/IndexOutOfBoundsException") (va_A [(h0, .inr (10, [v0, v1, v2, v3, v4, v5, .ref h1, v7, v8, v9, v10, v11, v12, v13])), (h1, .inl (cZ, 8, .inl (fun _ => 0)))] sz)) 1 6 (va_A [(h0, .inr (10, [v0, v1, v2, v3, v4, v5, .ref h1, v7, v8, v9, v10, v11, v12, v13])), (h1, .inl (cZ, 8, .inl (fun _ => 0)))] sz) := by
  refine vx_ofW (cc := cX11_same) (maxL := 5) (ret := (some .boolean)) (by decide) rfl ?_
  intro p e s m args below meth c s₁ B hml htb hv
  obtain ⟨rfl, ⟨hsz, hP, hK, hD0, hE⟩, hT⟩ := hv
  have hx := B.exec
  have hb := B.bytes
  have hr := B.returns
  have hts0 := atoms_spec (ws := (.code yX11_same cX11_same 5 (some .boolean) :: wU)) B.pre
  have hts : ∀ w ∈ wU, w.before _ s = true := fun w h => hts0 w (List.mem_cons_of_mem _ h)
  have hown : s.vm.findClass "SpineTables" = some m.cls := findClass_of_methodNamed B.named
  have hlocks := B.notSynchronized
  subst hsz
  have hD := hD0.self (sz := s.heap.size)
  generalize hAe : va_A [(h0, .inr (10, [v0, v1, v2, v3, v4, v5, .ref h1, v7, v8, v9, v10, v11, v12, v13])), (h1, .inl (cZ, 8, .inl (fun _ => 0)))] s.heap.size = A at hT hD ⊢
  have hA : ∀ q : Nat, s.heap.size ≤ q → A q := fun q h => by rw [← hAe]; exact Or.inr h
  have hP : va_P (dC, dI) classes [(h0, .inr (10, [v0, v1, v2, v3, v4, v5, .ref h1, v7, v8, v9, v10, v11, v12, v13])), (h1, .inl (cZ, 8, .inl (fun _ => 0)))] s.heap := hP
  have hl := lv_entry ([.ref h0, .int k, .int k1]) (n := 5) (Nat.le_of_ble_eq_true rfl)
  rw [lg_entry_eq]
  generalize (lg_sl ([.ref h0, .int k, .int k1]) ++ List.replicate (5 - (lg_sl ([.ref h0, .int k, .int k1])).length) Slot.unset).toArray = ls at hl ⊢
  have hl : lv_has ls 5 [(0, .ref h0), (1, .int k), (2, .int k1)] := hl
  obtain ⟨H, hH⟩ : ∃ H, H = s.heap := ⟨_, rfl⟩
  rw [← hH] at hP
  have hS : va_S A s.heap H [] := by rw [hH]; exact va_S.rf
  refine w_heap hH ?_
  refine lv_aload_n hx hb dX11_same_0 rfl (lv_at hl 0 rfl) ?_
  refine lv_iload_n hx hb dX11_same_1 rfl (lv_at hl 1 rfl) ?_
  have hPc := hP.sub (ws' := [(h0, .inr (10, [v0, v1, v2, v3, v4, v5, .ref h1, v7, v8, v9, v10, v11, v12, v13])), (h1, .inl (cZ, 8, .inl (fun _ => 0)))]) [0, 1] rfl
  have hDc := hD.sub (ws' := [(h0, .inr (10, [v0, v1, v2, v3, v4, v5, .ref h1, v7, v8, v9, v10, v11, v12, v13])), (h1, .inl (cZ, 8, .inl (fun _ => 0)))]) [0, 1] (by decide) rfl
  have hKc := hK.sub (tys' := [(cZ, .boolean)]) [0] rfl
  have hFc := va_free (wc := [(h0, .inr (10, [v0, v1, v2, v3, v4, v5, .ref h1, v7, v8, v9, v10, v11, v12, v13])), (h1, .inl (cZ, 8, .inl (fun _ => 0)))]) hD hS hA [0, 1] rfl
  refine vy_callX (vx_runV (As := [.int k]) (rest := []) ⟨hx, hb, hml, hown, hts⟩ (c_tableAt l hlt dC dI h0 k h1 v0 v1 v2 v3 v4 v5 v7 v8 v9 v10 v11 v12 v13 cZ sa H.size) (cwV 1 hts (goV wd_196 wd_197 wd_195 wd_191 wd_194) rfl rfl rfl (by decide +kernel) ⟨Nat.le_of_ble_eq_true rfl, Nat.le_of_ble_eq_true rfl⟩) ⟨blind6, va_recv hKc hPc (ci := 10) (q0 := 0) rfl rfl, fun U hU hW => ⟨rfl, pre6 hU hW hPc hKc hDc hE (hT.call hS hFc)⟩⟩ rfl rfl hl.1 rfl (lv_room (Nat.le_of_ble_eq_true rfl)) dX11_same_2 ⟨Nat.le_of_ble_eq_true rfl, Nat.le_of_ble_eq_true rfl⟩) hS hFc (fun q _ h => hFc q h) (fun E ce q9 u t H locs ht hvm hw hB hz1 hk1 hS hce hcv hcl => ?_)
  obtain rfl : E = _ := hB
  exact vx_out (fun x hx => (htb x hx).elim) hlocks hce hcv hcl (fun t ht ha => ⟨(), trivial, rfl, hS.F ht⟩) hS.2.2 (Nat.le_of_ble_eq_true rfl) (Nat.le_of_ble_eq_true rfl)
set_option maxHeartbeats 4000000 in
set_option maxRecDepth 100000 in
/-- x_write -/
theorem c_x_write (l : Launch) (hlt : l.stackTraces = false) (dC : Nat → ClassId) (dI : Nat → Nat → Nat) (h0 : Nat) (k : Int32) (h1 : Nat) (v0 : Value) (v1 : Value) (v2 : Value) (v3 : Value) (v4 : Value) (v5 : Value) (v7 : Value) (v8 : Value) (v9 : Value) (v10 : Value) (v11 : Value) (v12 : Value) (v13 : Value) (cZ : ClassId) (sa : Nat) (sz : Nat) : vx_Met l yX11_write (.code yX11_write cX11_write 3 (some .int) :: wU) ({ frames := 7, cells := 1, slots := 6, locals := 104 } : Room) (va_Pc [.ref h0, .int k] (fun U => P5 dC dI [(h0, .inr (10, [v0, v1, v2, v3, v4, v5, .ref h1, v7, v8, v9, v10, v11, v12, v13])), (h1, .inl (cZ, 8, .inl (fun _ => 0)))] [(cZ, .boolean)] sz U ∧ Tn (va_A [(h0, .inr (10, [v0, v1, v2, v3, v4, v5, .ref h1, v7, v8, v9, v10, v11, v12, v13])), (h1, .inl (cZ, 8, .inl (fun _ => 0)))] sz) sa U)) (fun _ _ _ _ => False) (vx_X (fun _ : Unit => True) (fun E _ _ => E = "java/lang/IndexOutOfBoundsException") (va_A [(h0, .inr (10, [v0, v1, v2, v3, v4, v5, .ref h1, v7, v8, v9, v10, v11, v12, v13])), (h1, .inl (cZ, 8, .inl (fun _ => 0)))] sz)) 1 6 (va_A [(h0, .inr (10, [v0, v1, v2, v3, v4, v5, .ref h1, v7, v8, v9, v10, v11, v12, v13])), (h1, .inl (cZ, 8, .inl (fun _ => 0)))] sz) := by
  refine vx_ofW (cc := cX11_write) (maxL := 3) (ret := (some .int)) (by decide) rfl ?_
  intro p e s m args below meth c s₁ B hml htb hv
  obtain ⟨rfl, ⟨hsz, hP, hK, hD0, hE⟩, hT⟩ := hv
  have hx := B.exec
  have hb := B.bytes
  have hr := B.returns
  have hts0 := atoms_spec (ws := (.code yX11_write cX11_write 3 (some .int) :: wU)) B.pre
  have hts : ∀ w ∈ wU, w.before _ s = true := fun w h => hts0 w (List.mem_cons_of_mem _ h)
  have hown : s.vm.findClass "SpineTables" = some m.cls := findClass_of_methodNamed B.named
  have hlocks := B.notSynchronized
  subst hsz
  have hD := hD0.self (sz := s.heap.size)
  generalize hAe : va_A [(h0, .inr (10, [v0, v1, v2, v3, v4, v5, .ref h1, v7, v8, v9, v10, v11, v12, v13])), (h1, .inl (cZ, 8, .inl (fun _ => 0)))] s.heap.size = A at hT hD ⊢
  have hA : ∀ q : Nat, s.heap.size ≤ q → A q := fun q h => by rw [← hAe]; exact Or.inr h
  have hP : va_P (dC, dI) classes [(h0, .inr (10, [v0, v1, v2, v3, v4, v5, .ref h1, v7, v8, v9, v10, v11, v12, v13])), (h1, .inl (cZ, 8, .inl (fun _ => 0)))] s.heap := hP
  have hl := lv_entry ([.ref h0, .int k]) (n := 3) (Nat.le_of_ble_eq_true rfl)
  rw [lg_entry_eq]
  generalize (lg_sl ([.ref h0, .int k]) ++ List.replicate (3 - (lg_sl ([.ref h0, .int k])).length) Slot.unset).toArray = ls at hl ⊢
  have hl : lv_has ls 3 [(0, .ref h0), (1, .int k)] := hl
  obtain ⟨H, hH⟩ : ∃ H, H = s.heap := ⟨_, rfl⟩
  rw [← hH] at hP
  have hS : va_S A s.heap H [] := by rw [hH]; exact va_S.rf
  refine w_heap hH ?_
  refine lv_aload_n hx hb dX11_write_0 rfl (lv_at hl 0 rfl) ?_
  refine lv_iload_n hx hb dX11_write_1 rfl (lv_at hl 1 rfl) ?_
  have hPc := hP.sub (ws' := [(h0, .inr (10, [v0, v1, v2, v3, v4, v5, .ref h1, v7, v8, v9, v10, v11, v12, v13])), (h1, .inl (cZ, 8, .inl (fun _ => 0)))]) [0, 1] rfl
  have hDc := hD.sub (ws' := [(h0, .inr (10, [v0, v1, v2, v3, v4, v5, .ref h1, v7, v8, v9, v10, v11, v12, v13])), (h1, .inl (cZ, 8, .inl (fun _ => 0)))]) [0, 1] (by decide) rfl
  have hKc := hK.sub (tys' := [(cZ, .boolean)]) [0] rfl
  have hFc := va_free (wc := [(h0, .inr (10, [v0, v1, v2, v3, v4, v5, .ref h1, v7, v8, v9, v10, v11, v12, v13])), (h1, .inl (cZ, 8, .inl (fun _ => 0)))]) hD hS hA [0, 1] rfl
  refine vy_callX (vx_runV (As := [.int k]) (rest := []) ⟨hx, hb, hml, hown, hts⟩ (c_tableAt l hlt dC dI h0 k h1 v0 v1 v2 v3 v4 v5 v7 v8 v9 v10 v11 v12 v13 cZ sa H.size) (cwV 1 hts (goV wd_196 wd_197 wd_195 wd_191 wd_194) rfl rfl rfl (by decide +kernel) ⟨Nat.le_of_ble_eq_true rfl, Nat.le_of_ble_eq_true rfl⟩) ⟨blind6, va_recv hKc hPc (ci := 10) (q0 := 0) rfl rfl, fun U hU hW => ⟨rfl, pre6 hU hW hPc hKc hDc hE (hT.call hS hFc)⟩⟩ rfl rfl hl.1 rfl (lv_room (Nat.le_of_ble_eq_true rfl)) dX11_write_2 ⟨Nat.le_of_ble_eq_true rfl, Nat.le_of_ble_eq_true rfl⟩) hS hFc (fun q _ h => hFc q h) (fun E ce q9 u t H locs ht hvm hw hB hz1 hk1 hS hce hcv hcl => ?_)
  obtain rfl : E = _ := hB
  exact vx_out (fun x hx => (htb x hx).elim) hlocks hce hcv hcl (fun t ht ha => ⟨(), trivial, rfl, hS.F ht⟩) hS.2.2 (Nat.le_of_ble_eq_true rfl) (Nat.le_of_ble_eq_true rfl)
