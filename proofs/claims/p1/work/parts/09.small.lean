set_option maxHeartbeats 4000000 in
set_option maxRecDepth 100000 in
/-- feedNumber -/
theorem c_feedNumber (l : Launch) (dC : Nat → ClassId) (dI : Nat → Nat → Nat) (h0 : Nat) (k : Int32) (h1 : Nat) (x : Int32) (y : Int32) (v2 : Value) (v3 : Value) (v4 : Value) (v5 : Value) (v6 : Value) (v7 : Value) (v8 : Value) (v9 : Value) (v10 : Value) (v11 : Value) (v12 : Value) (v13 : Value) (cB : ClassId) (f0 : Nat → Int32) (h0x : x = 0 ∨ x = 4 ∨ x = 8 ∨ x = 12 ∨ x = 16) (hy : y = x + 4) (sz : Nat) : Met l yX11_feedNumber (.code yX11_feedNumber cX11_feedNumber 3 none :: wU) ({ frames := 0, cells := 0, slots := 0, locals := 0 } : Room) (va_Pc [.ref h0, .int k] (fun U => P5 dC dI [(h0, .inr (10, [.ref h1, .int x, v2, v3, v4, v5, v6, v7, v8, v9, v10, v11, v12, v13])), (h1, .inl (cB, 3000, .inl f0))] [(cB, .byte)] sz U)) (va_Qv (fun _ : Unit => True) (fun _ t => ∃ f9 : Nat → Int32, P3 dC dI (va_A [(h0, .inr (10, [.ref h1, .int x, v2, v3, v4, v5, v6, v7, v8, v9, v10, v11, v12, v13])), (h1, .inl (cB, 3000, .inl f0))] sz) [(h0, .inr (10, [.ref h1, .int y, v2, v3, v4, v5, v6, v7, v8, v9, v10, v11, v12, v13])), (h1, .inl (cB, 3000, .inl f9))] [(cB, .byte)] t) (va_A [(h0, .inr (10, [.ref h1, .int x, v2, v3, v4, v5, v6, v7, v8, v9, v10, v11, v12, v13])), (h1, .inl (cB, 3000, .inl f0))] sz)) 0 0 (va_A [(h0, .inr (10, [.ref h1, .int x, v2, v3, v4, v5, v6, v7, v8, v9, v10, v11, v12, v13])), (h1, .inl (cB, 3000, .inl f0))] sz) := by
  refine Met.ofW (cc := cX11_feedNumber) (maxL := 3) (ret := none) (by decide) rfl ?_
  intro p e s m args below meth c s₁ B hml hv
  obtain ⟨rfl, hsz, hP, hK, hD0, hE⟩ := hv
  have hx := B.exec
  have hb := B.bytes
  have hr := B.returns
  have hts0 := atoms_spec (ws := (.code yX11_feedNumber cX11_feedNumber 3 none :: wU)) B.pre
  have hts : ∀ w ∈ wU, w.before _ s = true := fun w h => hts0 w (List.mem_cons_of_mem _ h)
  have hown : s.vm.findClass "SpineTables" = some m.cls := findClass_of_methodNamed B.named
  have hlocks := B.notSynchronized
  subst hsz
  have hD := hD0.self (sz := s.heap.size)
  generalize hAe : va_A [(h0, .inr (10, [.ref h1, .int x, v2, v3, v4, v5, v6, v7, v8, v9, v10, v11, v12, v13])), (h1, .inl (cB, 3000, .inl f0))] s.heap.size = A at hD ⊢
  have hA : ∀ q : Nat, s.heap.size ≤ q → A q := fun q h => by rw [← hAe]; exact Or.inr h
  have hP : va_P (dC, dI) classes [(h0, .inr (10, [.ref h1, .int x, v2, v3, v4, v5, v6, v7, v8, v9, v10, v11, v12, v13])), (h1, .inl (cB, 3000, .inl f0))] s.heap := hP
  have hl := lv_entry ([.ref h0, .int k]) (n := 3) (Nat.le_of_ble_eq_true rfl)
  rw [lg_entry_eq]
  generalize (lg_sl ([.ref h0, .int k]) ++ List.replicate (3 - (lg_sl ([.ref h0, .int k])).length) Slot.unset).toArray = ls at hl ⊢
  have hl : lv_has ls 3 [(0, .ref h0), (1, .int k)] := hl
  obtain ⟨H, hH⟩ : ∃ H, H = s.heap := ⟨_, rfl⟩
  rw [← hH] at hP
  have hS : va_S A s.heap H [] := by rw [hH]; exact va_S.rf
  refine w_heap hH ?_
  refine lv_bipush (v := 24) hx hb dX11_feedNumber_0 (by decide) ?_
  refine lv_istore_n (lv' := [(2, .int 24), (0, .ref h0), (1, .int k)]) hx hb dX11_feedNumber_2 rfl hl (by decide) rfl (fun ls hl => ?_)
  refine lv_iload_n hx hb dX11_feedNumber_3 rfl (lv_at hl 0 rfl) ?_
  refine lv_if_lt (tgt := 46) hx hb dX11_feedNumber_4 (by decide) (fun hc => absurd hc (by decide)) (fun _ => ?_)
  refine lv_aload_n hx hb dX11_feedNumber_7 rfl (lv_at hl 1 rfl) ?_
  refine va_get (D := (dC, dI)) (ci := 10) (v := .int x) (C := RX11) (T := TX11) (N := 14) hx hb hts inX11 hown hK hP 0 rfl rfl 1 (by decide) (hts _ wd_107) (fun _ h9 => h9) rfl dX11_feedNumber_8 ?_
  refine lv_sipush (v := 3000) hx hb dX11_feedNumber_11 (by decide) ?_
  refine lv_icmp_ge (tgt := 46) hx hb dX11_feedNumber_14 (by decide) (fun hc => absurd hc (by rcases h0x with rfl | rfl | rfl | rfl | rfl <;> subst_vars <;> decide)) (fun _ => ?_)
  refine lv_aload_n hx hb dX11_feedNumber_17 rfl (lv_at hl 1 rfl) ?_
  refine va_get (D := (dC, dI)) (ci := 10) (v := .ref h1) (C := RX11) (T := TX11) (N := 14) hx hb hts inX11 hown hK hP 0 rfl rfl 0 (by decide) (hts _ wd_106) (fun _ h9 => h9) rfl dX11_feedNumber_18 ?_
  refine lv_aload_n hx hb dX11_feedNumber_21 rfl (lv_at hl 1 rfl) ?_
  refine va_get (D := (dC, dI)) (ci := 10) (v := .int x) (C := RX11) (T := TX11) (N := 14) hx hb hts inX11 hown hK hP 0 rfl rfl 1 (by decide) (hts _ wd_107) (fun _ h9 => h9) rfl dX11_feedNumber_22 ?_
  refine lv_iload_n hx hb dX11_feedNumber_25 rfl (lv_at hl 2 rfl) ?_
  refine lv_iload_n hx hb dX11_feedNumber_26 rfl (lv_at hl 0 rfl) ?_
  refine lv_ishr hx hb dX11_feedNumber_27 ?_
  refine lv_topi (fun n168 en168 => ?_)
  refine lv_i2b hx hb dX11_feedNumber_28 rfl ?_
  refine lv_topi (fun n169 en169 => ?_)
  refine va_bast hx hb hK hP hD hS 1 0 rfl rfl (by rcases h0x with rfl | rfl | rfl | rfl | rfl <;> subst_vars <;> (unfold vp_in; decide)) dX11_feedNumber_29 (fun H locs hP hD hS => ?_)
  generalize upd f0 _ _ = f170 at hP hD
  have hP : va_P (dC, dI) classes [(h0, .inr (10, [.ref h1, .int x, v2, v3, v4, v5, v6, v7, v8, v9, v10, v11, v12, v13])), (h1, .inl (cB, 3000, .inl f170))] H := hP
  have hD : va_D A [(h0, .inr (10, [.ref h1, .int x, v2, v3, v4, v5, v6, v7, v8, v9, v10, v11, v12, v13])), (h1, .inl (cB, 3000, .inl f170))] := hD
  refine lv_aload_n hx hb dX11_feedNumber_30 rfl (lv_at hl 1 rfl) ?_
  refine lv_dup hx hb dX11_feedNumber_31 rfl ?_
  refine va_get (D := (dC, dI)) (ci := 10) (v := .int x) (C := RX11) (T := TX11) (N := 14) hx hb hts inX11 hown hK hP 0 rfl rfl 1 (by decide) (hts _ wd_107) (fun _ h9 => h9) rfl dX11_feedNumber_32 ?_
  refine lv_iconst (v := 1) hx hb dX11_feedNumber_35 (by decide) ?_
  refine lv_iadd hx hb dX11_feedNumber_36 ?_
  refine lv_topi (fun n171 en171 => ?_)
  refine va_put (D := (dC, dI)) (ci := 10) (v := .int n171) (ty := .int) (C := RX11) (T := TX11) (N := 14) hx hb hts inX11 tyX11 tyX11_ok nmX11 hown hK hP hD hS 0 rfl rfl 1 (by decide) (hts _ wd_107) (fun _ h9 => h9) rfl (by decide +kernel) rfl rfl (Nat.le_of_ble_eq_true rfl) dX11_feedNumber_37 (fun H locs hP hD hS => ?_)
  have hP : va_P (dC, dI) classes [(h0, .inr (10, [.ref h1, .int n171, v2, v3, v4, v5, v6, v7, v8, v9, v10, v11, v12, v13])), (h1, .inl (cB, 3000, .inl f170))] H := hP
  have hD : va_D A [(h0, .inr (10, [.ref h1, .int n171, v2, v3, v4, v5, v6, v7, v8, v9, v10, v11, v12, v13])), (h1, .inl (cB, 3000, .inl f170))] := hD
  refine lv_iinc (v := 16) (lv' := [(2, .int 16), (0, .ref h0), (1, .int k)]) hx hb dX11_feedNumber_40 hl (k := 0) rfl (by decide) (by decide) rfl (fun ls hl => ?_)
  refine lv_goto (tgt := 3) hx hb dX11_feedNumber_43 (by decide) ?_
  refine lv_iload_n hx hb dX11_feedNumber_3 rfl (lv_at hl 0 rfl) ?_
  refine lv_if_lt (tgt := 46) hx hb dX11_feedNumber_4 (by decide) (fun hc => absurd hc (by decide)) (fun _ => ?_)
  refine lv_aload_n hx hb dX11_feedNumber_7 rfl (lv_at hl 1 rfl) ?_
  refine va_get (D := (dC, dI)) (ci := 10) (v := .int n171) (C := RX11) (T := TX11) (N := 14) hx hb hts inX11 hown hK hP 0 rfl rfl 1 (by decide) (hts _ wd_107) (fun _ h9 => h9) rfl dX11_feedNumber_8 ?_
  refine lv_sipush (v := 3000) hx hb dX11_feedNumber_11 (by decide) ?_
  refine lv_icmp_ge (tgt := 46) hx hb dX11_feedNumber_14 (by decide) (fun hc => absurd hc (by rcases h0x with rfl | rfl | rfl | rfl | rfl <;> subst_vars <;> decide)) (fun _ => ?_)
  refine lv_aload_n hx hb dX11_feedNumber_17 rfl (lv_at hl 1 rfl) ?_
  refine va_get (D := (dC, dI)) (ci := 10) (v := .ref h1) (C := RX11) (T := TX11) (N := 14) hx hb hts inX11 hown hK hP 0 rfl rfl 0 (by decide) (hts _ wd_106) (fun _ h9 => h9) rfl dX11_feedNumber_18 ?_
  refine lv_aload_n hx hb dX11_feedNumber_21 rfl (lv_at hl 1 rfl) ?_
  refine va_get (D := (dC, dI)) (ci := 10) (v := .int n171) (C := RX11) (T := TX11) (N := 14) hx hb hts inX11 hown hK hP 0 rfl rfl 1 (by decide) (hts _ wd_107) (fun _ h9 => h9) rfl dX11_feedNumber_22 ?_
  refine lv_iload_n hx hb dX11_feedNumber_25 rfl (lv_at hl 2 rfl) ?_
  refine lv_iload_n hx hb dX11_feedNumber_26 rfl (lv_at hl 0 rfl) ?_
  refine lv_ishr hx hb dX11_feedNumber_27 ?_
  refine lv_topi (fun n172 en172 => ?_)
  refine lv_i2b hx hb dX11_feedNumber_28 rfl ?_
  refine lv_topi (fun n173 en173 => ?_)
  refine va_bast hx hb hK hP hD hS 1 0 rfl rfl (by rcases h0x with rfl | rfl | rfl | rfl | rfl <;> subst_vars <;> (unfold vp_in; decide)) dX11_feedNumber_29 (fun H locs hP hD hS => ?_)
  generalize upd f170 _ _ = f174 at hP hD
  have hP : va_P (dC, dI) classes [(h0, .inr (10, [.ref h1, .int n171, v2, v3, v4, v5, v6, v7, v8, v9, v10, v11, v12, v13])), (h1, .inl (cB, 3000, .inl f174))] H := hP
  have hD : va_D A [(h0, .inr (10, [.ref h1, .int n171, v2, v3, v4, v5, v6, v7, v8, v9, v10, v11, v12, v13])), (h1, .inl (cB, 3000, .inl f174))] := hD
  refine lv_aload_n hx hb dX11_feedNumber_30 rfl (lv_at hl 1 rfl) ?_
  refine lv_dup hx hb dX11_feedNumber_31 rfl ?_
  refine va_get (D := (dC, dI)) (ci := 10) (v := .int n171) (C := RX11) (T := TX11) (N := 14) hx hb hts inX11 hown hK hP 0 rfl rfl 1 (by decide) (hts _ wd_107) (fun _ h9 => h9) rfl dX11_feedNumber_32 ?_
  refine lv_iconst (v := 1) hx hb dX11_feedNumber_35 (by decide) ?_
  refine lv_iadd hx hb dX11_feedNumber_36 ?_
  refine lv_topi (fun n175 en175 => ?_)
  refine va_put (D := (dC, dI)) (ci := 10) (v := .int n175) (ty := .int) (C := RX11) (T := TX11) (N := 14) hx hb hts inX11 tyX11 tyX11_ok nmX11 hown hK hP hD hS 0 rfl rfl 1 (by decide) (hts _ wd_107) (fun _ h9 => h9) rfl (by decide +kernel) rfl rfl (Nat.le_of_ble_eq_true rfl) dX11_feedNumber_37 (fun H locs hP hD hS => ?_)
  have hP : va_P (dC, dI) classes [(h0, .inr (10, [.ref h1, .int n175, v2, v3, v4, v5, v6, v7, v8, v9, v10, v11, v12, v13])), (h1, .inl (cB, 3000, .inl f174))] H := hP
  have hD : va_D A [(h0, .inr (10, [.ref h1, .int n175, v2, v3, v4, v5, v6, v7, v8, v9, v10, v11, v12, v13])), (h1, .inl (cB, 3000, .inl f174))] := hD
  refine lv_iinc (v := 8) (lv' := [(2, .int 8), (0, .ref h0), (1, .int k)]) hx hb dX11_feedNumber_40 hl (k := 0) rfl (by decide) (by decide) rfl (fun ls hl => ?_)
  refine lv_goto (tgt := 3) hx hb dX11_feedNumber_43 (by decide) ?_
  refine lv_iload_n hx hb dX11_feedNumber_3 rfl (lv_at hl 0 rfl) ?_
  refine lv_if_lt (tgt := 46) hx hb dX11_feedNumber_4 (by decide) (fun hc => absurd hc (by decide)) (fun _ => ?_)
  refine lv_aload_n hx hb dX11_feedNumber_7 rfl (lv_at hl 1 rfl) ?_
  refine va_get (D := (dC, dI)) (ci := 10) (v := .int n175) (C := RX11) (T := TX11) (N := 14) hx hb hts inX11 hown hK hP 0 rfl rfl 1 (by decide) (hts _ wd_107) (fun _ h9 => h9) rfl dX11_feedNumber_8 ?_
  refine lv_sipush (v := 3000) hx hb dX11_feedNumber_11 (by decide) ?_
  refine lv_icmp_ge (tgt := 46) hx hb dX11_feedNumber_14 (by decide) (fun hc => absurd hc (by rcases h0x with rfl | rfl | rfl | rfl | rfl <;> subst_vars <;> decide)) (fun _ => ?_)
  refine lv_aload_n hx hb dX11_feedNumber_17 rfl (lv_at hl 1 rfl) ?_
  refine va_get (D := (dC, dI)) (ci := 10) (v := .ref h1) (C := RX11) (T := TX11) (N := 14) hx hb hts inX11 hown hK hP 0 rfl rfl 0 (by decide) (hts _ wd_106) (fun _ h9 => h9) rfl dX11_feedNumber_18 ?_
  refine lv_aload_n hx hb dX11_feedNumber_21 rfl (lv_at hl 1 rfl) ?_
  refine va_get (D := (dC, dI)) (ci := 10) (v := .int n175) (C := RX11) (T := TX11) (N := 14) hx hb hts inX11 hown hK hP 0 rfl rfl 1 (by decide) (hts _ wd_107) (fun _ h9 => h9) rfl dX11_feedNumber_22 ?_
  refine lv_iload_n hx hb dX11_feedNumber_25 rfl (lv_at hl 2 rfl) ?_
  refine lv_iload_n hx hb dX11_feedNumber_26 rfl (lv_at hl 0 rfl) ?_
  refine lv_ishr hx hb dX11_feedNumber_27 ?_
  refine lv_topi (fun n176 en176 => ?_)
  refine lv_i2b hx hb dX11_feedNumber_28 rfl ?_
  refine lv_topi (fun n177 en177 => ?_)
  refine va_bast hx hb hK hP hD hS 1 0 rfl rfl (by rcases h0x with rfl | rfl | rfl | rfl | rfl <;> subst_vars <;> (unfold vp_in; decide)) dX11_feedNumber_29 (fun H locs hP hD hS => ?_)
  generalize upd f174 _ _ = f178 at hP hD
  have hP : va_P (dC, dI) classes [(h0, .inr (10, [.ref h1, .int n175, v2, v3, v4, v5, v6, v7, v8, v9, v10, v11, v12, v13])), (h1, .inl (cB, 3000, .inl f178))] H := hP
  have hD : va_D A [(h0, .inr (10, [.ref h1, .int n175, v2, v3, v4, v5, v6, v7, v8, v9, v10, v11, v12, v13])), (h1, .inl (cB, 3000, .inl f178))] := hD
  refine lv_aload_n hx hb dX11_feedNumber_30 rfl (lv_at hl 1 rfl) ?_
  refine lv_dup hx hb dX11_feedNumber_31 rfl ?_
  refine va_get (D := (dC, dI)) (ci := 10) (v := .int n175) (C := RX11) (T := TX11) (N := 14) hx hb hts inX11 hown hK hP 0 rfl rfl 1 (by decide) (hts _ wd_107) (fun _ h9 => h9) rfl dX11_feedNumber_32 ?_
  refine lv_iconst (v := 1) hx hb dX11_feedNumber_35 (by decide) ?_
  refine lv_iadd hx hb dX11_feedNumber_36 ?_
  refine lv_topi (fun n179 en179 => ?_)
  refine va_put (D := (dC, dI)) (ci := 10) (v := .int n179) (ty := .int) (C := RX11) (T := TX11) (N := 14) hx hb hts inX11 tyX11 tyX11_ok nmX11 hown hK hP hD hS 0 rfl rfl 1 (by decide) (hts _ wd_107) (fun _ h9 => h9) rfl (by decide +kernel) rfl rfl (Nat.le_of_ble_eq_true rfl) dX11_feedNumber_37 (fun H locs hP hD hS => ?_)
  have hP : va_P (dC, dI) classes [(h0, .inr (10, [.ref h1, .int n179, v2, v3, v4, v5, v6, v7, v8, v9, v10, v11, v12, v13])), (h1, .inl (cB, 3000, .inl f178))] H := hP
  have hD : va_D A [(h0, .inr (10, [.ref h1, .int n179, v2, v3, v4, v5, v6, v7, v8, v9, v10, v11, v12, v13])), (h1, .inl (cB, 3000, .inl f178))] := hD
  refine lv_iinc (v := 0) (lv' := [(2, .int 0), (0, .ref h0), (1, .int k)]) hx hb dX11_feedNumber_40 hl (k := 0) rfl (by decide) (by decide) rfl (fun ls hl => ?_)
  refine lv_goto (tgt := 3) hx hb dX11_feedNumber_43 (by decide) ?_
  refine lv_iload_n hx hb dX11_feedNumber_3 rfl (lv_at hl 0 rfl) ?_
  refine lv_if_lt (tgt := 46) hx hb dX11_feedNumber_4 (by decide) (fun hc => absurd hc (by decide)) (fun _ => ?_)
  refine lv_aload_n hx hb dX11_feedNumber_7 rfl (lv_at hl 1 rfl) ?_
  refine va_get (D := (dC, dI)) (ci := 10) (v := .int n179) (C := RX11) (T := TX11) (N := 14) hx hb hts inX11 hown hK hP 0 rfl rfl 1 (by decide) (hts _ wd_107) (fun _ h9 => h9) rfl dX11_feedNumber_8 ?_
  refine lv_sipush (v := 3000) hx hb dX11_feedNumber_11 (by decide) ?_
  refine lv_icmp_ge (tgt := 46) hx hb dX11_feedNumber_14 (by decide) (fun hc => absurd hc (by rcases h0x with rfl | rfl | rfl | rfl | rfl <;> subst_vars <;> decide)) (fun _ => ?_)
  refine lv_aload_n hx hb dX11_feedNumber_17 rfl (lv_at hl 1 rfl) ?_
  refine va_get (D := (dC, dI)) (ci := 10) (v := .ref h1) (C := RX11) (T := TX11) (N := 14) hx hb hts inX11 hown hK hP 0 rfl rfl 0 (by decide) (hts _ wd_106) (fun _ h9 => h9) rfl dX11_feedNumber_18 ?_
  refine lv_aload_n hx hb dX11_feedNumber_21 rfl (lv_at hl 1 rfl) ?_
  refine va_get (D := (dC, dI)) (ci := 10) (v := .int n179) (C := RX11) (T := TX11) (N := 14) hx hb hts inX11 hown hK hP 0 rfl rfl 1 (by decide) (hts _ wd_107) (fun _ h9 => h9) rfl dX11_feedNumber_22 ?_
  refine lv_iload_n hx hb dX11_feedNumber_25 rfl (lv_at hl 2 rfl) ?_
  refine lv_iload_n hx hb dX11_feedNumber_26 rfl (lv_at hl 0 rfl) ?_
  refine lv_ishr hx hb dX11_feedNumber_27 ?_
  refine lv_topi (fun n180 en180 => ?_)
  refine lv_i2b hx hb dX11_feedNumber_28 rfl ?_
  refine lv_topi (fun n181 en181 => ?_)
  refine va_bast hx hb hK hP hD hS 1 0 rfl rfl (by rcases h0x with rfl | rfl | rfl | rfl | rfl <;> subst_vars <;> (unfold vp_in; decide)) dX11_feedNumber_29 (fun H locs hP hD hS => ?_)
  generalize upd f178 _ _ = f182 at hP hD
  have hP : va_P (dC, dI) classes [(h0, .inr (10, [.ref h1, .int n179, v2, v3, v4, v5, v6, v7, v8, v9, v10, v11, v12, v13])), (h1, .inl (cB, 3000, .inl f182))] H := hP
  have hD : va_D A [(h0, .inr (10, [.ref h1, .int n179, v2, v3, v4, v5, v6, v7, v8, v9, v10, v11, v12, v13])), (h1, .inl (cB, 3000, .inl f182))] := hD
  refine lv_aload_n hx hb dX11_feedNumber_30 rfl (lv_at hl 1 rfl) ?_
  refine lv_dup hx hb dX11_feedNumber_31 rfl ?_
  refine va_get (D := (dC, dI)) (ci := 10) (v := .int n179) (C := RX11) (T := TX11) (N := 14) hx hb hts inX11 hown hK hP 0 rfl rfl 1 (by decide) (hts _ wd_107) (fun _ h9 => h9) rfl dX11_feedNumber_32 ?_
  refine lv_iconst (v := 1) hx hb dX11_feedNumber_35 (by decide) ?_
  refine lv_iadd hx hb dX11_feedNumber_36 ?_
  refine lv_topi (fun n183 en183 => ?_)
  refine va_put (D := (dC, dI)) (ci := 10) (v := .int n183) (ty := .int) (C := RX11) (T := TX11) (N := 14) hx hb hts inX11 tyX11 tyX11_ok nmX11 hown hK hP hD hS 0 rfl rfl 1 (by decide) (hts _ wd_107) (fun _ h9 => h9) rfl (by decide +kernel) rfl rfl (Nat.le_of_ble_eq_true rfl) dX11_feedNumber_37 (fun H locs hP hD hS => ?_)
  have hP : va_P (dC, dI) classes [(h0, .inr (10, [.ref h1, .int n183, v2, v3, v4, v5, v6, v7, v8, v9, v10, v11, v12, v13])), (h1, .inl (cB, 3000, .inl f182))] H := hP
  have hD : va_D A [(h0, .inr (10, [.ref h1, .int n183, v2, v3, v4, v5, v6, v7, v8, v9, v10, v11, v12, v13])), (h1, .inl (cB, 3000, .inl f182))] := hD
  refine lv_iinc (v := -8) (lv' := [(2, .int (-8)), (0, .ref h0), (1, .int k)]) hx hb dX11_feedNumber_40 hl (k := 0) rfl (by decide) (by decide) rfl (fun ls hl => ?_)
  refine lv_goto (tgt := 3) hx hb dX11_feedNumber_43 (by decide) ?_
  refine lv_iload_n hx hb dX11_feedNumber_3 rfl (lv_at hl 0 rfl) ?_
  refine lv_if_lt (tgt := 46) hx hb dX11_feedNumber_4 (by decide) (fun _ => ?_) (fun hc => absurd (by decide) hc)
  have hn9 : n183 = y := by rw [hy]; rcases h0x with rfl | rfl | rfl | rfl | rfl <;> subst_vars <;> decide
  rw [hn9] at hP hD
  have hP : va_P (dC, dI) classes [(h0, .inr (10, [.ref h1, .int y, v2, v3, v4, v5, v6, v7, v8, v9, v10, v11, v12, v13])), (h1, .inl (cB, 3000, .inl f182))] H := hP
  have hD : va_D A [(h0, .inr (10, [.ref h1, .int y, v2, v3, v4, v5, v6, v7, v8, v9, v10, v11, v12, v13])), (h1, .inl (cB, 3000, .inl f182))] := hD
  have hP9 := hP.sub (ws' := [(h0, .inr (10, [.ref h1, .int y, v2, v3, v4, v5, v6, v7, v8, v9, v10, v11, v12, v13])), (h1, .inl (cB, 3000, .inl f182))]) [0, 1] rfl
  have hD9 := hD.sub (ws' := [(h0, .inr (10, [.ref h1, .int y, v2, v3, v4, v5, v6, v7, v8, v9, v10, v11, v12, v13])), (h1, .inl (cB, 3000, .inl f182))]) [0, 1] (by decide) rfl
  have hK9 := hK.sub (tys' := [(cB, .byte)]) [0] rfl
  refine W.widen (k := 0) (n := 0) (Nat.le_of_ble_eq_true rfl) (Nat.le_of_ble_eq_true rfl) ?_
  exact W.vret hx hb hr (fun t ht hW => ⟨⟨(), rfl, trivial, f182, by rw [ht]; exact hP9, va_K.moved hW.alike hK9, hD9⟩, hS.F ht⟩) hS.2.2 dX11_feedNumber_46
set_option maxHeartbeats 4000000 in
set_option maxRecDepth 100000 in
/-- feed -/
theorem c_feed (l : Launch) (dC : Nat → ClassId) (dI : Nat → Nat → Nat) (h0 : Nat) (a : Int32) (b : Int32) (cc : Int32) (d : Int32) (ee : Int32) (h1 : Nat) (v2 : Value) (v3 : Value) (v4 : Value) (v5 : Value) (v6 : Value) (v7 : Value) (v8 : Value) (v9 : Value) (v10 : Value) (v11 : Value) (v12 : Value) (v13 : Value) (cB : ClassId) (f0 : Nat → Int32) (sz : Nat) : Met l yX11_feed (.code yX11_feed cX11_feed 6 (some .int) :: wU) ({ frames := 1, cells := 0, slots := 0, locals := 22 } : Room) (va_Pc [.ref h0, .int a, .int b, .int cc, .int d, .int ee] (fun U => P5 dC dI [(h0, .inr (10, [.ref h1, .int 0, v2, v3, v4, v5, v6, v7, v8, v9, v10, v11, v12, v13])), (h1, .inl (cB, 3000, .inl f0))] [(cB, .byte)] sz U)) (va_Qi (fun (r : Int32) (_ : Unit) => r = 20) (fun _ t => P3 dC dI (va_A [(h0, .inr (10, [.ref h1, .int 0, v2, v3, v4, v5, v6, v7, v8, v9, v10, v11, v12, v13])), (h1, .inl (cB, 3000, .inl f0))] sz) [] [] t) (va_A [(h0, .inr (10, [.ref h1, .int 0, v2, v3, v4, v5, v6, v7, v8, v9, v10, v11, v12, v13])), (h1, .inl (cB, 3000, .inl f0))] sz)) 0 0 (va_A [(h0, .inr (10, [.ref h1, .int 0, v2, v3, v4, v5, v6, v7, v8, v9, v10, v11, v12, v13])), (h1, .inl (cB, 3000, .inl f0))] sz) := by
  refine Met.ofW (cc := cX11_feed) (maxL := 6) (ret := (some .int)) (by decide) rfl ?_
  intro p e s m args below meth c s₁ B hml hv
  obtain ⟨rfl, hsz, hP, hK, hD0, hE⟩ := hv
  have hx := B.exec
  have hb := B.bytes
  have hr := B.returns
  have hts0 := atoms_spec (ws := (.code yX11_feed cX11_feed 6 (some .int) :: wU)) B.pre
  have hts : ∀ w ∈ wU, w.before _ s = true := fun w h => hts0 w (List.mem_cons_of_mem _ h)
  have hown : s.vm.findClass "SpineTables" = some m.cls := findClass_of_methodNamed B.named
  have hlocks := B.notSynchronized
  subst hsz
  have hD := hD0.self (sz := s.heap.size)
  generalize hAe : va_A [(h0, .inr (10, [.ref h1, .int 0, v2, v3, v4, v5, v6, v7, v8, v9, v10, v11, v12, v13])), (h1, .inl (cB, 3000, .inl f0))] s.heap.size = A at hD ⊢
  have hA : ∀ q : Nat, s.heap.size ≤ q → A q := fun q h => by rw [← hAe]; exact Or.inr h
  have hP : va_P (dC, dI) classes [(h0, .inr (10, [.ref h1, .int 0, v2, v3, v4, v5, v6, v7, v8, v9, v10, v11, v12, v13])), (h1, .inl (cB, 3000, .inl f0))] s.heap := hP
  have hl := lv_entry ([.ref h0, .int a, .int b, .int cc, .int d, .int ee]) (n := 6) (Nat.le_of_ble_eq_true rfl)
  rw [lg_entry_eq]
  generalize (lg_sl ([.ref h0, .int a, .int b, .int cc, .int d, .int ee]) ++ List.replicate (6 - (lg_sl ([.ref h0, .int a, .int b, .int cc, .int d, .int ee])).length) Slot.unset).toArray = ls at hl ⊢
  have hl : lv_has ls 6 [(0, .ref h0), (1, .int a), (2, .int b), (3, .int cc), (4, .int d), (5, .int ee)] := hl
  obtain ⟨H, hH⟩ : ∃ H, H = s.heap := ⟨_, rfl⟩
  rw [← hH] at hP
  have hS : va_S A s.heap H [] := by rw [hH]; exact va_S.rf
  refine w_heap hH ?_
  refine lv_aload_n hx hb dX11_feed_0 rfl (lv_at hl 0 rfl) ?_
  refine va_get (D := (dC, dI)) (ci := 10) (v := .int 0) (C := RX11) (T := TX11) (N := 14) hx hb hts inX11 hown hK hP 0 rfl rfl 1 (by decide) (hts _ wd_107) (fun _ h9 => h9) rfl dX11_feed_1 ?_
  refine lv_bipush (v := 20) hx hb dX11_feed_4 (by decide) ?_
  refine lv_iadd hx hb dX11_feed_6 ?_
  refine lv_topi (fun n184 en184 => ?_)
  obtain rfl : n184 = 20 := by rw [en184]; decide
  refine lv_sipush (v := 3000) hx hb dX11_feed_7 (by decide) ?_
  refine lv_icmp_le (tgt := 15) hx hb dX11_feed_10 (by decide) (fun _ => ?_) (fun hc => absurd (by decide) hc)
  refine lv_aload_n hx hb dX11_feed_15 rfl (lv_at hl 0 rfl) ?_
  refine lv_iload_n hx hb dX11_feed_16 rfl (lv_at hl 1 rfl) ?_
  have hPc := hP.sub (ws' := [(h0, .inr (10, [.ref h1, .int 0, v2, v3, v4, v5, v6, v7, v8, v9, v10, v11, v12, v13])), (h1, .inl (cB, 3000, .inl f0))]) [0, 1] rfl
  have hDc := hD.sub (ws' := [(h0, .inr (10, [.ref h1, .int 0, v2, v3, v4, v5, v6, v7, v8, v9, v10, v11, v12, v13])), (h1, .inl (cB, 3000, .inl f0))]) [0, 1] (by decide) rfl
  have hKc := hK.sub (tys' := [(cB, .byte)]) [0] rfl
  have hFc := va_free (wc := [(h0, .inr (10, [.ref h1, .int 0, v2, v3, v4, v5, v6, v7, v8, v9, v10, v11, v12, v13])), (h1, .inl (cB, 3000, .inl f0))]) hD hS hA [0, 1] rfl
  refine va_callv (va_runV (As := [.int a]) (rest := []) ⟨hx, hb, hml, hown, hts⟩ (c_feedNumber l dC dI h0 a h1 0 4 v2 v3 v4 v5 v6 v7 v8 v9 v10 v11 v12 v13 cB f0 (by decide) (by decide) H.size) (cwV 1 hts (goV wd_189 wd_190 wd_188 wd_191 wd_187) rfl rfl rfl (by decide +kernel) ⟨Nat.le_of_ble_eq_true rfl, Nat.le_of_ble_eq_true rfl⟩) ⟨blind5, va_recv hKc hPc (ci := 10) (q0 := 0) rfl rfl, fun U hU hW => ⟨rfl, pre5 hU hW hPc hKc hDc hE⟩⟩ rfl rfl hl.1 rfl (lv_room (Nat.le_of_ble_eq_true rfl)) dX11_feed_17 ⟨Nat.le_of_ble_eq_true rfl, Nat.le_of_ble_eq_true rfl⟩) hS (fun q _ h => hFc q h) hFc (fun u t H1 locs ht hvm hw hB hz1 hk1 hS => ?_)
  obtain ⟨f185, hP1, hK1, hD1⟩ := hB
  rw [ht] at hP1
  have hK1 := va_K.moved hvm.symm hK1
  obtain ⟨hP, hD⟩ := va_join (wr := []) (w1 := [(h0, .inr (10, [.ref h1, .int 4, v2, v3, v4, v5, v6, v7, v8, v9, v10, v11, v12, v13])), (h1, .inl (cB, 3000, .inl f185))]) hP hD [0, 1] [] rfl rfl (by decide) (by decide) hk1 hFc hP1 hD1
  have hK := (hK.sub (tys' := []) [] rfl).app hK1
  generalize H1 = H at hP hS ⊢
  have hK : va_K (dC, dI) classes [(cB, .byte)] s := hK
  have hP : va_P (dC, dI) classes [(h0, .inr (10, [.ref h1, .int 4, v2, v3, v4, v5, v6, v7, v8, v9, v10, v11, v12, v13])), (h1, .inl (cB, 3000, .inl f185))] H := hP
  have hD : va_D A [(h0, .inr (10, [.ref h1, .int 4, v2, v3, v4, v5, v6, v7, v8, v9, v10, v11, v12, v13])), (h1, .inl (cB, 3000, .inl f185))] := hD
  refine lv_aload_n hx hb dX11_feed_20 rfl (lv_at hl 0 rfl) ?_
  refine lv_iload_n hx hb dX11_feed_21 rfl (lv_at hl 2 rfl) ?_
  have hPc := hP.sub (ws' := [(h0, .inr (10, [.ref h1, .int 4, v2, v3, v4, v5, v6, v7, v8, v9, v10, v11, v12, v13])), (h1, .inl (cB, 3000, .inl f185))]) [0, 1] rfl
  have hDc := hD.sub (ws' := [(h0, .inr (10, [.ref h1, .int 4, v2, v3, v4, v5, v6, v7, v8, v9, v10, v11, v12, v13])), (h1, .inl (cB, 3000, .inl f185))]) [0, 1] (by decide) rfl
  have hKc := hK.sub (tys' := [(cB, .byte)]) [0] rfl
  have hFc := va_free (wc := [(h0, .inr (10, [.ref h1, .int 4, v2, v3, v4, v5, v6, v7, v8, v9, v10, v11, v12, v13])), (h1, .inl (cB, 3000, .inl f185))]) hD hS hA [0, 1] rfl
  refine va_callv (va_runV (As := [.int b]) (rest := []) ⟨hx, hb, hml, hown, hts⟩ (c_feedNumber l dC dI h0 b h1 4 8 v2 v3 v4 v5 v6 v7 v8 v9 v10 v11 v12 v13 cB f185 (by decide) (by decide) H.size) (cwV 1 hts (goV wd_189 wd_190 wd_188 wd_191 wd_187) rfl rfl rfl (by decide +kernel) ⟨Nat.le_of_ble_eq_true rfl, Nat.le_of_ble_eq_true rfl⟩) ⟨blind5, va_recv hKc hPc (ci := 10) (q0 := 0) rfl rfl, fun U hU hW => ⟨rfl, pre5 hU hW hPc hKc hDc hE⟩⟩ rfl rfl hl.1 rfl (lv_room (Nat.le_of_ble_eq_true rfl)) dX11_feed_22 ⟨Nat.le_of_ble_eq_true rfl, Nat.le_of_ble_eq_true rfl⟩) hS (fun q _ h => hFc q h) hFc (fun u t H1 locs ht hvm hw hB hz1 hk1 hS => ?_)
  obtain ⟨f186, hP1, hK1, hD1⟩ := hB
  rw [ht] at hP1
  have hK1 := va_K.moved hvm.symm hK1
  obtain ⟨hP, hD⟩ := va_join (wr := []) (w1 := [(h0, .inr (10, [.ref h1, .int 8, v2, v3, v4, v5, v6, v7, v8, v9, v10, v11, v12, v13])), (h1, .inl (cB, 3000, .inl f186))]) hP hD [0, 1] [] rfl rfl (by decide) (by decide) hk1 hFc hP1 hD1
  have hK := (hK.sub (tys' := []) [] rfl).app hK1
  generalize H1 = H at hP hS ⊢
  have hK : va_K (dC, dI) classes [(cB, .byte)] s := hK
  have hP : va_P (dC, dI) classes [(h0, .inr (10, [.ref h1, .int 8, v2, v3, v4, v5, v6, v7, v8, v9, v10, v11, v12, v13])), (h1, .inl (cB, 3000, .inl f186))] H := hP
  have hD : va_D A [(h0, .inr (10, [.ref h1, .int 8, v2, v3, v4, v5, v6, v7, v8, v9, v10, v11, v12, v13])), (h1, .inl (cB, 3000, .inl f186))] := hD
  refine lv_aload_n hx hb dX11_feed_25 rfl (lv_at hl 0 rfl) ?_
  refine lv_iload_n hx hb dX11_feed_26 rfl (lv_at hl 3 rfl) ?_
  have hPc := hP.sub (ws' := [(h0, .inr (10, [.ref h1, .int 8, v2, v3, v4, v5, v6, v7, v8, v9, v10, v11, v12, v13])), (h1, .inl (cB, 3000, .inl f186))]) [0, 1] rfl
  have hDc := hD.sub (ws' := [(h0, .inr (10, [.ref h1, .int 8, v2, v3, v4, v5, v6, v7, v8, v9, v10, v11, v12, v13])), (h1, .inl (cB, 3000, .inl f186))]) [0, 1] (by decide) rfl
  have hKc := hK.sub (tys' := [(cB, .byte)]) [0] rfl
  have hFc := va_free (wc := [(h0, .inr (10, [.ref h1, .int 8, v2, v3, v4, v5, v6, v7, v8, v9, v10, v11, v12, v13])), (h1, .inl (cB, 3000, .inl f186))]) hD hS hA [0, 1] rfl
  refine va_callv (va_runV (As := [.int cc]) (rest := []) ⟨hx, hb, hml, hown, hts⟩ (c_feedNumber l dC dI h0 cc h1 8 12 v2 v3 v4 v5 v6 v7 v8 v9 v10 v11 v12 v13 cB f186 (by decide) (by decide) H.size) (cwV 1 hts (goV wd_189 wd_190 wd_188 wd_191 wd_187) rfl rfl rfl (by decide +kernel) ⟨Nat.le_of_ble_eq_true rfl, Nat.le_of_ble_eq_true rfl⟩) ⟨blind5, va_recv hKc hPc (ci := 10) (q0 := 0) rfl rfl, fun U hU hW => ⟨rfl, pre5 hU hW hPc hKc hDc hE⟩⟩ rfl rfl hl.1 rfl (lv_room (Nat.le_of_ble_eq_true rfl)) dX11_feed_27 ⟨Nat.le_of_ble_eq_true rfl, Nat.le_of_ble_eq_true rfl⟩) hS (fun q _ h => hFc q h) hFc (fun u t H1 locs ht hvm hw hB hz1 hk1 hS => ?_)
  obtain ⟨f187, hP1, hK1, hD1⟩ := hB
  rw [ht] at hP1
  have hK1 := va_K.moved hvm.symm hK1
  obtain ⟨hP, hD⟩ := va_join (wr := []) (w1 := [(h0, .inr (10, [.ref h1, .int 12, v2, v3, v4, v5, v6, v7, v8, v9, v10, v11, v12, v13])), (h1, .inl (cB, 3000, .inl f187))]) hP hD [0, 1] [] rfl rfl (by decide) (by decide) hk1 hFc hP1 hD1
  have hK := (hK.sub (tys' := []) [] rfl).app hK1
  generalize H1 = H at hP hS ⊢
  have hK : va_K (dC, dI) classes [(cB, .byte)] s := hK
  have hP : va_P (dC, dI) classes [(h0, .inr (10, [.ref h1, .int 12, v2, v3, v4, v5, v6, v7, v8, v9, v10, v11, v12, v13])), (h1, .inl (cB, 3000, .inl f187))] H := hP
  have hD : va_D A [(h0, .inr (10, [.ref h1, .int 12, v2, v3, v4, v5, v6, v7, v8, v9, v10, v11, v12, v13])), (h1, .inl (cB, 3000, .inl f187))] := hD
  refine lv_aload_n hx hb dX11_feed_30 rfl (lv_at hl 0 rfl) ?_
  refine lv_iload hx hb dX11_feed_31 (lv_at hl 4 rfl) ?_
  have hPc := hP.sub (ws' := [(h0, .inr (10, [.ref h1, .int 12, v2, v3, v4, v5, v6, v7, v8, v9, v10, v11, v12, v13])), (h1, .inl (cB, 3000, .inl f187))]) [0, 1] rfl
  have hDc := hD.sub (ws' := [(h0, .inr (10, [.ref h1, .int 12, v2, v3, v4, v5, v6, v7, v8, v9, v10, v11, v12, v13])), (h1, .inl (cB, 3000, .inl f187))]) [0, 1] (by decide) rfl
  have hKc := hK.sub (tys' := [(cB, .byte)]) [0] rfl
  have hFc := va_free (wc := [(h0, .inr (10, [.ref h1, .int 12, v2, v3, v4, v5, v6, v7, v8, v9, v10, v11, v12, v13])), (h1, .inl (cB, 3000, .inl f187))]) hD hS hA [0, 1] rfl
  refine va_callv (va_runV (As := [.int d]) (rest := []) ⟨hx, hb, hml, hown, hts⟩ (c_feedNumber l dC dI h0 d h1 12 16 v2 v3 v4 v5 v6 v7 v8 v9 v10 v11 v12 v13 cB f187 (by decide) (by decide) H.size) (cwV 1 hts (goV wd_189 wd_190 wd_188 wd_191 wd_187) rfl rfl rfl (by decide +kernel) ⟨Nat.le_of_ble_eq_true rfl, Nat.le_of_ble_eq_true rfl⟩) ⟨blind5, va_recv hKc hPc (ci := 10) (q0 := 0) rfl rfl, fun U hU hW => ⟨rfl, pre5 hU hW hPc hKc hDc hE⟩⟩ rfl rfl hl.1 rfl (lv_room (Nat.le_of_ble_eq_true rfl)) dX11_feed_33 ⟨Nat.le_of_ble_eq_true rfl, Nat.le_of_ble_eq_true rfl⟩) hS (fun q _ h => hFc q h) hFc (fun u t H1 locs ht hvm hw hB hz1 hk1 hS => ?_)
  obtain ⟨f188, hP1, hK1, hD1⟩ := hB
  rw [ht] at hP1
  have hK1 := va_K.moved hvm.symm hK1
  obtain ⟨hP, hD⟩ := va_join (wr := []) (w1 := [(h0, .inr (10, [.ref h1, .int 16, v2, v3, v4, v5, v6, v7, v8, v9, v10, v11, v12, v13])), (h1, .inl (cB, 3000, .inl f188))]) hP hD [0, 1] [] rfl rfl (by decide) (by decide) hk1 hFc hP1 hD1
  have hK := (hK.sub (tys' := []) [] rfl).app hK1
  generalize H1 = H at hP hS ⊢
  have hK : va_K (dC, dI) classes [(cB, .byte)] s := hK
  have hP : va_P (dC, dI) classes [(h0, .inr (10, [.ref h1, .int 16, v2, v3, v4, v5, v6, v7, v8, v9, v10, v11, v12, v13])), (h1, .inl (cB, 3000, .inl f188))] H := hP
  have hD : va_D A [(h0, .inr (10, [.ref h1, .int 16, v2, v3, v4, v5, v6, v7, v8, v9, v10, v11, v12, v13])), (h1, .inl (cB, 3000, .inl f188))] := hD
  refine lv_aload_n hx hb dX11_feed_36 rfl (lv_at hl 0 rfl) ?_
  refine lv_iload hx hb dX11_feed_37 (lv_at hl 5 rfl) ?_
  have hPc := hP.sub (ws' := [(h0, .inr (10, [.ref h1, .int 16, v2, v3, v4, v5, v6, v7, v8, v9, v10, v11, v12, v13])), (h1, .inl (cB, 3000, .inl f188))]) [0, 1] rfl
  have hDc := hD.sub (ws' := [(h0, .inr (10, [.ref h1, .int 16, v2, v3, v4, v5, v6, v7, v8, v9, v10, v11, v12, v13])), (h1, .inl (cB, 3000, .inl f188))]) [0, 1] (by decide) rfl
  have hKc := hK.sub (tys' := [(cB, .byte)]) [0] rfl
  have hFc := va_free (wc := [(h0, .inr (10, [.ref h1, .int 16, v2, v3, v4, v5, v6, v7, v8, v9, v10, v11, v12, v13])), (h1, .inl (cB, 3000, .inl f188))]) hD hS hA [0, 1] rfl
  refine va_callv (va_runV (As := [.int ee]) (rest := []) ⟨hx, hb, hml, hown, hts⟩ (c_feedNumber l dC dI h0 ee h1 16 20 v2 v3 v4 v5 v6 v7 v8 v9 v10 v11 v12 v13 cB f188 (by decide) (by decide) H.size) (cwV 1 hts (goV wd_189 wd_190 wd_188 wd_191 wd_187) rfl rfl rfl (by decide +kernel) ⟨Nat.le_of_ble_eq_true rfl, Nat.le_of_ble_eq_true rfl⟩) ⟨blind5, va_recv hKc hPc (ci := 10) (q0 := 0) rfl rfl, fun U hU hW => ⟨rfl, pre5 hU hW hPc hKc hDc hE⟩⟩ rfl rfl hl.1 rfl (lv_room (Nat.le_of_ble_eq_true rfl)) dX11_feed_39 ⟨Nat.le_of_ble_eq_true rfl, Nat.le_of_ble_eq_true rfl⟩) hS (fun q _ h => hFc q h) hFc (fun u t H1 locs ht hvm hw hB hz1 hk1 hS => ?_)
  obtain ⟨f189, hP1, hK1, hD1⟩ := hB
  rw [ht] at hP1
  have hK1 := va_K.moved hvm.symm hK1
  obtain ⟨hP, hD⟩ := va_join (wr := []) (w1 := [(h0, .inr (10, [.ref h1, .int 20, v2, v3, v4, v5, v6, v7, v8, v9, v10, v11, v12, v13])), (h1, .inl (cB, 3000, .inl f189))]) hP hD [0, 1] [] rfl rfl (by decide) (by decide) hk1 hFc hP1 hD1
  have hK := (hK.sub (tys' := []) [] rfl).app hK1
  generalize H1 = H at hP hS ⊢
  have hK : va_K (dC, dI) classes [(cB, .byte)] s := hK
  have hP : va_P (dC, dI) classes [(h0, .inr (10, [.ref h1, .int 20, v2, v3, v4, v5, v6, v7, v8, v9, v10, v11, v12, v13])), (h1, .inl (cB, 3000, .inl f189))] H := hP
  have hD : va_D A [(h0, .inr (10, [.ref h1, .int 20, v2, v3, v4, v5, v6, v7, v8, v9, v10, v11, v12, v13])), (h1, .inl (cB, 3000, .inl f189))] := hD
  refine lv_aload_n hx hb dX11_feed_42 rfl (lv_at hl 0 rfl) ?_
  refine va_get (D := (dC, dI)) (ci := 10) (v := .int 20) (C := RX11) (T := TX11) (N := 14) hx hb hts inX11 hown hK hP 0 rfl rfl 1 (by decide) (hts _ wd_107) (fun _ h9 => h9) rfl dX11_feed_43 ?_
  have hP9 := hP.sub (ws' := []) [] rfl
  have hD9 := hD.sub (ws' := []) [] (by decide) rfl
  have hK9 := hK.sub (tys' := []) [] rfl
  refine W.widen (k := 0) (n := 0) (Nat.le_of_ble_eq_true rfl) (Nat.le_of_ble_eq_true rfl) ?_
  exact W.iret (v := 20) hx hb hr (fun t ht hW => ⟨⟨20, (), rfl, rfl, by rw [ht]; exact hP9, va_K.moved hW.alike hK9, hD9⟩, hS.F ht⟩) hS.2.2 dX11_feed_46
set_option maxHeartbeats 4000000 in
set_option maxRecDepth 100000 in
/-- cut -/
theorem c_cut (l : Launch) (dC : Nat → ClassId) (dI : Nat → Nat → Nat) (h0 : Nat) (k : Int32) (v0 : Value) (v2 : Value) (v3 : Value) (v4 : Value) (v5 : Value) (v6 : Value) (v7 : Value) (v8 : Value) (v9 : Value) (v10 : Value) (v11 : Value) (v12 : Value) (v13 : Value) (sz : Nat) : Met l yX11_cut (.code yX11_cut cX11_cut 3 (some .int) :: wU) ({ frames := 0, cells := 0, slots := 0, locals := 0 } : Room) (va_Pc [.ref h0, .int k] (fun U => P5 dC dI [(h0, .inr (10, [v0, .int 0, v2, v3, v4, v5, v6, v7, v8, v9, v10, v11, v12, v13]))] [] sz U)) (va_Qi (fun (r : Int32) (_ : Unit) => r = (cutA k)) (fun _ t => P3 dC dI (va_A [(h0, .inr (10, [v0, .int 0, v2, v3, v4, v5, v6, v7, v8, v9, v10, v11, v12, v13]))] sz) [] [] t) (va_A [(h0, .inr (10, [v0, .int 0, v2, v3, v4, v5, v6, v7, v8, v9, v10, v11, v12, v13]))] sz)) 0 0 (va_A [(h0, .inr (10, [v0, .int 0, v2, v3, v4, v5, v6, v7, v8, v9, v10, v11, v12, v13]))] sz) := by
  refine Met.ofW (cc := cX11_cut) (maxL := 3) (ret := (some .int)) (by decide) rfl ?_
  intro p e s m args below meth c s₁ B hml hv
  obtain ⟨rfl, hsz, hP, hK, hD0, hE⟩ := hv
  have hx := B.exec
  have hb := B.bytes
  have hr := B.returns
  have hts0 := atoms_spec (ws := (.code yX11_cut cX11_cut 3 (some .int) :: wU)) B.pre
  have hts : ∀ w ∈ wU, w.before _ s = true := fun w h => hts0 w (List.mem_cons_of_mem _ h)
  have hown : s.vm.findClass "SpineTables" = some m.cls := findClass_of_methodNamed B.named
  have hlocks := B.notSynchronized
  subst hsz
  have hD := hD0.self (sz := s.heap.size)
  generalize hAe : va_A [(h0, .inr (10, [v0, .int 0, v2, v3, v4, v5, v6, v7, v8, v9, v10, v11, v12, v13]))] s.heap.size = A at hD ⊢
  have hA : ∀ q : Nat, s.heap.size ≤ q → A q := fun q h => by rw [← hAe]; exact Or.inr h
  have hP : va_P (dC, dI) classes [(h0, .inr (10, [v0, .int 0, v2, v3, v4, v5, v6, v7, v8, v9, v10, v11, v12, v13]))] s.heap := hP
  have hl := lv_entry ([.ref h0, .int k]) (n := 3) (Nat.le_of_ble_eq_true rfl)
  rw [lg_entry_eq]
  generalize (lg_sl ([.ref h0, .int k]) ++ List.replicate (3 - (lg_sl ([.ref h0, .int k])).length) Slot.unset).toArray = ls at hl ⊢
  have hl : lv_has ls 3 [(0, .ref h0), (1, .int k)] := hl
  obtain ⟨H, hH⟩ : ∃ H, H = s.heap := ⟨_, rfl⟩
  rw [← hH] at hP
  have hS : va_S A s.heap H [] := by rw [hH]; exact va_S.rf
  refine w_heap hH ?_
  refine lv_iload_n hx hb dX11_cut_0 rfl (lv_at hl 1 rfl) ?_
  refine lv_if_lt (tgt := 12) hx hb dX11_cut_1 (by decide) (fun c190 => ?_) (fun c190 => ?_)
  · refine lv_iconst (v := -1) hx hb dX11_cut_12 (by decide) ?_
    have hP9 := hP.sub (ws' := []) [] rfl
    have hD9 := hD.sub (ws' := []) [] (by decide) rfl
    have hK9 := hK.sub (tys' := []) [] rfl
    refine W.widen (k := 0) (n := 0) (Nat.le_of_ble_eq_true rfl) (Nat.le_of_ble_eq_true rfl) ?_
    exact W.iret (v := (-1)) hx hb hr (fun t ht hW => ⟨⟨(-1), (), rfl, (if_pos c190).symm, by rw [ht]; exact hP9, va_K.moved hW.alike hK9, hD9⟩, hS.F ht⟩) hS.2.2 dX11_cut_13
  · refine lv_iload_n hx hb dX11_cut_4 rfl (lv_at hl 1 rfl) ?_
    refine lv_aload_n hx hb dX11_cut_5 rfl (lv_at hl 0 rfl) ?_
    refine va_get (D := (dC, dI)) (ci := 10) (v := .int 0) (C := RX11) (T := TX11) (N := 14) hx hb hts inX11 hown hK hP 0 rfl rfl 1 (by decide) (hts _ wd_107) (fun _ h9 => h9) rfl dX11_cut_6 ?_
    refine lv_icmp_le (tgt := 14) hx hb dX11_cut_9 (by decide) (fun c191 => ?_) (fun c191 => ?_)
    · refine lv_aload_n hx hb dX11_cut_14 rfl (lv_at hl 0 rfl) ?_
      refine va_get (D := (dC, dI)) (ci := 10) (v := .int 0) (C := RX11) (T := TX11) (N := 14) hx hb hts inX11 hown hK hP 0 rfl rfl 1 (by decide) (hts _ wd_107) (fun _ h9 => h9) rfl dX11_cut_15 ?_
      refine lv_iload_n hx hb dX11_cut_18 rfl (lv_at hl 1 rfl) ?_
      refine lv_isub hx hb dX11_cut_19 ?_
      refine lv_topi (fun n192 en192 => ?_)
      refine lv_istore_n (lv' := [(2, .int n192), (0, .ref h0), (1, .int k)]) hx hb dX11_cut_20 rfl hl (by decide) rfl (fun ls hl => ?_)
      refine lv_aload_n hx hb dX11_cut_21 rfl (lv_at hl 1 rfl) ?_
      refine lv_iload_n hx hb dX11_cut_22 rfl (lv_at hl 2 rfl) ?_
      refine va_put (D := (dC, dI)) (ci := 10) (v := .int k) (ty := .int) (C := RX11) (T := TX11) (N := 14) hx hb hts inX11 tyX11 tyX11_ok nmX11 hown hK hP hD hS 0 rfl rfl 1 (by decide) (hts _ wd_107) (fun _ h9 => h9) rfl (by decide +kernel) rfl rfl (Nat.le_of_ble_eq_true rfl) dX11_cut_23 (fun H locs hP hD hS => ?_)
      have hP : va_P (dC, dI) classes [(h0, .inr (10, [v0, .int k, v2, v3, v4, v5, v6, v7, v8, v9, v10, v11, v12, v13]))] H := hP
      have hD : va_D A [(h0, .inr (10, [v0, .int k, v2, v3, v4, v5, v6, v7, v8, v9, v10, v11, v12, v13]))] := hD
      refine lv_iload_n hx hb dX11_cut_26 rfl (lv_at hl 0 rfl) ?_
      have hP9 := hP.sub (ws' := []) [] rfl
      have hD9 := hD.sub (ws' := []) [] (by decide) rfl
      have hK9 := hK.sub (tys' := []) [] rfl
      refine W.widen (k := 0) (n := 0) (Nat.le_of_ble_eq_true rfl) (Nat.le_of_ble_eq_true rfl) ?_
      exact W.iret (v := n192) hx hb hr (fun t ht hW => ⟨⟨n192, (), rfl, (by unfold cutA; rw [if_neg c190, if_pos c191]; exact en192), by rw [ht]; exact hP9, va_K.moved hW.alike hK9, hD9⟩, hS.F ht⟩) hS.2.2 dX11_cut_27
    · refine lv_iconst (v := -1) hx hb dX11_cut_12 (by decide) ?_
      have hP9 := hP.sub (ws' := []) [] rfl
      have hD9 := hD.sub (ws' := []) [] (by decide) rfl
      have hK9 := hK.sub (tys' := []) [] rfl
      refine W.widen (k := 0) (n := 0) (Nat.le_of_ble_eq_true rfl) (Nat.le_of_ble_eq_true rfl) ?_
      exact W.iret (v := (-1)) hx hb hr (fun t ht hW => ⟨⟨(-1), (), rfl, (by unfold cutA; rw [if_neg c190, if_neg c191]), by rw [ht]; exact hP9, va_K.moved hW.alike hK9, hD9⟩, hS.F ht⟩) hS.2.2 dX11_cut_13
set_option maxHeartbeats 4000000 in
set_option maxRecDepth 100000 in
/-- freePlace -/
theorem c_freePlace (l : Launch) (dC : Nat → ClassId) (dI : Nat → Nat → Nat) (h0 : Nat) (h1 : Nat) (v0 : Value) (v1 : Value) (v2 : Value) (v3 : Value) (v4 : Value) (v5 : Value) (v7 : Value) (v8 : Value) (v9 : Value) (v10 : Value) (v11 : Value) (v12 : Value) (v13 : Value) (cZ : ClassId) (sz : Nat) : Met l yX11_freePlace (.code yX11_freePlace cX11_freePlace 2 (some .int) :: wU) ({ frames := 0, cells := 0, slots := 0, locals := 0 } : Room) (va_Pc [.ref h0] (fun U => P5 dC dI [(h0, .inr (10, [v0, v1, v2, v3, v4, v5, .ref h1, v7, v8, v9, v10, v11, v12, v13])), (h1, .inl (cZ, 8, .inl (fun _ => 0)))] [(cZ, .boolean)] sz U)) (va_Qi (fun (r : Int32) (_ : Unit) => r = 0) (fun _ t => P3 dC dI (va_A [(h0, .inr (10, [v0, v1, v2, v3, v4, v5, .ref h1, v7, v8, v9, v10, v11, v12, v13])), (h1, .inl (cZ, 8, .inl (fun _ => 0)))] sz) [(h0, .inr (10, [v0, v1, v2, v3, v4, v5, .ref h1, v7, v8, v9, v10, v11, v12, v13])), (h1, .inl (cZ, 8, .inl (fun _ => 0)))] [(cZ, .boolean)] t) (va_A [(h0, .inr (10, [v0, v1, v2, v3, v4, v5, .ref h1, v7, v8, v9, v10, v11, v12, v13])), (h1, .inl (cZ, 8, .inl (fun _ => 0)))] sz)) 0 0 (va_A [(h0, .inr (10, [v0, v1, v2, v3, v4, v5, .ref h1, v7, v8, v9, v10, v11, v12, v13])), (h1, .inl (cZ, 8, .inl (fun _ => 0)))] sz) := by
  refine Met.ofW (cc := cX11_freePlace) (maxL := 2) (ret := (some .int)) (by decide) rfl ?_
  intro p e s m args below meth c s₁ B hml hv
  obtain ⟨rfl, hsz, hP, hK, hD0, hE⟩ := hv
  have hx := B.exec
  have hb := B.bytes
  have hr := B.returns
  have hts0 := atoms_spec (ws := (.code yX11_freePlace cX11_freePlace 2 (some .int) :: wU)) B.pre
  have hts : ∀ w ∈ wU, w.before _ s = true := fun w h => hts0 w (List.mem_cons_of_mem _ h)
  have hown : s.vm.findClass "SpineTables" = some m.cls := findClass_of_methodNamed B.named
  have hlocks := B.notSynchronized
  subst hsz
  have hD := hD0.self (sz := s.heap.size)
  generalize hAe : va_A [(h0, .inr (10, [v0, v1, v2, v3, v4, v5, .ref h1, v7, v8, v9, v10, v11, v12, v13])), (h1, .inl (cZ, 8, .inl (fun _ => 0)))] s.heap.size = A at hD ⊢
  have hA : ∀ q : Nat, s.heap.size ≤ q → A q := fun q h => by rw [← hAe]; exact Or.inr h
  have hP : va_P (dC, dI) classes [(h0, .inr (10, [v0, v1, v2, v3, v4, v5, .ref h1, v7, v8, v9, v10, v11, v12, v13])), (h1, .inl (cZ, 8, .inl (fun _ => 0)))] s.heap := hP
  have hl := lv_entry ([.ref h0]) (n := 2) (Nat.le_of_ble_eq_true rfl)
  rw [lg_entry_eq]
  generalize (lg_sl ([.ref h0]) ++ List.replicate (2 - (lg_sl ([.ref h0])).length) Slot.unset).toArray = ls at hl ⊢
  have hl : lv_has ls 2 [(0, .ref h0)] := hl
  obtain ⟨H, hH⟩ : ∃ H, H = s.heap := ⟨_, rfl⟩
  rw [← hH] at hP
  have hS : va_S A s.heap H [] := by rw [hH]; exact va_S.rf
  refine w_heap hH ?_
  refine lv_iconst (v := 0) hx hb dX11_freePlace_0 (by decide) ?_
  refine lv_istore_n (lv' := [(1, .int 0), (0, .ref h0)]) hx hb dX11_freePlace_1 rfl hl (by decide) rfl (fun ls hl => ?_)
  refine lv_iload_n hx hb dX11_freePlace_2 rfl (lv_at hl 0 rfl) ?_
  refine lv_bipush (v := 8) hx hb dX11_freePlace_3 (by decide) ?_
  refine lv_icmp_ge (tgt := 25) hx hb dX11_freePlace_5 (by decide) (fun hc => absurd hc (by decide)) (fun _ => ?_)
  refine lv_aload_n hx hb dX11_freePlace_8 rfl (lv_at hl 1 rfl) ?_
  refine va_get (D := (dC, dI)) (ci := 10) (v := .ref h1) (C := RX11) (T := TX11) (N := 14) hx hb hts inX11 hown hK hP 0 rfl rfl 6 (by decide) (hts _ wd_114) (fun _ h9 => h9) rfl dX11_freePlace_9 ?_
  refine lv_iload_n hx hb dX11_freePlace_12 rfl (lv_at hl 0 rfl) ?_
  refine va_zald hx hb hK hP 1 0 rfl rfl (by unfold vp_in; decide) dX11_freePlace_13 ?_
  refine lv_topi (fun z9 ez9 => ?_)
  obtain rfl : z9 = 0 := ez9
  refine lv_if_ne (tgt := 19) hx hb dX11_freePlace_14 (by decide) (fun hc => absurd hc (by decide)) (fun _ => ?_)
  refine lv_iload_n hx hb dX11_freePlace_17 rfl (lv_at hl 0 rfl) ?_
  have hP9 := hP.sub (ws' := [(h0, .inr (10, [v0, v1, v2, v3, v4, v5, .ref h1, v7, v8, v9, v10, v11, v12, v13])), (h1, .inl (cZ, 8, .inl (fun _ => 0)))]) [0, 1] rfl
  have hD9 := hD.sub (ws' := [(h0, .inr (10, [v0, v1, v2, v3, v4, v5, .ref h1, v7, v8, v9, v10, v11, v12, v13])), (h1, .inl (cZ, 8, .inl (fun _ => 0)))]) [0, 1] (by decide) rfl
  have hK9 := hK.sub (tys' := [(cZ, .boolean)]) [0] rfl
  refine W.widen (k := 0) (n := 0) (Nat.le_of_ble_eq_true rfl) (Nat.le_of_ble_eq_true rfl) ?_
  exact W.iret (v := 0) hx hb hr (fun t ht hW => ⟨⟨0, (), rfl, rfl, by rw [ht]; exact hP9, va_K.moved hW.alike hK9, hD9⟩, hS.F ht⟩) hS.2.2 dX11_freePlace_18
set_option maxHeartbeats 4000000 in
set_option maxRecDepth 100000 in
/-- fault -/
theorem c_fault (l : Launch) (dC : Nat → ClassId) (dI : Nat → Nat → Nat) (h0 : Nat) (v0 : Value) (v1 : Value) (v2 : Value) (v3 : Value) (v5 : Value) (v6 : Value) (v7 : Value) (v8 : Value) (v9 : Value) (v10 : Value) (v11 : Value) (v12 : Value) (v13 : Value) (sz : Nat) : Met l yX11_fault (.code yX11_fault cX11_fault 1 (some .int) :: wU) ({ frames := 0, cells := 0, slots := 0, locals := 0 } : Room) (va_Pc [.ref h0] (fun U => P5 dC dI [(h0, .inr (10, [v0, v1, v2, v3, .int 0, v5, v6, v7, v8, v9, v10, v11, v12, v13]))] [] sz U)) (va_Qi (fun (r : Int32) (_ : Unit) => r = 0) (fun _ t => P3 dC dI (va_A [(h0, .inr (10, [v0, v1, v2, v3, .int 0, v5, v6, v7, v8, v9, v10, v11, v12, v13]))] sz) [] [] t) (va_A [(h0, .inr (10, [v0, v1, v2, v3, .int 0, v5, v6, v7, v8, v9, v10, v11, v12, v13]))] sz)) 0 0 (va_A [(h0, .inr (10, [v0, v1, v2, v3, .int 0, v5, v6, v7, v8, v9, v10, v11, v12, v13]))] sz) := by
  refine Met.ofW (cc := cX11_fault) (maxL := 1) (ret := (some .int)) (by decide) rfl ?_
  intro p e s m args below meth c s₁ B hml hv
  obtain ⟨rfl, hsz, hP, hK, hD0, hE⟩ := hv
  have hx := B.exec
  have hb := B.bytes
  have hr := B.returns
  have hts0 := atoms_spec (ws := (.code yX11_fault cX11_fault 1 (some .int) :: wU)) B.pre
  have hts : ∀ w ∈ wU, w.before _ s = true := fun w h => hts0 w (List.mem_cons_of_mem _ h)
  have hown : s.vm.findClass "SpineTables" = some m.cls := findClass_of_methodNamed B.named
  have hlocks := B.notSynchronized
  subst hsz
  have hD := hD0.self (sz := s.heap.size)
  generalize hAe : va_A [(h0, .inr (10, [v0, v1, v2, v3, .int 0, v5, v6, v7, v8, v9, v10, v11, v12, v13]))] s.heap.size = A at hD ⊢
  have hA : ∀ q : Nat, s.heap.size ≤ q → A q := fun q h => by rw [← hAe]; exact Or.inr h
  have hP : va_P (dC, dI) classes [(h0, .inr (10, [v0, v1, v2, v3, .int 0, v5, v6, v7, v8, v9, v10, v11, v12, v13]))] s.heap := hP
  have hl := lv_entry ([.ref h0]) (n := 1) (Nat.le_of_ble_eq_true rfl)
  rw [lg_entry_eq]
  generalize (lg_sl ([.ref h0]) ++ List.replicate (1 - (lg_sl ([.ref h0])).length) Slot.unset).toArray = ls at hl ⊢
  have hl : lv_has ls 1 [(0, .ref h0)] := hl
  obtain ⟨H, hH⟩ : ∃ H, H = s.heap := ⟨_, rfl⟩
  rw [← hH] at hP
  have hS : va_S A s.heap H [] := by rw [hH]; exact va_S.rf
  refine w_heap hH ?_
  refine lv_aload_n hx hb dX11_fault_0 rfl (lv_at hl 0 rfl) ?_
  refine va_get (D := (dC, dI)) (ci := 10) (v := .int 0) (C := RX11) (T := TX11) (N := 14) hx hb hts inX11 hown hK hP 0 rfl rfl 4 (by decide) (hts _ wd_110) (fun _ h9 => h9) rfl dX11_fault_1 ?_
  have hP9 := hP.sub (ws' := []) [] rfl
  have hD9 := hD.sub (ws' := []) [] (by decide) rfl
  have hK9 := hK.sub (tys' := []) [] rfl
  refine W.widen (k := 0) (n := 0) (Nat.le_of_ble_eq_true rfl) (Nat.le_of_ble_eq_true rfl) ?_
  exact W.iret (v := 0) hx hb hr (fun t ht hW => ⟨⟨0, (), rfl, rfl, by rw [ht]; exact hP9, va_K.moved hW.alike hK9, hD9⟩, hS.F ht⟩) hS.2.2 dX11_fault_4
set_option maxHeartbeats 4000000 in
set_option maxRecDepth 100000 in
/-- out -/
theorem c_out (l : Launch) (dC : Nat → ClassId) (dI : Nat → Nat → Nat) (h0 : Nat) (k : Int32) (v0 : Value) (v1 : Value) (v2 : Value) (v4 : Value) (v5 : Value) (v6 : Value) (v7 : Value) (v8 : Value) (v9 : Value) (v10 : Value) (v11 : Value) (v12 : Value) (v13 : Value) (sz : Nat) : Met l yX11_out (.code yX11_out cX11_out 2 (some .int) :: wU) ({ frames := 0, cells := 0, slots := 0, locals := 0 } : Room) (va_Pc [.ref h0, .int k] (fun U => P5 dC dI [(h0, .inr (10, [v0, v1, v2, .int 0, v4, v5, v6, v7, v8, v9, v10, v11, v12, v13]))] [] sz U)) (va_Qi (fun (r : Int32) (_ : Unit) => r = (-1)) (fun _ t => P3 dC dI (va_A [(h0, .inr (10, [v0, v1, v2, .int 0, v4, v5, v6, v7, v8, v9, v10, v11, v12, v13]))] sz) [] [] t) (va_A [(h0, .inr (10, [v0, v1, v2, .int 0, v4, v5, v6, v7, v8, v9, v10, v11, v12, v13]))] sz)) 0 0 (va_A [(h0, .inr (10, [v0, v1, v2, .int 0, v4, v5, v6, v7, v8, v9, v10, v11, v12, v13]))] sz) := by
  refine Met.ofW (cc := cX11_out) (maxL := 2) (ret := (some .int)) (by decide) rfl ?_
  intro p e s m args below meth c s₁ B hml hv
  obtain ⟨rfl, hsz, hP, hK, hD0, hE⟩ := hv
  have hx := B.exec
  have hb := B.bytes
  have hr := B.returns
  have hts0 := atoms_spec (ws := (.code yX11_out cX11_out 2 (some .int) :: wU)) B.pre
  have hts : ∀ w ∈ wU, w.before _ s = true := fun w h => hts0 w (List.mem_cons_of_mem _ h)
  have hown : s.vm.findClass "SpineTables" = some m.cls := findClass_of_methodNamed B.named
  have hlocks := B.notSynchronized
  subst hsz
  have hD := hD0.self (sz := s.heap.size)
  generalize hAe : va_A [(h0, .inr (10, [v0, v1, v2, .int 0, v4, v5, v6, v7, v8, v9, v10, v11, v12, v13]))] s.heap.size = A at hD ⊢
  have hA : ∀ q : Nat, s.heap.size ≤ q → A q := fun q h => by rw [← hAe]; exact Or.inr h
  have hP : va_P (dC, dI) classes [(h0, .inr (10, [v0, v1, v2, .int 0, v4, v5, v6, v7, v8, v9, v10, v11, v12, v13]))] s.heap := hP
  have hl := lv_entry ([.ref h0, .int k]) (n := 2) (Nat.le_of_ble_eq_true rfl)
  rw [lg_entry_eq]
  generalize (lg_sl ([.ref h0, .int k]) ++ List.replicate (2 - (lg_sl ([.ref h0, .int k])).length) Slot.unset).toArray = ls at hl ⊢
  have hl : lv_has ls 2 [(0, .ref h0), (1, .int k)] := hl
  obtain ⟨H, hH⟩ : ∃ H, H = s.heap := ⟨_, rfl⟩
  rw [← hH] at hP
  have hS : va_S A s.heap H [] := by rw [hH]; exact va_S.rf
  refine w_heap hH ?_
  refine lv_iload_n hx hb dX11_out_0 rfl (lv_at hl 1 rfl) ?_
  refine lv_if_lt (tgt := 19) hx hb dX11_out_1 (by decide) (fun c193 => ?_) (fun c193 => ?_)
  · refine lv_iconst (v := -1) hx hb dX11_out_19 (by decide) ?_
    refine lv_goto (tgt := 29) hx hb dX11_out_20 (by decide) ?_
    have hP9 := hP.sub (ws' := []) [] rfl
    have hD9 := hD.sub (ws' := []) [] (by decide) rfl
    have hK9 := hK.sub (tys' := []) [] rfl
    refine W.widen (k := 0) (n := 0) (Nat.le_of_ble_eq_true rfl) (Nat.le_of_ble_eq_true rfl) ?_
    exact W.iret (v := (-1)) hx hb hr (fun t ht hW => ⟨⟨(-1), (), rfl, rfl, by rw [ht]; exact hP9, va_K.moved hW.alike hK9, hD9⟩, hS.F ht⟩) hS.2.2 dX11_out_29
  · refine lv_iload_n hx hb dX11_out_4 rfl (lv_at hl 1 rfl) ?_
    refine lv_aload_n hx hb dX11_out_5 rfl (lv_at hl 0 rfl) ?_
    refine va_get (D := (dC, dI)) (ci := 10) (v := .int 0) (C := RX11) (T := TX11) (N := 14) hx hb hts inX11 hown hK hP 0 rfl rfl 3 (by decide) (hts _ wd_109) (fun _ h9 => h9) rfl dX11_out_6 ?_
    refine lv_icmp_ge (tgt := 19) hx hb dX11_out_9 (by decide) (fun _ => ?_) (fun hc => absurd (Int32.not_lt.mp c193) hc)
    refine lv_iconst (v := -1) hx hb dX11_out_19 (by decide) ?_
    refine lv_goto (tgt := 29) hx hb dX11_out_20 (by decide) ?_
    have hP9 := hP.sub (ws' := []) [] rfl
    have hD9 := hD.sub (ws' := []) [] (by decide) rfl
    have hK9 := hK.sub (tys' := []) [] rfl
    refine W.widen (k := 0) (n := 0) (Nat.le_of_ble_eq_true rfl) (Nat.le_of_ble_eq_true rfl) ?_
    exact W.iret (v := (-1)) hx hb hr (fun t ht hW => ⟨⟨(-1), (), rfl, rfl, by rw [ht]; exact hP9, va_K.moved hW.alike hK9, hD9⟩, hS.F ht⟩) hS.2.2 dX11_out_29
