set_option maxHeartbeats 4000000 in
set_option maxRecDepth 100000 in
/-- Fraction -/
theorem c_Fraction (l : Launch) (dC : Nat → ClassId) (dI : Nat → Nat → Nat) (h0 : Nat) (sz : Nat) : Met l yX3_init (.code yX3_init cX3_init 1 none :: wU) ({ frames := 1, cells := 0, slots := 0, locals := 12 } : Room) (va_Pc [.ref h0] (fun U => P5 dC dI [(h0, .inr (3, [.long 0, .long 0]))] [] sz U)) (va_Qv (fun _ : Unit => True) (fun _ t => P3 dC dI (va_A [(h0, .inr (3, [.long 0, .long 0]))] sz) [(h0, .inr (3, [.long 0, .long 1]))] [] t) (va_A [(h0, .inr (3, [.long 0, .long 0]))] sz)) 0 0 (va_A [(h0, .inr (3, [.long 0, .long 0]))] sz) := by
  refine Met.ofW (cc := cX3_init) (maxL := 1) (ret := none) (by decide) rfl ?_
  intro p e s m args below meth c s₁ B hml hv
  obtain ⟨rfl, hsz, hP, hK, hD0, hE⟩ := hv
  have hx := B.exec
  have hb := B.bytes
  have hr := B.returns
  have hts0 := atoms_spec (ws := (.code yX3_init cX3_init 1 none :: wU)) B.pre
  have hts : ∀ w ∈ wU, w.before _ s = true := fun w h => hts0 w (List.mem_cons_of_mem _ h)
  have hown : s.vm.findClass "SpineTables$Fraction" = some m.cls := findClass_of_methodNamed B.named
  have hlocks := B.notSynchronized
  have hin : meth.name = "<init>" := (name_of_methodNamed B.named B.method).1
  subst hsz
  have hD := hD0.self (sz := s.heap.size)
  generalize hAe : va_A [(h0, .inr (3, [.long 0, .long 0]))] s.heap.size = A at hD ⊢
  have hA : ∀ q : Nat, s.heap.size ≤ q → A q := fun q h => by rw [← hAe]; exact Or.inr h
  have hP : va_P (dC, dI) classes [(h0, .inr (3, [.long 0, .long 0]))] s.heap := hP
  have hl := lv_entry ([.ref h0]) (n := 1) (Nat.le_of_ble_eq_true rfl)
  rw [lg_entry_eq]
  generalize (lg_sl ([.ref h0]) ++ List.replicate (1 - (lg_sl ([.ref h0])).length) Slot.unset).toArray = ls at hl ⊢
  have hl : lv_has ls 1 [(0, .ref h0)] := hl
  obtain ⟨H, hH⟩ : ∃ H, H = s.heap := ⟨_, rfl⟩
  rw [← hH] at hP
  have hS : va_S A s.heap H [] := by rw [hH]; exact va_S.rf
  refine w_heap hH ?_
  refine lv_aload_n hx hb dX3_init_0 rfl (lv_at hl 0 rfl) ?_
  refine W.objInit hx hb hown (hts _ wd_0) (hts _ wd_1) (hts _ wd_oi) rfl (by rw [hml]; exact hl.1) rfl dX3_init_1 (Nat.le_of_ble_eq_true rfl) (Nat.le_of_ble_eq_true rfl) ?_
  refine W.eq (g2 := F0 m 4 ls []) rfl ?_
  refine lv_aload_n hx hb dX3_init_4 rfl (lv_at hl 0 rfl) ?_
  refine lv_lconst (v := 0) hx hb dX3_init_5 (by decide) ?_
  refine va_put (D := (dC, dI)) (ci := 3) (v := .long 0) (ty := .long) (C := RX3) (T := TX3) (N := 2) hx hb hts inX3 tyX3 tyX3_ok nmX3 hown hK hP hD hS 0 rfl rfl 0 (by decide) (hts _ wd_2) (fun _ h9 => h9) rfl (by decide +kernel) rfl rfl (Nat.le_of_ble_eq_true rfl) dX3_init_6 (fun H locs hP hD hS => ?_)
  have hP : va_P (dC, dI) classes [(h0, .inr (3, [.long 0, .long 0]))] H := hP
  have hD : va_D A [(h0, .inr (3, [.long 0, .long 0]))] := hD
  refine lv_aload_n hx hb dX3_init_9 rfl (lv_at hl 0 rfl) ?_
  refine lv_lconst (v := 1) hx hb dX3_init_10 (by decide) ?_
  refine va_put (D := (dC, dI)) (ci := 3) (v := .long 1) (ty := .long) (C := RX3) (T := TX3) (N := 2) hx hb hts inX3 tyX3 tyX3_ok nmX3 hown hK hP hD hS 0 rfl rfl 1 (by decide) (hts _ wd_3) (fun _ h9 => h9) rfl (by decide +kernel) rfl rfl (Nat.le_of_ble_eq_true rfl) dX3_init_11 (fun H locs hP hD hS => ?_)
  have hP : va_P (dC, dI) classes [(h0, .inr (3, [.long 0, .long 1]))] H := hP
  have hD : va_D A [(h0, .inr (3, [.long 0, .long 1]))] := hD
  have hP9 := hP.sub (ws' := [(h0, .inr (3, [.long 0, .long 1]))]) [0] rfl
  have hD9 := hD.sub (ws' := [(h0, .inr (3, [.long 0, .long 1]))]) [0] (by decide) rfl
  have hK9 := hK.sub (tys' := []) [] rfl
  refine W.widen (k := 0) (n := 0) (Nat.le_of_ble_eq_true rfl) (Nat.le_of_ble_eq_true rfl) ?_
  exact W.vret hx hb hr (fun t ht hW => ⟨⟨(), rfl, trivial, by rw [ht]; exact hP9, va_K.moved hW.alike hK9, hD9⟩, hS.F ht⟩) hS.2.2 dX3_init_14
set_option maxHeartbeats 4000000 in
set_option maxRecDepth 100000 in
/-- Reader -/
theorem c_Reader (l : Launch) (dC : Nat → ClassId) (dI : Nat → Nat → Nat) (h0 : Nat) (sz : Nat) : Met l yX5_init (.code yX5_init cX5_init 1 none :: wU) ({ frames := 1, cells := 3, slots := 39, locals := 12 } : Room) (va_Pc [.ref h0] (fun U => P5 dC dI [(h0, .inr (5, [.int 0, .int 0, .null, .int 0, .null, .int 0, .int 0, .int 0, .null, .null, .null, .int 0, .int 0, .int 0, .int 0, .int 0]))] [] sz U)) (va_Qv (fun _ : Unit => True) (fun _ t => ∃ e_q1 : Nat, ∃ e_q3 : Nat, ∃ e_q5 : Nat, P3 dC dI (va_A [(h0, .inr (5, [.int 0, .int 0, .null, .int 0, .null, .int 0, .int 0, .int 0, .null, .null, .null, .int 0, .int 0, .int 0, .int 0, .int 0]))] sz) [(h0, .inr (5, [.int 0, .int 0, .null, .int 0, .null, .int 0, .int 4, .int 0, .ref e_q1, .ref e_q3, .ref e_q5, .int (-1), .int (-1), .int 0, .int 0, .int 0]))] [] t) (va_A [(h0, .inr (5, [.int 0, .int 0, .null, .int 0, .null, .int 0, .int 0, .int 0, .null, .null, .null, .int 0, .int 0, .int 0, .int 0, .int 0]))] sz)) 3 39 (va_A [(h0, .inr (5, [.int 0, .int 0, .null, .int 0, .null, .int 0, .int 0, .int 0, .null, .null, .null, .int 0, .int 0, .int 0, .int 0, .int 0]))] sz) := by
  refine Met.ofW (cc := cX5_init) (maxL := 1) (ret := none) (by decide) rfl ?_
  intro p e s m args below meth c s₁ B hml hv
  obtain ⟨rfl, hsz, hP, hK, hD0, hE⟩ := hv
  have hx := B.exec
  have hb := B.bytes
  have hr := B.returns
  have hts0 := atoms_spec (ws := (.code yX5_init cX5_init 1 none :: wU)) B.pre
  have hts : ∀ w ∈ wU, w.before _ s = true := fun w h => hts0 w (List.mem_cons_of_mem _ h)
  have hown : s.vm.findClass "SpineTables$Reader" = some m.cls := findClass_of_methodNamed B.named
  have hlocks := B.notSynchronized
  have hin : meth.name = "<init>" := (name_of_methodNamed B.named B.method).1
  subst hsz
  have hD := hD0.self (sz := s.heap.size)
  generalize hAe : va_A [(h0, .inr (5, [.int 0, .int 0, .null, .int 0, .null, .int 0, .int 0, .int 0, .null, .null, .null, .int 0, .int 0, .int 0, .int 0, .int 0]))] s.heap.size = A at hD ⊢
  have hA : ∀ q : Nat, s.heap.size ≤ q → A q := fun q h => by rw [← hAe]; exact Or.inr h
  have hP : va_P (dC, dI) classes [(h0, .inr (5, [.int 0, .int 0, .null, .int 0, .null, .int 0, .int 0, .int 0, .null, .null, .null, .int 0, .int 0, .int 0, .int 0, .int 0]))] s.heap := hP
  have hl := lv_entry ([.ref h0]) (n := 1) (Nat.le_of_ble_eq_true rfl)
  rw [lg_entry_eq]
  generalize (lg_sl ([.ref h0]) ++ List.replicate (1 - (lg_sl ([.ref h0])).length) Slot.unset).toArray = ls at hl ⊢
  have hl : lv_has ls 1 [(0, .ref h0)] := hl
  obtain ⟨H, hH⟩ : ∃ H, H = s.heap := ⟨_, rfl⟩
  rw [← hH] at hP
  have hS : va_S A s.heap H [] := by rw [hH]; exact va_S.rf
  refine w_heap hH ?_
  refine lv_aload_n hx hb dX5_init_0 rfl (lv_at hl 0 rfl) ?_
  refine W.objInit hx hb hown (hts _ wd_4) (hts _ wd_1) (hts _ wd_oi) rfl (by rw [hml]; exact hl.1) rfl dX5_init_1 (Nat.le_of_ble_eq_true rfl) (Nat.le_of_ble_eq_true rfl) ?_
  refine W.eq (g2 := F0 m 4 ls []) rfl ?_
  refine lv_aload_n hx hb dX5_init_4 rfl (lv_at hl 0 rfl) ?_
  refine lv_iconst (v := 0) hx hb dX5_init_5 (by decide) ?_
  refine va_put (D := (dC, dI)) (ci := 5) (v := .int 0) (ty := .int) (C := RX5) (T := TX5) (N := 16) hx hb hts inX5 tyX5 tyX5_ok nmX5 hown hK hP hD hS 0 rfl rfl 0 (by decide) (hts _ wd_5) (fun _ h9 => h9) rfl (by decide +kernel) rfl rfl (Nat.le_of_ble_eq_true rfl) dX5_init_6 (fun H locs hP hD hS => ?_)
  have hP : va_P (dC, dI) classes [(h0, .inr (5, [.int 0, .int 0, .null, .int 0, .null, .int 0, .int 0, .int 0, .null, .null, .null, .int 0, .int 0, .int 0, .int 0, .int 0]))] H := hP
  have hD : va_D A [(h0, .inr (5, [.int 0, .int 0, .null, .int 0, .null, .int 0, .int 0, .int 0, .null, .null, .null, .int 0, .int 0, .int 0, .int 0, .int 0]))] := hD
  refine lv_aload_n hx hb dX5_init_9 rfl (lv_at hl 0 rfl) ?_
  refine lv_iconst (v := 0) hx hb dX5_init_10 (by decide) ?_
  refine va_put (D := (dC, dI)) (ci := 5) (v := .int 0) (ty := .int) (C := RX5) (T := TX5) (N := 16) hx hb hts inX5 tyX5 tyX5_ok nmX5 hown hK hP hD hS 0 rfl rfl 1 (by decide) (hts _ wd_6) (fun _ h9 => h9) rfl (by decide +kernel) rfl rfl (Nat.le_of_ble_eq_true rfl) dX5_init_11 (fun H locs hP hD hS => ?_)
  have hP : va_P (dC, dI) classes [(h0, .inr (5, [.int 0, .int 0, .null, .int 0, .null, .int 0, .int 0, .int 0, .null, .null, .null, .int 0, .int 0, .int 0, .int 0, .int 0]))] H := hP
  have hD : va_D A [(h0, .inr (5, [.int 0, .int 0, .null, .int 0, .null, .int 0, .int 0, .int 0, .null, .null, .null, .int 0, .int 0, .int 0, .int 0, .int 0]))] := hD
  refine lv_aload_n hx hb dX5_init_14 rfl (lv_at hl 0 rfl) ?_
  refine lv_null hx hb dX5_init_15 ?_
  refine va_put (D := (dC, dI)) (ci := 5) (v := .null) (ty := (.array .byte)) (C := RX5) (T := TX5) (N := 16) hx hb hts inX5 tyX5 tyX5_ok nmX5 hown hK hP hD hS 0 rfl rfl 2 (by decide) (hts _ wd_7) (fun _ h9 => h9) rfl (by decide +kernel) rfl rfl (Nat.le_of_ble_eq_true rfl) dX5_init_16 (fun H locs hP hD hS => ?_)
  have hP : va_P (dC, dI) classes [(h0, .inr (5, [.int 0, .int 0, .null, .int 0, .null, .int 0, .int 0, .int 0, .null, .null, .null, .int 0, .int 0, .int 0, .int 0, .int 0]))] H := hP
  have hD : va_D A [(h0, .inr (5, [.int 0, .int 0, .null, .int 0, .null, .int 0, .int 0, .int 0, .null, .null, .null, .int 0, .int 0, .int 0, .int 0, .int 0]))] := hD
  refine lv_aload_n hx hb dX5_init_19 rfl (lv_at hl 0 rfl) ?_
  refine lv_iconst (v := 0) hx hb dX5_init_20 (by decide) ?_
  refine va_put (D := (dC, dI)) (ci := 5) (v := .int 0) (ty := .int) (C := RX5) (T := TX5) (N := 16) hx hb hts inX5 tyX5 tyX5_ok nmX5 hown hK hP hD hS 0 rfl rfl 3 (by decide) (hts _ wd_8) (fun _ h9 => h9) rfl (by decide +kernel) rfl rfl (Nat.le_of_ble_eq_true rfl) dX5_init_21 (fun H locs hP hD hS => ?_)
  have hP : va_P (dC, dI) classes [(h0, .inr (5, [.int 0, .int 0, .null, .int 0, .null, .int 0, .int 0, .int 0, .null, .null, .null, .int 0, .int 0, .int 0, .int 0, .int 0]))] H := hP
  have hD : va_D A [(h0, .inr (5, [.int 0, .int 0, .null, .int 0, .null, .int 0, .int 0, .int 0, .null, .null, .null, .int 0, .int 0, .int 0, .int 0, .int 0]))] := hD
  refine lv_aload_n hx hb dX5_init_24 rfl (lv_at hl 0 rfl) ?_
  refine lv_null hx hb dX5_init_25 ?_
  refine va_put (D := (dC, dI)) (ci := 5) (v := .null) (ty := (.object "SpineTables$Table")) (C := RX5) (T := TX5) (N := 16) hx hb hts inX5 tyX5 tyX5_ok nmX5 hown hK hP hD hS 0 rfl rfl 4 (by decide) (hts _ wd_9) (fun _ h9 => h9) rfl (by decide +kernel) rfl rfl (Nat.le_of_ble_eq_true rfl) dX5_init_26 (fun H locs hP hD hS => ?_)
  have hP : va_P (dC, dI) classes [(h0, .inr (5, [.int 0, .int 0, .null, .int 0, .null, .int 0, .int 0, .int 0, .null, .null, .null, .int 0, .int 0, .int 0, .int 0, .int 0]))] H := hP
  have hD : va_D A [(h0, .inr (5, [.int 0, .int 0, .null, .int 0, .null, .int 0, .int 0, .int 0, .null, .null, .null, .int 0, .int 0, .int 0, .int 0, .int 0]))] := hD
  refine lv_aload_n hx hb dX5_init_29 rfl (lv_at hl 0 rfl) ?_
  refine lv_iconst (v := 0) hx hb dX5_init_30 (by decide) ?_
  refine va_put (D := (dC, dI)) (ci := 5) (v := .int 0) (ty := .int) (C := RX5) (T := TX5) (N := 16) hx hb hts inX5 tyX5 tyX5_ok nmX5 hown hK hP hD hS 0 rfl rfl 5 (by decide) (hts _ wd_10) (fun _ h9 => h9) rfl (by decide +kernel) rfl rfl (Nat.le_of_ble_eq_true rfl) dX5_init_31 (fun H locs hP hD hS => ?_)
  have hP : va_P (dC, dI) classes [(h0, .inr (5, [.int 0, .int 0, .null, .int 0, .null, .int 0, .int 0, .int 0, .null, .null, .null, .int 0, .int 0, .int 0, .int 0, .int 0]))] H := hP
  have hD : va_D A [(h0, .inr (5, [.int 0, .int 0, .null, .int 0, .null, .int 0, .int 0, .int 0, .null, .null, .null, .int 0, .int 0, .int 0, .int 0, .int 0]))] := hD
  refine lv_aload_n hx hb dX5_init_34 rfl (lv_at hl 0 rfl) ?_
  refine lv_iconst (v := 4) hx hb dX5_init_35 (by decide) ?_
  refine va_put (D := (dC, dI)) (ci := 5) (v := .int 4) (ty := .int) (C := RX5) (T := TX5) (N := 16) hx hb hts inX5 tyX5 tyX5_ok nmX5 hown hK hP hD hS 0 rfl rfl 6 (by decide) (hts _ wd_11) (fun _ h9 => h9) rfl (by decide +kernel) rfl rfl (Nat.le_of_ble_eq_true rfl) dX5_init_36 (fun H locs hP hD hS => ?_)
  have hP : va_P (dC, dI) classes [(h0, .inr (5, [.int 0, .int 0, .null, .int 0, .null, .int 0, .int 4, .int 0, .null, .null, .null, .int 0, .int 0, .int 0, .int 0, .int 0]))] H := hP
  have hD : va_D A [(h0, .inr (5, [.int 0, .int 0, .null, .int 0, .null, .int 0, .int 4, .int 0, .null, .null, .null, .int 0, .int 0, .int 0, .int 0, .int 0]))] := hD
  refine lv_aload_n hx hb dX5_init_39 rfl (lv_at hl 0 rfl) ?_
  refine lv_iconst (v := 0) hx hb dX5_init_40 (by decide) ?_
  refine va_put (D := (dC, dI)) (ci := 5) (v := .int 0) (ty := .int) (C := RX5) (T := TX5) (N := 16) hx hb hts inX5 tyX5 tyX5_ok nmX5 hown hK hP hD hS 0 rfl rfl 7 (by decide) (hts _ wd_12) (fun _ h9 => h9) rfl (by decide +kernel) rfl rfl (Nat.le_of_ble_eq_true rfl) dX5_init_41 (fun H locs hP hD hS => ?_)
  have hP : va_P (dC, dI) classes [(h0, .inr (5, [.int 0, .int 0, .null, .int 0, .null, .int 0, .int 4, .int 0, .null, .null, .null, .int 0, .int 0, .int 0, .int 0, .int 0]))] H := hP
  have hD : va_D A [(h0, .inr (5, [.int 0, .int 0, .null, .int 0, .null, .int 0, .int 4, .int 0, .null, .null, .null, .int 0, .int 0, .int 0, .int 0, .int 0]))] := hD
  refine lv_aload_n hx hb dX5_init_44 rfl (lv_at hl 0 rfl) ?_
  refine lv_bipush (v := 13) hx hb dX5_init_45 (by decide) ?_
  refine va_newa (atype := .int) (ty := .int) (N' := 13) (a0 := (13, .inl (fun _ => 0))) hx hb (hts _ wd_13) rfl hK hP hD hS hA (fun _ => rfl) (by decide) (by decide) (by decide) (Nat.le_of_ble_eq_true rfl) (Nat.le_of_ble_eq_true rfl) dX5_init_47 (fun q1 y2 H hK hP hD hS => ?_)
  have hK : va_K (dC, dI) classes [(y2, .int)] s := hK
  have hP : va_P (dC, dI) classes [(h0, .inr (5, [.int 0, .int 0, .null, .int 0, .null, .int 0, .int 4, .int 0, .null, .null, .null, .int 0, .int 0, .int 0, .int 0, .int 0])), (q1, .inl (y2, 13, .inl (fun _ => 0)))] H := hP
  have hD : va_D A [(h0, .inr (5, [.int 0, .int 0, .null, .int 0, .null, .int 0, .int 4, .int 0, .null, .null, .null, .int 0, .int 0, .int 0, .int 0, .int 0])), (q1, .inl (y2, 13, .inl (fun _ => 0)))] := hD
  refine W.widen (k := 1) (n := 13) (Nat.le_of_ble_eq_true rfl) (Nat.le_of_ble_eq_true rfl) ?_
  refine va_putF (D := (dC, dI)) (ci := 5) (v := .ref q1) (ty := (.array .int)) (C := RX5) (T := TX5) (N := 16) hx hb hts inX5 tyX5 tyX5_ok nmX5 hown hK hP hD hS 0 rfl rfl 8 (by decide) (hts _ wd_14) (fun _ h9 => h9) rfl hin rfl (by decide +kernel) rfl rfl (Nat.le_of_ble_eq_true rfl) dX5_init_49 (fun H locs hP hD hS => ?_)
  have hP : va_P (dC, dI) classes [(h0, .inr (5, [.int 0, .int 0, .null, .int 0, .null, .int 0, .int 4, .int 0, .ref q1, .null, .null, .int 0, .int 0, .int 0, .int 0, .int 0])), (q1, .inl (y2, 13, .inl (fun _ => 0)))] H := hP
  have hD : va_D A [(h0, .inr (5, [.int 0, .int 0, .null, .int 0, .null, .int 0, .int 4, .int 0, .ref q1, .null, .null, .int 0, .int 0, .int 0, .int 0, .int 0])), (q1, .inl (y2, 13, .inl (fun _ => 0)))] := hD
  have hP : va_P (dC, dI) classes [(h0, .inr (5, [.int 0, .int 0, .null, .int 0, .null, .int 0, .int 4, .int 0, .ref q1, .null, .null, .int 0, .int 0, .int 0, .int 0, .int 0]))] H := hP.sub [0] rfl
  have hD : va_D A [(h0, .inr (5, [.int 0, .int 0, .null, .int 0, .null, .int 0, .int 4, .int 0, .ref q1, .null, .null, .int 0, .int 0, .int 0, .int 0, .int 0]))] := hD.sub [0] (by decide) rfl
  have hK : va_K (dC, dI) classes [] s := hK.sub [] rfl
  refine lv_aload_n hx hb dX5_init_52 rfl (lv_at hl 0 rfl) ?_
  refine lv_bipush (v := 13) hx hb dX5_init_53 (by decide) ?_
  refine va_newa (atype := .int) (ty := .int) (N' := 13) (a0 := (13, .inl (fun _ => 0))) hx hb (hts _ wd_13) rfl hK hP hD hS hA (fun _ => rfl) (by decide) (by decide) (by decide) (Nat.le_of_ble_eq_true rfl) (Nat.le_of_ble_eq_true rfl) dX5_init_55 (fun q3 y4 H hK hP hD hS => ?_)
  have hK : va_K (dC, dI) classes [(y4, .int)] s := hK
  have hP : va_P (dC, dI) classes [(h0, .inr (5, [.int 0, .int 0, .null, .int 0, .null, .int 0, .int 4, .int 0, .ref q1, .null, .null, .int 0, .int 0, .int 0, .int 0, .int 0])), (q3, .inl (y4, 13, .inl (fun _ => 0)))] H := hP
  have hD : va_D A [(h0, .inr (5, [.int 0, .int 0, .null, .int 0, .null, .int 0, .int 4, .int 0, .ref q1, .null, .null, .int 0, .int 0, .int 0, .int 0, .int 0])), (q3, .inl (y4, 13, .inl (fun _ => 0)))] := hD
  refine W.widen (k := 2) (n := 26) (Nat.le_of_ble_eq_true rfl) (Nat.le_of_ble_eq_true rfl) ?_
  refine va_putF (D := (dC, dI)) (ci := 5) (v := .ref q3) (ty := (.array .int)) (C := RX5) (T := TX5) (N := 16) hx hb hts inX5 tyX5 tyX5_ok nmX5 hown hK hP hD hS 0 rfl rfl 9 (by decide) (hts _ wd_15) (fun _ h9 => h9) rfl hin rfl (by decide +kernel) rfl rfl (Nat.le_of_ble_eq_true rfl) dX5_init_57 (fun H locs hP hD hS => ?_)
  have hP : va_P (dC, dI) classes [(h0, .inr (5, [.int 0, .int 0, .null, .int 0, .null, .int 0, .int 4, .int 0, .ref q1, .ref q3, .null, .int 0, .int 0, .int 0, .int 0, .int 0])), (q3, .inl (y4, 13, .inl (fun _ => 0)))] H := hP
  have hD : va_D A [(h0, .inr (5, [.int 0, .int 0, .null, .int 0, .null, .int 0, .int 4, .int 0, .ref q1, .ref q3, .null, .int 0, .int 0, .int 0, .int 0, .int 0])), (q3, .inl (y4, 13, .inl (fun _ => 0)))] := hD
  have hP : va_P (dC, dI) classes [(h0, .inr (5, [.int 0, .int 0, .null, .int 0, .null, .int 0, .int 4, .int 0, .ref q1, .ref q3, .null, .int 0, .int 0, .int 0, .int 0, .int 0]))] H := hP.sub [0] rfl
  have hD : va_D A [(h0, .inr (5, [.int 0, .int 0, .null, .int 0, .null, .int 0, .int 4, .int 0, .ref q1, .ref q3, .null, .int 0, .int 0, .int 0, .int 0, .int 0]))] := hD.sub [0] (by decide) rfl
  have hK : va_K (dC, dI) classes [] s := hK.sub [] rfl
  refine lv_aload_n hx hb dX5_init_60 rfl (lv_at hl 0 rfl) ?_
  refine lv_bipush (v := 13) hx hb dX5_init_61 (by decide) ?_
  refine va_newa (atype := .int) (ty := .int) (N' := 13) (a0 := (13, .inl (fun _ => 0))) hx hb (hts _ wd_13) rfl hK hP hD hS hA (fun _ => rfl) (by decide) (by decide) (by decide) (Nat.le_of_ble_eq_true rfl) (Nat.le_of_ble_eq_true rfl) dX5_init_63 (fun q5 y6 H hK hP hD hS => ?_)
  have hK : va_K (dC, dI) classes [(y6, .int)] s := hK
  have hP : va_P (dC, dI) classes [(h0, .inr (5, [.int 0, .int 0, .null, .int 0, .null, .int 0, .int 4, .int 0, .ref q1, .ref q3, .null, .int 0, .int 0, .int 0, .int 0, .int 0])), (q5, .inl (y6, 13, .inl (fun _ => 0)))] H := hP
  have hD : va_D A [(h0, .inr (5, [.int 0, .int 0, .null, .int 0, .null, .int 0, .int 4, .int 0, .ref q1, .ref q3, .null, .int 0, .int 0, .int 0, .int 0, .int 0])), (q5, .inl (y6, 13, .inl (fun _ => 0)))] := hD
  refine W.widen (k := 3) (n := 39) (Nat.le_of_ble_eq_true rfl) (Nat.le_of_ble_eq_true rfl) ?_
  refine va_putF (D := (dC, dI)) (ci := 5) (v := .ref q5) (ty := (.array .int)) (C := RX5) (T := TX5) (N := 16) hx hb hts inX5 tyX5 tyX5_ok nmX5 hown hK hP hD hS 0 rfl rfl 10 (by decide) (hts _ wd_16) (fun _ h9 => h9) rfl hin rfl (by decide +kernel) rfl rfl (Nat.le_of_ble_eq_true rfl) dX5_init_65 (fun H locs hP hD hS => ?_)
  have hP : va_P (dC, dI) classes [(h0, .inr (5, [.int 0, .int 0, .null, .int 0, .null, .int 0, .int 4, .int 0, .ref q1, .ref q3, .ref q5, .int 0, .int 0, .int 0, .int 0, .int 0])), (q5, .inl (y6, 13, .inl (fun _ => 0)))] H := hP
  have hD : va_D A [(h0, .inr (5, [.int 0, .int 0, .null, .int 0, .null, .int 0, .int 4, .int 0, .ref q1, .ref q3, .ref q5, .int 0, .int 0, .int 0, .int 0, .int 0])), (q5, .inl (y6, 13, .inl (fun _ => 0)))] := hD
  have hP : va_P (dC, dI) classes [(h0, .inr (5, [.int 0, .int 0, .null, .int 0, .null, .int 0, .int 4, .int 0, .ref q1, .ref q3, .ref q5, .int 0, .int 0, .int 0, .int 0, .int 0]))] H := hP.sub [0] rfl
  have hD : va_D A [(h0, .inr (5, [.int 0, .int 0, .null, .int 0, .null, .int 0, .int 4, .int 0, .ref q1, .ref q3, .ref q5, .int 0, .int 0, .int 0, .int 0, .int 0]))] := hD.sub [0] (by decide) rfl
  have hK : va_K (dC, dI) classes [] s := hK.sub [] rfl
  refine lv_aload_n hx hb dX5_init_68 rfl (lv_at hl 0 rfl) ?_
  refine lv_iconst (v := -1) hx hb dX5_init_69 (by decide) ?_
  refine va_put (D := (dC, dI)) (ci := 5) (v := .int (-1)) (ty := .int) (C := RX5) (T := TX5) (N := 16) hx hb hts inX5 tyX5 tyX5_ok nmX5 hown hK hP hD hS 0 rfl rfl 11 (by decide) (hts _ wd_17) (fun _ h9 => h9) rfl (by decide +kernel) rfl rfl (Nat.le_of_ble_eq_true rfl) dX5_init_70 (fun H locs hP hD hS => ?_)
  have hP : va_P (dC, dI) classes [(h0, .inr (5, [.int 0, .int 0, .null, .int 0, .null, .int 0, .int 4, .int 0, .ref q1, .ref q3, .ref q5, .int (-1), .int 0, .int 0, .int 0, .int 0]))] H := hP
  have hD : va_D A [(h0, .inr (5, [.int 0, .int 0, .null, .int 0, .null, .int 0, .int 4, .int 0, .ref q1, .ref q3, .ref q5, .int (-1), .int 0, .int 0, .int 0, .int 0]))] := hD
  refine lv_aload_n hx hb dX5_init_73 rfl (lv_at hl 0 rfl) ?_
  refine lv_iconst (v := -1) hx hb dX5_init_74 (by decide) ?_
  refine va_put (D := (dC, dI)) (ci := 5) (v := .int (-1)) (ty := .int) (C := RX5) (T := TX5) (N := 16) hx hb hts inX5 tyX5 tyX5_ok nmX5 hown hK hP hD hS 0 rfl rfl 12 (by decide) (hts _ wd_18) (fun _ h9 => h9) rfl (by decide +kernel) rfl rfl (Nat.le_of_ble_eq_true rfl) dX5_init_75 (fun H locs hP hD hS => ?_)
  have hP : va_P (dC, dI) classes [(h0, .inr (5, [.int 0, .int 0, .null, .int 0, .null, .int 0, .int 4, .int 0, .ref q1, .ref q3, .ref q5, .int (-1), .int (-1), .int 0, .int 0, .int 0]))] H := hP
  have hD : va_D A [(h0, .inr (5, [.int 0, .int 0, .null, .int 0, .null, .int 0, .int 4, .int 0, .ref q1, .ref q3, .ref q5, .int (-1), .int (-1), .int 0, .int 0, .int 0]))] := hD
  refine lv_aload_n hx hb dX5_init_78 rfl (lv_at hl 0 rfl) ?_
  refine lv_iconst (v := 0) hx hb dX5_init_79 (by decide) ?_
  refine va_put (D := (dC, dI)) (ci := 5) (v := .int 0) (ty := .int) (C := RX5) (T := TX5) (N := 16) hx hb hts inX5 tyX5 tyX5_ok nmX5 hown hK hP hD hS 0 rfl rfl 13 (by decide) (hts _ wd_19) (fun _ h9 => h9) rfl (by decide +kernel) rfl rfl (Nat.le_of_ble_eq_true rfl) dX5_init_80 (fun H locs hP hD hS => ?_)
  have hP : va_P (dC, dI) classes [(h0, .inr (5, [.int 0, .int 0, .null, .int 0, .null, .int 0, .int 4, .int 0, .ref q1, .ref q3, .ref q5, .int (-1), .int (-1), .int 0, .int 0, .int 0]))] H := hP
  have hD : va_D A [(h0, .inr (5, [.int 0, .int 0, .null, .int 0, .null, .int 0, .int 4, .int 0, .ref q1, .ref q3, .ref q5, .int (-1), .int (-1), .int 0, .int 0, .int 0]))] := hD
  refine lv_aload_n hx hb dX5_init_83 rfl (lv_at hl 0 rfl) ?_
  refine lv_iconst (v := 0) hx hb dX5_init_84 (by decide) ?_
  refine va_put (D := (dC, dI)) (ci := 5) (v := .int 0) (ty := .int) (C := RX5) (T := TX5) (N := 16) hx hb hts inX5 tyX5 tyX5_ok nmX5 hown hK hP hD hS 0 rfl rfl 14 (by decide) (hts _ wd_20) (fun _ h9 => h9) rfl (by decide +kernel) rfl rfl (Nat.le_of_ble_eq_true rfl) dX5_init_85 (fun H locs hP hD hS => ?_)
  have hP : va_P (dC, dI) classes [(h0, .inr (5, [.int 0, .int 0, .null, .int 0, .null, .int 0, .int 4, .int 0, .ref q1, .ref q3, .ref q5, .int (-1), .int (-1), .int 0, .int 0, .int 0]))] H := hP
  have hD : va_D A [(h0, .inr (5, [.int 0, .int 0, .null, .int 0, .null, .int 0, .int 4, .int 0, .ref q1, .ref q3, .ref q5, .int (-1), .int (-1), .int 0, .int 0, .int 0]))] := hD
  refine lv_aload_n hx hb dX5_init_88 rfl (lv_at hl 0 rfl) ?_
  refine lv_iconst (v := 0) hx hb dX5_init_89 (by decide) ?_
  refine va_put (D := (dC, dI)) (ci := 5) (v := .int 0) (ty := .int) (C := RX5) (T := TX5) (N := 16) hx hb hts inX5 tyX5 tyX5_ok nmX5 hown hK hP hD hS 0 rfl rfl 15 (by decide) (hts _ wd_21) (fun _ h9 => h9) rfl (by decide +kernel) rfl rfl (Nat.le_of_ble_eq_true rfl) dX5_init_90 (fun H locs hP hD hS => ?_)
  have hP : va_P (dC, dI) classes [(h0, .inr (5, [.int 0, .int 0, .null, .int 0, .null, .int 0, .int 4, .int 0, .ref q1, .ref q3, .ref q5, .int (-1), .int (-1), .int 0, .int 0, .int 0]))] H := hP
  have hD : va_D A [(h0, .inr (5, [.int 0, .int 0, .null, .int 0, .null, .int 0, .int 4, .int 0, .ref q1, .ref q3, .ref q5, .int (-1), .int (-1), .int 0, .int 0, .int 0]))] := hD
  have hP9 := hP.sub (ws' := [(h0, .inr (5, [.int 0, .int 0, .null, .int 0, .null, .int 0, .int 4, .int 0, .ref q1, .ref q3, .ref q5, .int (-1), .int (-1), .int 0, .int 0, .int 0]))]) [0] rfl
  have hD9 := hD.sub (ws' := [(h0, .inr (5, [.int 0, .int 0, .null, .int 0, .null, .int 0, .int 4, .int 0, .ref q1, .ref q3, .ref q5, .int (-1), .int (-1), .int 0, .int 0, .int 0]))]) [0] (by decide) rfl
  have hK9 := hK.sub (tys' := []) [] rfl
  refine W.widen (k := 3) (n := 39) (Nat.le_of_ble_eq_true rfl) (Nat.le_of_ble_eq_true rfl) ?_
  exact W.vret hx hb hr (fun t ht hW => ⟨⟨(), rfl, trivial, q1, q3, q5, by rw [ht]; exact hP9, va_K.moved hW.alike hK9, hD9⟩, hS.F ht⟩) hS.2.2 dX5_init_93
set_option maxHeartbeats 4000000 in
set_option maxRecDepth 100000 in
/-- Walker -/
theorem c_Walker (l : Launch) (dC : Nat → ClassId) (dI : Nat → Nat → Nat) (h0 : Nat) (sz : Nat) : Met l yX9_init (.code yX9_init cX9_init 1 none :: wU) ({ frames := 2, cells := 6, slots := 62, locals := 32 } : Room) (va_Pc [.ref h0] (fun U => P5 dC dI [(h0, .inr (9, [.null, .null, .null, .null, .null, .null, .null, .int 0, .int 0]))] [] sz U)) (va_Qv (fun _ : Unit => True) (fun _ t => ∃ e_q7 : Nat, ∃ e_q9 : Nat, ∃ e_q11 : Nat, ∃ e_q13 : Nat, ∃ e_q15 : Nat, ∃ e_q17 : Nat, ∃ e_y8 : ClassId, ∃ e_y10 : ClassId, P3 dC dI (va_A [(h0, .inr (9, [.null, .null, .null, .null, .null, .null, .null, .int 0, .int 0]))] sz) [(h0, .inr (9, [.ref e_q7, .ref e_q9, .ref e_q11, .ref e_q13, .ref e_q15, .ref e_q17, .null, .int 0, .int 1])), (e_q7, .inl (e_y8, 12, .inl (fun _ => 0))), (e_q9, .inl (e_y10, 12, .inl (fun _ => 0)))] [(e_y8, .int), (e_y10, .int)] t) (va_A [(h0, .inr (9, [.null, .null, .null, .null, .null, .null, .null, .int 0, .int 0]))] sz)) 6 62 (va_A [(h0, .inr (9, [.null, .null, .null, .null, .null, .null, .null, .int 0, .int 0]))] sz) := by
  refine Met.ofW (cc := cX9_init) (maxL := 1) (ret := none) (by decide) rfl ?_
  intro p e s m args below meth c s₁ B hml hv
  obtain ⟨rfl, hsz, hP, hK, hD0, hE⟩ := hv
  have hx := B.exec
  have hb := B.bytes
  have hr := B.returns
  have hts0 := atoms_spec (ws := (.code yX9_init cX9_init 1 none :: wU)) B.pre
  have hts : ∀ w ∈ wU, w.before _ s = true := fun w h => hts0 w (List.mem_cons_of_mem _ h)
  have hown : s.vm.findClass "SpineTables$Walker" = some m.cls := findClass_of_methodNamed B.named
  have hlocks := B.notSynchronized
  have hin : meth.name = "<init>" := (name_of_methodNamed B.named B.method).1
  subst hsz
  have hD := hD0.self (sz := s.heap.size)
  generalize hAe : va_A [(h0, .inr (9, [.null, .null, .null, .null, .null, .null, .null, .int 0, .int 0]))] s.heap.size = A at hD ⊢
  have hA : ∀ q : Nat, s.heap.size ≤ q → A q := fun q h => by rw [← hAe]; exact Or.inr h
  have hP : va_P (dC, dI) classes [(h0, .inr (9, [.null, .null, .null, .null, .null, .null, .null, .int 0, .int 0]))] s.heap := hP
  have hl := lv_entry ([.ref h0]) (n := 1) (Nat.le_of_ble_eq_true rfl)
  rw [lg_entry_eq]
  generalize (lg_sl ([.ref h0]) ++ List.replicate (1 - (lg_sl ([.ref h0])).length) Slot.unset).toArray = ls at hl ⊢
  have hl : lv_has ls 1 [(0, .ref h0)] := hl
  obtain ⟨H, hH⟩ : ∃ H, H = s.heap := ⟨_, rfl⟩
  rw [← hH] at hP
  have hS : va_S A s.heap H [] := by rw [hH]; exact va_S.rf
  refine w_heap hH ?_
  refine lv_aload_n hx hb dX9_init_0 rfl (lv_at hl 0 rfl) ?_
  refine W.objInit hx hb hown (hts _ wd_22) (hts _ wd_1) (hts _ wd_oi) rfl (by rw [hml]; exact hl.1) rfl dX9_init_1 (Nat.le_of_ble_eq_true rfl) (Nat.le_of_ble_eq_true rfl) ?_
  refine W.eq (g2 := F0 m 4 ls []) rfl ?_
  refine lv_aload_n hx hb dX9_init_4 rfl (lv_at hl 0 rfl) ?_
  refine lv_bipush (v := 12) hx hb dX9_init_5 (by decide) ?_
  refine va_newa (atype := .int) (ty := .int) (N' := 12) (a0 := (12, .inl (fun _ => 0))) hx hb (hts _ wd_13) rfl hK hP hD hS hA (fun _ => rfl) (by decide) (by decide) (by decide) (Nat.le_of_ble_eq_true rfl) (Nat.le_of_ble_eq_true rfl) dX9_init_7 (fun q7 y8 H hK hP hD hS => ?_)
  have hK : va_K (dC, dI) classes [(y8, .int)] s := hK
  have hP : va_P (dC, dI) classes [(h0, .inr (9, [.null, .null, .null, .null, .null, .null, .null, .int 0, .int 0])), (q7, .inl (y8, 12, .inl (fun _ => 0)))] H := hP
  have hD : va_D A [(h0, .inr (9, [.null, .null, .null, .null, .null, .null, .null, .int 0, .int 0])), (q7, .inl (y8, 12, .inl (fun _ => 0)))] := hD
  refine W.widen (k := 1) (n := 12) (Nat.le_of_ble_eq_true rfl) (Nat.le_of_ble_eq_true rfl) ?_
  refine va_putF (D := (dC, dI)) (ci := 9) (v := .ref q7) (ty := (.array .int)) (C := RX9) (T := TX9) (N := 9) hx hb hts inX9 tyX9 tyX9_ok nmX9 hown hK hP hD hS 0 rfl rfl 0 (by decide) (hts _ wd_23) (fun _ h9 => h9) rfl hin rfl (by decide +kernel) rfl rfl (Nat.le_of_ble_eq_true rfl) dX9_init_9 (fun H locs hP hD hS => ?_)
  have hP : va_P (dC, dI) classes [(h0, .inr (9, [.ref q7, .null, .null, .null, .null, .null, .null, .int 0, .int 0])), (q7, .inl (y8, 12, .inl (fun _ => 0)))] H := hP
  have hD : va_D A [(h0, .inr (9, [.ref q7, .null, .null, .null, .null, .null, .null, .int 0, .int 0])), (q7, .inl (y8, 12, .inl (fun _ => 0)))] := hD
  refine lv_aload_n hx hb dX9_init_12 rfl (lv_at hl 0 rfl) ?_
  refine lv_bipush (v := 12) hx hb dX9_init_13 (by decide) ?_
  refine va_newa (atype := .int) (ty := .int) (N' := 12) (a0 := (12, .inl (fun _ => 0))) hx hb (hts _ wd_13) rfl hK hP hD hS hA (fun _ => rfl) (by decide) (by decide) (by decide) (Nat.le_of_ble_eq_true rfl) (Nat.le_of_ble_eq_true rfl) dX9_init_15 (fun q9 y10 H hK hP hD hS => ?_)
  have hK : va_K (dC, dI) classes [(y8, .int), (y10, .int)] s := hK
  have hP : va_P (dC, dI) classes [(h0, .inr (9, [.ref q7, .null, .null, .null, .null, .null, .null, .int 0, .int 0])), (q7, .inl (y8, 12, .inl (fun _ => 0))), (q9, .inl (y10, 12, .inl (fun _ => 0)))] H := hP
  have hD : va_D A [(h0, .inr (9, [.ref q7, .null, .null, .null, .null, .null, .null, .int 0, .int 0])), (q7, .inl (y8, 12, .inl (fun _ => 0))), (q9, .inl (y10, 12, .inl (fun _ => 0)))] := hD
  refine W.widen (k := 2) (n := 24) (Nat.le_of_ble_eq_true rfl) (Nat.le_of_ble_eq_true rfl) ?_
  refine va_putF (D := (dC, dI)) (ci := 9) (v := .ref q9) (ty := (.array .int)) (C := RX9) (T := TX9) (N := 9) hx hb hts inX9 tyX9 tyX9_ok nmX9 hown hK hP hD hS 0 rfl rfl 1 (by decide) (hts _ wd_24) (fun _ h9 => h9) rfl hin rfl (by decide +kernel) rfl rfl (Nat.le_of_ble_eq_true rfl) dX9_init_17 (fun H locs hP hD hS => ?_)
  have hP : va_P (dC, dI) classes [(h0, .inr (9, [.ref q7, .ref q9, .null, .null, .null, .null, .null, .int 0, .int 0])), (q7, .inl (y8, 12, .inl (fun _ => 0))), (q9, .inl (y10, 12, .inl (fun _ => 0)))] H := hP
  have hD : va_D A [(h0, .inr (9, [.ref q7, .ref q9, .null, .null, .null, .null, .null, .int 0, .int 0])), (q7, .inl (y8, 12, .inl (fun _ => 0))), (q9, .inl (y10, 12, .inl (fun _ => 0)))] := hD
  refine lv_aload_n hx hb dX9_init_20 rfl (lv_at hl 0 rfl) ?_
  refine lv_bipush (v := 12) hx hb dX9_init_21 (by decide) ?_
  refine va_newa (atype := .int) (ty := .int) (N' := 12) (a0 := (12, .inl (fun _ => 0))) hx hb (hts _ wd_13) rfl hK hP hD hS hA (fun _ => rfl) (by decide) (by decide) (by decide) (Nat.le_of_ble_eq_true rfl) (Nat.le_of_ble_eq_true rfl) dX9_init_23 (fun q11 y12 H hK hP hD hS => ?_)
  have hK : va_K (dC, dI) classes [(y8, .int), (y10, .int), (y12, .int)] s := hK
  have hP : va_P (dC, dI) classes [(h0, .inr (9, [.ref q7, .ref q9, .null, .null, .null, .null, .null, .int 0, .int 0])), (q7, .inl (y8, 12, .inl (fun _ => 0))), (q9, .inl (y10, 12, .inl (fun _ => 0))), (q11, .inl (y12, 12, .inl (fun _ => 0)))] H := hP
  have hD : va_D A [(h0, .inr (9, [.ref q7, .ref q9, .null, .null, .null, .null, .null, .int 0, .int 0])), (q7, .inl (y8, 12, .inl (fun _ => 0))), (q9, .inl (y10, 12, .inl (fun _ => 0))), (q11, .inl (y12, 12, .inl (fun _ => 0)))] := hD
  refine W.widen (k := 3) (n := 36) (Nat.le_of_ble_eq_true rfl) (Nat.le_of_ble_eq_true rfl) ?_
  refine va_putF (D := (dC, dI)) (ci := 9) (v := .ref q11) (ty := (.array .int)) (C := RX9) (T := TX9) (N := 9) hx hb hts inX9 tyX9 tyX9_ok nmX9 hown hK hP hD hS 0 rfl rfl 2 (by decide) (hts _ wd_25) (fun _ h9 => h9) rfl hin rfl (by decide +kernel) rfl rfl (Nat.le_of_ble_eq_true rfl) dX9_init_25 (fun H locs hP hD hS => ?_)
  have hP : va_P (dC, dI) classes [(h0, .inr (9, [.ref q7, .ref q9, .ref q11, .null, .null, .null, .null, .int 0, .int 0])), (q7, .inl (y8, 12, .inl (fun _ => 0))), (q9, .inl (y10, 12, .inl (fun _ => 0))), (q11, .inl (y12, 12, .inl (fun _ => 0)))] H := hP
  have hD : va_D A [(h0, .inr (9, [.ref q7, .ref q9, .ref q11, .null, .null, .null, .null, .int 0, .int 0])), (q7, .inl (y8, 12, .inl (fun _ => 0))), (q9, .inl (y10, 12, .inl (fun _ => 0))), (q11, .inl (y12, 12, .inl (fun _ => 0)))] := hD
  have hP : va_P (dC, dI) classes [(h0, .inr (9, [.ref q7, .ref q9, .ref q11, .null, .null, .null, .null, .int 0, .int 0])), (q7, .inl (y8, 12, .inl (fun _ => 0))), (q9, .inl (y10, 12, .inl (fun _ => 0)))] H := hP.sub [0, 1, 2] rfl
  have hD : va_D A [(h0, .inr (9, [.ref q7, .ref q9, .ref q11, .null, .null, .null, .null, .int 0, .int 0])), (q7, .inl (y8, 12, .inl (fun _ => 0))), (q9, .inl (y10, 12, .inl (fun _ => 0)))] := hD.sub [0, 1, 2] (by decide) rfl
  have hK : va_K (dC, dI) classes [(y8, .int), (y10, .int)] s := hK.sub [0, 1] rfl
  refine lv_aload_n hx hb dX9_init_28 rfl (lv_at hl 0 rfl) ?_
  refine lv_bipush (v := 12) hx hb dX9_init_29 (by decide) ?_
  refine va_newa (atype := .int) (ty := .int) (N' := 12) (a0 := (12, .inl (fun _ => 0))) hx hb (hts _ wd_13) rfl hK hP hD hS hA (fun _ => rfl) (by decide) (by decide) (by decide) (Nat.le_of_ble_eq_true rfl) (Nat.le_of_ble_eq_true rfl) dX9_init_31 (fun q13 y14 H hK hP hD hS => ?_)
  have hK : va_K (dC, dI) classes [(y8, .int), (y10, .int), (y14, .int)] s := hK
  have hP : va_P (dC, dI) classes [(h0, .inr (9, [.ref q7, .ref q9, .ref q11, .null, .null, .null, .null, .int 0, .int 0])), (q7, .inl (y8, 12, .inl (fun _ => 0))), (q9, .inl (y10, 12, .inl (fun _ => 0))), (q13, .inl (y14, 12, .inl (fun _ => 0)))] H := hP
  have hD : va_D A [(h0, .inr (9, [.ref q7, .ref q9, .ref q11, .null, .null, .null, .null, .int 0, .int 0])), (q7, .inl (y8, 12, .inl (fun _ => 0))), (q9, .inl (y10, 12, .inl (fun _ => 0))), (q13, .inl (y14, 12, .inl (fun _ => 0)))] := hD
  refine W.widen (k := 4) (n := 48) (Nat.le_of_ble_eq_true rfl) (Nat.le_of_ble_eq_true rfl) ?_
  refine va_putF (D := (dC, dI)) (ci := 9) (v := .ref q13) (ty := (.array .int)) (C := RX9) (T := TX9) (N := 9) hx hb hts inX9 tyX9 tyX9_ok nmX9 hown hK hP hD hS 0 rfl rfl 3 (by decide) (hts _ wd_26) (fun _ h9 => h9) rfl hin rfl (by decide +kernel) rfl rfl (Nat.le_of_ble_eq_true rfl) dX9_init_33 (fun H locs hP hD hS => ?_)
  have hP : va_P (dC, dI) classes [(h0, .inr (9, [.ref q7, .ref q9, .ref q11, .ref q13, .null, .null, .null, .int 0, .int 0])), (q7, .inl (y8, 12, .inl (fun _ => 0))), (q9, .inl (y10, 12, .inl (fun _ => 0))), (q13, .inl (y14, 12, .inl (fun _ => 0)))] H := hP
  have hD : va_D A [(h0, .inr (9, [.ref q7, .ref q9, .ref q11, .ref q13, .null, .null, .null, .int 0, .int 0])), (q7, .inl (y8, 12, .inl (fun _ => 0))), (q9, .inl (y10, 12, .inl (fun _ => 0))), (q13, .inl (y14, 12, .inl (fun _ => 0)))] := hD
  have hP : va_P (dC, dI) classes [(h0, .inr (9, [.ref q7, .ref q9, .ref q11, .ref q13, .null, .null, .null, .int 0, .int 0])), (q7, .inl (y8, 12, .inl (fun _ => 0))), (q9, .inl (y10, 12, .inl (fun _ => 0)))] H := hP.sub [0, 1, 2] rfl
  have hD : va_D A [(h0, .inr (9, [.ref q7, .ref q9, .ref q11, .ref q13, .null, .null, .null, .int 0, .int 0])), (q7, .inl (y8, 12, .inl (fun _ => 0))), (q9, .inl (y10, 12, .inl (fun _ => 0)))] := hD.sub [0, 1, 2] (by decide) rfl
  have hK : va_K (dC, dI) classes [(y8, .int), (y10, .int)] s := hK.sub [0, 1] rfl
  refine lv_aload_n hx hb dX9_init_36 rfl (lv_at hl 0 rfl) ?_
  refine lv_bipush (v := 12) hx hb dX9_init_37 (by decide) ?_
  refine va_newa (atype := .int) (ty := .int) (N' := 12) (a0 := (12, .inl (fun _ => 0))) hx hb (hts _ wd_13) rfl hK hP hD hS hA (fun _ => rfl) (by decide) (by decide) (by decide) (Nat.le_of_ble_eq_true rfl) (Nat.le_of_ble_eq_true rfl) dX9_init_39 (fun q15 y16 H hK hP hD hS => ?_)
  have hK : va_K (dC, dI) classes [(y8, .int), (y10, .int), (y16, .int)] s := hK
  have hP : va_P (dC, dI) classes [(h0, .inr (9, [.ref q7, .ref q9, .ref q11, .ref q13, .null, .null, .null, .int 0, .int 0])), (q7, .inl (y8, 12, .inl (fun _ => 0))), (q9, .inl (y10, 12, .inl (fun _ => 0))), (q15, .inl (y16, 12, .inl (fun _ => 0)))] H := hP
  have hD : va_D A [(h0, .inr (9, [.ref q7, .ref q9, .ref q11, .ref q13, .null, .null, .null, .int 0, .int 0])), (q7, .inl (y8, 12, .inl (fun _ => 0))), (q9, .inl (y10, 12, .inl (fun _ => 0))), (q15, .inl (y16, 12, .inl (fun _ => 0)))] := hD
  refine W.widen (k := 5) (n := 60) (Nat.le_of_ble_eq_true rfl) (Nat.le_of_ble_eq_true rfl) ?_
  refine va_putF (D := (dC, dI)) (ci := 9) (v := .ref q15) (ty := (.array .int)) (C := RX9) (T := TX9) (N := 9) hx hb hts inX9 tyX9 tyX9_ok nmX9 hown hK hP hD hS 0 rfl rfl 4 (by decide) (hts _ wd_27) (fun _ h9 => h9) rfl hin rfl (by decide +kernel) rfl rfl (Nat.le_of_ble_eq_true rfl) dX9_init_41 (fun H locs hP hD hS => ?_)
  have hP : va_P (dC, dI) classes [(h0, .inr (9, [.ref q7, .ref q9, .ref q11, .ref q13, .ref q15, .null, .null, .int 0, .int 0])), (q7, .inl (y8, 12, .inl (fun _ => 0))), (q9, .inl (y10, 12, .inl (fun _ => 0))), (q15, .inl (y16, 12, .inl (fun _ => 0)))] H := hP
  have hD : va_D A [(h0, .inr (9, [.ref q7, .ref q9, .ref q11, .ref q13, .ref q15, .null, .null, .int 0, .int 0])), (q7, .inl (y8, 12, .inl (fun _ => 0))), (q9, .inl (y10, 12, .inl (fun _ => 0))), (q15, .inl (y16, 12, .inl (fun _ => 0)))] := hD
  have hP : va_P (dC, dI) classes [(h0, .inr (9, [.ref q7, .ref q9, .ref q11, .ref q13, .ref q15, .null, .null, .int 0, .int 0])), (q7, .inl (y8, 12, .inl (fun _ => 0))), (q9, .inl (y10, 12, .inl (fun _ => 0)))] H := hP.sub [0, 1, 2] rfl
  have hD : va_D A [(h0, .inr (9, [.ref q7, .ref q9, .ref q11, .ref q13, .ref q15, .null, .null, .int 0, .int 0])), (q7, .inl (y8, 12, .inl (fun _ => 0))), (q9, .inl (y10, 12, .inl (fun _ => 0)))] := hD.sub [0, 1, 2] (by decide) rfl
  have hK : va_K (dC, dI) classes [(y8, .int), (y10, .int)] s := hK.sub [0, 1] rfl
  refine lv_aload_n hx hb dX9_init_44 rfl (lv_at hl 0 rfl) ?_
  refine va_new (ci := 3) (fs := [.long 0, .long 0]) (C := RX3) (T := TX3) (N := 2) hx hb hts inX3 tyX3 tyX3_ok hown (hts _ wd_28) (hts _ wd_29) (hts _ wd_30) hK hP hD hS hA rfl dfX3 (Nat.le_of_ble_eq_true rfl) (Nat.le_of_ble_eq_true rfl) dX9_init_45 (fun q17 H hP hD hS => ?_)
  have hP : va_P (dC, dI) classes [(h0, .inr (9, [.ref q7, .ref q9, .ref q11, .ref q13, .ref q15, .null, .null, .int 0, .int 0])), (q7, .inl (y8, 12, .inl (fun _ => 0))), (q9, .inl (y10, 12, .inl (fun _ => 0))), (q17, .inr (3, [.long 0, .long 0]))] H := hP
  have hD : va_D A [(h0, .inr (9, [.ref q7, .ref q9, .ref q11, .ref q13, .ref q15, .null, .null, .int 0, .int 0])), (q7, .inl (y8, 12, .inl (fun _ => 0))), (q9, .inl (y10, 12, .inl (fun _ => 0))), (q17, .inr (3, [.long 0, .long 0]))] := hD
  refine W.widen (k := 6) (n := 62) (Nat.le_of_ble_eq_true rfl) (Nat.le_of_ble_eq_true rfl) ?_
  refine lv_dup hx hb dX9_init_48 rfl ?_
  have hPc := hP.sub (ws' := [(q17, .inr (3, [.long 0, .long 0]))]) [3] rfl
  have hDc := hD.sub (ws' := [(q17, .inr (3, [.long 0, .long 0]))]) [3] (by decide) rfl
  have hKc := hK.sub (tys' := []) [] rfl
  have hFc := va_free (wc := [(q17, .inr (3, [.long 0, .long 0]))]) hD hS hA [3] rfl
  refine va_callv (va_runIN (As := []) (rest := [.ref q17, .ref h0]) ⟨hx, hb, hml, hown, hts⟩ (c_Fraction l dC dI q17 H.size) ⟨va_cnB 0 hts (goC wd_31) rfl rfl rfl (hE.1 _ (List.mem_of_getElem? (i := 0) rfl)) (hts _ wd_30) (by decide +kernel) ⟨Nat.le_of_ble_eq_true rfl, Nat.le_of_ble_eq_true rfl⟩, rfl, hts _ wd_32⟩ ⟨blind5, fun U hU hW => ⟨rfl, pre5 hU hW hPc hKc hDc hE⟩⟩ rfl rfl hl.1 rfl (lv_room (Nat.le_of_ble_eq_true rfl)) dX9_init_49 ⟨Nat.le_of_ble_eq_true rfl, Nat.le_of_ble_eq_true rfl⟩) hS (fun q _ h => hFc q h) hFc (fun u t H1 locs ht hvm hw hB hz1 hk1 hS => ?_)
  obtain ⟨hP1, hK1, hD1⟩ := hB
  rw [ht] at hP1
  have hK1 := va_K.moved hvm.symm hK1
  obtain ⟨hP, hD⟩ := va_join (wr := [(h0, .inr (9, [.ref q7, .ref q9, .ref q11, .ref q13, .ref q15, .null, .null, .int 0, .int 0])), (q7, .inl (y8, 12, .inl (fun _ => 0))), (q9, .inl (y10, 12, .inl (fun _ => 0)))]) (w1 := [(q17, .inr (3, [.long 0, .long 1]))]) hP hD [3] [0, 1, 2] rfl rfl (by decide) (by decide) hk1 hFc hP1 hD1
  have hK := (hK.sub (tys' := [(y8, .int), (y10, .int)]) [0, 1] rfl).app hK1
  generalize H1 = H at hP hS ⊢
  have hK : va_K (dC, dI) classes [(y8, .int), (y10, .int)] s := hK
  have hP : va_P (dC, dI) classes [(h0, .inr (9, [.ref q7, .ref q9, .ref q11, .ref q13, .ref q15, .null, .null, .int 0, .int 0])), (q7, .inl (y8, 12, .inl (fun _ => 0))), (q9, .inl (y10, 12, .inl (fun _ => 0))), (q17, .inr (3, [.long 0, .long 1]))] H := hP
  have hD : va_D A [(h0, .inr (9, [.ref q7, .ref q9, .ref q11, .ref q13, .ref q15, .null, .null, .int 0, .int 0])), (q7, .inl (y8, 12, .inl (fun _ => 0))), (q9, .inl (y10, 12, .inl (fun _ => 0))), (q17, .inr (3, [.long 0, .long 1]))] := hD
  refine va_putF (D := (dC, dI)) (ci := 9) (v := .ref q17) (ty := (.object "SpineTables$Fraction")) (C := RX9) (T := TX9) (N := 9) hx hb hts inX9 tyX9 tyX9_ok nmX9 hown hK hP hD hS 0 rfl rfl 5 (by decide) (hts _ wd_33) (fun _ h9 => h9) rfl hin rfl (by decide +kernel) rfl rfl (Nat.le_of_ble_eq_true rfl) dX9_init_52 (fun H locs hP hD hS => ?_)
  have hP : va_P (dC, dI) classes [(h0, .inr (9, [.ref q7, .ref q9, .ref q11, .ref q13, .ref q15, .ref q17, .null, .int 0, .int 0])), (q7, .inl (y8, 12, .inl (fun _ => 0))), (q9, .inl (y10, 12, .inl (fun _ => 0))), (q17, .inr (3, [.long 0, .long 1]))] H := hP
  have hD : va_D A [(h0, .inr (9, [.ref q7, .ref q9, .ref q11, .ref q13, .ref q15, .ref q17, .null, .int 0, .int 0])), (q7, .inl (y8, 12, .inl (fun _ => 0))), (q9, .inl (y10, 12, .inl (fun _ => 0))), (q17, .inr (3, [.long 0, .long 1]))] := hD
  have hP : va_P (dC, dI) classes [(h0, .inr (9, [.ref q7, .ref q9, .ref q11, .ref q13, .ref q15, .ref q17, .null, .int 0, .int 0])), (q7, .inl (y8, 12, .inl (fun _ => 0))), (q9, .inl (y10, 12, .inl (fun _ => 0)))] H := hP.sub [0, 1, 2] rfl
  have hD : va_D A [(h0, .inr (9, [.ref q7, .ref q9, .ref q11, .ref q13, .ref q15, .ref q17, .null, .int 0, .int 0])), (q7, .inl (y8, 12, .inl (fun _ => 0))), (q9, .inl (y10, 12, .inl (fun _ => 0)))] := hD.sub [0, 1, 2] (by decide) rfl
  have hK : va_K (dC, dI) classes [(y8, .int), (y10, .int)] s := hK.sub [0, 1] rfl
  refine lv_aload_n hx hb dX9_init_55 rfl (lv_at hl 0 rfl) ?_
  refine lv_null hx hb dX9_init_56 ?_
  refine va_put (D := (dC, dI)) (ci := 9) (v := .null) (ty := (.object "SpineTables$Table")) (C := RX9) (T := TX9) (N := 9) hx hb hts inX9 tyX9 tyX9_ok nmX9 hown hK hP hD hS 0 rfl rfl 6 (by decide) (hts _ wd_34) (fun _ h9 => h9) rfl (by decide +kernel) rfl rfl (Nat.le_of_ble_eq_true rfl) dX9_init_57 (fun H locs hP hD hS => ?_)
  have hP : va_P (dC, dI) classes [(h0, .inr (9, [.ref q7, .ref q9, .ref q11, .ref q13, .ref q15, .ref q17, .null, .int 0, .int 0])), (q7, .inl (y8, 12, .inl (fun _ => 0))), (q9, .inl (y10, 12, .inl (fun _ => 0)))] H := hP
  have hD : va_D A [(h0, .inr (9, [.ref q7, .ref q9, .ref q11, .ref q13, .ref q15, .ref q17, .null, .int 0, .int 0])), (q7, .inl (y8, 12, .inl (fun _ => 0))), (q9, .inl (y10, 12, .inl (fun _ => 0)))] := hD
  refine lv_aload_n hx hb dX9_init_60 rfl (lv_at hl 0 rfl) ?_
  refine lv_iconst (v := 0) hx hb dX9_init_61 (by decide) ?_
  refine va_put (D := (dC, dI)) (ci := 9) (v := .int 0) (ty := .int) (C := RX9) (T := TX9) (N := 9) hx hb hts inX9 tyX9 tyX9_ok nmX9 hown hK hP hD hS 0 rfl rfl 7 (by decide) (hts _ wd_35) (fun _ h9 => h9) rfl (by decide +kernel) rfl rfl (Nat.le_of_ble_eq_true rfl) dX9_init_62 (fun H locs hP hD hS => ?_)
  have hP : va_P (dC, dI) classes [(h0, .inr (9, [.ref q7, .ref q9, .ref q11, .ref q13, .ref q15, .ref q17, .null, .int 0, .int 0])), (q7, .inl (y8, 12, .inl (fun _ => 0))), (q9, .inl (y10, 12, .inl (fun _ => 0)))] H := hP
  have hD : va_D A [(h0, .inr (9, [.ref q7, .ref q9, .ref q11, .ref q13, .ref q15, .ref q17, .null, .int 0, .int 0])), (q7, .inl (y8, 12, .inl (fun _ => 0))), (q9, .inl (y10, 12, .inl (fun _ => 0)))] := hD
  refine lv_aload_n hx hb dX9_init_65 rfl (lv_at hl 0 rfl) ?_
  refine lv_iconst (v := 1) hx hb dX9_init_66 (by decide) ?_
  refine va_put (D := (dC, dI)) (ci := 9) (v := .int 1) (ty := .int) (C := RX9) (T := TX9) (N := 9) hx hb hts inX9 tyX9 tyX9_ok nmX9 hown hK hP hD hS 0 rfl rfl 8 (by decide) (hts _ wd_36) (fun _ h9 => h9) rfl (by decide +kernel) rfl rfl (Nat.le_of_ble_eq_true rfl) dX9_init_67 (fun H locs hP hD hS => ?_)
  have hP : va_P (dC, dI) classes [(h0, .inr (9, [.ref q7, .ref q9, .ref q11, .ref q13, .ref q15, .ref q17, .null, .int 0, .int 1])), (q7, .inl (y8, 12, .inl (fun _ => 0))), (q9, .inl (y10, 12, .inl (fun _ => 0)))] H := hP
  have hD : va_D A [(h0, .inr (9, [.ref q7, .ref q9, .ref q11, .ref q13, .ref q15, .ref q17, .null, .int 0, .int 1])), (q7, .inl (y8, 12, .inl (fun _ => 0))), (q9, .inl (y10, 12, .inl (fun _ => 0)))] := hD
  have hP9 := hP.sub (ws' := [(h0, .inr (9, [.ref q7, .ref q9, .ref q11, .ref q13, .ref q15, .ref q17, .null, .int 0, .int 1])), (q7, .inl (y8, 12, .inl (fun _ => 0))), (q9, .inl (y10, 12, .inl (fun _ => 0)))]) [0, 1, 2] rfl
  have hD9 := hD.sub (ws' := [(h0, .inr (9, [.ref q7, .ref q9, .ref q11, .ref q13, .ref q15, .ref q17, .null, .int 0, .int 1])), (q7, .inl (y8, 12, .inl (fun _ => 0))), (q9, .inl (y10, 12, .inl (fun _ => 0)))]) [0, 1, 2] (by decide) rfl
  have hK9 := hK.sub (tys' := [(y8, .int), (y10, .int)]) [0, 1] rfl
  refine W.widen (k := 6) (n := 62) (Nat.le_of_ble_eq_true rfl) (Nat.le_of_ble_eq_true rfl) ?_
  exact W.vret hx hb hr (fun t ht hW => ⟨⟨(), rfl, trivial, q7, q9, q11, q13, q15, q17, y8, y10, by rw [ht]; exact hP9, va_K.moved hW.alike hK9, hD9⟩, hS.F ht⟩) hS.2.2 dX9_init_70
set_option maxHeartbeats 4000000 in
set_option maxRecDepth 100000 in
/-- Lengths -/
theorem c_Lengths (l : Launch) (dC : Nat → ClassId) (dI : Nat → Nat → Nat) (h0 : Nat) (sz : Nat) : Met l yX4_init (.code yX4_init cX4_init 1 none :: wU) ({ frames := 2, cells := 1, slots := 2, locals := 32 } : Room) (va_Pc [.ref h0] (fun U => P5 dC dI [(h0, .inr (4, [.int 0, .int 0, .null, .null, .int 0, .int 0]))] [] sz U)) (va_Qv (fun _ : Unit => True) (fun _ t => ∃ e_q18 : Nat, P3 dC dI (va_A [(h0, .inr (4, [.int 0, .int 0, .null, .null, .int 0, .int 0]))] sz) [(h0, .inr (4, [.int 0, .int 1, .ref e_q18, .null, .int 0, .int 0]))] [] t) (va_A [(h0, .inr (4, [.int 0, .int 0, .null, .null, .int 0, .int 0]))] sz)) 1 2 (va_A [(h0, .inr (4, [.int 0, .int 0, .null, .null, .int 0, .int 0]))] sz) := by
  refine Met.ofW (cc := cX4_init) (maxL := 1) (ret := none) (by decide) rfl ?_
  intro p e s m args below meth c s₁ B hml hv
  obtain ⟨rfl, hsz, hP, hK, hD0, hE⟩ := hv
  have hx := B.exec
  have hb := B.bytes
  have hr := B.returns
  have hts0 := atoms_spec (ws := (.code yX4_init cX4_init 1 none :: wU)) B.pre
  have hts : ∀ w ∈ wU, w.before _ s = true := fun w h => hts0 w (List.mem_cons_of_mem _ h)
  have hown : s.vm.findClass "SpineTables$Lengths" = some m.cls := findClass_of_methodNamed B.named
  have hlocks := B.notSynchronized
  have hin : meth.name = "<init>" := (name_of_methodNamed B.named B.method).1
  subst hsz
  have hD := hD0.self (sz := s.heap.size)
  generalize hAe : va_A [(h0, .inr (4, [.int 0, .int 0, .null, .null, .int 0, .int 0]))] s.heap.size = A at hD ⊢
  have hA : ∀ q : Nat, s.heap.size ≤ q → A q := fun q h => by rw [← hAe]; exact Or.inr h
  have hP : va_P (dC, dI) classes [(h0, .inr (4, [.int 0, .int 0, .null, .null, .int 0, .int 0]))] s.heap := hP
  have hl := lv_entry ([.ref h0]) (n := 1) (Nat.le_of_ble_eq_true rfl)
  rw [lg_entry_eq]
  generalize (lg_sl ([.ref h0]) ++ List.replicate (1 - (lg_sl ([.ref h0])).length) Slot.unset).toArray = ls at hl ⊢
  have hl : lv_has ls 1 [(0, .ref h0)] := hl
  obtain ⟨H, hH⟩ : ∃ H, H = s.heap := ⟨_, rfl⟩
  rw [← hH] at hP
  have hS : va_S A s.heap H [] := by rw [hH]; exact va_S.rf
  refine w_heap hH ?_
  refine lv_aload_n hx hb dX4_init_0 rfl (lv_at hl 0 rfl) ?_
  refine W.objInit hx hb hown (hts _ wd_37) (hts _ wd_1) (hts _ wd_oi) rfl (by rw [hml]; exact hl.1) rfl dX4_init_1 (Nat.le_of_ble_eq_true rfl) (Nat.le_of_ble_eq_true rfl) ?_
  refine W.eq (g2 := F0 m 4 ls []) rfl ?_
  refine lv_aload_n hx hb dX4_init_4 rfl (lv_at hl 0 rfl) ?_
  refine lv_iconst (v := 0) hx hb dX4_init_5 (by decide) ?_
  refine va_put (D := (dC, dI)) (ci := 4) (v := .int 0) (ty := .int) (C := RX4) (T := TX4) (N := 6) hx hb hts inX4 tyX4 tyX4_ok nmX4 hown hK hP hD hS 0 rfl rfl 0 (by decide) (hts _ wd_38) (fun _ h9 => h9) rfl (by decide +kernel) rfl rfl (Nat.le_of_ble_eq_true rfl) dX4_init_6 (fun H locs hP hD hS => ?_)
  have hP : va_P (dC, dI) classes [(h0, .inr (4, [.int 0, .int 0, .null, .null, .int 0, .int 0]))] H := hP
  have hD : va_D A [(h0, .inr (4, [.int 0, .int 0, .null, .null, .int 0, .int 0]))] := hD
  refine lv_aload_n hx hb dX4_init_9 rfl (lv_at hl 0 rfl) ?_
  refine lv_iconst (v := 1) hx hb dX4_init_10 (by decide) ?_
  refine va_put (D := (dC, dI)) (ci := 4) (v := .int 1) (ty := .int) (C := RX4) (T := TX4) (N := 6) hx hb hts inX4 tyX4 tyX4_ok nmX4 hown hK hP hD hS 0 rfl rfl 1 (by decide) (hts _ wd_39) (fun _ h9 => h9) rfl (by decide +kernel) rfl rfl (Nat.le_of_ble_eq_true rfl) dX4_init_11 (fun H locs hP hD hS => ?_)
  have hP : va_P (dC, dI) classes [(h0, .inr (4, [.int 0, .int 1, .null, .null, .int 0, .int 0]))] H := hP
  have hD : va_D A [(h0, .inr (4, [.int 0, .int 1, .null, .null, .int 0, .int 0]))] := hD
  refine lv_aload_n hx hb dX4_init_14 rfl (lv_at hl 0 rfl) ?_
  refine va_new (ci := 3) (fs := [.long 0, .long 0]) (C := RX3) (T := TX3) (N := 2) hx hb hts inX3 tyX3 tyX3_ok hown (hts _ wd_40) (hts _ wd_29) (hts _ wd_30) hK hP hD hS hA rfl dfX3 (Nat.le_of_ble_eq_true rfl) (Nat.le_of_ble_eq_true rfl) dX4_init_15 (fun q18 H hP hD hS => ?_)
  have hP : va_P (dC, dI) classes [(h0, .inr (4, [.int 0, .int 1, .null, .null, .int 0, .int 0])), (q18, .inr (3, [.long 0, .long 0]))] H := hP
  have hD : va_D A [(h0, .inr (4, [.int 0, .int 1, .null, .null, .int 0, .int 0])), (q18, .inr (3, [.long 0, .long 0]))] := hD
  refine W.widen (k := 1) (n := 2) (Nat.le_of_ble_eq_true rfl) (Nat.le_of_ble_eq_true rfl) ?_
  refine lv_dup hx hb dX4_init_18 rfl ?_
  have hPc := hP.sub (ws' := [(q18, .inr (3, [.long 0, .long 0]))]) [1] rfl
  have hDc := hD.sub (ws' := [(q18, .inr (3, [.long 0, .long 0]))]) [1] (by decide) rfl
  have hKc := hK.sub (tys' := []) [] rfl
  have hFc := va_free (wc := [(q18, .inr (3, [.long 0, .long 0]))]) hD hS hA [1] rfl
  refine va_callv (va_runIN (As := []) (rest := [.ref q18, .ref h0]) ⟨hx, hb, hml, hown, hts⟩ (c_Fraction l dC dI q18 H.size) ⟨va_cnB 0 hts (goC wd_31) rfl rfl rfl (hE.1 _ (List.mem_of_getElem? (i := 1) rfl)) (hts _ wd_30) (by decide +kernel) ⟨Nat.le_of_ble_eq_true rfl, Nat.le_of_ble_eq_true rfl⟩, rfl, hts _ wd_32⟩ ⟨blind5, fun U hU hW => ⟨rfl, pre5 hU hW hPc hKc hDc hE⟩⟩ rfl rfl hl.1 rfl (lv_room (Nat.le_of_ble_eq_true rfl)) dX4_init_19 ⟨Nat.le_of_ble_eq_true rfl, Nat.le_of_ble_eq_true rfl⟩) hS (fun q _ h => hFc q h) hFc (fun u t H1 locs ht hvm hw hB hz1 hk1 hS => ?_)
  obtain ⟨hP1, hK1, hD1⟩ := hB
  rw [ht] at hP1
  have hK1 := va_K.moved hvm.symm hK1
  obtain ⟨hP, hD⟩ := va_join (wr := [(h0, .inr (4, [.int 0, .int 1, .null, .null, .int 0, .int 0]))]) (w1 := [(q18, .inr (3, [.long 0, .long 1]))]) hP hD [1] [0] rfl rfl (by decide) (by decide) hk1 hFc hP1 hD1
  have hK := (hK.sub (tys' := []) [] rfl).app hK1
  generalize H1 = H at hP hS ⊢
  have hK : va_K (dC, dI) classes [] s := hK
  have hP : va_P (dC, dI) classes [(h0, .inr (4, [.int 0, .int 1, .null, .null, .int 0, .int 0])), (q18, .inr (3, [.long 0, .long 1]))] H := hP
  have hD : va_D A [(h0, .inr (4, [.int 0, .int 1, .null, .null, .int 0, .int 0])), (q18, .inr (3, [.long 0, .long 1]))] := hD
  refine va_putF (D := (dC, dI)) (ci := 4) (v := .ref q18) (ty := (.object "SpineTables$Fraction")) (C := RX4) (T := TX4) (N := 6) hx hb hts inX4 tyX4 tyX4_ok nmX4 hown hK hP hD hS 0 rfl rfl 2 (by decide) (hts _ wd_41) (fun _ h9 => h9) rfl hin rfl (by decide +kernel) rfl rfl (Nat.le_of_ble_eq_true rfl) dX4_init_22 (fun H locs hP hD hS => ?_)
  have hP : va_P (dC, dI) classes [(h0, .inr (4, [.int 0, .int 1, .ref q18, .null, .int 0, .int 0])), (q18, .inr (3, [.long 0, .long 1]))] H := hP
  have hD : va_D A [(h0, .inr (4, [.int 0, .int 1, .ref q18, .null, .int 0, .int 0])), (q18, .inr (3, [.long 0, .long 1]))] := hD
  have hP : va_P (dC, dI) classes [(h0, .inr (4, [.int 0, .int 1, .ref q18, .null, .int 0, .int 0]))] H := hP.sub [0] rfl
  have hD : va_D A [(h0, .inr (4, [.int 0, .int 1, .ref q18, .null, .int 0, .int 0]))] := hD.sub [0] (by decide) rfl
  have hK : va_K (dC, dI) classes [] s := hK.sub [] rfl
  refine lv_aload_n hx hb dX4_init_25 rfl (lv_at hl 0 rfl) ?_
  refine lv_null hx hb dX4_init_26 ?_
  refine va_put (D := (dC, dI)) (ci := 4) (v := .null) (ty := (.array .byte)) (C := RX4) (T := TX4) (N := 6) hx hb hts inX4 tyX4 tyX4_ok nmX4 hown hK hP hD hS 0 rfl rfl 3 (by decide) (hts _ wd_42) (fun _ h9 => h9) rfl (by decide +kernel) rfl rfl (Nat.le_of_ble_eq_true rfl) dX4_init_27 (fun H locs hP hD hS => ?_)
  have hP : va_P (dC, dI) classes [(h0, .inr (4, [.int 0, .int 1, .ref q18, .null, .int 0, .int 0]))] H := hP
  have hD : va_D A [(h0, .inr (4, [.int 0, .int 1, .ref q18, .null, .int 0, .int 0]))] := hD
  refine lv_aload_n hx hb dX4_init_30 rfl (lv_at hl 0 rfl) ?_
  refine lv_iconst (v := 0) hx hb dX4_init_31 (by decide) ?_
  refine va_put (D := (dC, dI)) (ci := 4) (v := .int 0) (ty := .int) (C := RX4) (T := TX4) (N := 6) hx hb hts inX4 tyX4 tyX4_ok nmX4 hown hK hP hD hS 0 rfl rfl 4 (by decide) (hts _ wd_43) (fun _ h9 => h9) rfl (by decide +kernel) rfl rfl (Nat.le_of_ble_eq_true rfl) dX4_init_32 (fun H locs hP hD hS => ?_)
  have hP : va_P (dC, dI) classes [(h0, .inr (4, [.int 0, .int 1, .ref q18, .null, .int 0, .int 0]))] H := hP
  have hD : va_D A [(h0, .inr (4, [.int 0, .int 1, .ref q18, .null, .int 0, .int 0]))] := hD
  refine lv_aload_n hx hb dX4_init_35 rfl (lv_at hl 0 rfl) ?_
  refine lv_iconst (v := 0) hx hb dX4_init_36 (by decide) ?_
  refine va_put (D := (dC, dI)) (ci := 4) (v := .int 0) (ty := .int) (C := RX4) (T := TX4) (N := 6) hx hb hts inX4 tyX4 tyX4_ok nmX4 hown hK hP hD hS 0 rfl rfl 5 (by decide) (hts _ wd_44) (fun _ h9 => h9) rfl (by decide +kernel) rfl rfl (Nat.le_of_ble_eq_true rfl) dX4_init_37 (fun H locs hP hD hS => ?_)
  have hP : va_P (dC, dI) classes [(h0, .inr (4, [.int 0, .int 1, .ref q18, .null, .int 0, .int 0]))] H := hP
  have hD : va_D A [(h0, .inr (4, [.int 0, .int 1, .ref q18, .null, .int 0, .int 0]))] := hD
  have hP9 := hP.sub (ws' := [(h0, .inr (4, [.int 0, .int 1, .ref q18, .null, .int 0, .int 0]))]) [0] rfl
  have hD9 := hD.sub (ws' := [(h0, .inr (4, [.int 0, .int 1, .ref q18, .null, .int 0, .int 0]))]) [0] (by decide) rfl
  have hK9 := hK.sub (tys' := []) [] rfl
  refine W.widen (k := 1) (n := 2) (Nat.le_of_ble_eq_true rfl) (Nat.le_of_ble_eq_true rfl) ?_
  exact W.vret hx hb hr (fun t ht hW => ⟨⟨(), rfl, trivial, q18, by rw [ht]; exact hP9, va_K.moved hW.alike hK9, hD9⟩, hS.F ht⟩) hS.2.2 dX4_init_40
set_option maxHeartbeats 4000000 in
set_option maxRecDepth 100000 in
/-- Side -/
theorem c_Side (l : Launch) (dC : Nat → ClassId) (dI : Nat → Nat → Nat) (h0 : Nat) (sz : Nat) : Met l yX7_init (.code yX7_init cX7_init 1 none :: wU) ({ frames := 1, cells := 1, slots := 12, locals := 12 } : Room) (va_Pc [.ref h0] (fun U => P5 dC dI [(h0, .inr (7, [.null, .int 0, .int 0, .int 0, .null]))] [] sz U)) (va_Qv (fun _ : Unit => True) (fun _ t => ∃ e_q19 : Nat, P3 dC dI (va_A [(h0, .inr (7, [.null, .int 0, .int 0, .int 0, .null]))] sz) [(h0, .inr (7, [.null, .int 0, .int 0, .int 0, .ref e_q19]))] [] t) (va_A [(h0, .inr (7, [.null, .int 0, .int 0, .int 0, .null]))] sz)) 1 12 (va_A [(h0, .inr (7, [.null, .int 0, .int 0, .int 0, .null]))] sz) := by
  refine Met.ofW (cc := cX7_init) (maxL := 1) (ret := none) (by decide) rfl ?_
  intro p e s m args below meth c s₁ B hml hv
  obtain ⟨rfl, hsz, hP, hK, hD0, hE⟩ := hv
  have hx := B.exec
  have hb := B.bytes
  have hr := B.returns
  have hts0 := atoms_spec (ws := (.code yX7_init cX7_init 1 none :: wU)) B.pre
  have hts : ∀ w ∈ wU, w.before _ s = true := fun w h => hts0 w (List.mem_cons_of_mem _ h)
  have hown : s.vm.findClass "SpineTables$Side" = some m.cls := findClass_of_methodNamed B.named
  have hlocks := B.notSynchronized
  have hin : meth.name = "<init>" := (name_of_methodNamed B.named B.method).1
  subst hsz
  have hD := hD0.self (sz := s.heap.size)
  generalize hAe : va_A [(h0, .inr (7, [.null, .int 0, .int 0, .int 0, .null]))] s.heap.size = A at hD ⊢
  have hA : ∀ q : Nat, s.heap.size ≤ q → A q := fun q h => by rw [← hAe]; exact Or.inr h
  have hP : va_P (dC, dI) classes [(h0, .inr (7, [.null, .int 0, .int 0, .int 0, .null]))] s.heap := hP
  have hl := lv_entry ([.ref h0]) (n := 1) (Nat.le_of_ble_eq_true rfl)
  rw [lg_entry_eq]
  generalize (lg_sl ([.ref h0]) ++ List.replicate (1 - (lg_sl ([.ref h0])).length) Slot.unset).toArray = ls at hl ⊢
  have hl : lv_has ls 1 [(0, .ref h0)] := hl
  obtain ⟨H, hH⟩ : ∃ H, H = s.heap := ⟨_, rfl⟩
  rw [← hH] at hP
  have hS : va_S A s.heap H [] := by rw [hH]; exact va_S.rf
  refine w_heap hH ?_
  refine lv_aload_n hx hb dX7_init_0 rfl (lv_at hl 0 rfl) ?_
  refine W.objInit hx hb hown (hts _ wd_45) (hts _ wd_1) (hts _ wd_oi) rfl (by rw [hml]; exact hl.1) rfl dX7_init_1 (Nat.le_of_ble_eq_true rfl) (Nat.le_of_ble_eq_true rfl) ?_
  refine W.eq (g2 := F0 m 4 ls []) rfl ?_
  refine lv_aload_n hx hb dX7_init_4 rfl (lv_at hl 0 rfl) ?_
  refine lv_null hx hb dX7_init_5 ?_
  refine va_put (D := (dC, dI)) (ci := 7) (v := .null) (ty := (.object "SpineTables$Table")) (C := RX7) (T := TX7) (N := 5) hx hb hts inX7 tyX7 tyX7_ok nmX7 hown hK hP hD hS 0 rfl rfl 0 (by decide) (hts _ wd_46) (fun _ h9 => h9) rfl (by decide +kernel) rfl rfl (Nat.le_of_ble_eq_true rfl) dX7_init_6 (fun H locs hP hD hS => ?_)
  have hP : va_P (dC, dI) classes [(h0, .inr (7, [.null, .int 0, .int 0, .int 0, .null]))] H := hP
  have hD : va_D A [(h0, .inr (7, [.null, .int 0, .int 0, .int 0, .null]))] := hD
  refine lv_aload_n hx hb dX7_init_9 rfl (lv_at hl 0 rfl) ?_
  refine lv_iconst (v := 0) hx hb dX7_init_10 (by decide) ?_
  refine va_put (D := (dC, dI)) (ci := 7) (v := .int 0) (ty := .int) (C := RX7) (T := TX7) (N := 5) hx hb hts inX7 tyX7 tyX7_ok nmX7 hown hK hP hD hS 0 rfl rfl 1 (by decide) (hts _ wd_47) (fun _ h9 => h9) rfl (by decide +kernel) rfl rfl (Nat.le_of_ble_eq_true rfl) dX7_init_11 (fun H locs hP hD hS => ?_)
  have hP : va_P (dC, dI) classes [(h0, .inr (7, [.null, .int 0, .int 0, .int 0, .null]))] H := hP
  have hD : va_D A [(h0, .inr (7, [.null, .int 0, .int 0, .int 0, .null]))] := hD
  refine lv_aload_n hx hb dX7_init_14 rfl (lv_at hl 0 rfl) ?_
  refine lv_iconst (v := 0) hx hb dX7_init_15 (by decide) ?_
  refine va_put (D := (dC, dI)) (ci := 7) (v := .int 0) (ty := .int) (C := RX7) (T := TX7) (N := 5) hx hb hts inX7 tyX7 tyX7_ok nmX7 hown hK hP hD hS 0 rfl rfl 2 (by decide) (hts _ wd_48) (fun _ h9 => h9) rfl (by decide +kernel) rfl rfl (Nat.le_of_ble_eq_true rfl) dX7_init_16 (fun H locs hP hD hS => ?_)
  have hP : va_P (dC, dI) classes [(h0, .inr (7, [.null, .int 0, .int 0, .int 0, .null]))] H := hP
  have hD : va_D A [(h0, .inr (7, [.null, .int 0, .int 0, .int 0, .null]))] := hD
  refine lv_aload_n hx hb dX7_init_19 rfl (lv_at hl 0 rfl) ?_
  refine lv_iconst (v := 0) hx hb dX7_init_20 (by decide) ?_
  refine va_put (D := (dC, dI)) (ci := 7) (v := .int 0) (ty := .boolean) (C := RX7) (T := TX7) (N := 5) hx hb hts inX7 tyX7 tyX7_ok nmX7 hown hK hP hD hS 0 rfl rfl 3 (by decide) (hts _ wd_49) (fun _ h9 => h9) rfl (by decide +kernel) rfl rfl (Nat.le_of_ble_eq_true rfl) dX7_init_21 (fun H locs hP hD hS => ?_)
  have hP : va_P (dC, dI) classes [(h0, .inr (7, [.null, .int 0, .int 0, .int 0, .null]))] H := hP
  have hD : va_D A [(h0, .inr (7, [.null, .int 0, .int 0, .int 0, .null]))] := hD
  refine lv_aload_n hx hb dX7_init_24 rfl (lv_at hl 0 rfl) ?_
  refine lv_bipush (v := 12) hx hb dX7_init_25 (by decide) ?_
  refine va_newa (atype := .int) (ty := .int) (N' := 12) (a0 := (12, .inl (fun _ => 0))) hx hb (hts _ wd_13) rfl hK hP hD hS hA (fun _ => rfl) (by decide) (by decide) (by decide) (Nat.le_of_ble_eq_true rfl) (Nat.le_of_ble_eq_true rfl) dX7_init_27 (fun q19 y20 H hK hP hD hS => ?_)
  have hK : va_K (dC, dI) classes [(y20, .int)] s := hK
  have hP : va_P (dC, dI) classes [(h0, .inr (7, [.null, .int 0, .int 0, .int 0, .null])), (q19, .inl (y20, 12, .inl (fun _ => 0)))] H := hP
  have hD : va_D A [(h0, .inr (7, [.null, .int 0, .int 0, .int 0, .null])), (q19, .inl (y20, 12, .inl (fun _ => 0)))] := hD
  refine W.widen (k := 1) (n := 12) (Nat.le_of_ble_eq_true rfl) (Nat.le_of_ble_eq_true rfl) ?_
  refine va_putF (D := (dC, dI)) (ci := 7) (v := .ref q19) (ty := (.array .int)) (C := RX7) (T := TX7) (N := 5) hx hb hts inX7 tyX7 tyX7_ok nmX7 hown hK hP hD hS 0 rfl rfl 4 (by decide) (hts _ wd_50) (fun _ h9 => h9) rfl hin rfl (by decide +kernel) rfl rfl (Nat.le_of_ble_eq_true rfl) dX7_init_29 (fun H locs hP hD hS => ?_)
  have hP : va_P (dC, dI) classes [(h0, .inr (7, [.null, .int 0, .int 0, .int 0, .ref q19])), (q19, .inl (y20, 12, .inl (fun _ => 0)))] H := hP
  have hD : va_D A [(h0, .inr (7, [.null, .int 0, .int 0, .int 0, .ref q19])), (q19, .inl (y20, 12, .inl (fun _ => 0)))] := hD
  have hP : va_P (dC, dI) classes [(h0, .inr (7, [.null, .int 0, .int 0, .int 0, .ref q19]))] H := hP.sub [0] rfl
  have hD : va_D A [(h0, .inr (7, [.null, .int 0, .int 0, .int 0, .ref q19]))] := hD.sub [0] (by decide) rfl
  have hK : va_K (dC, dI) classes [] s := hK.sub [] rfl
  have hP9 := hP.sub (ws' := [(h0, .inr (7, [.null, .int 0, .int 0, .int 0, .ref q19]))]) [0] rfl
  have hD9 := hD.sub (ws' := [(h0, .inr (7, [.null, .int 0, .int 0, .int 0, .ref q19]))]) [0] (by decide) rfl
  have hK9 := hK.sub (tys' := []) [] rfl
  refine W.widen (k := 1) (n := 12) (Nat.le_of_ble_eq_true rfl) (Nat.le_of_ble_eq_true rfl) ?_
  exact W.vret hx hb hr (fun t ht hW => ⟨⟨(), rfl, trivial, q19, by rw [ht]; exact hP9, va_K.moved hW.alike hK9, hD9⟩, hS.F ht⟩) hS.2.2 dX7_init_32
set_option maxHeartbeats 4000000 in
set_option maxRecDepth 100000 in
/-- Assembler -/
theorem c_Assembler (l : Launch) (dC : Nat → ClassId) (dI : Nat → Nat → Nat) (h0 : Nat) (sz : Nat) : Met l yX0_init (.code yX0_init cX0_init 1 none :: wU) ({ frames := 2, cells := 4, slots := 34, locals := 32 } : Room) (va_Pc [.ref h0] (fun U => P5 dC dI [(h0, .inr (0, [.null, .null, .null]))] [] sz U)) (va_Qv (fun _ : Unit => True) (fun _ t => ∃ e_q21 : Nat, ∃ e_q23 : Nat, P3 dC dI (va_A [(h0, .inr (0, [.null, .null, .null]))] sz) [(h0, .inr (0, [.ref e_q21, .ref e_q23, .null]))] [] t) (va_A [(h0, .inr (0, [.null, .null, .null]))] sz)) 4 34 (va_A [(h0, .inr (0, [.null, .null, .null]))] sz) := by
  refine Met.ofW (cc := cX0_init) (maxL := 1) (ret := none) (by decide) rfl ?_
  intro p e s m args below meth c s₁ B hml hv
  obtain ⟨rfl, hsz, hP, hK, hD0, hE⟩ := hv
  have hx := B.exec
  have hb := B.bytes
  have hr := B.returns
  have hts0 := atoms_spec (ws := (.code yX0_init cX0_init 1 none :: wU)) B.pre
  have hts : ∀ w ∈ wU, w.before _ s = true := fun w h => hts0 w (List.mem_cons_of_mem _ h)
  have hown : s.vm.findClass "SpineTables$Assembler" = some m.cls := findClass_of_methodNamed B.named
  have hlocks := B.notSynchronized
  have hin : meth.name = "<init>" := (name_of_methodNamed B.named B.method).1
  subst hsz
  have hD := hD0.self (sz := s.heap.size)
  generalize hAe : va_A [(h0, .inr (0, [.null, .null, .null]))] s.heap.size = A at hD ⊢
  have hA : ∀ q : Nat, s.heap.size ≤ q → A q := fun q h => by rw [← hAe]; exact Or.inr h
  have hP : va_P (dC, dI) classes [(h0, .inr (0, [.null, .null, .null]))] s.heap := hP
  have hl := lv_entry ([.ref h0]) (n := 1) (Nat.le_of_ble_eq_true rfl)
  rw [lg_entry_eq]
  generalize (lg_sl ([.ref h0]) ++ List.replicate (1 - (lg_sl ([.ref h0])).length) Slot.unset).toArray = ls at hl ⊢
  have hl : lv_has ls 1 [(0, .ref h0)] := hl
  obtain ⟨H, hH⟩ : ∃ H, H = s.heap := ⟨_, rfl⟩
  rw [← hH] at hP
  have hS : va_S A s.heap H [] := by rw [hH]; exact va_S.rf
  refine w_heap hH ?_
  refine lv_aload_n hx hb dX0_init_0 rfl (lv_at hl 0 rfl) ?_
  refine W.objInit hx hb hown (hts _ wd_51) (hts _ wd_1) (hts _ wd_oi) rfl (by rw [hml]; exact hl.1) rfl dX0_init_1 (Nat.le_of_ble_eq_true rfl) (Nat.le_of_ble_eq_true rfl) ?_
  refine W.eq (g2 := F0 m 4 ls []) rfl ?_
  refine lv_aload_n hx hb dX0_init_4 rfl (lv_at hl 0 rfl) ?_
  refine va_new (ci := 7) (fs := [.null, .int 0, .int 0, .int 0, .null]) (C := RX7) (T := TX7) (N := 5) hx hb hts inX7 tyX7 tyX7_ok hown (hts _ wd_52) (hts _ wd_53) (hts _ wd_54) hK hP hD hS hA rfl dfX7 (Nat.le_of_ble_eq_true rfl) (Nat.le_of_ble_eq_true rfl) dX0_init_5 (fun q21 H hP hD hS => ?_)
  have hP : va_P (dC, dI) classes [(h0, .inr (0, [.null, .null, .null])), (q21, .inr (7, [.null, .int 0, .int 0, .int 0, .null]))] H := hP
  have hD : va_D A [(h0, .inr (0, [.null, .null, .null])), (q21, .inr (7, [.null, .int 0, .int 0, .int 0, .null]))] := hD
  refine W.widen (k := 1) (n := 5) (Nat.le_of_ble_eq_true rfl) (Nat.le_of_ble_eq_true rfl) ?_
  refine lv_dup hx hb dX0_init_8 rfl ?_
  have hPc := hP.sub (ws' := [(q21, .inr (7, [.null, .int 0, .int 0, .int 0, .null]))]) [1] rfl
  have hDc := hD.sub (ws' := [(q21, .inr (7, [.null, .int 0, .int 0, .int 0, .null]))]) [1] (by decide) rfl
  have hKc := hK.sub (tys' := []) [] rfl
  have hFc := va_free (wc := [(q21, .inr (7, [.null, .int 0, .int 0, .int 0, .null]))]) hD hS hA [1] rfl
  refine va_callv (va_runIN (As := []) (rest := [.ref q21, .ref h0]) ⟨hx, hb, hml, hown, hts⟩ (c_Side l dC dI q21 H.size) ⟨va_cnB 0 hts (goC wd_55) rfl rfl rfl (hE.1 _ (List.mem_of_getElem? (i := 2) rfl)) (hts _ wd_54) (by decide +kernel) ⟨Nat.le_of_ble_eq_true rfl, Nat.le_of_ble_eq_true rfl⟩, rfl, hts _ wd_56⟩ ⟨blind5, fun U hU hW => ⟨rfl, pre5 hU hW hPc hKc hDc hE⟩⟩ rfl rfl hl.1 rfl (lv_room (Nat.le_of_ble_eq_true rfl)) dX0_init_9 ⟨Nat.le_of_ble_eq_true rfl, Nat.le_of_ble_eq_true rfl⟩) hS (fun q _ h => hFc q h) hFc (fun u t H1 locs ht hvm hw hB hz1 hk1 hS => ?_)
  obtain ⟨q22, hP1, hK1, hD1⟩ := hB
  rw [ht] at hP1
  have hK1 := va_K.moved hvm.symm hK1
  obtain ⟨hP, hD⟩ := va_join (wr := [(h0, .inr (0, [.null, .null, .null]))]) (w1 := [(q21, .inr (7, [.null, .int 0, .int 0, .int 0, .ref q22]))]) hP hD [1] [0] rfl rfl (by decide) (by decide) hk1 hFc hP1 hD1
  have hK := (hK.sub (tys' := []) [] rfl).app hK1
  generalize H1 = H at hP hS ⊢
  have hK : va_K (dC, dI) classes [] s := hK
  have hP : va_P (dC, dI) classes [(h0, .inr (0, [.null, .null, .null])), (q21, .inr (7, [.null, .int 0, .int 0, .int 0, .ref q22]))] H := hP
  have hD : va_D A [(h0, .inr (0, [.null, .null, .null])), (q21, .inr (7, [.null, .int 0, .int 0, .int 0, .ref q22]))] := hD
  refine W.widen (k := 2) (n := 17) (Nat.le_of_ble_eq_true rfl) (Nat.le_of_ble_eq_true rfl) ?_
  refine va_putF (D := (dC, dI)) (ci := 0) (v := .ref q21) (ty := (.object "SpineTables$Side")) (C := RX0) (T := TX0) (N := 3) hx hb hts inX0 tyX0 tyX0_ok nmX0 hown hK hP hD hS 0 rfl rfl 0 (by decide) (hts _ wd_57) (fun _ h9 => h9) rfl hin rfl (by decide +kernel) rfl rfl (Nat.le_of_ble_eq_true rfl) dX0_init_12 (fun H locs hP hD hS => ?_)
  have hP : va_P (dC, dI) classes [(h0, .inr (0, [.ref q21, .null, .null])), (q21, .inr (7, [.null, .int 0, .int 0, .int 0, .ref q22]))] H := hP
  have hD : va_D A [(h0, .inr (0, [.ref q21, .null, .null])), (q21, .inr (7, [.null, .int 0, .int 0, .int 0, .ref q22]))] := hD
  have hP : va_P (dC, dI) classes [(h0, .inr (0, [.ref q21, .null, .null]))] H := hP.sub [0] rfl
  have hD : va_D A [(h0, .inr (0, [.ref q21, .null, .null]))] := hD.sub [0] (by decide) rfl
  have hK : va_K (dC, dI) classes [] s := hK.sub [] rfl
  refine lv_aload_n hx hb dX0_init_15 rfl (lv_at hl 0 rfl) ?_
  refine va_new (ci := 7) (fs := [.null, .int 0, .int 0, .int 0, .null]) (C := RX7) (T := TX7) (N := 5) hx hb hts inX7 tyX7 tyX7_ok hown (hts _ wd_52) (hts _ wd_53) (hts _ wd_54) hK hP hD hS hA rfl dfX7 (Nat.le_of_ble_eq_true rfl) (Nat.le_of_ble_eq_true rfl) dX0_init_16 (fun q23 H hP hD hS => ?_)
  have hP : va_P (dC, dI) classes [(h0, .inr (0, [.ref q21, .null, .null])), (q23, .inr (7, [.null, .int 0, .int 0, .int 0, .null]))] H := hP
  have hD : va_D A [(h0, .inr (0, [.ref q21, .null, .null])), (q23, .inr (7, [.null, .int 0, .int 0, .int 0, .null]))] := hD
  refine W.widen (k := 3) (n := 22) (Nat.le_of_ble_eq_true rfl) (Nat.le_of_ble_eq_true rfl) ?_
  refine lv_dup hx hb dX0_init_19 rfl ?_
  have hPc := hP.sub (ws' := [(q23, .inr (7, [.null, .int 0, .int 0, .int 0, .null]))]) [1] rfl
  have hDc := hD.sub (ws' := [(q23, .inr (7, [.null, .int 0, .int 0, .int 0, .null]))]) [1] (by decide) rfl
  have hKc := hK.sub (tys' := []) [] rfl
  have hFc := va_free (wc := [(q23, .inr (7, [.null, .int 0, .int 0, .int 0, .null]))]) hD hS hA [1] rfl
  refine va_callv (va_runIN (As := []) (rest := [.ref q23, .ref h0]) ⟨hx, hb, hml, hown, hts⟩ (c_Side l dC dI q23 H.size) ⟨va_cnB 0 hts (goC wd_55) rfl rfl rfl (hE.1 _ (List.mem_of_getElem? (i := 2) rfl)) (hts _ wd_54) (by decide +kernel) ⟨Nat.le_of_ble_eq_true rfl, Nat.le_of_ble_eq_true rfl⟩, rfl, hts _ wd_56⟩ ⟨blind5, fun U hU hW => ⟨rfl, pre5 hU hW hPc hKc hDc hE⟩⟩ rfl rfl hl.1 rfl (lv_room (Nat.le_of_ble_eq_true rfl)) dX0_init_20 ⟨Nat.le_of_ble_eq_true rfl, Nat.le_of_ble_eq_true rfl⟩) hS (fun q _ h => hFc q h) hFc (fun u t H1 locs ht hvm hw hB hz1 hk1 hS => ?_)
  obtain ⟨q24, hP1, hK1, hD1⟩ := hB
  rw [ht] at hP1
  have hK1 := va_K.moved hvm.symm hK1
  obtain ⟨hP, hD⟩ := va_join (wr := [(h0, .inr (0, [.ref q21, .null, .null]))]) (w1 := [(q23, .inr (7, [.null, .int 0, .int 0, .int 0, .ref q24]))]) hP hD [1] [0] rfl rfl (by decide) (by decide) hk1 hFc hP1 hD1
  have hK := (hK.sub (tys' := []) [] rfl).app hK1
  generalize H1 = H at hP hS ⊢
  have hK : va_K (dC, dI) classes [] s := hK
  have hP : va_P (dC, dI) classes [(h0, .inr (0, [.ref q21, .null, .null])), (q23, .inr (7, [.null, .int 0, .int 0, .int 0, .ref q24]))] H := hP
  have hD : va_D A [(h0, .inr (0, [.ref q21, .null, .null])), (q23, .inr (7, [.null, .int 0, .int 0, .int 0, .ref q24]))] := hD
  refine W.widen (k := 4) (n := 34) (Nat.le_of_ble_eq_true rfl) (Nat.le_of_ble_eq_true rfl) ?_
  refine va_putF (D := (dC, dI)) (ci := 0) (v := .ref q23) (ty := (.object "SpineTables$Side")) (C := RX0) (T := TX0) (N := 3) hx hb hts inX0 tyX0 tyX0_ok nmX0 hown hK hP hD hS 0 rfl rfl 1 (by decide) (hts _ wd_58) (fun _ h9 => h9) rfl hin rfl (by decide +kernel) rfl rfl (Nat.le_of_ble_eq_true rfl) dX0_init_23 (fun H locs hP hD hS => ?_)
  have hP : va_P (dC, dI) classes [(h0, .inr (0, [.ref q21, .ref q23, .null])), (q23, .inr (7, [.null, .int 0, .int 0, .int 0, .ref q24]))] H := hP
  have hD : va_D A [(h0, .inr (0, [.ref q21, .ref q23, .null])), (q23, .inr (7, [.null, .int 0, .int 0, .int 0, .ref q24]))] := hD
  have hP : va_P (dC, dI) classes [(h0, .inr (0, [.ref q21, .ref q23, .null]))] H := hP.sub [0] rfl
  have hD : va_D A [(h0, .inr (0, [.ref q21, .ref q23, .null]))] := hD.sub [0] (by decide) rfl
  have hK : va_K (dC, dI) classes [] s := hK.sub [] rfl
  refine lv_aload_n hx hb dX0_init_26 rfl (lv_at hl 0 rfl) ?_
  refine lv_null hx hb dX0_init_27 ?_
  refine va_put (D := (dC, dI)) (ci := 0) (v := .null) (ty := (.object "SpineTables$Rows")) (C := RX0) (T := TX0) (N := 3) hx hb hts inX0 tyX0 tyX0_ok nmX0 hown hK hP hD hS 0 rfl rfl 2 (by decide) (hts _ wd_59) (fun _ h9 => h9) rfl (by decide +kernel) rfl rfl (Nat.le_of_ble_eq_true rfl) dX0_init_28 (fun H locs hP hD hS => ?_)
  have hP : va_P (dC, dI) classes [(h0, .inr (0, [.ref q21, .ref q23, .null]))] H := hP
  have hD : va_D A [(h0, .inr (0, [.ref q21, .ref q23, .null]))] := hD
  have hP9 := hP.sub (ws' := [(h0, .inr (0, [.ref q21, .ref q23, .null]))]) [0] rfl
  have hD9 := hD.sub (ws' := [(h0, .inr (0, [.ref q21, .ref q23, .null]))]) [0] (by decide) rfl
  have hK9 := hK.sub (tys' := []) [] rfl
  refine W.widen (k := 4) (n := 34) (Nat.le_of_ble_eq_true rfl) (Nat.le_of_ble_eq_true rfl) ?_
  exact W.vret hx hb hr (fun t ht hW => ⟨⟨(), rfl, trivial, q21, q23, by rw [ht]; exact hP9, va_K.moved hW.alike hK9, hD9⟩, hS.F ht⟩) hS.2.2 dX0_init_31
set_option maxHeartbeats 4000000 in
set_option maxRecDepth 100000 in
/-- Extractor -/
theorem c_Extractor (l : Launch) (dC : Nat → ClassId) (dI : Nat → Nat → Nat) (h0 : Nat) (sz : Nat) : Met l yX2_init (.code yX2_init cX2_init 1 none :: wU) ({ frames := 1, cells := 1, slots := 12, locals := 12 } : Room) (va_Pc [.ref h0] (fun U => P5 dC dI [(h0, .inr (2, [.null]))] [] sz U)) (va_Qv (fun _ : Unit => True) (fun _ t => ∃ e_q25 : Nat, P3 dC dI (va_A [(h0, .inr (2, [.null]))] sz) [(h0, .inr (2, [.ref e_q25]))] [] t) (va_A [(h0, .inr (2, [.null]))] sz)) 1 12 (va_A [(h0, .inr (2, [.null]))] sz) := by
  refine Met.ofW (cc := cX2_init) (maxL := 1) (ret := none) (by decide) rfl ?_
  intro p e s m args below meth c s₁ B hml hv
  obtain ⟨rfl, hsz, hP, hK, hD0, hE⟩ := hv
  have hx := B.exec
  have hb := B.bytes
  have hr := B.returns
  have hts0 := atoms_spec (ws := (.code yX2_init cX2_init 1 none :: wU)) B.pre
  have hts : ∀ w ∈ wU, w.before _ s = true := fun w h => hts0 w (List.mem_cons_of_mem _ h)
  have hown : s.vm.findClass "SpineTables$Extractor" = some m.cls := findClass_of_methodNamed B.named
  have hlocks := B.notSynchronized
  have hin : meth.name = "<init>" := (name_of_methodNamed B.named B.method).1
  subst hsz
  have hD := hD0.self (sz := s.heap.size)
  generalize hAe : va_A [(h0, .inr (2, [.null]))] s.heap.size = A at hD ⊢
  have hA : ∀ q : Nat, s.heap.size ≤ q → A q := fun q h => by rw [← hAe]; exact Or.inr h
  have hP : va_P (dC, dI) classes [(h0, .inr (2, [.null]))] s.heap := hP
  have hl := lv_entry ([.ref h0]) (n := 1) (Nat.le_of_ble_eq_true rfl)
  rw [lg_entry_eq]
  generalize (lg_sl ([.ref h0]) ++ List.replicate (1 - (lg_sl ([.ref h0])).length) Slot.unset).toArray = ls at hl ⊢
  have hl : lv_has ls 1 [(0, .ref h0)] := hl
  obtain ⟨H, hH⟩ : ∃ H, H = s.heap := ⟨_, rfl⟩
  rw [← hH] at hP
  have hS : va_S A s.heap H [] := by rw [hH]; exact va_S.rf
  refine w_heap hH ?_
  refine lv_aload_n hx hb dX2_init_0 rfl (lv_at hl 0 rfl) ?_
  refine W.objInit hx hb hown (hts _ wd_60) (hts _ wd_1) (hts _ wd_oi) rfl (by rw [hml]; exact hl.1) rfl dX2_init_1 (Nat.le_of_ble_eq_true rfl) (Nat.le_of_ble_eq_true rfl) ?_
  refine W.eq (g2 := F0 m 4 ls []) rfl ?_
  refine lv_aload_n hx hb dX2_init_4 rfl (lv_at hl 0 rfl) ?_
  refine lv_bipush (v := 12) hx hb dX2_init_5 (by decide) ?_
  refine va_newa (atype := .int) (ty := .int) (N' := 12) (a0 := (12, .inl (fun _ => 0))) hx hb (hts _ wd_13) rfl hK hP hD hS hA (fun _ => rfl) (by decide) (by decide) (by decide) (Nat.le_of_ble_eq_true rfl) (Nat.le_of_ble_eq_true rfl) dX2_init_7 (fun q25 y26 H hK hP hD hS => ?_)
  have hK : va_K (dC, dI) classes [(y26, .int)] s := hK
  have hP : va_P (dC, dI) classes [(h0, .inr (2, [.null])), (q25, .inl (y26, 12, .inl (fun _ => 0)))] H := hP
  have hD : va_D A [(h0, .inr (2, [.null])), (q25, .inl (y26, 12, .inl (fun _ => 0)))] := hD
  refine W.widen (k := 1) (n := 12) (Nat.le_of_ble_eq_true rfl) (Nat.le_of_ble_eq_true rfl) ?_
  refine va_putF (D := (dC, dI)) (ci := 2) (v := .ref q25) (ty := (.array .int)) (C := RX2) (T := TX2) (N := 1) hx hb hts inX2 tyX2 tyX2_ok nmX2 hown hK hP hD hS 0 rfl rfl 0 (by decide) (hts _ wd_61) (fun _ h9 => h9) rfl hin rfl (by decide +kernel) rfl rfl (Nat.le_of_ble_eq_true rfl) dX2_init_9 (fun H locs hP hD hS => ?_)
  have hP : va_P (dC, dI) classes [(h0, .inr (2, [.ref q25])), (q25, .inl (y26, 12, .inl (fun _ => 0)))] H := hP
  have hD : va_D A [(h0, .inr (2, [.ref q25])), (q25, .inl (y26, 12, .inl (fun _ => 0)))] := hD
  have hP : va_P (dC, dI) classes [(h0, .inr (2, [.ref q25]))] H := hP.sub [0] rfl
  have hD : va_D A [(h0, .inr (2, [.ref q25]))] := hD.sub [0] (by decide) rfl
  have hK : va_K (dC, dI) classes [] s := hK.sub [] rfl
  have hP9 := hP.sub (ws' := [(h0, .inr (2, [.ref q25]))]) [0] rfl
  have hD9 := hD.sub (ws' := [(h0, .inr (2, [.ref q25]))]) [0] (by decide) rfl
  have hK9 := hK.sub (tys' := []) [] rfl
  refine W.widen (k := 1) (n := 12) (Nat.le_of_ble_eq_true rfl) (Nat.le_of_ble_eq_true rfl) ?_
  exact W.vret hx hb hr (fun t ht hW => ⟨⟨(), rfl, trivial, q25, by rw [ht]; exact hP9, va_K.moved hW.alike hK9, hD9⟩, hS.F ht⟩) hS.2.2 dX2_init_12
set_option maxHeartbeats 4000000 in
set_option maxRecDepth 100000 in
/-- BarCheck -/
theorem c_BarCheck (l : Launch) (dC : Nat → ClassId) (dI : Nat → Nat → Nat) (h0 : Nat) (sz : Nat) : Met l yX1_init (.code yX1_init cX1_init 1 none :: wU) ({ frames := 2, cells := 1, slots := 2, locals := 32 } : Room) (va_Pc [.ref h0] (fun U => P5 dC dI [(h0, .inr (1, [.null, .int 0, .int 0, .int 0, .int 0]))] [] sz U)) (va_Qv (fun _ : Unit => True) (fun _ t => ∃ e_q27 : Nat, P3 dC dI (va_A [(h0, .inr (1, [.null, .int 0, .int 0, .int 0, .int 0]))] sz) [(h0, .inr (1, [.ref e_q27, .int 0, .int 1, .int 0, .int 1]))] [] t) (va_A [(h0, .inr (1, [.null, .int 0, .int 0, .int 0, .int 0]))] sz)) 1 2 (va_A [(h0, .inr (1, [.null, .int 0, .int 0, .int 0, .int 0]))] sz) := by
  refine Met.ofW (cc := cX1_init) (maxL := 1) (ret := none) (by decide) rfl ?_
  intro p e s m args below meth c s₁ B hml hv
  obtain ⟨rfl, hsz, hP, hK, hD0, hE⟩ := hv
  have hx := B.exec
  have hb := B.bytes
  have hr := B.returns
  have hts0 := atoms_spec (ws := (.code yX1_init cX1_init 1 none :: wU)) B.pre
  have hts : ∀ w ∈ wU, w.before _ s = true := fun w h => hts0 w (List.mem_cons_of_mem _ h)
  have hown : s.vm.findClass "SpineTables$BarCheck" = some m.cls := findClass_of_methodNamed B.named
  have hlocks := B.notSynchronized
  have hin : meth.name = "<init>" := (name_of_methodNamed B.named B.method).1
  subst hsz
  have hD := hD0.self (sz := s.heap.size)
  generalize hAe : va_A [(h0, .inr (1, [.null, .int 0, .int 0, .int 0, .int 0]))] s.heap.size = A at hD ⊢
  have hA : ∀ q : Nat, s.heap.size ≤ q → A q := fun q h => by rw [← hAe]; exact Or.inr h
  have hP : va_P (dC, dI) classes [(h0, .inr (1, [.null, .int 0, .int 0, .int 0, .int 0]))] s.heap := hP
  have hl := lv_entry ([.ref h0]) (n := 1) (Nat.le_of_ble_eq_true rfl)
  rw [lg_entry_eq]
  generalize (lg_sl ([.ref h0]) ++ List.replicate (1 - (lg_sl ([.ref h0])).length) Slot.unset).toArray = ls at hl ⊢
  have hl : lv_has ls 1 [(0, .ref h0)] := hl
  obtain ⟨H, hH⟩ : ∃ H, H = s.heap := ⟨_, rfl⟩
  rw [← hH] at hP
  have hS : va_S A s.heap H [] := by rw [hH]; exact va_S.rf
  refine w_heap hH ?_
  refine lv_aload_n hx hb dX1_init_0 rfl (lv_at hl 0 rfl) ?_
  refine W.objInit hx hb hown (hts _ wd_62) (hts _ wd_1) (hts _ wd_oi) rfl (by rw [hml]; exact hl.1) rfl dX1_init_1 (Nat.le_of_ble_eq_true rfl) (Nat.le_of_ble_eq_true rfl) ?_
  refine W.eq (g2 := F0 m 4 ls []) rfl ?_
  refine lv_aload_n hx hb dX1_init_4 rfl (lv_at hl 0 rfl) ?_
  refine va_new (ci := 3) (fs := [.long 0, .long 0]) (C := RX3) (T := TX3) (N := 2) hx hb hts inX3 tyX3 tyX3_ok hown (hts _ wd_63) (hts _ wd_29) (hts _ wd_30) hK hP hD hS hA rfl dfX3 (Nat.le_of_ble_eq_true rfl) (Nat.le_of_ble_eq_true rfl) dX1_init_5 (fun q27 H hP hD hS => ?_)
  have hP : va_P (dC, dI) classes [(h0, .inr (1, [.null, .int 0, .int 0, .int 0, .int 0])), (q27, .inr (3, [.long 0, .long 0]))] H := hP
  have hD : va_D A [(h0, .inr (1, [.null, .int 0, .int 0, .int 0, .int 0])), (q27, .inr (3, [.long 0, .long 0]))] := hD
  refine W.widen (k := 1) (n := 2) (Nat.le_of_ble_eq_true rfl) (Nat.le_of_ble_eq_true rfl) ?_
  refine lv_dup hx hb dX1_init_8 rfl ?_
  have hPc := hP.sub (ws' := [(q27, .inr (3, [.long 0, .long 0]))]) [1] rfl
  have hDc := hD.sub (ws' := [(q27, .inr (3, [.long 0, .long 0]))]) [1] (by decide) rfl
  have hKc := hK.sub (tys' := []) [] rfl
  have hFc := va_free (wc := [(q27, .inr (3, [.long 0, .long 0]))]) hD hS hA [1] rfl
  refine va_callv (va_runIN (As := []) (rest := [.ref q27, .ref h0]) ⟨hx, hb, hml, hown, hts⟩ (c_Fraction l dC dI q27 H.size) ⟨va_cnB 0 hts (goC wd_31) rfl rfl rfl (hE.1 _ (List.mem_of_getElem? (i := 3) rfl)) (hts _ wd_30) (by decide +kernel) ⟨Nat.le_of_ble_eq_true rfl, Nat.le_of_ble_eq_true rfl⟩, rfl, hts _ wd_32⟩ ⟨blind5, fun U hU hW => ⟨rfl, pre5 hU hW hPc hKc hDc hE⟩⟩ rfl rfl hl.1 rfl (lv_room (Nat.le_of_ble_eq_true rfl)) dX1_init_9 ⟨Nat.le_of_ble_eq_true rfl, Nat.le_of_ble_eq_true rfl⟩) hS (fun q _ h => hFc q h) hFc (fun u t H1 locs ht hvm hw hB hz1 hk1 hS => ?_)
  obtain ⟨hP1, hK1, hD1⟩ := hB
  rw [ht] at hP1
  have hK1 := va_K.moved hvm.symm hK1
  obtain ⟨hP, hD⟩ := va_join (wr := [(h0, .inr (1, [.null, .int 0, .int 0, .int 0, .int 0]))]) (w1 := [(q27, .inr (3, [.long 0, .long 1]))]) hP hD [1] [0] rfl rfl (by decide) (by decide) hk1 hFc hP1 hD1
  have hK := (hK.sub (tys' := []) [] rfl).app hK1
  generalize H1 = H at hP hS ⊢
  have hK : va_K (dC, dI) classes [] s := hK
  have hP : va_P (dC, dI) classes [(h0, .inr (1, [.null, .int 0, .int 0, .int 0, .int 0])), (q27, .inr (3, [.long 0, .long 1]))] H := hP
  have hD : va_D A [(h0, .inr (1, [.null, .int 0, .int 0, .int 0, .int 0])), (q27, .inr (3, [.long 0, .long 1]))] := hD
  refine va_putF (D := (dC, dI)) (ci := 1) (v := .ref q27) (ty := (.object "SpineTables$Fraction")) (C := RX1) (T := TX1) (N := 5) hx hb hts inX1 tyX1 tyX1_ok nmX1 hown hK hP hD hS 0 rfl rfl 0 (by decide) (hts _ wd_64) (fun _ h9 => h9) rfl hin rfl (by decide +kernel) rfl rfl (Nat.le_of_ble_eq_true rfl) dX1_init_12 (fun H locs hP hD hS => ?_)
  have hP : va_P (dC, dI) classes [(h0, .inr (1, [.ref q27, .int 0, .int 0, .int 0, .int 0])), (q27, .inr (3, [.long 0, .long 1]))] H := hP
  have hD : va_D A [(h0, .inr (1, [.ref q27, .int 0, .int 0, .int 0, .int 0])), (q27, .inr (3, [.long 0, .long 1]))] := hD
  have hP : va_P (dC, dI) classes [(h0, .inr (1, [.ref q27, .int 0, .int 0, .int 0, .int 0]))] H := hP.sub [0] rfl
  have hD : va_D A [(h0, .inr (1, [.ref q27, .int 0, .int 0, .int 0, .int 0]))] := hD.sub [0] (by decide) rfl
  have hK : va_K (dC, dI) classes [] s := hK.sub [] rfl
  refine lv_aload_n hx hb dX1_init_15 rfl (lv_at hl 0 rfl) ?_
  refine lv_iconst (v := 0) hx hb dX1_init_16 (by decide) ?_
  refine va_put (D := (dC, dI)) (ci := 1) (v := .int 0) (ty := .int) (C := RX1) (T := TX1) (N := 5) hx hb hts inX1 tyX1 tyX1_ok nmX1 hown hK hP hD hS 0 rfl rfl 1 (by decide) (hts _ wd_65) (fun _ h9 => h9) rfl (by decide +kernel) rfl rfl (Nat.le_of_ble_eq_true rfl) dX1_init_17 (fun H locs hP hD hS => ?_)
  have hP : va_P (dC, dI) classes [(h0, .inr (1, [.ref q27, .int 0, .int 0, .int 0, .int 0]))] H := hP
  have hD : va_D A [(h0, .inr (1, [.ref q27, .int 0, .int 0, .int 0, .int 0]))] := hD
  refine lv_aload_n hx hb dX1_init_20 rfl (lv_at hl 0 rfl) ?_
  refine lv_iconst (v := 1) hx hb dX1_init_21 (by decide) ?_
  refine va_put (D := (dC, dI)) (ci := 1) (v := .int 1) (ty := .int) (C := RX1) (T := TX1) (N := 5) hx hb hts inX1 tyX1 tyX1_ok nmX1 hown hK hP hD hS 0 rfl rfl 2 (by decide) (hts _ wd_66) (fun _ h9 => h9) rfl (by decide +kernel) rfl rfl (Nat.le_of_ble_eq_true rfl) dX1_init_22 (fun H locs hP hD hS => ?_)
  have hP : va_P (dC, dI) classes [(h0, .inr (1, [.ref q27, .int 0, .int 1, .int 0, .int 0]))] H := hP
  have hD : va_D A [(h0, .inr (1, [.ref q27, .int 0, .int 1, .int 0, .int 0]))] := hD
  refine lv_aload_n hx hb dX1_init_25 rfl (lv_at hl 0 rfl) ?_
  refine lv_iconst (v := 0) hx hb dX1_init_26 (by decide) ?_
  refine va_put (D := (dC, dI)) (ci := 1) (v := .int 0) (ty := .int) (C := RX1) (T := TX1) (N := 5) hx hb hts inX1 tyX1 tyX1_ok nmX1 hown hK hP hD hS 0 rfl rfl 3 (by decide) (hts _ wd_67) (fun _ h9 => h9) rfl (by decide +kernel) rfl rfl (Nat.le_of_ble_eq_true rfl) dX1_init_27 (fun H locs hP hD hS => ?_)
  have hP : va_P (dC, dI) classes [(h0, .inr (1, [.ref q27, .int 0, .int 1, .int 0, .int 0]))] H := hP
  have hD : va_D A [(h0, .inr (1, [.ref q27, .int 0, .int 1, .int 0, .int 0]))] := hD
  refine lv_aload_n hx hb dX1_init_30 rfl (lv_at hl 0 rfl) ?_
  refine lv_iconst (v := 1) hx hb dX1_init_31 (by decide) ?_
  refine va_put (D := (dC, dI)) (ci := 1) (v := .int 1) (ty := .int) (C := RX1) (T := TX1) (N := 5) hx hb hts inX1 tyX1 tyX1_ok nmX1 hown hK hP hD hS 0 rfl rfl 4 (by decide) (hts _ wd_68) (fun _ h9 => h9) rfl (by decide +kernel) rfl rfl (Nat.le_of_ble_eq_true rfl) dX1_init_32 (fun H locs hP hD hS => ?_)
  have hP : va_P (dC, dI) classes [(h0, .inr (1, [.ref q27, .int 0, .int 1, .int 0, .int 1]))] H := hP
  have hD : va_D A [(h0, .inr (1, [.ref q27, .int 0, .int 1, .int 0, .int 1]))] := hD
  have hP9 := hP.sub (ws' := [(h0, .inr (1, [.ref q27, .int 0, .int 1, .int 0, .int 1]))]) [0] rfl
  have hD9 := hD.sub (ws' := [(h0, .inr (1, [.ref q27, .int 0, .int 1, .int 0, .int 1]))]) [0] (by decide) rfl
  have hK9 := hK.sub (tys' := []) [] rfl
  refine W.widen (k := 1) (n := 2) (Nat.le_of_ble_eq_true rfl) (Nat.le_of_ble_eq_true rfl) ?_
  exact W.vret hx hb hr (fun t ht hW => ⟨⟨(), rfl, trivial, q27, by rw [ht]; exact hP9, va_K.moved hW.alike hK9, hD9⟩, hS.F ht⟩) hS.2.2 dX1_init_35
