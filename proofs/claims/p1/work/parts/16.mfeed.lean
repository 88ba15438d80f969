set_option maxHeartbeats 4000000 in
set_option maxRecDepth 100000 in
theorem m_feed_loop {p : Program} {l : Launch} {e : Env} {R : Room} {s : State} {m : MethodId} {args : Array Value} {below : List Frame} {meth : Method} {c : Code} {cells slots : Nat} {Q : State → Prop} {A : Nat → Prop} {dC : Nat → ClassId} {dI : Nat → Nat → Nat} (hx : p.tables.exec = Jvm.exec) (hb : c.code = cX12_feed) (hown : s.vm.findClass "SpineTablesModel" = some m.cls) (hts : ∀ w ∈ wU, w.before args s = true) {h0 h1 : Nat} {a b cc d ee : Int32} {v3 v4 v5 v6 v7 v8 v9 v10 v11 v12 v13 v14 v15 v16 v17 v18 v19 v20 v21 v22 v23 v24 v25 v26 v27 v28 v29 v30 v31 v32 v33 v34 v35 v36 v37 v38 v39 v40 v41 v42 v43 v44 v45 : Value} {cI : ClassId} (hK : va_K (dC, dI) classes [(cI, .int)] s)
    (kk : ∀ (H : Heap) (locs : List Loc) (f : Nat → Int32) (ls : Array Slot), va_P (dC, dI) classes [(h0, .inr (11, [.int 0, .ref h1, .int 0, v3, v4, v5, v6, v7, v8, v9, v10, v11, v12, v13, v14, v15, v16, v17, v18, v19, v20, v21, v22, v23, v24, v25, v26, v27, v28, v29, v30, v31, v32, v33, v34, v35, v36, v37, v38, v39, v40, v41, v42, v43, v44, v45])), (h1, .inl (cI, 3000, .inl f))] H → va_D A [(h0, .inr (11, [.int 0, .ref h1, .int 0, v3, v4, v5, v6, v7, v8, v9, v10, v11, v12, v13, v14, v15, v16, v17, v18, v19, v20, v21, v22, v23, v24, v25, v26, v27, v28, v29, v30, v31, v32, v33, v34, v35, v36, v37, v38, v39, v40, v41, v42, v43, v44, v45])), (h1, .inl (cI, 3000, .inl f))] → va_S A s.heap H locs → lv_has ls 8 [(0, .ref h0)] → W p l e R s m args below meth c H locs cells slots Q (F0 m 113 ls [])) :
    ∀ (n i : Nat) (x : Int32) (H : Heap) (locs : List Loc) (f : Nat → Int32) (ls : Array Slot), i ≤ 20 → 21 ≤ i + n → x = nI i → va_P (dC, dI) classes [(h0, .inr (11, [.int 0, .ref h1, .int 0, v3, v4, v5, v6, v7, v8, v9, v10, v11, v12, v13, v14, v15, v16, v17, v18, v19, v20, v21, v22, v23, v24, v25, v26, v27, v28, v29, v30, v31, v32, v33, v34, v35, v36, v37, v38, v39, v40, v41, v42, v43, v44, v45])), (h1, .inl (cI, 3000, .inl f))] H → va_D A [(h0, .inr (11, [.int 0, .ref h1, .int 0, v3, v4, v5, v6, v7, v8, v9, v10, v11, v12, v13, v14, v15, v16, v17, v18, v19, v20, v21, v22, v23, v24, v25, v26, v27, v28, v29, v30, v31, v32, v33, v34, v35, v36, v37, v38, v39, v40, v41, v42, v43, v44, v45])), (h1, .inl (cI, 3000, .inl f))] → va_S A s.heap H locs → lv_has ls 8 [(6, .int x), (0, .ref h0), (1, .int a), (2, .int b), (3, .int cc), (4, .int d), (5, .int ee)] → W p l e R s m args below meth c H locs cells slots Q (F0 m 23 ls []) := by
  intro n
  induction n with
  | zero =>
    intro i x H locs f ls h1 h2
    exact absurd h2 (by omega)
  | succ n ih =>
    intro i x H locs f ls hi hn ex hP hD hS hl
    refine lv_iload hx hb dX12_feed_23 (lv_at hl 0 rfl) ?_
    refine lv_bipush (v := 20) hx hb dX12_feed_25 (by decide) ?_
    refine lv_icmp_ge (tgt := 113) hx hb dX12_feed_27 (by decide) (fun hc => ?_) (fun hc => ?_)
    · exact kk _ _ _ _ hP hD hS (lv_sub hl [1] rfl)
    · have hi20 : i < 20 := by
        rcases Nat.lt_or_ge i 20 with q | q
        · exact q
        · exact absurd (by rw [ex]; exact (show nI 20 ≤ nI i from nI_le q (by omega))) hc
      have hM : ∀ v : Int32, W p l e R s m args below meth c H locs cells slots Q (F0 m 76 ls [.int v]) := by
        intro v
        refine lv_istore (lv' := [(7, .int v), (6, .int x), (0, .ref h0), (1, .int a), (2, .int b), (3, .int cc), (4, .int d), (5, .int ee)]) hx hb dX12_feed_76 hl (by decide) rfl (fun ls hl => ?_)
        refine lv_aload_n hx hb dX12_feed_78 rfl (lv_at hl 2 rfl) ?_
        refine va_get (D := (dC, dI)) (ci := 11) (v := .ref h1) (C := RX12) (T := TX12) (N := 46) hx hb hts inX12 hown hK hP 0 rfl rfl 1 (by decide) (hts _ wd_153) (fun _ h9 => h9) rfl dX12_feed_79 ?_
        refine lv_aload_n hx hb dX12_feed_82 rfl (lv_at hl 2 rfl) ?_
        refine va_get (D := (dC, dI)) (ci := 11) (v := .int 0) (C := RX12) (T := TX12) (N := 46) hx hb hts inX12 hown hK hP 0 rfl rfl 2 (by decide) (hts _ wd_336) (fun _ h9 => h9) rfl dX12_feed_83 ?_
        refine lv_iload hx hb dX12_feed_86 (lv_at hl 1 rfl) ?_
        refine lv_iadd hx hb dX12_feed_88 ?_
        refine lv_topi (fun n341 en341 => ?_)
        refine lv_iload hx hb dX12_feed_89 (lv_at hl 0 rfl) ?_
        refine lv_bipush (v := 24) hx hb dX12_feed_91 (by decide) ?_
        refine lv_bipush (v := 8) hx hb dX12_feed_93 (by decide) ?_
        refine lv_iload hx hb dX12_feed_95 (lv_at hl 1 rfl) ?_
        refine lv_iconst (v := 4) hx hb dX12_feed_97 (by decide) ?_
        refine lv_irem hx hb dX12_feed_98 (by decide) ?_
        refine lv_topi (fun n342 en342 => ?_)
        refine lv_imul hx hb dX12_feed_99 ?_
        refine lv_topi (fun n343 en343 => ?_)
        refine lv_isub hx hb dX12_feed_100 ?_
        refine lv_topi (fun n344 en344 => ?_)
        refine lv_ishr hx hb dX12_feed_101 ?_
        refine lv_topi (fun n345 en345 => ?_)
        refine lv_sipush (v := 255) hx hb dX12_feed_102 (by decide) ?_
        refine lv_iand hx hb dX12_feed_105 ?_
        refine lv_topi (fun n346 en346 => ?_)
        refine va_iast hx hb hK hP hD hS 1 0 rfl rfl (by rw [en341, ex, Int32.zero_add]; exact vp_in_nI (by omega) (by decide)) dX12_feed_106 (fun H locs hP hD hS => ?_)
        generalize upd f _ _ = f347 at hP hD
        have hP : va_P (dC, dI) classes [(h0, .inr (11, [.int 0, .ref h1, .int 0, v3, v4, v5, v6, v7, v8, v9, v10, v11, v12, v13, v14, v15, v16, v17, v18, v19, v20, v21, v22, v23, v24, v25, v26, v27, v28, v29, v30, v31, v32, v33, v34, v35, v36, v37, v38, v39, v40, v41, v42, v43, v44, v45])), (h1, .inl (cI, 3000, .inl f347))] H := hP
        have hD : va_D A [(h0, .inr (11, [.int 0, .ref h1, .int 0, v3, v4, v5, v6, v7, v8, v9, v10, v11, v12, v13, v14, v15, v16, v17, v18, v19, v20, v21, v22, v23, v24, v25, v26, v27, v28, v29, v30, v31, v32, v33, v34, v35, v36, v37, v38, v39, v40, v41, v42, v43, v44, v45])), (h1, .inl (cI, 3000, .inl f347))] := hD
        obtain ⟨n348, en348⟩ : ∃ y : Int32, y = x + 1 := ⟨_, rfl⟩
        refine lv_iinc (v := n348) (lv' := [(6, .int n348), (7, .int v), (0, .ref h0), (1, .int a), (2, .int b), (3, .int cc), (4, .int d), (5, .int ee)]) hx hb dX12_feed_107 hl (k := 1) rfl (by rw [en348]; rfl) (by decide) rfl (fun ls hl => ?_)
        refine lv_goto (tgt := 23) hx hb dX12_feed_110 (by decide) ?_
        exact ih (i + 1) n348 H locs f347 ls (by omega) (by omega) (by rw [en348, ex]; exact nI_1 i) hP hD hS (lv_sub hl [0, 2, 3, 4, 5, 6, 7] rfl)
      refine lv_iload hx hb dX12_feed_30 (lv_at hl 0 rfl) ?_
      refine lv_iconst (v := 4) hx hb dX12_feed_32 (by decide) ?_
      refine lv_icmp_ge (tgt := 40) hx hb dX12_feed_33 (by decide) (fun c349 => ?_) (fun c349 => ?_)
      · refine lv_iload hx hb dX12_feed_40 (lv_at hl 0 rfl) ?_
        refine lv_bipush (v := 8) hx hb dX12_feed_42 (by decide) ?_
        refine lv_icmp_ge (tgt := 51) hx hb dX12_feed_44 (by decide) (fun c350 => ?_) (fun c350 => ?_)
        · refine lv_iload hx hb dX12_feed_51 (lv_at hl 0 rfl) ?_
          refine lv_bipush (v := 12) hx hb dX12_feed_53 (by decide) ?_
          refine lv_icmp_ge (tgt := 62) hx hb dX12_feed_55 (by decide) (fun c351 => ?_) (fun c351 => ?_)
          · refine lv_iload hx hb dX12_feed_62 (lv_at hl 0 rfl) ?_
            refine lv_bipush (v := 16) hx hb dX12_feed_64 (by decide) ?_
            refine lv_icmp_ge (tgt := 74) hx hb dX12_feed_66 (by decide) (fun c352 => ?_) (fun c352 => ?_)
            · refine lv_iload hx hb dX12_feed_74 (lv_at hl 6 rfl) ?_
              exact hM _
            · refine lv_iload hx hb dX12_feed_69 (lv_at hl 5 rfl) ?_
              refine lv_goto (tgt := 76) hx hb dX12_feed_71 (by decide) ?_
              exact hM _
          · refine lv_iload_n hx hb dX12_feed_58 rfl (lv_at hl 4 rfl) ?_
            refine lv_goto (tgt := 76) hx hb dX12_feed_59 (by decide) ?_
            exact hM _
        · refine lv_iload_n hx hb dX12_feed_47 rfl (lv_at hl 3 rfl) ?_
          refine lv_goto (tgt := 76) hx hb dX12_feed_48 (by decide) ?_
          exact hM _
      · refine lv_iload_n hx hb dX12_feed_36 rfl (lv_at hl 2 rfl) ?_
        refine lv_goto (tgt := 76) hx hb dX12_feed_37 (by decide) ?_
        exact hM _
set_option maxHeartbeats 4000000 in
set_option maxRecDepth 100000 in
/-- m_feed -/
theorem c_m_feed (l : Launch) (dC : Nat → ClassId) (dI : Nat → Nat → Nat) (h0 : Nat) (a : Int32) (b : Int32) (cc : Int32) (d : Int32) (ee : Int32) (h1 : Nat) (v0 : Value) (v3 : Value) (v4 : Value) (v5 : Value) (v6 : Value) (v7 : Value) (v8 : Value) (v9 : Value) (v10 : Value) (v11 : Value) (v12 : Value) (v13 : Value) (v14 : Value) (v15 : Value) (v16 : Value) (v17 : Value) (v18 : Value) (v19 : Value) (v20 : Value) (v21 : Value) (v22 : Value) (v23 : Value) (v24 : Value) (v25 : Value) (v26 : Value) (v27 : Value) (v28 : Value) (v29 : Value) (v30 : Value) (v31 : Value) (v32 : Value) (v33 : Value) (v34 : Value) (v35 : Value) (v36 : Value) (v37 : Value) (v38 : Value) (v39 : Value) (v40 : Value) (v41 : Value) (v42 : Value) (v43 : Value) (v44 : Value) (v45 : Value) (cI : ClassId) (sz : Nat) : Met l yX12_feed (.code yX12_feed cX12_feed 8 (some .int) :: wU) ({ frames := 0, cells := 0, slots := 0, locals := 0 } : Room) (va_Pc [.ref h0, .int a, .int b, .int cc, .int d, .int ee] (fun U => P5 dC dI [(h0, .inr (11, [v0, .ref h1, .int 0, v3, v4, v5, v6, v7, v8, v9, v10, v11, v12, v13, v14, v15, v16, v17, v18, v19, v20, v21, v22, v23, v24, v25, v26, v27, v28, v29, v30, v31, v32, v33, v34, v35, v36, v37, v38, v39, v40, v41, v42, v43, v44, v45])), (h1, .inl (cI, 3000, .inl (fun _ => 0)))] [(cI, .int)] sz U)) (va_Qi (fun (r : Int32) (_ : Unit) => r = 20) (fun _ t => P3 dC dI (va_A [(h0, .inr (11, [v0, .ref h1, .int 0, v3, v4, v5, v6, v7, v8, v9, v10, v11, v12, v13, v14, v15, v16, v17, v18, v19, v20, v21, v22, v23, v24, v25, v26, v27, v28, v29, v30, v31, v32, v33, v34, v35, v36, v37, v38, v39, v40, v41, v42, v43, v44, v45])), (h1, .inl (cI, 3000, .inl (fun _ => 0)))] sz) [] [] t) (va_A [(h0, .inr (11, [v0, .ref h1, .int 0, v3, v4, v5, v6, v7, v8, v9, v10, v11, v12, v13, v14, v15, v16, v17, v18, v19, v20, v21, v22, v23, v24, v25, v26, v27, v28, v29, v30, v31, v32, v33, v34, v35, v36, v37, v38, v39, v40, v41, v42, v43, v44, v45])), (h1, .inl (cI, 3000, .inl (fun _ => 0)))] sz)) 0 0 (va_A [(h0, .inr (11, [v0, .ref h1, .int 0, v3, v4, v5, v6, v7, v8, v9, v10, v11, v12, v13, v14, v15, v16, v17, v18, v19, v20, v21, v22, v23, v24, v25, v26, v27, v28, v29, v30, v31, v32, v33, v34, v35, v36, v37, v38, v39, v40, v41, v42, v43, v44, v45])), (h1, .inl (cI, 3000, .inl (fun _ => 0)))] sz) := by
  refine Met.ofW (cc := cX12_feed) (maxL := 8) (ret := (some .int)) (by decide) rfl ?_
  intro p e s m args below meth c s₁ B hml hv
  obtain ⟨rfl, hsz, hP, hK, hD0, hE⟩ := hv
  have hx := B.exec
  have hb := B.bytes
  have hr := B.returns
  have hts0 := atoms_spec (ws := (.code yX12_feed cX12_feed 8 (some .int) :: wU)) B.pre
  have hts : ∀ w ∈ wU, w.before _ s = true := fun w h => hts0 w (List.mem_cons_of_mem _ h)
  have hown : s.vm.findClass "SpineTablesModel" = some m.cls := findClass_of_methodNamed B.named
  have hlocks := B.notSynchronized
  subst hsz
  have hD := hD0.self (sz := s.heap.size)
  generalize hAe : va_A [(h0, .inr (11, [v0, .ref h1, .int 0, v3, v4, v5, v6, v7, v8, v9, v10, v11, v12, v13, v14, v15, v16, v17, v18, v19, v20, v21, v22, v23, v24, v25, v26, v27, v28, v29, v30, v31, v32, v33, v34, v35, v36, v37, v38, v39, v40, v41, v42, v43, v44, v45])), (h1, .inl (cI, 3000, .inl (fun _ => 0)))] s.heap.size = A at hD ⊢
  have hA : ∀ q : Nat, s.heap.size ≤ q → A q := fun q h => by rw [← hAe]; exact Or.inr h
  have hP : va_P (dC, dI) classes [(h0, .inr (11, [v0, .ref h1, .int 0, v3, v4, v5, v6, v7, v8, v9, v10, v11, v12, v13, v14, v15, v16, v17, v18, v19, v20, v21, v22, v23, v24, v25, v26, v27, v28, v29, v30, v31, v32, v33, v34, v35, v36, v37, v38, v39, v40, v41, v42, v43, v44, v45])), (h1, .inl (cI, 3000, .inl (fun _ => 0)))] s.heap := hP
  have hl := lv_entry ([.ref h0, .int a, .int b, .int cc, .int d, .int ee]) (n := 8) (Nat.le_of_ble_eq_true rfl)
  rw [lg_entry_eq]
  generalize (lg_sl ([.ref h0, .int a, .int b, .int cc, .int d, .int ee]) ++ List.replicate (8 - (lg_sl ([.ref h0, .int a, .int b, .int cc, .int d, .int ee])).length) Slot.unset).toArray = ls at hl ⊢
  have hl : lv_has ls 8 [(0, .ref h0), (1, .int a), (2, .int b), (3, .int cc), (4, .int d), (5, .int ee)] := hl
  obtain ⟨H, hH⟩ : ∃ H, H = s.heap := ⟨_, rfl⟩
  rw [← hH] at hP
  have hS : va_S A s.heap H [] := by rw [hH]; exact va_S.rf
  refine w_heap hH ?_
  refine lv_aload_n hx hb dX12_feed_0 rfl (lv_at hl 0 rfl) ?_
  refine lv_iconst (v := 0) hx hb dX12_feed_1 (by decide) ?_
  refine va_put (D := (dC, dI)) (ci := 11) (v := .int 0) (ty := .int) (C := RX12) (T := TX12) (N := 46) hx hb hts inX12 tyX12 tyX12_ok nmX12 hown hK hP hD hS 0 rfl rfl 0 (by decide) (hts _ wd_315) (fun _ h9 => h9) rfl (by decide +kernel) rfl rfl (Nat.le_of_ble_eq_true rfl) dX12_feed_2 (fun H locs hP hD hS => ?_)
  have hP : va_P (dC, dI) classes [(h0, .inr (11, [.int 0, .ref h1, .int 0, v3, v4, v5, v6, v7, v8, v9, v10, v11, v12, v13, v14, v15, v16, v17, v18, v19, v20, v21, v22, v23, v24, v25, v26, v27, v28, v29, v30, v31, v32, v33, v34, v35, v36, v37, v38, v39, v40, v41, v42, v43, v44, v45])), (h1, .inl (cI, 3000, .inl (fun _ => 0)))] H := hP
  have hD : va_D A [(h0, .inr (11, [.int 0, .ref h1, .int 0, v3, v4, v5, v6, v7, v8, v9, v10, v11, v12, v13, v14, v15, v16, v17, v18, v19, v20, v21, v22, v23, v24, v25, v26, v27, v28, v29, v30, v31, v32, v33, v34, v35, v36, v37, v38, v39, v40, v41, v42, v43, v44, v45])), (h1, .inl (cI, 3000, .inl (fun _ => 0)))] := hD
  refine lv_aload_n hx hb dX12_feed_5 rfl (lv_at hl 0 rfl) ?_
  refine va_get (D := (dC, dI)) (ci := 11) (v := .int 0) (C := RX12) (T := TX12) (N := 46) hx hb hts inX12 hown hK hP 0 rfl rfl 2 (by decide) (hts _ wd_336) (fun _ h9 => h9) rfl dX12_feed_6 ?_
  refine lv_bipush (v := 20) hx hb dX12_feed_9 (by decide) ?_
  refine lv_iadd hx hb dX12_feed_11 ?_
  refine lv_topi (fun n353 en353 => ?_)
  obtain rfl : n353 = 20 := by rw [en353]; decide
  refine lv_sipush (v := 3000) hx hb dX12_feed_12 (by decide) ?_
  refine lv_icmp_le (tgt := 20) hx hb dX12_feed_15 (by decide) (fun _ => ?_) (fun hc => absurd (by decide) hc)
  refine lv_iconst (v := 0) hx hb dX12_feed_20 (by decide) ?_
  refine lv_istore (lv' := [(6, .int 0), (0, .ref h0), (1, .int a), (2, .int b), (3, .int cc), (4, .int d), (5, .int ee)]) hx hb dX12_feed_21 hl (by decide) rfl (fun ls hl => ?_)
  refine m_feed_loop hx hb hown hts hK (fun H locs f ls hP hD hS hl => ?_) 21 0 0 H _ _ ls (by omega) (by omega) rfl hP hD hS (lv_sub hl [0, 1, 2, 3, 4, 5, 6] rfl)
  refine lv_aload_n hx hb dX12_feed_113 rfl (lv_at hl 0 rfl) ?_
  refine lv_dup hx hb dX12_feed_114 rfl ?_
  refine va_get (D := (dC, dI)) (ci := 11) (v := .int 0) (C := RX12) (T := TX12) (N := 46) hx hb hts inX12 hown hK hP 0 rfl rfl 2 (by decide) (hts _ wd_336) (fun _ h9 => h9) rfl dX12_feed_115 ?_
  refine lv_bipush (v := 20) hx hb dX12_feed_118 (by decide) ?_
  refine lv_iadd hx hb dX12_feed_120 ?_
  refine lv_topi (fun n354 en354 => ?_)
  obtain rfl : n354 = 20 := by rw [en354]; decide
  refine va_put (D := (dC, dI)) (ci := 11) (v := .int 20) (ty := .int) (C := RX12) (T := TX12) (N := 46) hx hb hts inX12 tyX12 tyX12_ok nmX12 hown hK hP hD hS 0 rfl rfl 2 (by decide) (hts _ wd_336) (fun _ h9 => h9) rfl (by decide +kernel) rfl rfl (Nat.le_of_ble_eq_true rfl) dX12_feed_121 (fun H locs hP hD hS => ?_)
  have hP : va_P (dC, dI) classes [(h0, .inr (11, [.int 0, .ref h1, .int 20, v3, v4, v5, v6, v7, v8, v9, v10, v11, v12, v13, v14, v15, v16, v17, v18, v19, v20, v21, v22, v23, v24, v25, v26, v27, v28, v29, v30, v31, v32, v33, v34, v35, v36, v37, v38, v39, v40, v41, v42, v43, v44, v45])), (h1, .inl (cI, 3000, .inl f))] H := hP
  have hD : va_D A [(h0, .inr (11, [.int 0, .ref h1, .int 20, v3, v4, v5, v6, v7, v8, v9, v10, v11, v12, v13, v14, v15, v16, v17, v18, v19, v20, v21, v22, v23, v24, v25, v26, v27, v28, v29, v30, v31, v32, v33, v34, v35, v36, v37, v38, v39, v40, v41, v42, v43, v44, v45])), (h1, .inl (cI, 3000, .inl f))] := hD
  refine lv_aload_n hx hb dX12_feed_124 rfl (lv_at hl 0 rfl) ?_
  refine va_get (D := (dC, dI)) (ci := 11) (v := .int 20) (C := RX12) (T := TX12) (N := 46) hx hb hts inX12 hown hK hP 0 rfl rfl 2 (by decide) (hts _ wd_336) (fun _ h9 => h9) rfl dX12_feed_125 ?_
  have hP9 := hP.sub (ws' := []) [] rfl
  have hD9 := hD.sub (ws' := []) [] (by decide) rfl
  have hK9 := hK.sub (tys' := []) [] rfl
  refine W.widen (k := 0) (n := 0) (Nat.le_of_ble_eq_true rfl) (Nat.le_of_ble_eq_true rfl) ?_
  exact W.iret (v := 20) hx hb hr (fun t ht hW => ⟨⟨20, (), rfl, rfl, by rw [ht]; exact hP9, va_K.moved hW.alike hK9, hD9⟩, hS.F ht⟩) hS.2.2 dX12_feed_128
