set_option maxHeartbeats 4000000 in
set_option maxRecDepth 100000 in
theorem law_0 {p : Program} {e : Env} {s : State} {m : MethodId} {below : List Frame} {meth : Method} {c : Code} {l : Launch} {b : Nat} {xs : Nat → Int32} (hlt : l.stackTraces = false) (C0 : lw_At p s m meth c b 6 xs) {dC : Nat → ClassId} {dI : Nat → Nat → Nat} {A : Nat → Prop} (hA : ∀ q, s.heap.size ≤ q → A q) (hAd : ∀ q, A q → s.heap.size ≤ q) (hbA : ¬ A b) {sa : Nat} (hE : En s) (hT : Tn A sa s) {y366 : ClassId} {y367 : ClassId} {y368 : ClassId} {y378 : ClassId} {y379 : ClassId} {y415 : ClassId} {y416 : ClassId} {y417 : ClassId} {y418 : ClassId} {y419 : ClassId} {y420 : ClassId} {y421 : ClassId} {y422 : ClassId} {y423 : ClassId} {y424 : ClassId} {y425 : ClassId} {y427 : ClassId} {q355 : Nat} {q356 : Nat} {q357 : Nat} {q358 : Nat} {q359 : Nat} {q360 : Nat} {q361 : Nat} {q362 : Nat} {q363 : Nat} {q364 : Nat} {q365 : Nat} {q369 : Nat} {q370 : Nat} {q371 : Nat} {q372 : Nat} {q373 : Nat} {q374 : Nat} {q375 : Nat} {q376 : Nat} {q377 : Nat} {q380 : Nat} {q381 : Nat} {q382 : Nat} {q383 : Nat} {q384 : Nat} {q385 : Nat} {q386 : Nat} {q387 : Nat} {q388 : Nat} {q389 : Nat} {q390 : Nat} {q391 : Nat} {q392 : Nat} {q393 : Nat} {q394 : Nat} {q395 : Nat} {q396 : Nat} {q397 : Nat} {q398 : Nat} {q399 : Nat} {q400 : Nat} {q401 : Nat} {q402 : Nat} {q403 : Nat} {q404 : Nat} {q405 : Nat} {q406 : Nat} {q407 : Nat} {q408 : Nat} {q409 : Nat} {q410 : Nat} {q411 : Nat} {q412 : Nat} {q413 : Nat} {q414 : Nat} {q426 : Nat} {H : Heap} {locs : List Loc} (hK : va_K (dC, dI) classes [(y366, .byte), (y367, .boolean), (y368, .object "SpineTables$Table"), (y378, .int), (y379, .int), (y415, .int), (y416, .boolean), (y417, .int), (y418, .int), (y419, .int), (y420, .int), (y421, .int), (y422, .long), (y423, .long), (y424, .int), (y425, .int), (y427, .long)] s) (hP : va_P (dC, dI) classes [(q355, .inr (10, [.ref q356, .int 0, .ref q357, .int 0, .int 0, .ref q358, .ref q359, .null, .ref q360, .ref q361, .ref q362, .ref q363, .ref q364, .ref q365])), (q356, .inl (y366, 3000, .inl (fun _ => 0))), (q359, .inl (y367, 8, .inl (fun _ => 0))), (q358, .inl (y368, 8, .inr (.inr (.inr (.inr (fun _ => none)))))), (q360, .inr (5, [.int 0, .int 0, .null, .int 0, .null, .int 0, .int 4, .int 0, .ref q369, .ref q370, .ref q371, .int (-1), .int (-1), .int 0, .int 0, .int 0])), (q361, .inr (9, [.ref q372, .ref q373, .ref q374, .ref q375, .ref q376, .ref q377, .null, .int 0, .int 1])), (q372, .inl (y378, 12, .inl (fun _ => 0))), (q373, .inl (y379, 12, .inl (fun _ => 0))), (q362, .inr (4, [.int 0, .int 1, .ref q380, .null, .int 0, .int 0])), (q381, .inr (11, [.int 0, .ref q382, .int 0, .int 0, .int 0, .int 0, .ref q383, .int 0, .ref q384, .ref q385, .ref q386, .ref q387, .ref q388, .ref q389, .ref q390, .ref q391, .ref q392, .ref q393, .ref q394, .ref q395, .ref q396, .ref q397, .ref q398, .ref q399, .ref q400, .ref q401, .ref q402, .ref q403, .ref q404, .ref q405, .int 0, .ref q406, .ref q407, .ref q408, .ref q409, .int 0, .ref q410, .ref q411, .ref q412, .ref q413, .long 0, .long 0, .int 0, .ref q414, .int 0, .int 0])), (q382, .inl (y415, 3000, .inl (fun _ => 0))), (q384, .inl (y416, 8, .inl (fun _ => 0))), (q385, .inl (y417, 24016, .inl (fun _ => 0))), (q386, .inl (y418, 8, .inl (fun _ => 0))), (q387, .inl (y419, 8, .inl (fun _ => 0))), (q388, .inl (y420, 8, .inl (fun _ => 0))), (q390, .inl (y421, 8, .inl (fun _ => 0))), (q398, .inl (y422, 1608, .inr (.inl (fun _ => 0)))), (q399, .inl (y423, 1608, .inr (.inl (fun _ => 0)))), (q404, .inl (y424, 8, .inl (fun _ => 0))), (q405, .inl (y425, 8, .inl (fun _ => 0))), (q426, .inl (y427, 1, .inr (.inl (fun _ => 0))))] H) (hD : va_D A [(q355, .inr (10, [.ref q356, .int 0, .ref q357, .int 0, .int 0, .ref q358, .ref q359, .null, .ref q360, .ref q361, .ref q362, .ref q363, .ref q364, .ref q365])), (q356, .inl (y366, 3000, .inl (fun _ => 0))), (q359, .inl (y367, 8, .inl (fun _ => 0))), (q358, .inl (y368, 8, .inr (.inr (.inr (.inr (fun _ => none)))))), (q360, .inr (5, [.int 0, .int 0, .null, .int 0, .null, .int 0, .int 4, .int 0, .ref q369, .ref q370, .ref q371, .int (-1), .int (-1), .int 0, .int 0, .int 0])), (q361, .inr (9, [.ref q372, .ref q373, .ref q374, .ref q375, .ref q376, .ref q377, .null, .int 0, .int 1])), (q372, .inl (y378, 12, .inl (fun _ => 0))), (q373, .inl (y379, 12, .inl (fun _ => 0))), (q362, .inr (4, [.int 0, .int 1, .ref q380, .null, .int 0, .int 0])), (q381, .inr (11, [.int 0, .ref q382, .int 0, .int 0, .int 0, .int 0, .ref q383, .int 0, .ref q384, .ref q385, .ref q386, .ref q387, .ref q388, .ref q389, .ref q390, .ref q391, .ref q392, .ref q393, .ref q394, .ref q395, .ref q396, .ref q397, .ref q398, .ref q399, .ref q400, .ref q401, .ref q402, .ref q403, .ref q404, .ref q405, .int 0, .ref q406, .ref q407, .ref q408, .ref q409, .int 0, .ref q410, .ref q411, .ref q412, .ref q413, .long 0, .long 0, .int 0, .ref q414, .int 0, .int 0])), (q382, .inl (y415, 3000, .inl (fun _ => 0))), (q384, .inl (y416, 8, .inl (fun _ => 0))), (q385, .inl (y417, 24016, .inl (fun _ => 0))), (q386, .inl (y418, 8, .inl (fun _ => 0))), (q387, .inl (y419, 8, .inl (fun _ => 0))), (q388, .inl (y420, 8, .inl (fun _ => 0))), (q390, .inl (y421, 8, .inl (fun _ => 0))), (q398, .inl (y422, 1608, .inr (.inl (fun _ => 0)))), (q399, .inl (y423, 1608, .inr (.inl (fun _ => 0)))), (q404, .inl (y424, 8, .inl (fun _ => 0))), (q405, .inl (y425, 8, .inl (fun _ => 0))), (q426, .inl (y427, 1, .inr (.inl (fun _ => 0))))]) (hS : va_S A s.heap H locs) {ls : Array Slot} (hl : lv_has ls 7 [(4, .int 0), (3, .ref q426), (2, .ref q381), (1, .ref q355), (0, .ref b)]) : W p l e room_1 s m #[Value.ref b] below meth c H locs 62 149895 (lw_Z below #[Value.ref b] s) (F0 m 136 ls []) := by
  have C1 := C0
  obtain ⟨hx, hb, hr, hml, hown, hts0, hX, hbl, hlocks, hgv⟩ := C0
  have hown : s.vm.findClass "SpineTablesLaw" = some m.cls := hown
  have hts : ∀ w ∈ wU, w.before #[Value.ref b] s = true := fun w h => hts0 w (wU_in w h)
  obtain ⟨k1, hsk1⟩ : ∃ k, xs (1 : Int32).toNatClampNeg = k := ⟨_, rfl⟩
  obtain ⟨k2, hsk2⟩ : ∃ k, xs (2 : Int32).toNatClampNeg = k := ⟨_, rfl⟩
  obtain ⟨k3, hsk3⟩ : ∃ k, xs (3 : Int32).toNatClampNeg = k := ⟨_, rfl⟩
  obtain ⟨k4, hsk4⟩ : ∃ k, xs (4 : Int32).toNatClampNeg = k := ⟨_, rfl⟩
  obtain ⟨k5, hsk5⟩ : ∃ k, xs (5 : Int32).toNatClampNeg = k := ⟨_, rfl⟩
  have hP : va_P (dC, dI) classes [(q355, .inr (10, [.ref q356, .int 0, .ref q357, .int 0, .int 0, .ref q358, .ref q359, .null, .ref q360, .ref q361, .ref q362, .ref q363, .ref q364, .ref q365])), (q356, .inl (y366, 3000, .inl (fun _ => 0))), (q381, .inr (11, [.int 0, .ref q382, .int 0, .int 0, .int 0, .int 0, .ref q383, .int 0, .ref q384, .ref q385, .ref q386, .ref q387, .ref q388, .ref q389, .ref q390, .ref q391, .ref q392, .ref q393, .ref q394, .ref q395, .ref q396, .ref q397, .ref q398, .ref q399, .ref q400, .ref q401, .ref q402, .ref q403, .ref q404, .ref q405, .int 0, .ref q406, .ref q407, .ref q408, .ref q409, .int 0, .ref q410, .ref q411, .ref q412, .ref q413, .long 0, .long 0, .int 0, .ref q414, .int 0, .int 0])), (q382, .inl (y415, 3000, .inl (fun _ => 0)))] H := hP.sub [0, 1, 9, 10] rfl
  have hD : va_D A [(q355, .inr (10, [.ref q356, .int 0, .ref q357, .int 0, .int 0, .ref q358, .ref q359, .null, .ref q360, .ref q361, .ref q362, .ref q363, .ref q364, .ref q365])), (q356, .inl (y366, 3000, .inl (fun _ => 0))), (q381, .inr (11, [.int 0, .ref q382, .int 0, .int 0, .int 0, .int 0, .ref q383, .int 0, .ref q384, .ref q385, .ref q386, .ref q387, .ref q388, .ref q389, .ref q390, .ref q391, .ref q392, .ref q393, .ref q394, .ref q395, .ref q396, .ref q397, .ref q398, .ref q399, .ref q400, .ref q401, .ref q402, .ref q403, .ref q404, .ref q405, .int 0, .ref q406, .ref q407, .ref q408, .ref q409, .int 0, .ref q410, .ref q411, .ref q412, .ref q413, .long 0, .long 0, .int 0, .ref q414, .int 0, .int 0])), (q382, .inl (y415, 3000, .inl (fun _ => 0)))] := hD.sub [0, 1, 9, 10] (by decide) rfl
  have hK : va_K (dC, dI) classes [(y366, .byte), (y415, .int)] s := hK.sub [0, 5] rfl
  refine lv_aload_n hx hb dL_law_136 rfl (lv_at hl 3 rfl) ?_
  refine lv_aload_n hx hb dL_law_137 rfl (lv_at hl 4 rfl) ?_
  refine lv_iload hx hb dL_law_138 (lv_at hl 0 rfl) ?_
  refine lv_iconst (v := 1) hx hb dL_law_140 (by decide) ?_
  refine lv_iadd hx hb dL_law_141 ?_
  refine lv_topi (fun n428 en428 => ?_)
  obtain rfl : n428 = 1 := by rw [en428]; decide
  refine va_sld hx hb hX hbl hbA hS (by unfold vp_in; decide) dL_law_142 ?_
  rw [hsk1]
  refine lv_aload_n hx hb dL_law_143 rfl (lv_at hl 4 rfl) ?_
  refine lv_iload hx hb dL_law_144 (lv_at hl 0 rfl) ?_
  refine lv_iconst (v := 2) hx hb dL_law_146 (by decide) ?_
  refine lv_iadd hx hb dL_law_147 ?_
  refine lv_topi (fun n429 en429 => ?_)
  obtain rfl : n429 = 2 := by rw [en429]; decide
  refine va_sld hx hb hX hbl hbA hS (by unfold vp_in; decide) dL_law_148 ?_
  rw [hsk2]
  refine lv_aload_n hx hb dL_law_149 rfl (lv_at hl 4 rfl) ?_
  refine lv_iload hx hb dL_law_150 (lv_at hl 0 rfl) ?_
  refine lv_iconst (v := 3) hx hb dL_law_152 (by decide) ?_
  refine lv_iadd hx hb dL_law_153 ?_
  refine lv_topi (fun n430 en430 => ?_)
  obtain rfl : n430 = 3 := by rw [en430]; decide
  refine va_sld hx hb hX hbl hbA hS (by unfold vp_in; decide) dL_law_154 ?_
  rw [hsk3]
  refine lv_aload_n hx hb dL_law_155 rfl (lv_at hl 4 rfl) ?_
  refine lv_iload hx hb dL_law_156 (lv_at hl 0 rfl) ?_
  refine lv_iconst (v := 4) hx hb dL_law_158 (by decide) ?_
  refine lv_iadd hx hb dL_law_159 ?_
  refine lv_topi (fun n431 en431 => ?_)
  obtain rfl : n431 = 4 := by rw [en431]; decide
  refine va_sld hx hb hX hbl hbA hS (by unfold vp_in; decide) dL_law_160 ?_
  rw [hsk4]
  refine lv_aload_n hx hb dL_law_161 rfl (lv_at hl 4 rfl) ?_
  refine lv_iload hx hb dL_law_162 (lv_at hl 0 rfl) ?_
  refine lv_iconst (v := 5) hx hb dL_law_164 (by decide) ?_
  refine lv_iadd hx hb dL_law_165 ?_
  refine lv_topi (fun n432 en432 => ?_)
  obtain rfl : n432 = 5 := by rw [en432]; decide
  refine va_sld hx hb hX hbl hbA hS (by unfold vp_in; decide) dL_law_166 ?_
  rw [hsk5]
  have hPc := hP.sub (ws' := [(q355, .inr (10, [.ref q356, .int 0, .ref q357, .int 0, .int 0, .ref q358, .ref q359, .null, .ref q360, .ref q361, .ref q362, .ref q363, .ref q364, .ref q365])), (q356, .inl (y366, 3000, .inl (fun _ => 0)))]) [0, 1] rfl
  have hDc := hD.sub (ws' := [(q355, .inr (10, [.ref q356, .int 0, .ref q357, .int 0, .int 0, .ref q358, .ref q359, .null, .ref q360, .ref q361, .ref q362, .ref q363, .ref q364, .ref q365])), (q356, .inl (y366, 3000, .inl (fun _ => 0)))]) [0, 1] (by decide) rfl
  have hKc := hK.sub (tys' := [(y366, .byte)]) [0] rfl
  have hFc := va_free (wc := [(q355, .inr (10, [.ref q356, .int 0, .ref q357, .int 0, .int 0, .ref q358, .ref q359, .null, .ref q360, .ref q361, .ref q362, .ref q363, .ref q364, .ref q365])), (q356, .inl (y366, 3000, .inl (fun _ => 0)))]) hD hS hA [0, 1] rfl
  refine va_calli (va_runV (As := [.int k1, .int k2, .int k3, .int k4, .int k5]) (rest := []) ⟨hx, hb, hml, hown, hts⟩ (c_feed l dC dI q355 k1 k2 k3 k4 k5 q356 (.ref q357) (.int 0) (.int 0) (.ref q358) (.ref q359) (.null) (.ref q360) (.ref q361) (.ref q362) (.ref q363) (.ref q364) (.ref q365) y366 (fun _ => 0) H.size) (cwV 5 hts (goV wd_365 wd_366 wd_364 wd_191 wd_363) rfl rfl rfl (by decide +kernel) ⟨Nat.le_of_ble_eq_true rfl, Nat.le_of_ble_eq_true rfl⟩) ⟨blind5, va_recv hKc hPc (ci := 10) (q0 := 0) rfl rfl, fun U hU hW => ⟨rfl, pre5 hU hW hPc hKc hDc hE⟩⟩ rfl rfl hl.1 rfl (lv_room (Nat.le_of_ble_eq_true rfl)) dL_law_167 ⟨Nat.le_of_ble_eq_true rfl, Nat.le_of_ble_eq_true rfl⟩) hS (fun q _ h => hFc q h) hFc (fun r433 u t H1 locs ht hvm hw hB hz1 hk1 hS => ?_)
  obtain rfl : r433 = 20 := hw
  obtain ⟨hP1, hK1, hD1⟩ := hB
  rw [ht] at hP1
  have hK1 := va_K.moved hvm.symm hK1
  obtain ⟨hP, hD⟩ := va_join (wr := [(q381, .inr (11, [.int 0, .ref q382, .int 0, .int 0, .int 0, .int 0, .ref q383, .int 0, .ref q384, .ref q385, .ref q386, .ref q387, .ref q388, .ref q389, .ref q390, .ref q391, .ref q392, .ref q393, .ref q394, .ref q395, .ref q396, .ref q397, .ref q398, .ref q399, .ref q400, .ref q401, .ref q402, .ref q403, .ref q404, .ref q405, .int 0, .ref q406, .ref q407, .ref q408, .ref q409, .int 0, .ref q410, .ref q411, .ref q412, .ref q413, .long 0, .long 0, .int 0, .ref q414, .int 0, .int 0])), (q382, .inl (y415, 3000, .inl (fun _ => 0)))]) (w1 := []) hP hD [0, 1] [2, 3] rfl rfl (by decide) (by decide) hk1 hFc hP1 hD1
  have hK := (hK.sub (tys' := [(y415, .int)]) [1] rfl).app hK1
  generalize H1 = H at hP hS ⊢
  have hK : va_K (dC, dI) classes [(y415, .int)] s := hK
  have hP : va_P (dC, dI) classes [(q381, .inr (11, [.int 0, .ref q382, .int 0, .int 0, .int 0, .int 0, .ref q383, .int 0, .ref q384, .ref q385, .ref q386, .ref q387, .ref q388, .ref q389, .ref q390, .ref q391, .ref q392, .ref q393, .ref q394, .ref q395, .ref q396, .ref q397, .ref q398, .ref q399, .ref q400, .ref q401, .ref q402, .ref q403, .ref q404, .ref q405, .int 0, .ref q406, .ref q407, .ref q408, .ref q409, .int 0, .ref q410, .ref q411, .ref q412, .ref q413, .long 0, .long 0, .int 0, .ref q414, .int 0, .int 0])), (q382, .inl (y415, 3000, .inl (fun _ => 0)))] H := hP
  have hD : va_D A [(q381, .inr (11, [.int 0, .ref q382, .int 0, .int 0, .int 0, .int 0, .ref q383, .int 0, .ref q384, .ref q385, .ref q386, .ref q387, .ref q388, .ref q389, .ref q390, .ref q391, .ref q392, .ref q393, .ref q394, .ref q395, .ref q396, .ref q397, .ref q398, .ref q399, .ref q400, .ref q401, .ref q402, .ref q403, .ref q404, .ref q405, .int 0, .ref q406, .ref q407, .ref q408, .ref q409, .int 0, .ref q410, .ref q411, .ref q412, .ref q413, .long 0, .long 0, .int 0, .ref q414, .int 0, .int 0])), (q382, .inl (y415, 3000, .inl (fun _ => 0)))] := hD
  refine lv_aload_n hx hb dL_law_170 rfl (lv_at hl 2 rfl) ?_
  refine lv_aload_n hx hb dL_law_171 rfl (lv_at hl 4 rfl) ?_
  refine lv_iload hx hb dL_law_172 (lv_at hl 0 rfl) ?_
  refine lv_iconst (v := 1) hx hb dL_law_174 (by decide) ?_
  refine lv_iadd hx hb dL_law_175 ?_
  refine lv_topi (fun n434 en434 => ?_)
  obtain rfl : n434 = 1 := by rw [en434]; decide
  refine va_sld hx hb hX hbl hbA hS (by unfold vp_in; decide) dL_law_176 ?_
  rw [hsk1]
  refine lv_aload_n hx hb dL_law_177 rfl (lv_at hl 4 rfl) ?_
  refine lv_iload hx hb dL_law_178 (lv_at hl 0 rfl) ?_
  refine lv_iconst (v := 2) hx hb dL_law_180 (by decide) ?_
  refine lv_iadd hx hb dL_law_181 ?_
  refine lv_topi (fun n435 en435 => ?_)
  obtain rfl : n435 = 2 := by rw [en435]; decide
  refine va_sld hx hb hX hbl hbA hS (by unfold vp_in; decide) dL_law_182 ?_
  rw [hsk2]
  refine lv_aload_n hx hb dL_law_183 rfl (lv_at hl 4 rfl) ?_
  refine lv_iload hx hb dL_law_184 (lv_at hl 0 rfl) ?_
  refine lv_iconst (v := 3) hx hb dL_law_186 (by decide) ?_
  refine lv_iadd hx hb dL_law_187 ?_
  refine lv_topi (fun n436 en436 => ?_)
  obtain rfl : n436 = 3 := by rw [en436]; decide
  refine va_sld hx hb hX hbl hbA hS (by unfold vp_in; decide) dL_law_188 ?_
  rw [hsk3]
  refine lv_aload_n hx hb dL_law_189 rfl (lv_at hl 4 rfl) ?_
  refine lv_iload hx hb dL_law_190 (lv_at hl 0 rfl) ?_
  refine lv_iconst (v := 4) hx hb dL_law_192 (by decide) ?_
  refine lv_iadd hx hb dL_law_193 ?_
  refine lv_topi (fun n437 en437 => ?_)
  obtain rfl : n437 = 4 := by rw [en437]; decide
  refine va_sld hx hb hX hbl hbA hS (by unfold vp_in; decide) dL_law_194 ?_
  rw [hsk4]
  refine lv_aload_n hx hb dL_law_195 rfl (lv_at hl 4 rfl) ?_
  refine lv_iload hx hb dL_law_196 (lv_at hl 0 rfl) ?_
  refine lv_iconst (v := 5) hx hb dL_law_198 (by decide) ?_
  refine lv_iadd hx hb dL_law_199 ?_
  refine lv_topi (fun n438 en438 => ?_)
  obtain rfl : n438 = 5 := by rw [en438]; decide
  refine va_sld hx hb hX hbl hbA hS (by unfold vp_in; decide) dL_law_200 ?_
  rw [hsk5]
  have hPc := hP.sub (ws' := [(q381, .inr (11, [.int 0, .ref q382, .int 0, .int 0, .int 0, .int 0, .ref q383, .int 0, .ref q384, .ref q385, .ref q386, .ref q387, .ref q388, .ref q389, .ref q390, .ref q391, .ref q392, .ref q393, .ref q394, .ref q395, .ref q396, .ref q397, .ref q398, .ref q399, .ref q400, .ref q401, .ref q402, .ref q403, .ref q404, .ref q405, .int 0, .ref q406, .ref q407, .ref q408, .ref q409, .int 0, .ref q410, .ref q411, .ref q412, .ref q413, .long 0, .long 0, .int 0, .ref q414, .int 0, .int 0])), (q382, .inl (y415, 3000, .inl (fun _ => 0)))]) [0, 1] rfl
  have hDc := hD.sub (ws' := [(q381, .inr (11, [.int 0, .ref q382, .int 0, .int 0, .int 0, .int 0, .ref q383, .int 0, .ref q384, .ref q385, .ref q386, .ref q387, .ref q388, .ref q389, .ref q390, .ref q391, .ref q392, .ref q393, .ref q394, .ref q395, .ref q396, .ref q397, .ref q398, .ref q399, .ref q400, .ref q401, .ref q402, .ref q403, .ref q404, .ref q405, .int 0, .ref q406, .ref q407, .ref q408, .ref q409, .int 0, .ref q410, .ref q411, .ref q412, .ref q413, .long 0, .long 0, .int 0, .ref q414, .int 0, .int 0])), (q382, .inl (y415, 3000, .inl (fun _ => 0)))]) [0, 1] (by decide) rfl
  have hKc := hK.sub (tys' := [(y415, .int)]) [0] rfl
  have hFc := va_free (wc := [(q381, .inr (11, [.int 0, .ref q382, .int 0, .int 0, .int 0, .int 0, .ref q383, .int 0, .ref q384, .ref q385, .ref q386, .ref q387, .ref q388, .ref q389, .ref q390, .ref q391, .ref q392, .ref q393, .ref q394, .ref q395, .ref q396, .ref q397, .ref q398, .ref q399, .ref q400, .ref q401, .ref q402, .ref q403, .ref q404, .ref q405, .int 0, .ref q406, .ref q407, .ref q408, .ref q409, .int 0, .ref q410, .ref q411, .ref q412, .ref q413, .long 0, .long 0, .int 0, .ref q414, .int 0, .int 0])), (q382, .inl (y415, 3000, .inl (fun _ => 0)))]) hD hS hA [0, 1] rfl
  refine va_calli (va_runV (As := [.int k1, .int k2, .int k3, .int k4, .int k5]) (rest := [.int 20]) ⟨hx, hb, hml, hown, hts⟩ (c_m_feed l dC dI q381 k1 k2 k3 k4 k5 q382 (.int 0) (.int 0) (.int 0) (.int 0) (.ref q383) (.int 0) (.ref q384) (.ref q385) (.ref q386) (.ref q387) (.ref q388) (.ref q389) (.ref q390) (.ref q391) (.ref q392) (.ref q393) (.ref q394) (.ref q395) (.ref q396) (.ref q397) (.ref q398) (.ref q399) (.ref q400) (.ref q401) (.ref q402) (.ref q403) (.ref q404) (.ref q405) (.int 0) (.ref q406) (.ref q407) (.ref q408) (.ref q409) (.int 0) (.ref q410) (.ref q411) (.ref q412) (.ref q413) (.long 0) (.long 0) (.int 0) (.ref q414) (.int 0) (.int 0) y415 H.size) (cwV 5 hts (goV wd_369 wd_370 wd_368 wd_320 wd_367) rfl rfl rfl (by decide +kernel) ⟨Nat.le_of_ble_eq_true rfl, Nat.le_of_ble_eq_true rfl⟩) ⟨blind5, va_recv hKc hPc (ci := 11) (q0 := 0) rfl rfl, fun U hU hW => ⟨rfl, pre5 hU hW hPc hKc hDc hE⟩⟩ rfl rfl hl.1 rfl (lv_room (Nat.le_of_ble_eq_true rfl)) dL_law_201 ⟨Nat.le_of_ble_eq_true rfl, Nat.le_of_ble_eq_true rfl⟩) hS (fun q _ h => hFc q h) hFc (fun r439 u t H1 locs ht hvm hw hB hz1 hk1 hS => ?_)
  obtain rfl : r439 = 20 := hw
  obtain ⟨hP1, hK1, hD1⟩ := hB
  rw [ht] at hP1
  have hK1 := va_K.moved hvm.symm hK1
  obtain ⟨hP, hD⟩ := va_join (wr := []) (w1 := []) hP hD [0, 1] [] rfl rfl (by decide) (by decide) hk1 hFc hP1 hD1
  have hK := (hK.sub (tys' := []) [] rfl).app hK1
  generalize H1 = H at hP hS ⊢
  have hK : va_K (dC, dI) classes [] s := hK
  have hP : va_P (dC, dI) classes [] H := hP
  have hD : va_D A [] := hD
  refine lv_icmp_eq (tgt := 1348) hx hb dL_law_204 (by decide) (fun _ => ?_) (fun hc => absurd (by decide) hc)
  exact law_tail C1 hAd hbA (Nat.le_of_ble_eq_true rfl) (Nat.le_of_ble_eq_true rfl) hS (lv_sub hl [0, 4] rfl)
set_option maxHeartbeats 4000000 in
set_option maxRecDepth 100000 in
theorem law_1 {p : Program} {e : Env} {s : State} {m : MethodId} {below : List Frame} {meth : Method} {c : Code} {l : Launch} {b : Nat} {xs : Nat → Int32} (hlt : l.stackTraces = false) (C0 : lw_At p s m meth c b 6 xs) {dC : Nat → ClassId} {dI : Nat → Nat → Nat} {A : Nat → Prop} (hA : ∀ q, s.heap.size ≤ q → A q) (hAd : ∀ q, A q → s.heap.size ≤ q) (hbA : ¬ A b) {sa : Nat} (hE : En s) (hT : Tn A sa s) {y366 : ClassId} {y367 : ClassId} {y368 : ClassId} {y378 : ClassId} {y379 : ClassId} {y415 : ClassId} {y416 : ClassId} {y417 : ClassId} {y418 : ClassId} {y419 : ClassId} {y420 : ClassId} {y421 : ClassId} {y422 : ClassId} {y423 : ClassId} {y424 : ClassId} {y425 : ClassId} {y427 : ClassId} {q355 : Nat} {q356 : Nat} {q357 : Nat} {q358 : Nat} {q359 : Nat} {q360 : Nat} {q361 : Nat} {q362 : Nat} {q363 : Nat} {q364 : Nat} {q365 : Nat} {q369 : Nat} {q370 : Nat} {q371 : Nat} {q372 : Nat} {q373 : Nat} {q374 : Nat} {q375 : Nat} {q376 : Nat} {q377 : Nat} {q380 : Nat} {q381 : Nat} {q382 : Nat} {q383 : Nat} {q384 : Nat} {q385 : Nat} {q386 : Nat} {q387 : Nat} {q388 : Nat} {q389 : Nat} {q390 : Nat} {q391 : Nat} {q392 : Nat} {q393 : Nat} {q394 : Nat} {q395 : Nat} {q396 : Nat} {q397 : Nat} {q398 : Nat} {q399 : Nat} {q400 : Nat} {q401 : Nat} {q402 : Nat} {q403 : Nat} {q404 : Nat} {q405 : Nat} {q406 : Nat} {q407 : Nat} {q408 : Nat} {q409 : Nat} {q410 : Nat} {q411 : Nat} {q412 : Nat} {q413 : Nat} {q414 : Nat} {q426 : Nat} {H : Heap} {locs : List Loc} (hK : va_K (dC, dI) classes [(y366, .byte), (y367, .boolean), (y368, .object "SpineTables$Table"), (y378, .int), (y379, .int), (y415, .int), (y416, .boolean), (y417, .int), (y418, .int), (y419, .int), (y420, .int), (y421, .int), (y422, .long), (y423, .long), (y424, .int), (y425, .int), (y427, .long)] s) (hP : va_P (dC, dI) classes [(q355, .inr (10, [.ref q356, .int 0, .ref q357, .int 0, .int 0, .ref q358, .ref q359, .null, .ref q360, .ref q361, .ref q362, .ref q363, .ref q364, .ref q365])), (q356, .inl (y366, 3000, .inl (fun _ => 0))), (q359, .inl (y367, 8, .inl (fun _ => 0))), (q358, .inl (y368, 8, .inr (.inr (.inr (.inr (fun _ => none)))))), (q360, .inr (5, [.int 0, .int 0, .null, .int 0, .null, .int 0, .int 4, .int 0, .ref q369, .ref q370, .ref q371, .int (-1), .int (-1), .int 0, .int 0, .int 0])), (q361, .inr (9, [.ref q372, .ref q373, .ref q374, .ref q375, .ref q376, .ref q377, .null, .int 0, .int 1])), (q372, .inl (y378, 12, .inl (fun _ => 0))), (q373, .inl (y379, 12, .inl (fun _ => 0))), (q362, .inr (4, [.int 0, .int 1, .ref q380, .null, .int 0, .int 0])), (q381, .inr (11, [.int 0, .ref q382, .int 0, .int 0, .int 0, .int 0, .ref q383, .int 0, .ref q384, .ref q385, .ref q386, .ref q387, .ref q388, .ref q389, .ref q390, .ref q391, .ref q392, .ref q393, .ref q394, .ref q395, .ref q396, .ref q397, .ref q398, .ref q399, .ref q400, .ref q401, .ref q402, .ref q403, .ref q404, .ref q405, .int 0, .ref q406, .ref q407, .ref q408, .ref q409, .int 0, .ref q410, .ref q411, .ref q412, .ref q413, .long 0, .long 0, .int 0, .ref q414, .int 0, .int 0])), (q382, .inl (y415, 3000, .inl (fun _ => 0))), (q384, .inl (y416, 8, .inl (fun _ => 0))), (q385, .inl (y417, 24016, .inl (fun _ => 0))), (q386, .inl (y418, 8, .inl (fun _ => 0))), (q387, .inl (y419, 8, .inl (fun _ => 0))), (q388, .inl (y420, 8, .inl (fun _ => 0))), (q390, .inl (y421, 8, .inl (fun _ => 0))), (q398, .inl (y422, 1608, .inr (.inl (fun _ => 0)))), (q399, .inl (y423, 1608, .inr (.inl (fun _ => 0)))), (q404, .inl (y424, 8, .inl (fun _ => 0))), (q405, .inl (y425, 8, .inl (fun _ => 0))), (q426, .inl (y427, 1, .inr (.inl (fun _ => 0))))] H) (hD : va_D A [(q355, .inr (10, [.ref q356, .int 0, .ref q357, .int 0, .int 0, .ref q358, .ref q359, .null, .ref q360, .ref q361, .ref q362, .ref q363, .ref q364, .ref q365])), (q356, .inl (y366, 3000, .inl (fun _ => 0))), (q359, .inl (y367, 8, .inl (fun _ => 0))), (q358, .inl (y368, 8, .inr (.inr (.inr (.inr (fun _ => none)))))), (q360, .inr (5, [.int 0, .int 0, .null, .int 0, .null, .int 0, .int 4, .int 0, .ref q369, .ref q370, .ref q371, .int (-1), .int (-1), .int 0, .int 0, .int 0])), (q361, .inr (9, [.ref q372, .ref q373, .ref q374, .ref q375, .ref q376, .ref q377, .null, .int 0, .int 1])), (q372, .inl (y378, 12, .inl (fun _ => 0))), (q373, .inl (y379, 12, .inl (fun _ => 0))), (q362, .inr (4, [.int 0, .int 1, .ref q380, .null, .int 0, .int 0])), (q381, .inr (11, [.int 0, .ref q382, .int 0, .int 0, .int 0, .int 0, .ref q383, .int 0, .ref q384, .ref q385, .ref q386, .ref q387, .ref q388, .ref q389, .ref q390, .ref q391, .ref q392, .ref q393, .ref q394, .ref q395, .ref q396, .ref q397, .ref q398, .ref q399, .ref q400, .ref q401, .ref q402, .ref q403, .ref q404, .ref q405, .int 0, .ref q406, .ref q407, .ref q408, .ref q409, .int 0, .ref q410, .ref q411, .ref q412, .ref q413, .long 0, .long 0, .int 0, .ref q414, .int 0, .int 0])), (q382, .inl (y415, 3000, .inl (fun _ => 0))), (q384, .inl (y416, 8, .inl (fun _ => 0))), (q385, .inl (y417, 24016, .inl (fun _ => 0))), (q386, .inl (y418, 8, .inl (fun _ => 0))), (q387, .inl (y419, 8, .inl (fun _ => 0))), (q388, .inl (y420, 8, .inl (fun _ => 0))), (q390, .inl (y421, 8, .inl (fun _ => 0))), (q398, .inl (y422, 1608, .inr (.inl (fun _ => 0)))), (q399, .inl (y423, 1608, .inr (.inl (fun _ => 0)))), (q404, .inl (y424, 8, .inl (fun _ => 0))), (q405, .inl (y425, 8, .inl (fun _ => 0))), (q426, .inl (y427, 1, .inr (.inl (fun _ => 0))))]) (hS : va_S A s.heap H locs) {ls : Array Slot} (hl : lv_has ls 7 [(4, .int 0), (3, .ref q426), (2, .ref q381), (1, .ref q355), (0, .ref b)]) : W p l e room_1 s m #[Value.ref b] below meth c H locs 62 149895 (lw_Z below #[Value.ref b] s) (F0 m 209 ls []) := by
  have C1 := C0
  obtain ⟨hx, hb, hr, hml, hown, hts0, hX, hbl, hlocks, hgv⟩ := C0
  have hown : s.vm.findClass "SpineTablesLaw" = some m.cls := hown
  have hts : ∀ w ∈ wU, w.before #[Value.ref b] s = true := fun w h => hts0 w (wU_in w h)
  obtain ⟨k1, hsk1⟩ : ∃ k, xs (1 : Int32).toNatClampNeg = k := ⟨_, rfl⟩
  obtain ⟨k2, hsk2⟩ : ∃ k, xs (2 : Int32).toNatClampNeg = k := ⟨_, rfl⟩
  obtain ⟨k3, hsk3⟩ : ∃ k, xs (3 : Int32).toNatClampNeg = k := ⟨_, rfl⟩
  obtain ⟨k4, hsk4⟩ : ∃ k, xs (4 : Int32).toNatClampNeg = k := ⟨_, rfl⟩
  obtain ⟨k5, hsk5⟩ : ∃ k, xs (5 : Int32).toNatClampNeg = k := ⟨_, rfl⟩
  have hP : va_P (dC, dI) classes [(q355, .inr (10, [.ref q356, .int 0, .ref q357, .int 0, .int 0, .ref q358, .ref q359, .null, .ref q360, .ref q361, .ref q362, .ref q363, .ref q364, .ref q365])), (q381, .inr (11, [.int 0, .ref q382, .int 0, .int 0, .int 0, .int 0, .ref q383, .int 0, .ref q384, .ref q385, .ref q386, .ref q387, .ref q388, .ref q389, .ref q390, .ref q391, .ref q392, .ref q393, .ref q394, .ref q395, .ref q396, .ref q397, .ref q398, .ref q399, .ref q400, .ref q401, .ref q402, .ref q403, .ref q404, .ref q405, .int 0, .ref q406, .ref q407, .ref q408, .ref q409, .int 0, .ref q410, .ref q411, .ref q412, .ref q413, .long 0, .long 0, .int 0, .ref q414, .int 0, .int 0]))] H := hP.sub [0, 9] rfl
  have hD : va_D A [(q355, .inr (10, [.ref q356, .int 0, .ref q357, .int 0, .int 0, .ref q358, .ref q359, .null, .ref q360, .ref q361, .ref q362, .ref q363, .ref q364, .ref q365])), (q381, .inr (11, [.int 0, .ref q382, .int 0, .int 0, .int 0, .int 0, .ref q383, .int 0, .ref q384, .ref q385, .ref q386, .ref q387, .ref q388, .ref q389, .ref q390, .ref q391, .ref q392, .ref q393, .ref q394, .ref q395, .ref q396, .ref q397, .ref q398, .ref q399, .ref q400, .ref q401, .ref q402, .ref q403, .ref q404, .ref q405, .int 0, .ref q406, .ref q407, .ref q408, .ref q409, .int 0, .ref q410, .ref q411, .ref q412, .ref q413, .long 0, .long 0, .int 0, .ref q414, .int 0, .int 0]))] := hD.sub [0, 9] (by decide) rfl
  have hK : va_K (dC, dI) classes [] s := hK.sub [] rfl
  refine lv_aload_n hx hb dL_law_209 rfl (lv_at hl 3 rfl) ?_
  refine lv_aload_n hx hb dL_law_210 rfl (lv_at hl 4 rfl) ?_
  refine lv_iload hx hb dL_law_211 (lv_at hl 0 rfl) ?_
  refine lv_iconst (v := 1) hx hb dL_law_213 (by decide) ?_
  refine lv_iadd hx hb dL_law_214 ?_
  refine lv_topi (fun n440 en440 => ?_)
  obtain rfl : n440 = 1 := by rw [en440]; decide
  refine va_sld hx hb hX hbl hbA hS (by unfold vp_in; decide) dL_law_215 ?_
  rw [hsk1]
  have hPc := hP.sub (ws' := [(q355, .inr (10, [.ref q356, .int 0, .ref q357, .int 0, .int 0, .ref q358, .ref q359, .null, .ref q360, .ref q361, .ref q362, .ref q363, .ref q364, .ref q365]))]) [0] rfl
  have hDc := hD.sub (ws' := [(q355, .inr (10, [.ref q356, .int 0, .ref q357, .int 0, .int 0, .ref q358, .ref q359, .null, .ref q360, .ref q361, .ref q362, .ref q363, .ref q364, .ref q365]))]) [0] (by decide) rfl
  have hKc := hK.sub (tys' := []) [] rfl
  have hFc := va_free (wc := [(q355, .inr (10, [.ref q356, .int 0, .ref q357, .int 0, .int 0, .ref q358, .ref q359, .null, .ref q360, .ref q361, .ref q362, .ref q363, .ref q364, .ref q365]))]) hD hS hA [0] rfl
  refine va_calli (va_runV (As := [.int k1]) (rest := []) ⟨hx, hb, hml, hown, hts⟩ (c_cut l dC dI q355 k1 (.ref q356) (.ref q357) (.int 0) (.int 0) (.ref q358) (.ref q359) (.null) (.ref q360) (.ref q361) (.ref q362) (.ref q363) (.ref q364) (.ref q365) H.size) (cwV 1 hts (goV wd_373 wd_374 wd_372 wd_191 wd_371) rfl rfl rfl (by decide +kernel) ⟨Nat.le_of_ble_eq_true rfl, Nat.le_of_ble_eq_true rfl⟩) ⟨blind5, va_recv hKc hPc (ci := 10) (q0 := 0) rfl rfl, fun U hU hW => ⟨rfl, pre5 hU hW hPc hKc hDc hE⟩⟩ rfl rfl hl.1 rfl (lv_room (Nat.le_of_ble_eq_true rfl)) dL_law_216 ⟨Nat.le_of_ble_eq_true rfl, Nat.le_of_ble_eq_true rfl⟩) hS (fun q _ h => hFc q h) hFc (fun r441 u t H1 locs ht hvm hw hB hz1 hk1 hS => ?_)
  obtain rfl : r441 = (cutA k1) := hw
  obtain ⟨hP1, hK1, hD1⟩ := hB
  rw [ht] at hP1
  have hK1 := va_K.moved hvm.symm hK1
  obtain ⟨hP, hD⟩ := va_join (wr := [(q381, .inr (11, [.int 0, .ref q382, .int 0, .int 0, .int 0, .int 0, .ref q383, .int 0, .ref q384, .ref q385, .ref q386, .ref q387, .ref q388, .ref q389, .ref q390, .ref q391, .ref q392, .ref q393, .ref q394, .ref q395, .ref q396, .ref q397, .ref q398, .ref q399, .ref q400, .ref q401, .ref q402, .ref q403, .ref q404, .ref q405, .int 0, .ref q406, .ref q407, .ref q408, .ref q409, .int 0, .ref q410, .ref q411, .ref q412, .ref q413, .long 0, .long 0, .int 0, .ref q414, .int 0, .int 0]))]) (w1 := []) hP hD [0] [1] rfl rfl (by decide) (by decide) hk1 hFc hP1 hD1
  have hK := (hK.sub (tys' := []) [] rfl).app hK1
  generalize H1 = H at hP hS ⊢
  have hK : va_K (dC, dI) classes [] s := hK
  have hP : va_P (dC, dI) classes [(q381, .inr (11, [.int 0, .ref q382, .int 0, .int 0, .int 0, .int 0, .ref q383, .int 0, .ref q384, .ref q385, .ref q386, .ref q387, .ref q388, .ref q389, .ref q390, .ref q391, .ref q392, .ref q393, .ref q394, .ref q395, .ref q396, .ref q397, .ref q398, .ref q399, .ref q400, .ref q401, .ref q402, .ref q403, .ref q404, .ref q405, .int 0, .ref q406, .ref q407, .ref q408, .ref q409, .int 0, .ref q410, .ref q411, .ref q412, .ref q413, .long 0, .long 0, .int 0, .ref q414, .int 0, .int 0]))] H := hP
  have hD : va_D A [(q381, .inr (11, [.int 0, .ref q382, .int 0, .int 0, .int 0, .int 0, .ref q383, .int 0, .ref q384, .ref q385, .ref q386, .ref q387, .ref q388, .ref q389, .ref q390, .ref q391, .ref q392, .ref q393, .ref q394, .ref q395, .ref q396, .ref q397, .ref q398, .ref q399, .ref q400, .ref q401, .ref q402, .ref q403, .ref q404, .ref q405, .int 0, .ref q406, .ref q407, .ref q408, .ref q409, .int 0, .ref q410, .ref q411, .ref q412, .ref q413, .long 0, .long 0, .int 0, .ref q414, .int 0, .int 0]))] := hD
  refine lv_aload_n hx hb dL_law_219 rfl (lv_at hl 2 rfl) ?_
  refine lv_aload_n hx hb dL_law_220 rfl (lv_at hl 4 rfl) ?_
  refine lv_iload hx hb dL_law_221 (lv_at hl 0 rfl) ?_
  refine lv_iconst (v := 1) hx hb dL_law_223 (by decide) ?_
  refine lv_iadd hx hb dL_law_224 ?_
  refine lv_topi (fun n442 en442 => ?_)
  obtain rfl : n442 = 1 := by rw [en442]; decide
  refine va_sld hx hb hX hbl hbA hS (by unfold vp_in; decide) dL_law_225 ?_
  rw [hsk1]
  have hPc := hP.sub (ws' := [(q381, .inr (11, [.int 0, .ref q382, .int 0, .int 0, .int 0, .int 0, .ref q383, .int 0, .ref q384, .ref q385, .ref q386, .ref q387, .ref q388, .ref q389, .ref q390, .ref q391, .ref q392, .ref q393, .ref q394, .ref q395, .ref q396, .ref q397, .ref q398, .ref q399, .ref q400, .ref q401, .ref q402, .ref q403, .ref q404, .ref q405, .int 0, .ref q406, .ref q407, .ref q408, .ref q409, .int 0, .ref q410, .ref q411, .ref q412, .ref q413, .long 0, .long 0, .int 0, .ref q414, .int 0, .int 0]))]) [0] rfl
  have hDc := hD.sub (ws' := [(q381, .inr (11, [.int 0, .ref q382, .int 0, .int 0, .int 0, .int 0, .ref q383, .int 0, .ref q384, .ref q385, .ref q386, .ref q387, .ref q388, .ref q389, .ref q390, .ref q391, .ref q392, .ref q393, .ref q394, .ref q395, .ref q396, .ref q397, .ref q398, .ref q399, .ref q400, .ref q401, .ref q402, .ref q403, .ref q404, .ref q405, .int 0, .ref q406, .ref q407, .ref q408, .ref q409, .int 0, .ref q410, .ref q411, .ref q412, .ref q413, .long 0, .long 0, .int 0, .ref q414, .int 0, .int 0]))]) [0] (by decide) rfl
  have hKc := hK.sub (tys' := []) [] rfl
  have hFc := va_free (wc := [(q381, .inr (11, [.int 0, .ref q382, .int 0, .int 0, .int 0, .int 0, .ref q383, .int 0, .ref q384, .ref q385, .ref q386, .ref q387, .ref q388, .ref q389, .ref q390, .ref q391, .ref q392, .ref q393, .ref q394, .ref q395, .ref q396, .ref q397, .ref q398, .ref q399, .ref q400, .ref q401, .ref q402, .ref q403, .ref q404, .ref q405, .int 0, .ref q406, .ref q407, .ref q408, .ref q409, .int 0, .ref q410, .ref q411, .ref q412, .ref q413, .long 0, .long 0, .int 0, .ref q414, .int 0, .int 0]))]) hD hS hA [0] rfl
  refine va_calli (va_runV (As := [.int k1]) (rest := [.int (cutA k1)]) ⟨hx, hb, hml, hown, hts⟩ (c_m_cut l dC dI q381 k1 (.int 0) (.ref q382) (.int 0) (.int 0) (.int 0) (.ref q383) (.int 0) (.ref q384) (.ref q385) (.ref q386) (.ref q387) (.ref q388) (.ref q389) (.ref q390) (.ref q391) (.ref q392) (.ref q393) (.ref q394) (.ref q395) (.ref q396) (.ref q397) (.ref q398) (.ref q399) (.ref q400) (.ref q401) (.ref q402) (.ref q403) (.ref q404) (.ref q405) (.int 0) (.ref q406) (.ref q407) (.ref q408) (.ref q409) (.int 0) (.ref q410) (.ref q411) (.ref q412) (.ref q413) (.long 0) (.long 0) (.int 0) (.ref q414) (.int 0) (.int 0) H.size) (cwV 1 hts (goV wd_377 wd_378 wd_376 wd_320 wd_375) rfl rfl rfl (by decide +kernel) ⟨Nat.le_of_ble_eq_true rfl, Nat.le_of_ble_eq_true rfl⟩) ⟨blind5, va_recv hKc hPc (ci := 11) (q0 := 0) rfl rfl, fun U hU hW => ⟨rfl, pre5 hU hW hPc hKc hDc hE⟩⟩ rfl rfl hl.1 rfl (lv_room (Nat.le_of_ble_eq_true rfl)) dL_law_226 ⟨Nat.le_of_ble_eq_true rfl, Nat.le_of_ble_eq_true rfl⟩) hS (fun q _ h => hFc q h) hFc (fun r443 u t H1 locs ht hvm hw hB hz1 hk1 hS => ?_)
  obtain rfl : r443 = (cutA k1) := hw
  obtain ⟨hP1, hK1, hD1⟩ := hB
  rw [ht] at hP1
  have hK1 := va_K.moved hvm.symm hK1
  obtain ⟨hP, hD⟩ := va_join (wr := []) (w1 := []) hP hD [0] [] rfl rfl (by decide) (by decide) hk1 hFc hP1 hD1
  have hK := (hK.sub (tys' := []) [] rfl).app hK1
  generalize H1 = H at hP hS ⊢
  have hK : va_K (dC, dI) classes [] s := hK
  have hP : va_P (dC, dI) classes [] H := hP
  have hD : va_D A [] := hD
  refine lv_icmp_eq (tgt := 1348) hx hb dL_law_229 (by decide) (fun _ => ?_) (fun hc => absurd rfl hc)
  exact law_tail C1 hAd hbA (Nat.le_of_ble_eq_true rfl) (Nat.le_of_ble_eq_true rfl) hS (lv_sub hl [0, 4] rfl)
