theorem nU_in : ∀ w ∈ nU, w ∈ lw_tbl := by decide +kernel
theorem nU_on : ∀ w ∈ nU, w.onTables = true := by decide +kernel
set_option maxHeartbeats 4000000 in
set_option maxRecDepth 100000 in
/-- THE LAW, from its entry -/
theorem whole_start {p : Program} {e : Env} {s : State} {m : MethodId} {below : List Frame} {meth : Method} {c : Code} (l : Launch) (hlt : l.stackTraces = false) {b L : Nat} {xs : Nat → Int32} (hL : L ≤ 6) (C0 : lw_At p s m meth c b L xs) : W p l e room_1 s m #[Value.ref b] below meth c s.heap [] 0 0 (lw_Z below #[Value.ref b] s) (entryFrame m ([Value.ref b] : List Value).toArray 7) := by
  have C1 := C0
  obtain ⟨hx, hb, hr, hml, hown, hts0, hX, hbl, hlocks, hgv⟩ := C0
  have hown : s.vm.findClass "SpineTablesLaw" = some m.cls := hown
  have hts : ∀ w ∈ wU, w.before #[Value.ref b] s = true := fun w h => hts0 w (wU_in w h)
  have hA : ∀ q : Nat, s.heap.size ≤ q → (fun q : Nat => s.heap.size ≤ q) q := fun _ h => h
  have hbA : ¬ (fun q : Nat => s.heap.size ≤ q) b := Nat.not_le.mpr hbl
  have hAd : ∀ q : Nat, (fun q : Nat => s.heap.size ≤ q) q → s.heap.size ≤ q := fun _ h => h
  have hE : En s := ⟨fun w hw => va_Nw.of (nU_on w hw) (hts0 w (nU_in w hw)), va_AO.of (hts0 (.arrayOver (.object "SpineTables$Table")) (by decide +kernel))⟩
  obtain ⟨sa, hT⟩ : ∃ sa, Tn (fun q : Nat => s.heap.size ≤ q) sa s := by
    have hf := flat_of_before _ hgv
    obtain ⟨sa, -, -, -, h1, -⟩ := Cond.exactly_spec (hf (.exactly (.string "SpineTables" 274) "java/lang/String") (by decide +kernel))
    exact ⟨sa, vk_R.of (hts0 (.stringRef "SpineTables" 274 "no such table") (by decide +kernel)) h1, vx_Zqof (hts0 (.laysStatic Bundle.tN "UNASSIGNED_STACK" Bundle.steD) (by decide +kernel)) (hts0 (.initialized Bundle.tN) (by decide +kernel)) (hf (.isRef (.static Bundle.tN "UNASSIGNED_STACK" Bundle.steD)) (by decide +kernel)) (fun a h => Nat.not_le.mpr h), vx_Zqof (hts0 (.laysStatic Bundle.tN "SUPPRESSED_SENTINEL" Bundle.listD) (by decide +kernel)) (hts0 (.initialized Bundle.tN) (by decide +kernel)) (hf (.isRef (.static Bundle.tN "SUPPRESSED_SENTINEL" Bundle.listD)) (by decide +kernel)) (fun a h => Nat.not_le.mpr h)⟩
  obtain ⟨A, hAA⟩ : ∃ A : Nat → Prop, A = (fun q : Nat => s.heap.size ≤ q) := ⟨_, rfl⟩
  rw [← hAA] at hA hbA hAd hT
  obtain ⟨c0, iS0, hKn0⟩ := u_known (C := RX0) (T := TX0) (N := 3) (n := 3) hts inX0 (hts (.instantiable RX0 3) wd_135)
  obtain ⟨c1, iS1, hKn1⟩ := u_known (C := RX1) (T := TX1) (N := 5) (n := 5) hts inX1 (hts (.instantiable RX1 5) wd_147)
  obtain ⟨c2, iS2, hKn2⟩ := u_known (C := RX2) (T := TX2) (N := 1) (n := 1) hts inX2 (hts (.instantiable RX2 1) wd_141)
  obtain ⟨c3, iS3, hKn3⟩ := u_known (C := RX3) (T := TX3) (N := 2) (n := 2) hts inX3 (hts (.instantiable RX3 2) wd_29)
  obtain ⟨c4, iS4, hKn4⟩ := u_known (C := RX4) (T := TX4) (N := 6) (n := 6) hts inX4 (hts (.instantiable RX4 6) wd_129)
  obtain ⟨c5, iS5, hKn5⟩ := u_known (C := RX5) (T := TX5) (N := 16) (n := 16) hts inX5 (hts (.instantiable RX5 16) wd_117)
  obtain ⟨c6, iS6, hKn6⟩ := u_known (C := RX6) (T := TX6) (N := 11) (n := 11) hts inX6 (hts (.instantiable RX6 11) wd_84)
  obtain ⟨c7, iS7, hKn7⟩ := u_known (C := RX7) (T := TX7) (N := 5) (n := 5) hts inX7 (hts (.instantiable RX7 5) wd_53)
  obtain ⟨c8, iS8, hKn8⟩ := u_known (C := RX8) (T := TX8) (N := 17) (n := 17) hts inX8 (hts (.instantiable RX8 17) wd_263)
  obtain ⟨c9, iS9, hKn9⟩ := u_known (C := RX9) (T := TX9) (N := 9) (n := 9) hts inX9 (hts (.instantiable RX9 9) wd_123)
  obtain ⟨c10, iS10, hKn10⟩ := u_known (C := RX11) (T := TX11) (N := 14) (n := 14) hts inX11 (hts (.instantiable RX11 14) wd_354)
  obtain ⟨c11, iS11, hKn11⟩ := u_known (C := RX12) (T := TX12) (N := 46) (n := 46) hts inX12 (hts (.instantiable RX12 46) wd_359)
  obtain ⟨dC, dI, hKc⟩ : ∃ (dC : Nat → ClassId) (dI : Nat → Nat → Nat), ∀ (k : Nat) (q : vw_C), classes[k]? = some q → u_Kn s q.1 q.2.1 q.2.2 (dC k) (dI k) := by
    refine ⟨fun k => if k = 0 then c0 else if k = 1 then c1 else if k = 2 then c2 else if k = 3 then c3 else if k = 4 then c4 else if k = 5 then c5 else if k = 6 then c6 else if k = 7 then c7 else if k = 8 then c8 else if k = 9 then c9 else if k = 10 then c10 else c11, fun k => if k = 0 then iS0 else if k = 1 then iS1 else if k = 2 then iS2 else if k = 3 then iS3 else if k = 4 then iS4 else if k = 5 then iS5 else if k = 6 then iS6 else if k = 7 then iS7 else if k = 8 then iS8 else if k = 9 then iS9 else if k = 10 then iS10 else iS11, ?_⟩
    intro k q hq
    match k, hq with
    | 0, hq => cases hq; exact hKn0
    | 1, hq => cases hq; exact hKn1
    | 2, hq => cases hq; exact hKn2
    | 3, hq => cases hq; exact hKn3
    | 4, hq => cases hq; exact hKn4
    | 5, hq => cases hq; exact hKn5
    | 6, hq => cases hq; exact hKn6
    | 7, hq => cases hq; exact hKn7
    | 8, hq => cases hq; exact hKn8
    | 9, hq => cases hq; exact hKn9
    | 10, hq => cases hq; exact hKn10
    | 11, hq => cases hq; exact hKn11
    | k + 12, hq => simp [classes] at hq
  have hS : va_S A s.heap s.heap [] := va_S.rf
  have hK : va_K (dC, dI) classes [] s := ⟨hKc, fun k q h => by simp at h⟩
  have hP : va_P (dC, dI) classes [] s.heap := fun k q h => by simp at h
  have hD : va_D A [] := ⟨fun i j p q h => by simp at h, fun k q h => by simp at h⟩
  have hl := lv_entry ([.ref b]) (n := 7) (Nat.le_of_ble_eq_true rfl)
  rw [lg_entry_eq]
  generalize (lg_sl ([.ref b]) ++ List.replicate (7 - (lg_sl ([.ref b])).length) Slot.unset).toArray = ls at hl ⊢
  have hl : lv_has ls 7 [(0, .ref b)] := hl
  obtain ⟨H, hH⟩ : ∃ H, H = s.heap := ⟨_, rfl⟩
  rw [← hH] at hP
  have hS : va_S A s.heap H [] := by rw [hH]; exact va_S.rf
  refine w_heap hH ?_
  refine va_new (ci := 10) (fs := [.null, .int 0, .null, .int 0, .int 0, .null, .null, .null, .null, .null, .null, .null, .null, .null]) (C := RX11) (T := TX11) (N := 14) hx hb hts inX11 tyX11 tyX11_ok hown (hts _ wd_353) (hts _ wd_354) (hts _ wd_191) hK hP hD hS hA rfl dfX11 (Nat.le_of_ble_eq_true rfl) (Nat.le_of_ble_eq_true rfl) dL_law_0 (fun q355 H hP hD hS => ?_)
  have hP : va_P (dC, dI) classes [(q355, .inr (10, [.null, .int 0, .null, .int 0, .int 0, .null, .null, .null, .null, .null, .null, .null, .null, .null]))] H := hP
  have hD : va_D A [(q355, .inr (10, [.null, .int 0, .null, .int 0, .int 0, .null, .null, .null, .null, .null, .null, .null, .null, .null]))] := hD
  refine W.widen (k := 1) (n := 14) (Nat.le_of_ble_eq_true rfl) (Nat.le_of_ble_eq_true rfl) ?_
  refine lv_dup hx hb dL_law_3 rfl ?_
  have hPc := hP.sub (ws' := [(q355, .inr (10, [.null, .int 0, .null, .int 0, .int 0, .null, .null, .null, .null, .null, .null, .null, .null, .null]))]) [0] rfl
  have hDc := hD.sub (ws' := [(q355, .inr (10, [.null, .int 0, .null, .int 0, .int 0, .null, .null, .null, .null, .null, .null, .null, .null, .null]))]) [0] (by decide) rfl
  have hKc := hK.sub (tys' := []) [] rfl
  have hFc := va_free (wc := [(q355, .inr (10, [.null, .int 0, .null, .int 0, .int 0, .null, .null, .null, .null, .null, .null, .null, .null, .null]))]) hD hS hA [0] rfl
  refine va_callv (va_runI (As := []) (rest := [.ref q355]) ⟨hx, hb, hml, hown, hts⟩ (c_Spine l dC dI q355 H.size) (cwI 0 hts (goC wd_355) rfl rfl rfl (hts _ wd_191) (hts _ wd_356) (hts _ wd_357) rfl (by decide +kernel) ⟨Nat.le_of_ble_eq_true rfl, Nat.le_of_ble_eq_true rfl⟩) ⟨blind5, fun U hU hW => ⟨rfl, pre5 hU hW hPc hKc hDc hE⟩⟩ rfl rfl hl.1 rfl (lv_room (Nat.le_of_ble_eq_true rfl)) dL_law_4 ⟨Nat.le_of_ble_eq_true rfl, Nat.le_of_ble_eq_true rfl⟩) hS (fun q _ h => hFc q h) hFc (fun u t H1 locs ht hvm hw hB hz1 hk1 hS => ?_)
  obtain ⟨q356, q357, q358, q359, q360, q361, q362, q363, q364, q365, y366, y367, y368, q369, q370, q371, q372, q373, q374, q375, q376, q377, y378, y379, q380, hP1, hK1, hD1⟩ := hB
  rw [ht] at hP1
  have hK1 := va_K.moved hvm.symm hK1
  obtain ⟨hP, hD⟩ := va_join (wr := []) (w1 := [(q355, .inr (10, [.ref q356, .int 0, .ref q357, .int 0, .int 0, .ref q358, .ref q359, .null, .ref q360, .ref q361, .ref q362, .ref q363, .ref q364, .ref q365])), (q356, .inl (y366, 3000, .inl (fun _ => 0))), (q359, .inl (y367, 8, .inl (fun _ => 0))), (q358, .inl (y368, 8, .inr (.inr (.inr (.inr (fun _ => none)))))), (q360, .inr (5, [.int 0, .int 0, .null, .int 0, .null, .int 0, .int 4, .int 0, .ref q369, .ref q370, .ref q371, .int (-1), .int (-1), .int 0, .int 0, .int 0])), (q361, .inr (9, [.ref q372, .ref q373, .ref q374, .ref q375, .ref q376, .ref q377, .null, .int 0, .int 1])), (q372, .inl (y378, 12, .inl (fun _ => 0))), (q373, .inl (y379, 12, .inl (fun _ => 0))), (q362, .inr (4, [.int 0, .int 1, .ref q380, .null, .int 0, .int 0]))]) hP hD [0] [] rfl rfl (by decide) (by decide) hk1 hFc hP1 hD1
  have hK := (hK.sub (tys' := []) [] rfl).app hK1
  generalize H1 = H at hP hS ⊢
  have hK : va_K (dC, dI) classes [(y366, .byte), (y367, .boolean), (y368, .object "SpineTables$Table"), (y378, .int), (y379, .int)] s := hK
  have hP : va_P (dC, dI) classes [(q355, .inr (10, [.ref q356, .int 0, .ref q357, .int 0, .int 0, .ref q358, .ref q359, .null, .ref q360, .ref q361, .ref q362, .ref q363, .ref q364, .ref q365])), (q356, .inl (y366, 3000, .inl (fun _ => 0))), (q359, .inl (y367, 8, .inl (fun _ => 0))), (q358, .inl (y368, 8, .inr (.inr (.inr (.inr (fun _ => none)))))), (q360, .inr (5, [.int 0, .int 0, .null, .int 0, .null, .int 0, .int 4, .int 0, .ref q369, .ref q370, .ref q371, .int (-1), .int (-1), .int 0, .int 0, .int 0])), (q361, .inr (9, [.ref q372, .ref q373, .ref q374, .ref q375, .ref q376, .ref q377, .null, .int 0, .int 1])), (q372, .inl (y378, 12, .inl (fun _ => 0))), (q373, .inl (y379, 12, .inl (fun _ => 0))), (q362, .inr (4, [.int 0, .int 1, .ref q380, .null, .int 0, .int 0]))] H := hP
  have hD : va_D A [(q355, .inr (10, [.ref q356, .int 0, .ref q357, .int 0, .int 0, .ref q358, .ref q359, .null, .ref q360, .ref q361, .ref q362, .ref q363, .ref q364, .ref q365])), (q356, .inl (y366, 3000, .inl (fun _ => 0))), (q359, .inl (y367, 8, .inl (fun _ => 0))), (q358, .inl (y368, 8, .inr (.inr (.inr (.inr (fun _ => none)))))), (q360, .inr (5, [.int 0, .int 0, .null, .int 0, .null, .int 0, .int 4, .int 0, .ref q369, .ref q370, .ref q371, .int (-1), .int (-1), .int 0, .int 0, .int 0])), (q361, .inr (9, [.ref q372, .ref q373, .ref q374, .ref q375, .ref q376, .ref q377, .null, .int 0, .int 1])), (q372, .inl (y378, 12, .inl (fun _ => 0))), (q373, .inl (y379, 12, .inl (fun _ => 0))), (q362, .inr (4, [.int 0, .int 1, .ref q380, .null, .int 0, .int 0]))] := hD
  refine W.widen (k := 27) (n := 6222) (Nat.le_of_ble_eq_true rfl) (Nat.le_of_ble_eq_true rfl) ?_
  refine lv_astore_n (lv' := [(1, .ref q355), (0, .ref b)]) hx hb dL_law_7 rfl hl (by decide) rfl (fun ls hl => ?_)
  refine va_new (ci := 11) (fs := [.int 0, .null, .int 0, .int 0, .int 0, .int 0, .null, .int 0, .null, .null, .null, .null, .null, .null, .null, .null, .null, .null, .null, .null, .null, .null, .null, .null, .null, .null, .null, .null, .null, .null, .int 0, .null, .null, .null, .null, .int 0, .null, .null, .null, .null, .long 0, .long 0, .int 0, .null, .int 0, .int 0]) (C := RX12) (T := TX12) (N := 46) hx hb hts inX12 tyX12 tyX12_ok hown (hts _ wd_358) (hts _ wd_359) (hts _ wd_320) hK hP hD hS hA rfl dfX12 (Nat.le_of_ble_eq_true rfl) (Nat.le_of_ble_eq_true rfl) dL_law_8 (fun q381 H hP hD hS => ?_)
  have hP : va_P (dC, dI) classes [(q355, .inr (10, [.ref q356, .int 0, .ref q357, .int 0, .int 0, .ref q358, .ref q359, .null, .ref q360, .ref q361, .ref q362, .ref q363, .ref q364, .ref q365])), (q356, .inl (y366, 3000, .inl (fun _ => 0))), (q359, .inl (y367, 8, .inl (fun _ => 0))), (q358, .inl (y368, 8, .inr (.inr (.inr (.inr (fun _ => none)))))), (q360, .inr (5, [.int 0, .int 0, .null, .int 0, .null, .int 0, .int 4, .int 0, .ref q369, .ref q370, .ref q371, .int (-1), .int (-1), .int 0, .int 0, .int 0])), (q361, .inr (9, [.ref q372, .ref q373, .ref q374, .ref q375, .ref q376, .ref q377, .null, .int 0, .int 1])), (q372, .inl (y378, 12, .inl (fun _ => 0))), (q373, .inl (y379, 12, .inl (fun _ => 0))), (q362, .inr (4, [.int 0, .int 1, .ref q380, .null, .int 0, .int 0])), (q381, .inr (11, [.int 0, .null, .int 0, .int 0, .int 0, .int 0, .null, .int 0, .null, .null, .null, .null, .null, .null, .null, .null, .null, .null, .null, .null, .null, .null, .null, .null, .null, .null, .null, .null, .null, .null, .int 0, .null, .null, .null, .null, .int 0, .null, .null, .null, .null, .long 0, .long 0, .int 0, .null, .int 0, .int 0]))] H := hP
  have hD : va_D A [(q355, .inr (10, [.ref q356, .int 0, .ref q357, .int 0, .int 0, .ref q358, .ref q359, .null, .ref q360, .ref q361, .ref q362, .ref q363, .ref q364, .ref q365])), (q356, .inl (y366, 3000, .inl (fun _ => 0))), (q359, .inl (y367, 8, .inl (fun _ => 0))), (q358, .inl (y368, 8, .inr (.inr (.inr (.inr (fun _ => none)))))), (q360, .inr (5, [.int 0, .int 0, .null, .int 0, .null, .int 0, .int 4, .int 0, .ref q369, .ref q370, .ref q371, .int (-1), .int (-1), .int 0, .int 0, .int 0])), (q361, .inr (9, [.ref q372, .ref q373, .ref q374, .ref q375, .ref q376, .ref q377, .null, .int 0, .int 1])), (q372, .inl (y378, 12, .inl (fun _ => 0))), (q373, .inl (y379, 12, .inl (fun _ => 0))), (q362, .inr (4, [.int 0, .int 1, .ref q380, .null, .int 0, .int 0])), (q381, .inr (11, [.int 0, .null, .int 0, .int 0, .int 0, .int 0, .null, .int 0, .null, .null, .null, .null, .null, .null, .null, .null, .null, .null, .null, .null, .null, .null, .null, .null, .null, .null, .null, .null, .null, .null, .int 0, .null, .null, .null, .null, .int 0, .null, .null, .null, .null, .long 0, .long 0, .int 0, .null, .int 0, .int 0]))] := hD
  refine W.widen (k := 28) (n := 6268) (Nat.le_of_ble_eq_true rfl) (Nat.le_of_ble_eq_true rfl) ?_
  refine lv_dup hx hb dL_law_11 rfl ?_
  have hPc := hP.sub (ws' := [(q381, .inr (11, [.int 0, .null, .int 0, .int 0, .int 0, .int 0, .null, .int 0, .null, .null, .null, .null, .null, .null, .null, .null, .null, .null, .null, .null, .null, .null, .null, .null, .null, .null, .null, .null, .null, .null, .int 0, .null, .null, .null, .null, .int 0, .null, .null, .null, .null, .long 0, .long 0, .int 0, .null, .int 0, .int 0]))]) [9] rfl
  have hDc := hD.sub (ws' := [(q381, .inr (11, [.int 0, .null, .int 0, .int 0, .int 0, .int 0, .null, .int 0, .null, .null, .null, .null, .null, .null, .null, .null, .null, .null, .null, .null, .null, .null, .null, .null, .null, .null, .null, .null, .null, .null, .int 0, .null, .null, .null, .null, .int 0, .null, .null, .null, .null, .long 0, .long 0, .int 0, .null, .int 0, .int 0]))]) [9] (by decide) rfl
  have hKc := hK.sub (tys' := []) [] rfl
  have hFc := va_free (wc := [(q381, .inr (11, [.int 0, .null, .int 0, .int 0, .int 0, .int 0, .null, .int 0, .null, .null, .null, .null, .null, .null, .null, .null, .null, .null, .null, .null, .null, .null, .null, .null, .null, .null, .null, .null, .null, .null, .int 0, .null, .null, .null, .null, .int 0, .null, .null, .null, .null, .long 0, .long 0, .int 0, .null, .int 0, .int 0]))]) hD hS hA [9] rfl
  refine va_callv (va_runI (As := []) (rest := [.ref q381]) ⟨hx, hb, hml, hown, hts⟩ (c_Model l dC dI q381 H.size) (cwI 0 hts (goC wd_360) rfl rfl rfl (hts _ wd_320) (hts _ wd_361) (hts _ wd_362) rfl (by decide +kernel) ⟨Nat.le_of_ble_eq_true rfl, Nat.le_of_ble_eq_true rfl⟩) ⟨blind5, fun U hU hW => ⟨rfl, pre5 hU hW hPc hKc hDc hE⟩⟩ rfl rfl hl.1 rfl (lv_room (Nat.le_of_ble_eq_true rfl)) dL_law_12 ⟨Nat.le_of_ble_eq_true rfl, Nat.le_of_ble_eq_true rfl⟩) hS (fun q _ h => hFc q h) hFc (fun u t H1 locs ht hvm hw hB hz1 hk1 hS => ?_)
  obtain ⟨q382, q383, q384, q385, q386, q387, q388, q389, q390, q391, q392, q393, q394, q395, q396, q397, q398, q399, q400, q401, q402, q403, q404, q405, q406, q407, q408, q409, q410, q411, q412, q413, q414, y415, y416, y417, y418, y419, y420, y421, y422, y423, y424, y425, hP1, hK1, hD1⟩ := hB
  rw [ht] at hP1
  have hK1 := va_K.moved hvm.symm hK1
  obtain ⟨hP, hD⟩ := va_join (wr := [(q355, .inr (10, [.ref q356, .int 0, .ref q357, .int 0, .int 0, .ref q358, .ref q359, .null, .ref q360, .ref q361, .ref q362, .ref q363, .ref q364, .ref q365])), (q356, .inl (y366, 3000, .inl (fun _ => 0))), (q359, .inl (y367, 8, .inl (fun _ => 0))), (q358, .inl (y368, 8, .inr (.inr (.inr (.inr (fun _ => none)))))), (q360, .inr (5, [.int 0, .int 0, .null, .int 0, .null, .int 0, .int 4, .int 0, .ref q369, .ref q370, .ref q371, .int (-1), .int (-1), .int 0, .int 0, .int 0])), (q361, .inr (9, [.ref q372, .ref q373, .ref q374, .ref q375, .ref q376, .ref q377, .null, .int 0, .int 1])), (q372, .inl (y378, 12, .inl (fun _ => 0))), (q373, .inl (y379, 12, .inl (fun _ => 0))), (q362, .inr (4, [.int 0, .int 1, .ref q380, .null, .int 0, .int 0]))]) (w1 := [(q381, .inr (11, [.int 0, .ref q382, .int 0, .int 0, .int 0, .int 0, .ref q383, .int 0, .ref q384, .ref q385, .ref q386, .ref q387, .ref q388, .ref q389, .ref q390, .ref q391, .ref q392, .ref q393, .ref q394, .ref q395, .ref q396, .ref q397, .ref q398, .ref q399, .ref q400, .ref q401, .ref q402, .ref q403, .ref q404, .ref q405, .int 0, .ref q406, .ref q407, .ref q408, .ref q409, .int 0, .ref q410, .ref q411, .ref q412, .ref q413, .long 0, .long 0, .int 0, .ref q414, .int 0, .int 0])), (q382, .inl (y415, 3000, .inl (fun _ => 0))), (q384, .inl (y416, 8, .inl (fun _ => 0))), (q385, .inl (y417, 24016, .inl (fun _ => 0))), (q386, .inl (y418, 8, .inl (fun _ => 0))), (q387, .inl (y419, 8, .inl (fun _ => 0))), (q388, .inl (y420, 8, .inl (fun _ => 0))), (q390, .inl (y421, 8, .inl (fun _ => 0))), (q398, .inl (y422, 1608, .inr (.inl (fun _ => 0)))), (q399, .inl (y423, 1608, .inr (.inl (fun _ => 0)))), (q404, .inl (y424, 8, .inl (fun _ => 0))), (q405, .inl (y425, 8, .inl (fun _ => 0)))]) hP hD [9] [0, 1, 2, 3, 4, 5, 6, 7, 8] rfl rfl (by decide) (by decide) hk1 hFc hP1 hD1
  have hK := (hK.sub (tys' := [(y366, .byte), (y367, .boolean), (y368, .object "SpineTables$Table"), (y378, .int), (y379, .int)]) [0, 1, 2, 3, 4] rfl).app hK1
  generalize H1 = H at hP hS ⊢
  have hK : va_K (dC, dI) classes [(y366, .byte), (y367, .boolean), (y368, .object "SpineTables$Table"), (y378, .int), (y379, .int), (y415, .int), (y416, .boolean), (y417, .int), (y418, .int), (y419, .int), (y420, .int), (y421, .int), (y422, .long), (y423, .long), (y424, .int), (y425, .int)] s := hK
  have hP : va_P (dC, dI) classes [(q355, .inr (10, [.ref q356, .int 0, .ref q357, .int 0, .int 0, .ref q358, .ref q359, .null, .ref q360, .ref q361, .ref q362, .ref q363, .ref q364, .ref q365])), (q356, .inl (y366, 3000, .inl (fun _ => 0))), (q359, .inl (y367, 8, .inl (fun _ => 0))), (q358, .inl (y368, 8, .inr (.inr (.inr (.inr (fun _ => none)))))), (q360, .inr (5, [.int 0, .int 0, .null, .int 0, .null, .int 0, .int 4, .int 0, .ref q369, .ref q370, .ref q371, .int (-1), .int (-1), .int 0, .int 0, .int 0])), (q361, .inr (9, [.ref q372, .ref q373, .ref q374, .ref q375, .ref q376, .ref q377, .null, .int 0, .int 1])), (q372, .inl (y378, 12, .inl (fun _ => 0))), (q373, .inl (y379, 12, .inl (fun _ => 0))), (q362, .inr (4, [.int 0, .int 1, .ref q380, .null, .int 0, .int 0])), (q381, .inr (11, [.int 0, .ref q382, .int 0, .int 0, .int 0, .int 0, .ref q383, .int 0, .ref q384, .ref q385, .ref q386, .ref q387, .ref q388, .ref q389, .ref q390, .ref q391, .ref q392, .ref q393, .ref q394, .ref q395, .ref q396, .ref q397, .ref q398, .ref q399, .ref q400, .ref q401, .ref q402, .ref q403, .ref q404, .ref q405, .int 0, .ref q406, .ref q407, .ref q408, .ref q409, .int 0, .ref q410, .ref q411, .ref q412, .ref q413, .long 0, .long 0, .int 0, .ref q414, .int 0, .int 0])), (q382, .inl (y415, 3000, .inl (fun _ => 0))), (q384, .inl (y416, 8, .inl (fun _ => 0))), (q385, .inl (y417, 24016, .inl (fun _ => 0))), (q386, .inl (y418, 8, .inl (fun _ => 0))), (q387, .inl (y419, 8, .inl (fun _ => 0))), (q388, .inl (y420, 8, .inl (fun _ => 0))), (q390, .inl (y421, 8, .inl (fun _ => 0))), (q398, .inl (y422, 1608, .inr (.inl (fun _ => 0)))), (q399, .inl (y423, 1608, .inr (.inl (fun _ => 0)))), (q404, .inl (y424, 8, .inl (fun _ => 0))), (q405, .inl (y425, 8, .inl (fun _ => 0)))] H := hP
  have hD : va_D A [(q355, .inr (10, [.ref q356, .int 0, .ref q357, .int 0, .int 0, .ref q358, .ref q359, .null, .ref q360, .ref q361, .ref q362, .ref q363, .ref q364, .ref q365])), (q356, .inl (y366, 3000, .inl (fun _ => 0))), (q359, .inl (y367, 8, .inl (fun _ => 0))), (q358, .inl (y368, 8, .inr (.inr (.inr (.inr (fun _ => none)))))), (q360, .inr (5, [.int 0, .int 0, .null, .int 0, .null, .int 0, .int 4, .int 0, .ref q369, .ref q370, .ref q371, .int (-1), .int (-1), .int 0, .int 0, .int 0])), (q361, .inr (9, [.ref q372, .ref q373, .ref q374, .ref q375, .ref q376, .ref q377, .null, .int 0, .int 1])), (q372, .inl (y378, 12, .inl (fun _ => 0))), (q373, .inl (y379, 12, .inl (fun _ => 0))), (q362, .inr (4, [.int 0, .int 1, .ref q380, .null, .int 0, .int 0])), (q381, .inr (11, [.int 0, .ref q382, .int 0, .int 0, .int 0, .int 0, .ref q383, .int 0, .ref q384, .ref q385, .ref q386, .ref q387, .ref q388, .ref q389, .ref q390, .ref q391, .ref q392, .ref q393, .ref q394, .ref q395, .ref q396, .ref q397, .ref q398, .ref q399, .ref q400, .ref q401, .ref q402, .ref q403, .ref q404, .ref q405, .int 0, .ref q406, .ref q407, .ref q408, .ref q409, .int 0, .ref q410, .ref q411, .ref q412, .ref q413, .long 0, .long 0, .int 0, .ref q414, .int 0, .int 0])), (q382, .inl (y415, 3000, .inl (fun _ => 0))), (q384, .inl (y416, 8, .inl (fun _ => 0))), (q385, .inl (y417, 24016, .inl (fun _ => 0))), (q386, .inl (y418, 8, .inl (fun _ => 0))), (q387, .inl (y419, 8, .inl (fun _ => 0))), (q388, .inl (y420, 8, .inl (fun _ => 0))), (q390, .inl (y421, 8, .inl (fun _ => 0))), (q398, .inl (y422, 1608, .inr (.inl (fun _ => 0)))), (q399, .inl (y423, 1608, .inr (.inl (fun _ => 0)))), (q404, .inl (y424, 8, .inl (fun _ => 0))), (q405, .inl (y425, 8, .inl (fun _ => 0)))] := hD
  refine W.widen (k := 61) (n := 149894) (Nat.le_of_ble_eq_true rfl) (Nat.le_of_ble_eq_true rfl) ?_
  refine lv_astore_n (lv' := [(2, .ref q381), (1, .ref q355), (0, .ref b)]) hx hb dL_law_15 rfl hl (by decide) rfl (fun ls hl => ?_)
  refine lv_iconst (v := 1) hx hb dL_law_16 (by decide) ?_
  refine va_newa (atype := .long) (ty := .long) (N' := 1) (a0 := (1, .inr (.inl (fun _ => 0)))) hx hb (hts _ wd_160) rfl hK hP hD hS hA (fun _ => rfl) (by decide) (by decide) (by decide) (Nat.le_of_ble_eq_true rfl) (Nat.le_of_ble_eq_true rfl) dL_law_17 (fun q426 y427 H hK hP hD hS => ?_)
  have hK : va_K (dC, dI) classes [(y366, .byte), (y367, .boolean), (y368, .object "SpineTables$Table"), (y378, .int), (y379, .int), (y415, .int), (y416, .boolean), (y417, .int), (y418, .int), (y419, .int), (y420, .int), (y421, .int), (y422, .long), (y423, .long), (y424, .int), (y425, .int), (y427, .long)] s := hK
  have hP : va_P (dC, dI) classes [(q355, .inr (10, [.ref q356, .int 0, .ref q357, .int 0, .int 0, .ref q358, .ref q359, .null, .ref q360, .ref q361, .ref q362, .ref q363, .ref q364, .ref q365])), (q356, .inl (y366, 3000, .inl (fun _ => 0))), (q359, .inl (y367, 8, .inl (fun _ => 0))), (q358, .inl (y368, 8, .inr (.inr (.inr (.inr (fun _ => none)))))), (q360, .inr (5, [.int 0, .int 0, .null, .int 0, .null, .int 0, .int 4, .int 0, .ref q369, .ref q370, .ref q371, .int (-1), .int (-1), .int 0, .int 0, .int 0])), (q361, .inr (9, [.ref q372, .ref q373, .ref q374, .ref q375, .ref q376, .ref q377, .null, .int 0, .int 1])), (q372, .inl (y378, 12, .inl (fun _ => 0))), (q373, .inl (y379, 12, .inl (fun _ => 0))), (q362, .inr (4, [.int 0, .int 1, .ref q380, .null, .int 0, .int 0])), (q381, .inr (11, [.int 0, .ref q382, .int 0, .int 0, .int 0, .int 0, .ref q383, .int 0, .ref q384, .ref q385, .ref q386, .ref q387, .ref q388, .ref q389, .ref q390, .ref q391, .ref q392, .ref q393, .ref q394, .ref q395, .ref q396, .ref q397, .ref q398, .ref q399, .ref q400, .ref q401, .ref q402, .ref q403, .ref q404, .ref q405, .int 0, .ref q406, .ref q407, .ref q408, .ref q409, .int 0, .ref q410, .ref q411, .ref q412, .ref q413, .long 0, .long 0, .int 0, .ref q414, .int 0, .int 0])), (q382, .inl (y415, 3000, .inl (fun _ => 0))), (q384, .inl (y416, 8, .inl (fun _ => 0))), (q385, .inl (y417, 24016, .inl (fun _ => 0))), (q386, .inl (y418, 8, .inl (fun _ => 0))), (q387, .inl (y419, 8, .inl (fun _ => 0))), (q388, .inl (y420, 8, .inl (fun _ => 0))), (q390, .inl (y421, 8, .inl (fun _ => 0))), (q398, .inl (y422, 1608, .inr (.inl (fun _ => 0)))), (q399, .inl (y423, 1608, .inr (.inl (fun _ => 0)))), (q404, .inl (y424, 8, .inl (fun _ => 0))), (q405, .inl (y425, 8, .inl (fun _ => 0))), (q426, .inl (y427, 1, .inr (.inl (fun _ => 0))))] H := hP
  have hD : va_D A [(q355, .inr (10, [.ref q356, .int 0, .ref q357, .int 0, .int 0, .ref q358, .ref q359, .null, .ref q360, .ref q361, .ref q362, .ref q363, .ref q364, .ref q365])), (q356, .inl (y366, 3000, .inl (fun _ => 0))), (q359, .inl (y367, 8, .inl (fun _ => 0))), (q358, .inl (y368, 8, .inr (.inr (.inr (.inr (fun _ => none)))))), (q360, .inr (5, [.int 0, .int 0, .null, .int 0, .null, .int 0, .int 4, .int 0, .ref q369, .ref q370, .ref q371, .int (-1), .int (-1), .int 0, .int 0, .int 0])), (q361, .inr (9, [.ref q372, .ref q373, .ref q374, .ref q375, .ref q376, .ref q377, .null, .int 0, .int 1])), (q372, .inl (y378, 12, .inl (fun _ => 0))), (q373, .inl (y379, 12, .inl (fun _ => 0))), (q362, .inr (4, [.int 0, .int 1, .ref q380, .null, .int 0, .int 0])), (q381, .inr (11, [.int 0, .ref q382, .int 0, .int 0, .int 0, .int 0, .ref q383, .int 0, .ref q384, .ref q385, .ref q386, .ref q387, .ref q388, .ref q389, .ref q390, .ref q391, .ref q392, .ref q393, .ref q394, .ref q395, .ref q396, .ref q397, .ref q398, .ref q399, .ref q400, .ref q401, .ref q402, .ref q403, .ref q404, .ref q405, .int 0, .ref q406, .ref q407, .ref q408, .ref q409, .int 0, .ref q410, .ref q411, .ref q412, .ref q413, .long 0, .long 0, .int 0, .ref q414, .int 0, .int 0])), (q382, .inl (y415, 3000, .inl (fun _ => 0))), (q384, .inl (y416, 8, .inl (fun _ => 0))), (q385, .inl (y417, 24016, .inl (fun _ => 0))), (q386, .inl (y418, 8, .inl (fun _ => 0))), (q387, .inl (y419, 8, .inl (fun _ => 0))), (q388, .inl (y420, 8, .inl (fun _ => 0))), (q390, .inl (y421, 8, .inl (fun _ => 0))), (q398, .inl (y422, 1608, .inr (.inl (fun _ => 0)))), (q399, .inl (y423, 1608, .inr (.inl (fun _ => 0)))), (q404, .inl (y424, 8, .inl (fun _ => 0))), (q405, .inl (y425, 8, .inl (fun _ => 0))), (q426, .inl (y427, 1, .inr (.inl (fun _ => 0))))] := hD
  refine W.widen (k := 62) (n := 149895) (Nat.le_of_ble_eq_true rfl) (Nat.le_of_ble_eq_true rfl) ?_
  refine lv_astore_n (lv' := [(3, .ref q426), (2, .ref q381), (1, .ref q355), (0, .ref b)]) hx hb dL_law_19 rfl hl (by decide) rfl (fun ls hl => ?_)
  refine lv_iconst (v := 0) hx hb dL_law_20 (by decide) ?_
  refine lv_istore (lv' := [(4, .int 0), (3, .ref q426), (2, .ref q381), (1, .ref q355), (0, .ref b)]) hx hb dL_law_21 hl (by decide) rfl (fun ls hl => ?_)
  refine lv_iload hx hb dL_law_23 (lv_at hl 0 rfl) ?_
  refine lv_aload_n hx hb dL_law_25 rfl (lv_at hl 4 rfl) ?_
  refine va_slen hx hb hX hbl hbA hS dL_law_26 ?_
  refine lv_bipush (v := 6) hx hb dL_law_27 (by decide) ?_
  refine lv_isub hx hb dL_law_29 ?_
  refine lv_icmp_gt (tgt := 1354) hx hb dL_law_30 (by decide) (fun hc => ?_) (fun hc => ?_)
  · exact law_end C1 hAd (Nat.le_of_ble_eq_true rfl) (Nat.le_of_ble_eq_true rfl) hS
  · rcases (show L = 0 ∨ L = 1 ∨ L = 2 ∨ L = 3 ∨ L = 4 ∨ L = 5 ∨ L = 6 by omega) with rfl | rfl | rfl | rfl | rfl | rfl | rfl
    · exact absurd (by decide) hc
    · exact absurd (by decide) hc
    · exact absurd (by decide) hc
    · exact absurd (by decide) hc
    · exact absurd (by decide) hc
    · exact absurd (by decide) hc
    · skip
      refine lv_aload_n hx hb dL_law_33 rfl (lv_at hl 4 rfl) ?_
      refine lv_iload hx hb dL_law_34 (lv_at hl 0 rfl) ?_
      refine va_sld hx hb hX hbl hbA hS (by unfold vp_in; decide) dL_law_36 ?_
      refine lv_topi (fun n563 en563 => ?_)
      refine lv_bipush (v := 31) hx hb dL_law_37 (by decide) ?_
      refine lv_iand hx hb dL_law_39 ?_
      refine lv_topi (fun n9 en9 => ?_)
      obtain ⟨j, hj, ej⟩ := pk_andE n563 (m := 31) 5 (by decide)
      rw [ej] at en9
      subst en9
      have hj : j < 32 := hj
      rcases (show j = 0 ∨ j = 1 ∨ j = 2 ∨ j = 3 ∨ j = 4 ∨ j = 5 ∨ j = 6 ∨ j = 7 ∨ j = 8 ∨ j = 9 ∨ j = 10 ∨ j = 11 ∨ j = 12 ∨ j = 13 ∨ j = 14 ∨ j = 15 ∨ j = 16 ∨ j = 17 ∨ j = 18 ∨ j = 19 ∨ j = 20 ∨ j = 21 ∨ j = 22 ∨ j = 23 ∨ j = 24 ∨ j = 25 ∨ j = 26 ∨ j = 27 ∨ j = 28 ∨ j = 29 ∨ j = 30 ∨ j = 31 by omega) with rfl | rfl | rfl | rfl | rfl | rfl | rfl | rfl | rfl | rfl | rfl | rfl | rfl | rfl | rfl | rfl | rfl | rfl | rfl | rfl | rfl | rfl | rfl | rfl | rfl | rfl | rfl | rfl | rfl | rfl | rfl | rfl
      · exact lv_tableIn (off := 96) (tgt := 136) hx hb dL_law_40 (by decide) (by decide) (by decide) (by decide) (law_0 hlt C1 hA hAd hbA hE hT hK hP hD hS hl)
      · exact lv_tableIn (off := 169) (tgt := 209) hx hb dL_law_40 (by decide) (by decide) (by decide) (by decide) (law_1 hlt C1 hA hAd hbA hE hT hK hP hD hS hl)
      · exact lv_tableIn (off := 194) (tgt := 234) hx hb dL_law_40 (by decide) (by decide) (by decide) (by decide) (law_2 hlt C1 hA hAd hbA hE hT hK hP hD hS hl)
      · exact lv_tableIn (off := 207) (tgt := 247) hx hb dL_law_40 (by decide) (by decide) (by decide) (by decide) (law_3 hlt C1 hA hAd hbA hE hT hK hP hD hS hl)
      · exact lv_tableIn (off := 220) (tgt := 260) hx hb dL_law_40 (by decide) (by decide) (by decide) (by decide) (law_4 hlt C1 hA hAd hbA hE hT hK hP hD hS hl)
      · exact lv_tableIn (off := 276) (tgt := 316) hx hb dL_law_40 (by decide) (by decide) (by decide) (by decide) (law_5 hlt C1 hA hAd hbA hE hT hK hP hD hS hl)
      · exact lv_tableIn (off := 344) (tgt := 384) hx hb dL_law_40 (by decide) (by decide) (by decide) (by decide) (law_6 hlt C1 hA hAd hbA hE hT hK hP hD hS hl)
      · exact lv_tableIn (off := 424) (tgt := 464) hx hb dL_law_40 (by decide) (by decide) (by decide) (by decide) (law_7 hlt C1 hA hAd hbA hE hT hK hP hD hS hl)
      · exact lv_tableIn (off := 516) (tgt := 556) hx hb dL_law_40 (by decide) (by decide) (by decide) (by decide) (law_8 hlt C1 hA hAd hbA hE hT hK hP hD hS hl)
      · exact lv_tableIn (off := 596) (tgt := 636) hx hb dL_law_40 (by decide) (by decide) (by decide) (by decide) (law_9 hlt C1 hA hAd hbA hE hT hK hP hD hS hl)
      · exact lv_tableIn (off := 688) (tgt := 728) hx hb dL_law_40 (by decide) (by decide) (by decide) (by decide) (law_10 hlt C1 hA hAd hbA hE hT hK hP hD hS hl)
      · exact lv_tableIn (off := 744) (tgt := 784) hx hb dL_law_40 (by decide) (by decide) (by decide) (by decide) (law_11 hlt C1 hA hAd hbA hE hT hK hP hD hS hl)
      · exact lv_tableIn (off := 800) (tgt := 840) hx hb dL_law_40 (by decide) (by decide) (by decide) (by decide) (law_12 hlt C1 hA hAd hbA hE hT hK hP hD hS hl)
      · exact lv_tableIn (off := 880) (tgt := 920) hx hb dL_law_40 (by decide) (by decide) (by decide) (by decide) (law_13 hlt C1 hA hAd hbA hE hT hK hP hD hS hl)
      · exact lv_tableIn (off := 972) (tgt := 1012) hx hb dL_law_40 (by decide) (by decide) (by decide) (by decide) (law_14 hlt C1 hA hAd hbA hE hT hK hP hD hS hl)
      · exact lv_tableIn (off := 1028) (tgt := 1068) hx hb dL_law_40 (by decide) (by decide) (by decide) (by decide) (law_15 hlt C1 hA hAd hbA hE hT hK hP hD hS hl)
      · exact lv_tableIn (off := 1084) (tgt := 1124) hx hb dL_law_40 (by decide) (by decide) (by decide) (by decide) (law_16 hlt C1 hA hAd hbA hE hT hK hP hD hS hl)
      · exact lv_tableIn (off := 1152) (tgt := 1192) hx hb dL_law_40 (by decide) (by decide) (by decide) (by decide) (law_17 hlt C1 hA hAd hbA hE hT hK hP hD hS hl)
      · exact lv_tableIn (off := 1227) (tgt := 1267) hx hb dL_law_40 (by decide) (by decide) (by decide) (by decide) (law_18 hlt C1 hA hAd hbA hE hT hK hP hD hS hl)
      · exact lv_tableIn (off := 1283) (tgt := 1323) hx hb dL_law_40 (by decide) (by decide) (by decide) (by decide) (law_19 hlt C1 hA hAd hbA hE hT hK hP hD hS hl)
      · exact lv_tableOut (tgt := 1348) hx hb dL_law_40 (by decide) (by decide) (law_tail C1 hAd hbA (Nat.le_of_ble_eq_true rfl) (Nat.le_of_ble_eq_true rfl) hS (lv_sub hl [0, 4] rfl))
      · exact lv_tableOut (tgt := 1348) hx hb dL_law_40 (by decide) (by decide) (law_tail C1 hAd hbA (Nat.le_of_ble_eq_true rfl) (Nat.le_of_ble_eq_true rfl) hS (lv_sub hl [0, 4] rfl))
      · exact lv_tableOut (tgt := 1348) hx hb dL_law_40 (by decide) (by decide) (law_tail C1 hAd hbA (Nat.le_of_ble_eq_true rfl) (Nat.le_of_ble_eq_true rfl) hS (lv_sub hl [0, 4] rfl))
      · exact lv_tableOut (tgt := 1348) hx hb dL_law_40 (by decide) (by decide) (law_tail C1 hAd hbA (Nat.le_of_ble_eq_true rfl) (Nat.le_of_ble_eq_true rfl) hS (lv_sub hl [0, 4] rfl))
      · exact lv_tableOut (tgt := 1348) hx hb dL_law_40 (by decide) (by decide) (law_tail C1 hAd hbA (Nat.le_of_ble_eq_true rfl) (Nat.le_of_ble_eq_true rfl) hS (lv_sub hl [0, 4] rfl))
      · exact lv_tableOut (tgt := 1348) hx hb dL_law_40 (by decide) (by decide) (law_tail C1 hAd hbA (Nat.le_of_ble_eq_true rfl) (Nat.le_of_ble_eq_true rfl) hS (lv_sub hl [0, 4] rfl))
      · exact lv_tableOut (tgt := 1348) hx hb dL_law_40 (by decide) (by decide) (law_tail C1 hAd hbA (Nat.le_of_ble_eq_true rfl) (Nat.le_of_ble_eq_true rfl) hS (lv_sub hl [0, 4] rfl))
      · exact lv_tableOut (tgt := 1348) hx hb dL_law_40 (by decide) (by decide) (law_tail C1 hAd hbA (Nat.le_of_ble_eq_true rfl) (Nat.le_of_ble_eq_true rfl) hS (lv_sub hl [0, 4] rfl))
      · exact lv_tableOut (tgt := 1348) hx hb dL_law_40 (by decide) (by decide) (law_tail C1 hAd hbA (Nat.le_of_ble_eq_true rfl) (Nat.le_of_ble_eq_true rfl) hS (lv_sub hl [0, 4] rfl))
      · exact lv_tableOut (tgt := 1348) hx hb dL_law_40 (by decide) (by decide) (law_tail C1 hAd hbA (Nat.le_of_ble_eq_true rfl) (Nat.le_of_ble_eq_true rfl) hS (lv_sub hl [0, 4] rfl))
      · exact lv_tableOut (tgt := 1348) hx hb dL_law_40 (by decide) (by decide) (law_tail C1 hAd hbA (Nat.le_of_ble_eq_true rfl) (Nat.le_of_ble_eq_true rfl) hS (lv_sub hl [0, 4] rfl))
      · exact lv_tableOut (tgt := 1348) hx hb dL_law_40 (by decide) (by decide) (law_tail C1 hAd hbA (Nat.le_of_ble_eq_true rfl) (Nat.le_of_ble_eq_true rfl) hS (lv_sub hl [0, 4] rfl))
set_option maxHeartbeats 4000000 in
theorem lw_walk (l : Launch) (hlt : l.stackTraces = false) (b : Addr) (xs : List Int32) : MetFree l x (headSpec (Jvm.Cond.code x code maxLocals ret :: tables_1) room_1) (lw_P b xs) (fun _ _ _ _ _ => True) lw_Q := by
  refine MetFree.of_bodyS (code := code) (maxLocals := maxLocals) (ret := ret) (by decide) ?_ ?_
  · intro args s m h hn
    obtain ⟨meth, c, h1, h2, h3, h4, h5, h6, -, -⟩ := Cond.code_spec hn (atoms_spec (ws := Jvm.Cond.code x code maxLocals ret :: tables_1) h _ List.mem_cons_self)
    exact ⟨meth, c, h1, h2, h3, h4, h5, h6⟩
  · intro p e s m args below meth c s₁ B hml0 hP _
    obtain ⟨rfl, hx, hbd, hgv⟩ := hP
    obtain ⟨scr, harrAt, hlist, hof, hsmall⟩ := hx
    obtain ⟨hcb, hkn, -, -⟩ := State.arrayAt?_spec harrAt
    have hown : s.vm.findClass R_law = some m.cls := findClass_of_methodNamed B.named
    have hts0 : ∀ c ∈ (Jvm.Cond.code x code maxLocals ret :: tables_1), c.before #[Value.ref b] s = true := atoms_spec (ws := Jvm.Cond.code x code maxLocals ret :: tables_1) B.pre
    have hts : ∀ w ∈ lw_tbl, w.before #[Value.ref b] s = true := k2_hts_sels lw_privs (fun w hw => hts0 w (List.mem_cons_of_mem _ hw)) lw_privs_ok
    have hml : c.maxLocals = 7 := B.maxLocals_eq (hts0 _ List.mem_cons_self)
    have X₀ : Stand p l e room_1 s m #[Value.ref b] below meth c s₁ [] 0 0 := Stand.of_body B
    have hh0 : s₁.heap = s.heap := by rw [B.state]; rfl
    have hsz : scr.slots.size = xs.length := by rw [← Array.length_toList, hlist, List.length_map]
    have hval : ∀ j : Nat, j < xs.length → scr.slots[j]? = some (.int (xs.getD j 0)) := fun j hj => by
      rw [← Array.getElem?_toList, hlist]
      simp [hj]
    have hbl : b < s.heap.size := (Array.getElem?_eq_some_iff.mp hcb).1
    have hX : va_X b xs.length (fun j => xs.getD j 0) s s.heap := ⟨scr, hcb, hof, hkn, hsz, hval⟩
    have K : W p l e room_1 s m #[Value.ref b] below meth c s₁.heap [] 0 0 (lw_Z below #[Value.ref b] s) (entryFrame m ([Value.ref b] : List Value).toArray 7) := by
      rw [hh0]
      exact whole_start l hlt hbd ⟨B.exec, B.bytes, B.returns, hml, hown, hts, hX, hbl, B.notSynchronized, hgv⟩
    obtain ⟨t, a1, o, b1, b2, b3⟩ := K s₁ rfl X₀
    exact ⟨t, o, a1, b1, b2, b3⟩
theorem lw_pre_spec {args : Array Value} {s : State} (h : (Jvm.Cond.and given_1 narrow_1).before args s = true) (hr : rest_1_c.before args s = true) : ∃ (b : Addr) (xs : List Int32), lw_P b xs args s := by
  have hs := flat_of_before _ h
  have hq := flat_of_before _ hr
  have hc : (Cond.count 1).before args s = true := hs _ (by decide +kernel)
  have harr : (Cond.arrayOf (.arg 0) .int).before args s = true := hs _ (by decide +kernel)
  have hle : (Cond.le (.length (.arg 0)) (.int 6)).before args s = true := hs _ (by decide +kernel)
  have hlen : (Cond.isInt (.length (.arg 0))).before args s = true := hq _ (by decide +kernel)
  have hall : (Cond.all (.arg 0) (.isInt (.elem (.arg 0) (.index 0)))).before args s = true := hq _ (by decide +kernel)
  obtain ⟨b, xs, hb, hx⟩ := State.ints_of_pre rfl harr hlen hall
  have hsm : xs.length < 2 ^ 31 := hx.choose_spec.2.2.2
  have hev : (Term.length (.arg 0)).eval args s none [] s = some (.int xs.length.toInt32) := hx.length_eval hb
  have hv := Cond.le_ints hev (show (Term.int 6).eval args s none [] s = some (.int 6) from rfl)
  have hd : xs.length.toInt32 ≤ 6 := by
    simpa [Cond.before, Cond.holds, hv] using hle
  have hN : xs.length ≤ 6 := (Int32.ofNat_le_ofNat hsm (by decide)).mp (show Int32.ofNat xs.length ≤ Int32.ofNat 6 from hd)
  exact ⟨b, xs, Cond.one_arg hc (show args[0]? = some (.ref b) from hb), hx, hN, h⟩
theorem lw_comes (l : Launch) (hlt : l.stackTraces = false) : Comes l x (Jvm.Cond.code x code maxLocals ret :: tables_1) room_1 (fun tb e args s => Calls_1 tb e args s ∧ rest_1 tb e args s ∧ Pre_1 tb e args s)
    (fun _ _ args s o t => lw_Q args s o t) := by
  intro p e ha hc hk s m args below hf hfit hheap happ hpre
  obtain ⟨b, xs, hP⟩ := lw_pre_spec hpre.2.2 hpre.2.1
  obtain ⟨k, o, h1, h2, h3, hQ⟩  := lw_walk l hlt b xs p e ha hc hk s m args below hf ((Spec.applies_iff_loose hf).mp happ).1 hP trivial
  exact ⟨k, o, h1, h2, h3, hQ⟩
theorem lw_frame {s t : State} {o : Outcome} {args : Array Value} (h : Framed s o t [] 600002 7302232) :
    Framed s o t (fieldLocs frame_1_writes args s ++ arrayLocs frame_1_arrays args s ++ staticLocs frame_1_statics s) 600002 7302232 := h
theorem lw_limb (L : Cond) (hL : ∀ (args : Array Value) (s t : State), L.after args s (.returned (some (.int 1))) t = true) :
    ArmFor flags0 classFile x code maxLocals ret World_1 tables_1 room_1 Calls_1 rest_1 Pre_1
      (fun tb e a s o t => postC L tb e a s o t ∧ Framed s o t (fieldLocs frame_1_writes a s ++ arrayLocs frame_1_arrays a s ++ staticLocs frame_1_statics s) 600002 7302232) := by
  intro l hfl _ _ p e ha hc hk s m args below hf hfit hheap happ hpre
  have hlt : l.stackTraces = false := by
    show (!l.flags.contains noTraceFlag) = false
    rw [hfl]
    decide +kernel
  obtain ⟨k, o, h1, h2, h3, rfl, hF⟩ := lw_comes l hlt p e ha hc hk s m args below hf hfit hheap happ hpre
  exact ⟨k, _, h1, h2, h3, hL args s _, lw_frame hF⟩
theorem i_vc : Claimed_1_1 ∧ Claimed_1_2 := ⟨lw_limb limb_1_1 (fun args s t => by simp [limb_1_1, Cond.after, Cond.holds, Cond.value]), lw_limb limb_1_2 (fun args s t => Cond.after_iff.mpr (by
  first | (rw [show limb_1_2 = Cond.eq .result (.int 1) from rfl, Cond.eq_ints (x := 1) (y := 1) rfl rfl]; simp; done) | (simp [limb_1_2, Cond.value, Term.eval]; done)))⟩
