/-- the good words of the tables: every method of this claim has them -/
def wU : List Cond := lw_tbl.filter goodWord
theorem mU {w : Cond} (h : w ∈ lw_tbl) (g : goodWord w = true) : w ∈ wU := List.mem_filter.mpr ⟨h, g⟩
theorem wU_in : ∀ w ∈ wU, w ∈ lw_tbl := fun _ h => (List.mem_filter.mp h).1
theorem tin_0 : ∀ w ∈ k2_sels lw_privs, w ∈ lw_tbl := fun _ h => List.mem_append_left _ h
theorem tin_1 : ∀ w ∈ tables_1_1, w ∈ lw_tbl := fun _ h => List.mem_append_right _ (List.mem_append_left _ h)
theorem tin_2 : ∀ w ∈ tables_1_2, w ∈ lw_tbl := fun _ h => List.mem_append_right _ (List.mem_append_right _ (List.mem_append_left _ h))
theorem tin_3 : ∀ w ∈ tables_1_3, w ∈ lw_tbl := fun _ h => List.mem_append_right _ (List.mem_append_right _ (List.mem_append_right _ (List.mem_append_left _ h)))
theorem tin_4 : ∀ w ∈ tables_1_4, w ∈ lw_tbl := fun _ h => List.mem_append_right _ (List.mem_append_right _ (List.mem_append_right _ (List.mem_append_right _ (List.mem_append_left _ h))))
theorem tin_5 : ∀ w ∈ tables_1_5, w ∈ lw_tbl := fun _ h => List.mem_append_right _ (List.mem_append_right _ (List.mem_append_right _ (List.mem_append_right _ (List.mem_append_right _ (List.mem_append_left _ h)))))
theorem tin_6 : ∀ w ∈ tables_1_6, w ∈ lw_tbl := fun _ h => List.mem_append_right _ (List.mem_append_right _ (List.mem_append_right _ (List.mem_append_right _ (List.mem_append_right _ (List.mem_append_right _ (List.mem_append_left _ h))))))
theorem tin_7 : ∀ w ∈ tables_1_7, w ∈ lw_tbl := fun _ h => List.mem_append_right _ (List.mem_append_right _ (List.mem_append_right _ (List.mem_append_right _ (List.mem_append_right _ (List.mem_append_right _ (List.mem_append_right _ (List.mem_append_left _ h)))))))
theorem tin_8 : ∀ w ∈ tables_1_8, w ∈ lw_tbl := fun _ h => List.mem_append_right _ (List.mem_append_right _ (List.mem_append_right _ (List.mem_append_right _ (List.mem_append_right _ (List.mem_append_right _ (List.mem_append_right _ (List.mem_append_right _ h)))))))
theorem gU {w : Cond} (h : w ∈ wU) : w ∈ wU ∧ ((w.onTables && w.keeps) = true ∨ ∃ ty, w = .arrayClass ty) := ⟨h, good_of_word (List.mem_filter.mp h).2⟩
theorem goC {c : Cond} (h : c ∈ wU) : GoodIn wU (c :: wU) := fun w hw => (List.mem_cons.mp hw).elim (fun e => by rw [e]; exact gU h) (fun h => gU h)
theorem goV {own C : String} {k : Nat} {y : MethodName} {c : Cond} (h1 : Cond.methodLink own k y ∈ wU) (h2 : Cond.instanceMethod y ∈ wU) (h3 : Cond.selects C y y ∈ wU) (h4 : Cond.initialized C ∈ wU) (h5 : c ∈ wU) : GoodIn wU (wsV own k C y (c :: wU)) := by
  intro w hw
  unfold wsV at hw
  rcases List.mem_append.mp hw with h | h
  · simp only [List.mem_cons, List.not_mem_nil, or_false] at h
    rcases h with rfl | rfl | rfl | rfl
    · exact gU h1
    · exact gU h2
    · exact gU h3
    · exact gU h4
  · exact goC h5 w h
theorem goS {own : String} {k : Nat} {y : MethodName} {c : Cond} (h1 : Cond.methodLink own k y ∈ wU) (h2 : Cond.static y ∈ wU) (h3 : Cond.initialized own ∈ wU) (h5 : c ∈ wU) : GoodIn wU (wsS own k y (c :: wU)) := by
  intro w hw
  unfold wsS at hw
  rcases List.mem_append.mp hw with h | h
  · simp only [List.mem_cons, List.not_mem_nil, or_false] at h
    rcases h with rfl | rfl | rfl
    · exact gU h1
    · exact gU h2
    · exact gU h3
  · exact goC h5 w h
theorem goSW {own : String} {k : Nat} {y : MethodName} {c : Cond} (h1 : Cond.methodLink own k y ∈ wU) (h2 : Cond.static y ∈ wU) (h3 : Cond.initialized y.cls ∈ wU) (h5 : c ∈ wU) : GoodIn wU (va_wsS own k y (c :: wU)) := by
  intro w hw
  unfold va_wsS at hw
  rcases List.mem_append.mp hw with h | h
  · simp only [List.mem_cons, List.not_mem_nil, or_false] at h
    rcases h with rfl | rfl | rfl
    · exact gU h1
    · exact gU h2
    · exact gU h3
  · exact goC h5 w h
theorem w_heap {p : Program} {l : Launch} {e : Env} {R : Room} {s : State} {m : MethodId} {args : Array Value} {below : List Frame} {meth : Method} {c : Code} {H : Heap} {locs : List Loc} {cells slots : Nat} {Q : State → Prop} {g : JFrame} (h : H = s.heap) (k : W p l e R s m args below meth c H locs cells slots Q g) : W p l e R s m args below meth c s.heap locs cells slots Q g := by rw [← h]; exact k
theorem upd_z (k : Nat) : upd (fun _ => (0 : Int32)) k 0 = fun _ => 0 := by
  funext j
  unfold upd
  split <;> rfl
/-- words of the tables that aren't good, with what keeps them -/
def nKind (w : Cond) : Bool := match w with
  | .methodLinkNest .. => true
  | .castable .. => true
  | .declares _ => true
  | _ => false
theorem n_warm {L : List Cond} (hL : ∀ w ∈ L, nKind w = true) {s U : State} (hW : s.WarmedH U.vm) (h : ∀ w ∈ L, va_Nw w s) : ∀ w ∈ L, va_Nw w U := by
  intro w hw
  have h1 := hL w hw
  have h2 := h w hw
  cases w with
  | methodLinkNest a b c d => exact va_Nw.warmM hW h2
  | castable a b => exact va_Nw.warmC hW h2
  | declares a => exact va_Nw.warmD hW h2
  | _ => simp [nKind] at h1
theorem n_same {L : List Cond} (hL : ∀ w ∈ L, nKind w = true) {s U : State} (hv : s.vm = U.vm) (h : ∀ w ∈ L, va_Nw w s) : ∀ w ∈ L, va_Nw w U := by
  intro w hw
  have h1 := hL w hw
  have h2 := h w hw
  cases w with
  | methodLinkNest a b c d => exact va_Nw.same rfl hv h2
  | castable a b => exact va_Nw.same rfl hv h2
  | declares a => exact va_Nw.same rfl hv h2
  | _ => simp [nKind] at h1
theorem nU_kind : ∀ w ∈ nU, nKind w = true := by decide +kernel
def En (U : State) : Prop := (∀ w ∈ nU, va_Nw w U) ∧ va_AO "SpineTables$Table" U
theorem En.warm {s U : State} (hW : s.WarmedH U.vm) (h : En s) : En U := ⟨n_warm nU_kind hW h.1, h.2.moved hW.alike⟩
theorem En.same {s U : State} (hv : s.vm = U.vm) (h : En s) : En U := ⟨n_same nU_kind hv h.1, h.2.moved (by rw [hv]; exact Vm.Alike.refl _)⟩
abbrev P5 (dC : Nat → ClassId) (dI : Nat → Nat → Nat) (ws : va_W) (tys : List (ClassId × FieldType)) (sz : Nat) (U : State) : Prop := U.heap.size = sz ∧ va_P (dC, dI) classes ws U.heap ∧ va_K (dC, dI) classes tys U ∧ va_D (fun _ => True) ws ∧ En U
abbrev P3 (dC : Nat → ClassId) (dI : Nat → Nat → Nat) (A : Nat → Prop) (ws : va_W) (tys : List (ClassId × FieldType)) (t : State) : Prop := va_P (dC, dI) classes ws t.heap ∧ va_K (dC, dI) classes tys t ∧ va_D A ws
/-- what a throw of tableAt needs of the heap -/
def Tn (A : Nat → Prop) (sa : Nat) (U : State) : Prop := vk_R "SpineTables" 274 "no such table" sa U ∧ vx_Zq Bundle.tN "UNASSIGNED_STACK" Bundle.steD A U U.heap ∧ vx_Zq Bundle.tN "SUPPRESSED_SENTINEL" Bundle.listD A U U.heap
theorem Tn.call {A B : Nat → Prop} {sa : Nat} {s : State} {H : Heap} {locs : List Loc} (h : Tn A sa s) (hS : va_S A s.heap H locs) (hF : ∀ q, B q → A q) : ∀ U : State, U.heap = H → s.WarmedH U.vm → Tn B sa U := fun U hU hW => ⟨vk_R.warm hW h.1, by rw [hU]; exact ((h.2.1.kept hS.2.1).moved hW.alike).narrow hF, by rw [hU]; exact ((h.2.2.kept hS.2.1).moved hW.alike).narrow hF⟩
theorem blind5 {av : List Value} {dC : Nat → ClassId} {dI : Nat → Nat → Nat} {ws : va_W} {tys : List (ClassId × FieldType)} {sz : Nat} : FrameBlind (va_Pc av (fun U => P5 dC dI ws tys sz U)) := by
  intro a U g mk q
  obtain ⟨q0, q1, qP, qK, qD, qE⟩ := q
  exact ⟨q0, q1, qP, va_K.moved (u := U) (U := U.calling g mk a) (Vm.Alike.refl U.vm) qK, qD, En.same (s := U) (U := U.calling g mk a) rfl qE⟩
theorem blind6 {av : List Value} {dC : Nat → ClassId} {dI : Nat → Nat → Nat} {ws : va_W} {tys : List (ClassId × FieldType)} {sz : Nat} {A : Nat → Prop} {sa : Nat} : FrameBlind (va_Pc av (fun U => P5 dC dI ws tys sz U ∧ Tn A sa U)) := by
  intro a U g mk q
  obtain ⟨q0, ⟨q1, qP, qK, qD, qE⟩, qT⟩ := q
  exact ⟨q0, ⟨q1, qP, va_K.moved (u := U) (U := U.calling g mk a) (Vm.Alike.refl U.vm) qK, qD, En.same (s := U) (U := U.calling g mk a) rfl qE⟩, vk_R.same (u := U) (U := U.calling g mk a) rfl qT.1, vx_Zq.moved (u := U) (U := U.calling g mk a) (Vm.Alike.refl U.vm) qT.2.1, vx_Zq.moved (u := U) (U := U.calling g mk a) (Vm.Alike.refl U.vm) qT.2.2⟩
theorem pre5 {dC : Nat → ClassId} {dI : Nat → Nat → Nat} {ws : va_W} {tys : List (ClassId × FieldType)} {A : Nat → Prop} {s U : State} {H : Heap} (hU : U.heap = H) (hW : s.WarmedH U.vm) (hP : va_P (dC, dI) classes ws H) (hK : va_K (dC, dI) classes tys s) (hD : va_D A ws) (hE : En s) : P5 dC dI ws tys H.size U := ⟨by rw [hU], by rw [hU]; exact hP, va_K.moved hW.alike hK, hD.weaken (fun _ _ _ _ => trivial), hE.warm hW⟩
theorem pre6 {dC : Nat → ClassId} {dI : Nat → Nat → Nat} {ws : va_W} {tys : List (ClassId × FieldType)} {A B : Nat → Prop} {sa : Nat} {s U : State} {H : Heap} (hU : U.heap = H) (hW : s.WarmedH U.vm) (hP : va_P (dC, dI) classes ws H) (hK : va_K (dC, dI) classes tys s) (hD : va_D A ws) (hE : En s) (hT : ∀ U : State, U.heap = H → s.WarmedH U.vm → Tn B sa U) : P5 dC dI ws tys H.size U ∧ Tn B sa U := ⟨pre5 hU hW hP hK hD hE, hT U hU hW⟩
/-- a callee that always throws -/
theorem vy_callX {p : Program} {l : Launch} {e : Env} {R : Room} {s : State} {m : MethodId} {args : Array Value} {below : List Frame} {meth : Method} {c : Code} {H : Heap} {locs : List Loc} {cells slots : Nat} {Q : State → Prop} {mc ms : Nat} {free : Addr → Prop} {A0 : Nat → Prop} {H0 : Heap} {pc : Nat} {ls : Array Slot} {st0 rest : List Value} {SX : Type} {px : SX → Prop} {BX : String → SX → State → Prop} {AX : Nat → Prop}
    (hr : vx_Run p l e R s m args below meth c H locs cells slots mc ms (F0 m pc ls st0) rest (fun _ _ _ => False) (vx_X px BX AX) free) (hS : va_S A0 H0 H locs) (hf : ∀ q, free q → A0 q) (hAX : ∀ q, q < H.size → AX q → A0 q)
    (kx : ∀ (E : String) (ce : Cell) (q9 : Addr) (u : SX) (t : State) (H1 : Heap) (locs1 : List Loc), t.heap = H1 → s.vm.Alike t.vm → px u → BX E u t → H.size ≤ H1.size → (∀ q : Nat, q < H.size → ¬ AX q → H1[q]? = H[q]?) → va_S A0 H0 H1 locs1 → H1[q9]? = some ce → ce.vm = .none → s.vm.findClass E = some ce.cls → vx_W p l e R s m args below meth c H1 locs1 (cells + mc) (slots + ms) Q (F0 m pc ls rest) q9) : W p l e R s m args below meth c H locs cells slots Q (F0 m pc ls st0) := by
  intro T hT X
  rcases hr T hT X with ⟨v, st₀, t, T', L, h0, X', hL, e1, e2, hF, st⟩ | ⟨q, st₀, t, T', L, E, ce, h0, X', hL, e1, e2, ⟨u, hp, hb, hF⟩, hce, hcv, hcl, st⟩
  · exact hF.elim
  · obtain ⟨k1, k2, k3⟩ := vx_keep h0 e1 hS hAX hf hL hF
    obtain ⟨t2, a1, b1⟩ := kx E ce q u t T'.heap (locs ++ L) e1.symm (by rw [← e2]; exact X'.warmed.alike) hp hb k1 k2 k3 (by rw [e1]; exact hce) hcv hcl T' rfl X'
    exact ⟨t2, st.trans a1, b1⟩
theorem thr_F {A : Nat → Prop} {s t : State} {H : Heap} {locs : List Loc} (hS : va_S A s.heap H locs) (hz : H.size ≤ t.heap.size) (hq : ∀ q : Nat, q < H.size → t.heap[q]? = H[q]?) : va_F A s t := ⟨Nat.le_trans hS.1 hz, fun q h1 h2 => (hq q (Nat.lt_of_lt_of_le h1 hS.1)).trans (hS.2.1 q h1 h2)⟩
theorem thr_ot : ∀ w ∈ Cond.classLink "SpineTables" 177 "java/lang/IndexOutOfBoundsException" :: Cond.initialized "java/lang/IndexOutOfBoundsException" :: vx_atS "SpineTables" 181 "java/lang/IndexOutOfBoundsException" ["java/lang/RuntimeException", "java/lang/Exception"], vx_ot w = true := by decide +kernel
theorem thr_in : ∀ w ∈ (vx_atS "SpineTables" 181 "java/lang/IndexOutOfBoundsException" ["java/lang/RuntimeException", "java/lang/Exception"]).filter goodWord, w ∈ lw_tbl := by decide +kernel
theorem thr_rest : ∀ w ∈ (vx_atS "SpineTables" 181 "java/lang/IndexOutOfBoundsException" ["java/lang/RuntimeException", "java/lang/Exception"]).filter (fun w => !goodWord w), w ∈ ([Cond.castable "java/lang/IndexOutOfBoundsException" "java/lang/IndexOutOfBoundsException", Cond.declares ⟨"java/lang/RuntimeException", "<init>", "(Ljava/lang/String;)V"⟩, Cond.declares ⟨"java/lang/Exception", "<init>", "(Ljava/lang/String;)V"⟩, Cond.declares ⟨"java/lang/Throwable", "<init>", "(Ljava/lang/String;)V"⟩] : List Cond) := by decide +kernel
theorem thr_at {args : Array Value} {s : State} (hts : ∀ w ∈ wU, w.before args s = true) (hE : En s) : ∀ w ∈ vx_atS "SpineTables" 181 "java/lang/IndexOutOfBoundsException" ["java/lang/RuntimeException", "java/lang/Exception"], w.before args s = true :=
  vx_hat (fun w h => hts w (mU (thr_in w h) (List.mem_filter.mp h).2)) thr_rest (vx_c (va_Nw.use rfl (hE.1 _ nU_cast)) (vx_c (va_Nw.use rfl (hE.1 _ nU_d1)) (vx_c (va_Nw.use rfl (hE.1 _ nU_d2)) (vx_c (va_Nw.use rfl (hE.1 _ nU_d3)) vx_n))))
theorem in8 {t : Int32} (h1 : ¬ t < 0) (h2 : ¬ 8 ≤ t) : vp_in t 8 := by
  refine vp_in_iff.mpr ?_
  have a1 : ¬ t.toInt < (0 : Int32).toInt := fun h => h1 (Int32.lt_iff_toInt_lt.mpr h)
  have a2 : ¬ (8 : Int32).toInt ≤ t.toInt := fun h => h2 (Int32.le_iff_toInt_le.mpr h)
  have b1 : (0 : Int32).toInt = 0 := by decide
  have b2 : (8 : Int32).toInt = 8 := by decide
  omega
def cutA (k : Int32) : Int32 := if k < 0 then -1 else if k ≤ 0 then 0 - k else -1
