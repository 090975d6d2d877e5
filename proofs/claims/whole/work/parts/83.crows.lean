/-! constructors: a walk over cells that come one by one -/
abbrev Cz : Type := (Program × Launch × Env × Room) × (State × MethodId × Array Value × List Frame) × (Method × Code × (State → Prop)) × (va_G × (Nat → Prop) × (ClassId × ClassId × ClassId))
def tys3 (T3 : ClassId × ClassId × ClassId) : List (ClassId × FieldType) := [(T3.1, .int), (T3.2.1, .boolean), (T3.2.2, .array .int)]
def nwc : List Cond := [.methodLinkNest RX6 18 yX2_init "LentGrannies", .methodLinkNest RX6 25 yX5_init "LentGrannies", .methodLinkNest RX6 42 yX0_init "LentGrannies", .methodLinkNest RX6 58 yX1_init "LentGrannies", .methodLinkNest RX2 11 yX5_init "LentGrannies", .methodLinkNest RX6 65 yX3_init "LentGrannies", .methodLinkNest RX3 11 yX5_init "LentGrannies"]
def CE (U : State) : Prop := va_AOA .int U ∧ ∀ w ∈ nwc, va_Nw w U
theorem CE.warm {s U : State} (hW : s.WarmedH U.vm) (h : CE s) : CE U := by
  refine ⟨Jvm.Stand.arrayOver_alikeB hW.alike h.1, ?_⟩
  have h := h.2
  refine List.forall_mem_cons.mpr ⟨va_Nw.warmM hW (h _ (List.mem_of_getElem? (i := 0) rfl)), List.forall_mem_cons.mpr ⟨va_Nw.warmM hW (h _ (List.mem_of_getElem? (i := 1) rfl)), List.forall_mem_cons.mpr ⟨va_Nw.warmM hW (h _ (List.mem_of_getElem? (i := 2) rfl)), List.forall_mem_cons.mpr ⟨va_Nw.warmM hW (h _ (List.mem_of_getElem? (i := 3) rfl)), List.forall_mem_cons.mpr ⟨va_Nw.warmM hW (h _ (List.mem_of_getElem? (i := 4) rfl)), List.forall_mem_cons.mpr ⟨va_Nw.warmM hW (h _ (List.mem_of_getElem? (i := 5) rfl)), List.forall_mem_cons.mpr ⟨va_Nw.warmM hW (h _ (List.mem_of_getElem? (i := 6) rfl)), fun _ h => absurd h List.not_mem_nil⟩⟩⟩⟩⟩⟩⟩
theorem CE.same {s U : State} (e : s.vm = U.vm) (h : CE s) : CE U := by
  refine ⟨Jvm.Stand.arrayOver_alikeB (by rw [e]; exact Vm.Alike.refl U.vm) h.1, ?_⟩
  have h := h.2
  refine List.forall_mem_cons.mpr ⟨va_Nw.same rfl e (h _ (List.mem_of_getElem? (i := 0) rfl)), List.forall_mem_cons.mpr ⟨va_Nw.same rfl e (h _ (List.mem_of_getElem? (i := 1) rfl)), List.forall_mem_cons.mpr ⟨va_Nw.same rfl e (h _ (List.mem_of_getElem? (i := 2) rfl)), List.forall_mem_cons.mpr ⟨va_Nw.same rfl e (h _ (List.mem_of_getElem? (i := 3) rfl)), List.forall_mem_cons.mpr ⟨va_Nw.same rfl e (h _ (List.mem_of_getElem? (i := 4) rfl)), List.forall_mem_cons.mpr ⟨va_Nw.same rfl e (h _ (List.mem_of_getElem? (i := 5) rfl)), List.forall_mem_cons.mpr ⟨va_Nw.same rfl e (h _ (List.mem_of_getElem? (i := 6) rfl)), fun _ h => absurd h List.not_mem_nil⟩⟩⟩⟩⟩⟩⟩
def CW (Z : Cz) (ls : Array Slot) (pc : Nat) (st : List Value) (w : va_W) (cells slots : Nat) : Prop := ∀ (H : Heap) (locs : List Loc), va_P Z.2.2.2.1 vwCl w H → va_D Z.2.2.2.2.1 w → va_S Z.2.2.2.2.1 Z.2.1.1.heap H locs →
  W Z.1.1 Z.1.2.1 Z.1.2.2.1 Z.1.2.2.2 Z.2.1.1 Z.2.1.2.1 Z.2.1.2.2.1 Z.2.1.2.2.2 Z.2.2.1.1 Z.2.2.1.2.1 H locs cells slots Z.2.2.1.2.2 (F0 Z.2.1.2.1 pc ls st)
def CZ (Z : Cz) (M : Mt) : Prop := Z.1.1.tables.exec = Jvm.exec ∧ Z.2.2.1.2.1.code = M.2.1 ∧ Z.2.2.1.1.sig.returnType = M.2.2.2 ∧ Z.2.2.1.2.1.maxLocals = M.2.2.1 ∧ Z.2.1.1.vm.findClass M.1.cls = some Z.2.1.2.1.cls ∧ (∀ w ∈ wAll, w.before Z.2.1.2.2.1 Z.2.1.1 = true) ∧ Z.2.2.1.1.locks = false ∧ va_K Z.2.2.2.1 vwCl (tys3 Z.2.2.2.2.2) Z.2.1.1 ∧ CE Z.2.1.1 ∧ (∀ q, Z.2.1.1.heap.size ≤ q → Z.2.2.2.2.1 q)
def CT (l : Launch) (D : va_G) (T3 : ClassId × ClassId × ClassId) (M : Mt) (as : List Value) (wIn : va_W) (S : Type) (wOut : S → va_W) (rm : Room) : Prop :=
  ∀ sz, Met l M.1 (wsM M) rm (va_Pc as (fun U => U.heap.size = sz ∧ va_P D vwCl wIn U.heap ∧ va_K D vwCl (tys3 T3) U ∧ va_D (fun _ => True) wIn ∧ CE U)) (va_Qv (fun _ : S => True) (fun u t => va_P D vwCl (wOut u) t.heap ∧ va_D (va_A wIn sz) (wOut u)) (va_A wIn sz)) rm.cells rm.slots (va_A wIn sz)
theorem joinL {A0 : Nat → Prop} {D : va_G} {cl : List vw_C} {w w1 : va_W} {x : Nat × va_E} {H H1 : Heap} (hP : va_P D cl (w ++ [x]) H) (hD : va_D A0 (w ++ [x])) (hk : ∀ q : Nat, q < H.size → ¬ va_A [x] H.size q → H1[q]? = H[q]?) (hF : ∀ q, va_A [x] H.size q → A0 q) (hP1 : va_P D cl w1 H1) (hD1 : va_D (va_A [x] H.size) w1) : va_P D cl (w ++ w1) H1 ∧ va_D A0 (w ++ w1) := by
  have inw : ∀ (k : Nat) (q : Nat × va_E), w[k]? = some q → (w ++ [x])[k]? = some q := fun k q h => by rw [List.getElem?_append_left (List.getElem?_eq_some_iff.mp h).1]; exact h
  have inx : (w ++ [x])[w.length]? = some x := by rw [List.getElem?_append_right (Nat.le_refl _), Nat.sub_self]; rfl
  have apart : ∀ (k : Nat) (q : Nat × va_E), w[k]? = some q → q.1 < H.size ∧ ¬ va_A [x] H.size q.1 := by
    intro k q hq
    have hl := (hP k q (inw k q hq)).lt
    refine ⟨hl, fun h => ?_⟩
    rcases h with ⟨k2, e, h⟩ | h
    · have hk2 : k2 < 1 := (List.getElem?_eq_some_iff.mp h).1
      rw [show k2 = 0 by omega] at h
      cases h
      have := hD.1 k w.length q (q.1, e) (inw k q hq) inx rfl
      have := (List.getElem?_eq_some_iff.mp hq).1
      omega
    · omega
  refine ⟨va_P.app (fun k q hq => (hP k q (inw k q hq)).kept (hk q.1 (apart k q hq).1 (apart k q hq).2)) hP1, va_D.app ⟨fun i j p q h1 h2 e => hD.1 i j p q (inw i p h1) (inw j q h2) e, fun k q h => hD.2 k q (inw k q h)⟩ (hD1.weaken (fun k q _ h => hF q.1 h)) (fun i j p q h1 h2 e => ?_)⟩
  exact (apart i p h1).2 (by rw [e]; exact hD1.2 j q h2)
theorem ob_i : Cond.instanceMethod Lib.objectInit ∈ wAll := mT1 (List.mem_of_getElem? (i := 18) rfl) rfl
theorem ob_c : Cond.code Lib.objectInit ⟨#[0xb1]⟩ 1 none ∈ wAll := mT1 (List.mem_of_getElem? (i := 19) rfl) rfl
theorem ac_i : Cond.arrayClass .int ∈ wAll := mT1 (List.mem_of_getElem? (i := 38) rfl) rfl
theorem ac_z : Cond.arrayClass .boolean ∈ wAll := mT1 (List.mem_of_getElem? (i := 202) rfl) rfl
section CROWS
variable {Z : Cz} {M M' : Mt} {ls : Array Slot} {pc : Nat} {st : List Value} {w : va_W} {cells slots : Nat}
theorem cw_aload {vs : List (Nat × Value)} {k : Fin 4} {n i x : Nat} (C : CZ Z M) (hl : lv_has ls n vs) (q : Nat) (hd : decode M.2.1 pc = .ok (.aload_n k, 1)) (hi : (k : Nat) = i) (hq : vs[q]? = some (i, .ref x)) (kk : CW Z ls (pc + 1) (.ref x :: st) w cells slots) : CW Z ls pc st w cells slots := by
  intro H locs hP hD hS
  exact lv_aload_n C.1 C.2.1 hd hi (lv_at hl q hq) (kk H locs hP hD hS)
theorem cw_iload {vs : List (Nat × Value)} {k : Fin 4} {n i : Nat} {x : Int32} (C : CZ Z M) (hl : lv_has ls n vs) (q : Nat) (hd : decode M.2.1 pc = .ok (.iload_n k, 1)) (hi : (k : Nat) = i) (hq : vs[q]? = some (i, .int x)) (kk : CW Z ls (pc + 1) (.int x :: st) w cells slots) : CW Z ls pc st w cells slots := by
  intro H locs hP hD hS
  exact lv_iload_n C.1 C.2.1 hd hi (lv_at hl q hq) (kk H locs hP hD hS)
theorem cw_iconst {n : Int} {v : Int32} (C : CZ Z M) (hd : decode M.2.1 pc = .ok (.iconst n, 1)) (hv : Int32.ofInt n = v) (kk : CW Z ls (pc + 1) (.int v :: st) w cells slots) : CW Z ls pc st w cells slots := fun H locs hP hD hS => lv_iconst C.1 C.2.1 hd hv (kk H locs hP hD hS)
theorem cw_bipush {n : Int} {v : Int32} (C : CZ Z M) (hd : decode M.2.1 pc = .ok (.bipush n, 2)) (hv : (Int8.ofInt n).toInt32 = v) (kk : CW Z ls (pc + 2) (.int v :: st) w cells slots) : CW Z ls pc st w cells slots := fun H locs hP hD hS => lv_bipush C.1 C.2.1 hd hv (kk H locs hP hD hS)
theorem cw_sipush {n : Int} {v : Int32} (C : CZ Z M) (hd : decode M.2.1 pc = .ok (.sipush n, 3)) (hv : (Int16.ofInt n).toInt32 = v) (kk : CW Z ls (pc + 3) (.int v :: st) w cells slots) : CW Z ls pc st w cells slots := fun H locs hP hD hS => lv_sipush C.1 C.2.1 hd hv (kk H locs hP hD hS)
theorem cw_dup {v : Value} (C : CZ Z M) (hd : decode M.2.1 pc = .ok (.dup, 1)) (hv : v.category = 1) (kk : CW Z ls (pc + 1) (v :: v :: st) w cells slots) : CW Z ls pc (v :: st) w cells slots := fun H locs hP hD hS => lv_dup C.1 C.2.1 hd hv (kk H locs hP hD hS)
theorem cw_goto {off : Int} {tgt : Nat} (C : CZ Z M) (hd : decode M.2.1 pc = .ok (.goto off, 3)) (ht : (pc : Int) + off = (tgt : Int)) (kk : CW Z ls tgt st w cells slots) : CW Z ls pc st w cells slots := fun H locs hP hD hS => lv_goto C.1 C.2.1 hd ht (kk H locs hP hD hS)
theorem cw_obj {ix a : Nat} (C : CZ Z M) (hlk : Cond.methodLink M.1.cls ix Lib.objectInit ∈ wAll) (hd : decode M.2.1 pc = .ok (.invokespecial ix, 3)) (hls : ls.size = M.2.2.1) (hf : 1 ≤ Z.1.2.2.2.frames) (hlo : 20 ≤ Z.1.2.2.2.locals) (hr : Nat.ble ((st.map fun v => v.category).sum) 8 = true) (kk : CW Z ls (pc + 3) st w cells slots) : CW Z ls pc (.ref a :: st) w cells slots := by
  obtain ⟨hx, hb, hret, hml, hown, hts, hlocks, hK, hE, hA⟩ := id C
  intro H locs hP hD hS
  refine W.objInit hx hb hown (hts _ hlk) (hts _ ob_i) (hts _ ob_c) rfl (by rw [hml]; exact hls) rfl hd hf (by have := Nat.le_of_ble_eq_true hr; show 2 * 0 + _ + 12 ≤ _; omega) ?_
  refine W.eq (g2 := F0 Z.2.1.2.1 (pc + 3) ls st) rfl ?_
  exact kk H locs hP hD hS
theorem cw_newI {N : Nat} (C : CZ Z M) (hd : decode M.2.1 pc = .ok (.newarray .int, 2)) (hN : N ≤ 10000) (hc : cells + 1 ≤ Z.1.2.2.2.cells) (hs : slots + N ≤ Z.1.2.2.2.slots) (kk : ∀ q, CW Z ls (pc + 2) (.ref q :: st) (w ++ [(q, .inl (Z.2.2.2.2.2.1, N, .inl (fun _ => 0)))]) (cells + 1) (slots + N)) : CW Z ls pc (.int (nI N) :: st) w cells slots := by
  obtain ⟨hx, hb, hret, hml, hown, hts, hlocks, hK, hE, hA⟩ := id C
  intro H locs hP hD hS
  refine va_newa (atype := .int) (a0 := (N, .inl (fun _ => 0))) hx hb (hts _ ac_i) rfl hK hP hD hS hA (fun _ => rfl) (nI_pos (by omega)) (nI_clamp (by omega)) (by show N * 4 ≤ _; omega) hc hs hd (fun q cA H1 hK1 hP1 hD1 hS1 => ?_)
  have e : cA = Z.2.2.2.2.2.1 := by
    have h1 : Z.2.1.1.vm.findClass ("[" ++ FieldType.int.toString) = some cA := (hK1.2 3 _ rfl).2
    have h2 : Z.2.1.1.vm.findClass ("[" ++ FieldType.int.toString) = some Z.2.2.2.2.2.1 := (hK.2 0 _ rfl).2
    exact Option.some.inj (h1.symm.trans h2)
  subst e
  exact kk q H1 locs hP1 hD1 hS1
theorem cw_newZ {N : Nat} (C : CZ Z M) (hd : decode M.2.1 pc = .ok (.newarray .boolean, 2)) (hN : N ≤ 10000) (hc : cells + 1 ≤ Z.1.2.2.2.cells) (hs : slots + N ≤ Z.1.2.2.2.slots) (kk : ∀ q, CW Z ls (pc + 2) (.ref q :: st) (w ++ [(q, .inl (Z.2.2.2.2.2.2.1, N, .inl (fun _ => 0)))]) (cells + 1) (slots + N)) : CW Z ls pc (.int (nI N) :: st) w cells slots := by
  obtain ⟨hx, hb, hret, hml, hown, hts, hlocks, hK, hE, hA⟩ := id C
  intro H locs hP hD hS
  refine va_newa (atype := .boolean) (a0 := (N, .inl (fun _ => 0))) hx hb (hts _ ac_z) rfl hK hP hD hS hA (fun _ => rfl) (nI_pos (by omega)) (nI_clamp (by omega)) (by show N * 1 ≤ _; omega) hc hs hd (fun q cA H1 hK1 hP1 hD1 hS1 => ?_)
  have e : cA = Z.2.2.2.2.2.2.1 := by
    have h1 : Z.2.1.1.vm.findClass ("[" ++ FieldType.boolean.toString) = some cA := (hK1.2 3 _ rfl).2
    have h2 : Z.2.1.1.vm.findClass ("[" ++ FieldType.boolean.toString) = some Z.2.2.2.2.2.2.1 := (hK.2 1 _ rfl).2
    exact Option.some.inj (h1.symm.trans h2)
  subst e
  exact kk q H1 locs hP1 hD1 hS1
theorem cw_mna {ix N K : Nat} (C : CZ Z M) (hcl : Cond.classLink M.1.cls ix "[[I" ∈ wAll) (hd : decode M.2.1 pc = .ok (.multianewarray ix 2, 4)) (hN : N ≤ 100) (hK0 : K ≤ 100) (hc : cells + (1 + N) ≤ Z.1.2.2.2.cells) (hs : slots + (N + N * K) ≤ Z.1.2.2.2.slots)
    (kk : ∀ (q : Nat) (r : Nat → Nat), CW Z ls (pc + 4) (.ref q :: st) (w ++ ((q, .inl (Z.2.2.2.2.2.2.2, N, .inr (.inr (.inr (.inr (fun i => if i < N then some (r i) else none)))))) :: (List.range N).map (fun i => (r i, .inl (Z.2.2.2.2.2.1, K, .inl (fun _ => 0)))))) (cells + 1 + N) (slots + N + N * K)) : CW Z ls pc (.int (nI K) :: .int (nI N) :: st) w cells slots := by
  obtain ⟨hx, hb, hret, hml, hown, hts, hlocks, hK, hE, hA⟩ := id C
  intro H locs hP hD hS
  have hcy : Z.2.1.1.vm.findClass (FieldType.array .int).toString = some Z.2.2.2.2.2.1 := (hK.2 0 _ rfl).2
  have hP0 : va_P Z.2.2.2.1 vwCl (w ++ va_pl [] (fun _ => .inl (Z.2.2.2.2.2.1, 0, .inl (fun _ => 0)))) H := by rw [show va_pl [] (fun _ => (.inl (Z.2.2.2.2.2.1, 0, .inl (fun _ => 0)) : va_E)) = [] from rfl, List.append_nil]; exact hP
  have hD0 : va_D Z.2.2.2.2.1 (w ++ va_pl [] (fun _ => .inl (Z.2.2.2.2.2.1, 0, .inl (fun _ => 0)))) := by rw [show va_pl [] (fun _ => (.inl (Z.2.2.2.2.2.1, 0, .inl (fun _ => 0)) : va_E)) = [] from rfl, List.append_nil]; exact hD
  refine va_mna (z := (K, .inl (fun _ => 0))) hx hb hown (hts _ hcl) hE.1 (hts _ ac_i) hcy hK hP0 hD0 hS hA (nI_pos (by omega)) (nI_pos (by omega)) (nI_clamp (by omega)) (nI_clamp (by omega)) (by omega) (by show K * 4 ≤ _; omega) (by omega) rfl rfl hc hs (fun c => ?_) hd (fun q r cA H1 hr hrl hK1 hP1 hD1 hS1 => ?_)
  · show ({ cls := c, slots := Array.replicate K (defaultValue .int), vm := .none } : Cell) = arrV c K (fun _ => .int 0)
    exact arrV_new ..
  · have e : cA = Z.2.2.2.2.2.2.2 := by
      have h1 : Z.2.1.1.vm.findClass ("[" ++ (FieldType.array .int).toString) = some cA := (hK1.2 3 _ rfl).2
      have h2 : Z.2.1.1.vm.findClass ("[" ++ (FieldType.array .int).toString) = some Z.2.2.2.2.2.2.2 := (hK.2 2 _ rfl).2
      exact Option.some.inj (h1.symm.trans h2)
    subst e
    have ew : (w ++ [(q, (.inl (Z.2.2.2.2.2.2.2, N, .inr (.inr (.inr (.inr (fun i => if i < N then some (r i) else none))))) : va_E))]) ++ va_pl ([] ++ (List.range N).map r) (vr_up (fun _ => .inl (Z.2.2.2.2.2.1, 0, .inl (fun _ => 0))) ((List.range N).map r) (.inl (Z.2.2.2.2.2.1, K, .inl (fun _ => 0)))) = w ++ ((q, .inl (Z.2.2.2.2.2.2.2, N, .inr (.inr (.inr (.inr (fun i => if i < N then some (r i) else none)))))) :: (List.range N).map (fun i => (r i, .inl (Z.2.2.2.2.2.1, K, .inl (fun _ => 0))))) := by
      rw [List.append_assoc, List.nil_append]
      congr 1
      rw [List.singleton_append]
      congr 1
      unfold va_pl
      rw [List.map_map]
      apply List.map_congr_left
      intro i hi
      show (r i, _) = _
      rw [vr_up_in (List.mem_map.mpr ⟨i, hi, rfl⟩)]
    rw [ew] at hP1 hD1
    exact kk q r H1 locs hP1 hD1 hS1
def FF (own : String) (ix ci j : Nat) (ty : FieldType) : Prop := FK own ix ci j ∧ ∀ (q : vw_C), vwCl[ci]? = some q → (q.2.1 j).2.2.2 = true ∧ (q.2.1 j).1 = own ∧ parseFieldDescriptor (q.2.1 j).2.2.1 = some ty
theorem cw_putF {ix ci j a b : Nat} {ty : FieldType} {fs : List Value} {X : va_W} (C : CZ Z M) (hin2 : Z.2.2.1.1.name = "<init>") (hf : FF M.1.cls ix ci j ty) (hd : decode M.2.1 pc = .ok (.putfield ix, 3)) (hn : narrow ty (.ref b) = .ref b) (hfit : fits ty (.ref b) = true) (hl : j < fs.length) (kk : CW Z ls (pc + 3) st ((a, .inr (ci, fs.set j (.ref b))) :: X) cells slots) : CW Z ls pc (.ref b :: .ref a :: st) ((a, .inr (ci, fs)) :: X) cells slots := by
  obtain ⟨hx, hb, hret, hml, hown, hts, hlocks, hK, hE, hA⟩ := id C
  obtain ⟨⟨cN, T, N, ty0, hc, hin, hj, hlk, hT, hty, hnm⟩, hfp⟩ := hf
  obtain ⟨hfin, hdecl, hpd⟩ := hfp _ hc
  intro H locs hP hD hS
  exact va_putF hx hb hts hin ty0 hty hnm hown hK hP hD hS 0 rfl hc j hj (hts _ hlk) (fun x hx9 => by rw [hT] at hx9; exact hx9) hfin hin2 hdecl hpd hn hfit hl hd (fun H1 locs1 hP1 hD1 hS1 => kk H1 locs1 hP1 hD1 hS1)
theorem cw_get {ix ci j a : Nat} {v : Value} {fs : List Value} (C : CZ Z M) (hf : FK M.1.cls ix ci j) (hd : decode M.2.1 pc = .ok (.getfield ix, 3)) (ha : w[0]? = some (a, .inr (ci, fs))) (hv : fs[j]? = some v) (kk : CW Z ls (pc + 3) (v :: st) w cells slots) : CW Z ls pc (.ref a :: st) w cells slots := by
  obtain ⟨hx, hb, hret, hml, hown, hts, hlocks, hK, hE, hA⟩ := id C
  obtain ⟨cN, T, N, ty0, hc, hin, hj, hlk, hT, hty, hnm⟩ := hf
  intro H locs hP hD hS
  exact va_get hx hb hts hin hown hK hP 0 ha hc j hj (hts _ hlk) (fun x hx9 => by rw [hT] at hx9; exact hx9) hv hd (kk H locs hP hD hS)
theorem cw_new {ix ci N : Nat} {cN : String} {T : u_T} {ty : Nat → FieldType} {fs : List Value} (C : CZ Z M) (hc : vwCl[ci]? = some (cN, T, N)) (hin : ∀ w ∈ u_ws cN T N, w ∈ wAll) (hty : ∀ k, k < N → parseFieldDescriptor (T k).2.2.1 = some (ty k)) (hcl : Cond.classLink M.1.cls ix cN ∈ wAll) (hinst : Cond.instantiable cN N ∈ wAll) (hini : Cond.initialized cN ∈ wAll) (hfs : ∀ j, j < N → defaultValue (ty j) = vp_V fs j) (hd : decode M.2.1 pc = .ok (.new ix, 3)) (hce : cells + 1 ≤ Z.1.2.2.2.cells) (hs : slots + N ≤ Z.1.2.2.2.slots)
    (kk : ∀ q, CW Z ls (pc + 3) (.ref q :: st) (w ++ [(q, .inr (ci, fs))]) (cells + 1) (slots + N)) : CW Z ls pc st w cells slots := by
  obtain ⟨hx, hb, hret, hml, hown, hts, hlocks, hK, hE, hA⟩ := id C
  intro H locs hP hD hS
  exact va_new hx hb hts hin ty hty hown (hts _ hcl) (hts _ hinst) (hts _ hini) hK hP hD hS hA hc hfs hce hs hd (fun q H1 hP1 hD1 hS1 => kk q H1 locs hP1 hD1 hS1)
theorem cw_iast {a q0 n : Nat} {f : Nat → Int32} {i x : Int32} {w1 : va_W} (C : CZ Z M) (hd : decode M.2.1 pc = .ok (.iastore, 1)) (ha : w[q0]? = some (a, .inl (Z.2.2.2.2.2.1, n, .inl f))) (hin : vp_in i n) (hw : w.set q0 (a, .inl (Z.2.2.2.2.2.1, n, .inl (upd f i.toNatClampNeg x))) = w1) (kk : CW Z ls (pc + 1) st w1 cells slots) : CW Z ls pc (.int x :: .int i :: .ref a :: st) w cells slots := by
  obtain ⟨hx, hb, hret, hml, hown, hts, hlocks, hK, hE, hA⟩ := id C
  subst hw
  intro H locs hP hD hS
  exact va_iast hx hb hK hP hD hS q0 0 ha rfl hin hd (fun H1 locs1 hP1 hD1 hS1 => kk H1 locs1 hP1 hD1 hS1)
theorem cw_ctor {ix n b ci : Nat} {fs : List Value} {As : List Value} {S : Type} {wOut : S → va_W} {rm : Room} (C : CZ Z M) (hM : CT Z.1.2.1 Z.2.2.2.1 Z.2.2.2.2.2 M' (.ref b :: As) [(b, .inr (ci, fs))] S wOut rm) (hlk : Cond.methodLink M.1.cls ix M'.1 ∈ wAll ∨ Cond.methodLinkNest M.1.cls ix M'.1 "LentGrannies" ∈ nwc) (him : Cond.instanceMethod M'.1 ∈ wAll) (hnm : M'.1.name = "<init>") (hlb : LBt M' n) (hrt : M'.2.2.2 = none) (hd : decode M.2.1 pc = .ok (.invokespecial ix, 3)) (hls : ls.size = M.2.2.1) (hn : As.length = n) (hr : Nat.ble ((st.map fun v => v.category).sum) 8 = true) (hR : rm.frames + 1 ≤ Z.1.2.2.2.frames ∧ 8 + (M'.2.2.1 + 11) + rm.locals ≤ Z.1.2.2.2.locals) (hc : cells + rm.cells ≤ Z.1.2.2.2.cells ∧ slots + rm.slots ≤ Z.1.2.2.2.slots)
    (kk : ∀ u, CW Z ls (pc + 3) st (w ++ wOut u) (cells + rm.cells) (slots + rm.slots)) : CW Z ls pc (As.reverse ++ .ref b :: st) (w ++ [(b, .inr (ci, fs))]) cells slots := by
  obtain ⟨hx, hb, hret, hml, hown, hts, hlocks, hK, hE, hA⟩ := id C
  obtain ⟨hini, hcd, hd2, hmx⟩ := hlb
  intro H locs hP hD hS
  have inx : (w ++ [((b, .inr (ci, fs)) : Nat × va_E)])[w.length]? = some (b, .inr (ci, fs)) := by rw [List.getElem?_append_right (Nat.le_refl _), Nat.sub_self]; rfl
  have one : ∀ (k : Nat) (q : Nat × va_E), ([(b, .inr (ci, fs))] : va_W)[k]? = some q → k = 0 ∧ q = (b, .inr (ci, fs)) := fun k q h => by
    have : k < 1 := (List.getElem?_eq_some_iff.mp h).1
    have : k = 0 := by omega
    subst this
    exact ⟨rfl, (Option.some.inj h).symm⟩
  have hPc : va_P Z.2.2.2.1 vwCl [(b, .inr (ci, fs))] H := fun k q h => by rw [(one k q h).2]; exact hP _ _ inx
  have hDc : va_D (fun _ => True) ([(b, .inr (ci, fs))] : va_W) := ⟨fun i j p q h1 h2 _ => by rw [(one i p h1).1, (one j q h2).1], fun _ _ _ => trivial⟩
  have hFc : ∀ q, va_A [(b, .inr (ci, fs))] H.size q → Z.2.2.2.2.1 q := fun q h => by
    rcases h with ⟨k, e, h⟩ | h
    · have := (one k _ h).2
      cases this
      exact hD.2 _ _ inx
    · exact hA q (Nat.le_trans hS.1 h)
  have hpre : PreS Z.2.1.1 H (va_Pc (.ref b :: As) (fun U => U.heap.size = H.size ∧ va_P Z.2.2.2.1 vwCl [(b, .inr (ci, fs))] U.heap ∧ va_K Z.2.2.2.1 vwCl (tys3 Z.2.2.2.2.2) U ∧ va_D (fun _ => True) ([(b, .inr (ci, fs))] : va_W) ∧ CE U)) (.ref b :: As) :=
    ⟨fun a U g mk q => by obtain ⟨q0, q1, qP, qK, qD, qE⟩ := q; exact ⟨q0, q1, qP, va_K.moved (u := U) (U := U.calling g mk a) (Vm.Alike.refl U.vm) qK, qD, CE.same (s := U) (U := U.calling g mk a) rfl qE⟩, fun U hU hW => ⟨rfl, by rw [hU], by rw [hU]; exact hPc, va_K.moved hW.alike hK, hDc, CE.warm hW hE⟩⟩
  have hroom : 2 * (F0 Z.2.1.2.1 pc ls (As.reverse ++ Value.ref b :: st)).monitorRoom + (st.map fun v => v.category).sum ≤ 8 := by show 2 * 0 + _ ≤ 8; have := Nat.le_of_ble_eq_true hr; omega
  have fin : ∀ (u : S) (t : State) (H1 : Heap) (locs1 : List Loc), t.heap = H1 → Z.2.1.1.vm.Alike t.vm → True → (va_P Z.2.2.2.1 vwCl (wOut u) t.heap ∧ va_D (va_A [(b, .inr (ci, fs))] H.size) (wOut u)) → H.size ≤ H1.size → (∀ q : Nat, q < H.size → ¬ va_A [(b, .inr (ci, fs))] H.size q → H1[q]? = H[q]?) → va_S Z.2.2.2.2.1 Z.2.1.1.heap H1 locs1 → W Z.1.1 Z.1.2.1 Z.1.2.2.1 Z.1.2.2.2 Z.2.1.1 Z.2.1.2.1 Z.2.1.2.2.1 Z.2.1.2.2.2 Z.2.2.1.1 Z.2.2.1.2.1 H1 locs1 (cells + rm.cells) (slots + rm.slots) Z.2.2.1.2.2 (F0 Z.2.1.2.1 (pc + 3) ls st) := by
    intro u t H1 locs1 ht _ _ hB _ hk1 hS1
    obtain ⟨hP1, hD1⟩ := hB
    rw [ht] at hP1
    obtain ⟨j1, j2⟩ := joinL hP hD hk1 hFc hP1 hD1
    exact kk u H1 locs1 j1 j2 hS1
  rcases hlk with hlk | hlk
  · exact va_callv (va_runI (As := As) (rest := st) ⟨hx, hb, hml, hown, hts⟩ (hM H.size) ⟨callB_of n hts (good_ws (by rw [hrt] at hcd; rw [hrt]; exact hcd)) (by rw [wsM, hrt]) rfl rfl (hts _ hini) (hts _ hlk) hd2 hR, hnm, hts _ him⟩ hpre rfl hn hls rfl hroom hd hc) hS (fun q _ h => hFc q h) hFc fin
  · exact va_callv (va_runIN (As := As) (rest := st) ⟨hx, hb, hml, hown, hts⟩ (hM H.size) ⟨va_cnB n hts (good_ws (by rw [hrt] at hcd; rw [hrt]; exact hcd)) (by rw [wsM, hrt]) rfl rfl (hE.2 _ hlk) (hts _ hini) hd2 hR, hnm, hts _ him⟩ hpre rfl hn hls rfl hroom hd hc) hS (fun q _ h => hFc q h) hFc fin
end CROWS
