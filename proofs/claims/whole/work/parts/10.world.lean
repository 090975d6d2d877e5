/-! memory: cell by number, place; shape: what each cell is -/
def kNONE : Int32 := -1000000
def kBAD : Int32 := -1000001
def kSTATE : Int32 := -1000002
def kFULL : Int32 := -1000003
def kFOUND : Int32 := -1000010
def kFAULT : Int32 := -1000100
def kM1 : Int32 := -1
def kBADL : Int64 := -1000001
abbrev Hp : Type := Nat → Nat → Int32
def hs (h : Hp) (a k : Nat) (v : Int32) : Hp := fun b => if b = a then upd (h a) k v else h b
theorem hs_at (h : Hp) (a k : Nat) (v : Int32) : hs h a k v a = upd (h a) k v := if_pos rfl
theorem hs_same (h : Hp) (a k : Nat) (v : Int32) : hs h a k v a k = v := by rw [hs_at]; exact if_pos rfl
theorem hs_ne {h : Hp} {a b k : Nat} {v : Int32} (e : b ≠ a) : hs h a k v b = h b := if_neg e
theorem hs_ix {h : Hp} {a k j : Nat} {v : Int32} (e : j ≠ k) : hs h a k v a j = h a j := by rw [hs_at]; exact if_neg e
theorem hs_get (h : Hp) (a k : Nat) (v : Int32) (b j : Nat) : hs h a k v b j = if b = a ∧ j = k then v else h b j := by
  by_cases e : b = a
  · subst e
    rw [hs_at]
    by_cases q : j = k <;> simp [upd, q]
  · rw [hs_ne e]; simp [e]
abbrev Sh : Type := Nat × Nat × List (Option Nat)
def townF (t : Nat) : List (Option Nat) := [none, none, none, none, none, some (t + 1), some (t + 2), some (t + 3), some (t + 4), some (t + 5), some (t + 6), some (t + 7), some (t + 8), some (t + 9), some (t + 10), some (t + 11)]
def townS (t : Nat) : List Sh := [(0, 5, townF t), (1, 5, []), (1, 5, []), (1, 5, []), (1, 6, []), (1, 6, []), (1, 6, []), (1, 6, []), (1, 6, []), (1, 6, []), (1, 6, []), (1, 5, [])]
def shp : List Sh := [(0, 6, [some 1, some 13, some 27, some 39, some 51, some 52, some 53, some 79, some 82, some 83, some 85, none, none]),
  (0, 4, [some 2, some 11, some 12]), (3, 8, [some 3])] ++ (List.replicate 8 (1, 40, []) ++ ([(1, 8, []), (1, 8, []), (0, 2, [some 15, none, none, some 14, none, none]), (1, 100, [])] ++ (townS 15 ++ (townS 27 ++ (townS 39 ++ ([(1, 56, []), (1, 5, []), (0, 0, [some 54, none, none]), (3, 24, [some 55])] ++ (List.replicate 24 (1, 56, []) ++ ([(3, 2, [some 80]), (1, 56, []), (1, 56, []), (2, 2, []), (0, 1, [some 84, none, none, none, none, none]), (1, 16, []), (0, 3, [some 100, some 86, some 87, some 88, none, none]), (1, 6, []), (1, 30, []), (1, 7, []),
  (0, 7, [some 90, none, none, some 91, some 92, some 93, some 94, some 95, none, none, none, some 96, none, none, none, none, some 97, some 98, some 99]), (1, 1568, []), (2, 2, []), (1, 8, []), (1, 8, []), (1, 320, []), (1, 100, []), (1, 16, []), (1, 6, []), (1, 6, []), (1, 5, [])] ++ townS 100))))))))
theorem shp_len : shp.length = 112 := by decide +kernel
/-- launch, classes, the three array classes, the addresses, the static table -/
abbrev Gt : Type := Launch × va_G × (ClassId × ClassId × ClassId) × (Nat → Nat) × Nat
abbrev gL (G : Gt) : Launch := G.1
abbrev gD (G : Gt) : va_G := G.2.1
abbrev gI (G : Gt) : ClassId := G.2.2.1.1
abbrev gZ (G : Gt) : ClassId := G.2.2.1.2.1
abbrev gII (G : Gt) : ClassId := G.2.2.1.2.2
abbrev ga (G : Gt) : Nat → Nat := G.2.2.2.1
abbrev gk (G : Gt) : Nat := G.2.2.2.2
/-- a static table's address stands as cell 112 -/
def gr (G : Gt) (k : Nat) : Nat := if k = 112 then gk G else ga G k
def cv (G : Gt) (v : Value) : Value := match v with
  | .ref k => .ref (gr G k)
  | w => w
theorem cv_cat (G : Gt) (v : Value) : (cv G v).category = v.category := by cases v <;> rfl
def fv (G : Gt) (m : Nat → Int32) (j : Nat) (o : Option Nat) : Value := match o with
  | some r => .ref (ga G r)
  | none => .int (m j)
def fvs (G : Gt) (m : Nat → Int32) : Nat → List (Option Nat) → List Value
  | _, [] => []
  | j, o :: os => fv G m j o :: fvs G m (j + 1) os
theorem fvs_get (G : Gt) (m : Nat → Int32) : ∀ (os : List (Option Nat)) (j k : Nat), (fvs G m j os)[k]? = (os[k]?).map (fv G m (j + k))
  | [], _, _ => rfl
  | o :: os, j, 0 => rfl
  | o :: os, j, k + 1 => by
    show (fvs G m (j + 1) os)[k]? = (os[k]?).map (fv G m (j + (k + 1)))
    rw [fvs_get G m os (j + 1) k, show j + 1 + k = j + (k + 1) by omega]
theorem fvs_len (G : Gt) (m : Nat → Int32) : ∀ (os : List (Option Nat)) (j : Nat), (fvs G m j os).length = os.length
  | [], _ => rfl
  | o :: os, j => by show (fvs G m (j + 1) os).length + 1 = os.length + 1; rw [fvs_len G m os (j + 1)]
theorem fvs_set (G : Gt) (m : Nat → Int32) {os : List (Option Nat)} {k : Nat} (h : os[k]? = some none) (v : Int32) : (fvs G m 0 os).set k (.int v) = fvs G (upd m k v) 0 os := by
  have hk : k < os.length := (List.getElem?_eq_some_iff.mp h).1
  apply List.ext_getElem?
  intro i
  by_cases e : i = k
  · subst e
    rw [List.getElem?_set_self (by rw [fvs_len]; exact hk), fvs_get, h]
    simp [fv, upd]
  · rw [List.getElem?_set_ne (fun q => e q.symm), fvs_get, fvs_get]
    cases hi : os[i]? with
    | none => rfl
    | some o =>
      cases o with
      | none => simp [fv, upd, e]
      | some r => rfl
def ce (G : Gt) (m : Nat → Int32) (x : Sh) : va_E :=
  if x.1 = 0 then .inr (x.2.1, fvs G m 0 x.2.2) else if x.1 = 1 then .inl (gI G, x.2.1, .inl m) else if x.1 = 2 then .inl (gZ G, x.2.1, .inl m)
  else .inl (gII G, x.2.1, .inr (.inr (.inr (.inr (fun i => if i < x.2.1 then some (ga G ((x.2.2.headD none).getD 0 + i)) else none)))))
def wld (G : Gt) (h : Hp) : va_W := (List.range 112).map (fun k => (ga G k, ce G (h k) (shp.getD k (9, 0, []))))
theorem shp_lt {k : Nat} {x : Sh} (hk : shp[k]? = some x) : k < 112 := by
  have := (List.getElem?_eq_some_iff.mp hk).1
  rwa [shp_len] at this
theorem wld_at {G : Gt} {h : Hp} {k : Nat} (hk : k < 112) : (wld G h)[k]? = some (ga G k, ce G (h k) (shp.getD k (9, 0, []))) := by
  unfold wld
  rw [List.getElem?_map, List.getElem?_range hk]
  rfl
theorem wld_get {G : Gt} {h : Hp} {k : Nat} {x : Sh} (hk : shp[k]? = some x) : (wld G h)[k]? = some (ga G k, ce G (h k) x) := by
  rw [wld_at (shp_lt hk), List.getD_eq_getElem?_getD, hk]
  rfl
theorem wld_len (G : Gt) (h : Hp) : (wld G h).length = 112 := by simp [wld]
theorem wld_set {G : Gt} {h h' : Hp} {k : Nat} {x : Sh} {e : va_E} (hk : shp[k]? = some x) (ho : ∀ i, i ≠ k → h' i = h i) (he : ce G (h' k) x = e) : (wld G h).set k (ga G k, e) = wld G h' := by
  have hk9 := shp_lt hk
  apply List.ext_getElem?
  intro i
  by_cases q : i = k
  · subst q
    rw [List.getElem?_set_self (by rw [wld_len]; exact hk9), wld_get hk, he]
  · rw [List.getElem?_set_ne (fun z => q z.symm)]
    by_cases hi : i < 112
    · rw [wld_at hi, wld_at hi, ho i q]
    · rw [List.getElem?_eq_none (by rw [wld_len]; omega), List.getElem?_eq_none (by rw [wld_len]; omega)]
def gA (G : Gt) : Nat → Prop := fun q => ∃ k, k < 112 ∧ q = ga G k
def inj (G : Gt) : Prop := ∀ i j, i < 112 → j < 112 → ga G i = ga G j → i = j
theorem wld_D {G : Gt} (hi : inj G) (h : Hp) : va_D (gA G) (wld G h) := by
  have key : ∀ (k : Nat) (q : Nat × va_E), (wld G h)[k]? = some q → k < 112 ∧ q.1 = ga G k := by
    intro k q hq
    have hk : k < 112 := by
      have := (List.getElem?_eq_some_iff.mp hq).1
      rwa [wld_len] at this
    rw [wld_at hk] at hq
    cases hq
    exact ⟨hk, rfl⟩
  refine ⟨fun i j x y h1 h2 e => ?_, fun k q hq => ?_⟩
  · obtain ⟨a1, b1⟩ := key i x h1
    obtain ⟨a2, b2⟩ := key j y h2
    exact hi i j a1 a2 (by rw [← b1, ← b2, e])
  · obtain ⟨a1, b1⟩ := key k q hq
    exact ⟨k, a1, b1⟩
def kab (j : Nat) : Value := .int (([-1, 0, 1, 1, 0, 4] : List Int32).getD j 0)
def zf (G : Gt) (U : State) (H : Heap) : Prop := va_Z "LentGrannies" "KIND_ABOVE" "[I" (.ref (gk G)) (gA G) U H ∧ va_T .int (gk G) 6 kab (gA G) U H
theorem zf_on {G : Gt} {u U : State} {H H1 : Heap} (h : zf G u H) (hvm : u.vm.Alike U.vm) (hq : ∀ a : Nat, a < H.size → ¬ gA G a → H1[a]? = H[a]?) : zf G U H1 :=
  ⟨(h.1.moved hvm).kept hq, (h.2.moved hvm).kept hq⟩
def tysG (G : Gt) : List (ClassId × FieldType) := [(gI G, .int), (gZ G, .boolean), (gII G, .array .int)]
def wl (G : Gt) (h : Hp) (U : State) (H : Heap) : Prop := va_P (gD G) vwCl (wld G h) H ∧ va_K (gD G) vwCl (tysG G) U ∧ zf G U H
/-- name, bytes, locals, answer -/
abbrev Mt : Type := MethodName × ByteArray × Nat × Option FieldType
def wAll : List Cond := lw_tbl.filter goodWord
def wsM (M : Mt) : List Cond := .code M.1 M.2.1 M.2.2.1 M.2.2.2 :: wAll
def rmD (d : Nat) : Room := { frames := d, cells := 0, slots := 0, locals := 64 * d }
def qcG (G : Gt) (Q : Option Value → Hp → Prop) : Array Value → State → Outcome → State → Prop := fun _ st oc t => (∃ (r : Option Value) (h : Hp), oc = .returned r ∧ Q r h ∧ wl G h t t.heap) ∧ va_F (gA G) st t
/-- the links to private methods of a nest mate -/
def nwl : List Cond := [.methodLinkNest RX4 23 yX6_within "LentGrannies", .methodLinkNest RX2 105 yX6_within "LentGrannies", .methodLinkNest RX1 48 yX6_isOfKind "LentGrannies"]
def nw (U : State) : Prop := ∀ w ∈ nwl, va_Nw w U
theorem nw_warm {s U : State} (hW : s.WarmedH U.vm) (h : nw s) : nw U := by
  refine List.forall_mem_cons.mpr ⟨va_Nw.warmM hW (h _ (List.mem_of_getElem? (i := 0) rfl)), List.forall_mem_cons.mpr ⟨va_Nw.warmM hW (h _ (List.mem_of_getElem? (i := 1) rfl)), List.forall_mem_cons.mpr ⟨va_Nw.warmM hW (h _ (List.mem_of_getElem? (i := 2) rfl)), fun _ h => absurd h List.not_mem_nil⟩⟩⟩
theorem nw_same {s U : State} (e : s.vm = U.vm) (h : nw s) : nw U := by
  refine List.forall_mem_cons.mpr ⟨va_Nw.same rfl e (h _ (List.mem_of_getElem? (i := 0) rfl)), List.forall_mem_cons.mpr ⟨va_Nw.same rfl e (h _ (List.mem_of_getElem? (i := 1) rfl)), List.forall_mem_cons.mpr ⟨va_Nw.same rfl e (h _ (List.mem_of_getElem? (i := 2) rfl)), fun _ h => absurd h List.not_mem_nil⟩⟩⟩
def pcG (G : Gt) (as : List Value) (h : Hp) : Array Value → State → Prop := va_Pc (as.map (cv G)) (fun U => wl G h U U.heap ∧ inj G ∧ nw U)
def Call (G : Gt) (d : Nat) (M : Mt) (as : List Value) (h : Hp) (Q : Option Value → Hp → Prop) : Prop := Met (gL G) M.1 (wsM M) (rmD d) (pcG G as h) (qcG G Q) 0 0 (gA G)
def CX (G : Gt) (M : Mt) (p : Program) (s : State) (m : MethodId) (args : Array Value) (meth : Method) (c : Code) : Prop :=
  p.tables.exec = Jvm.exec ∧ c.code = M.2.1 ∧ meth.sig.returnType = M.2.2.2 ∧ c.maxLocals = M.2.2.1 ∧ s.vm.findClass M.1.cls = some m.cls ∧ (∀ w ∈ wAll, w.before args s = true) ∧ meth.locks = false ∧ va_K (gD G) vwCl (tysG G) s ∧ zf G s s.heap ∧ inj G ∧ nw s
def lvr (G : Gt) (ls : Array Slot) (n : Nat) (L : List (Option Value)) : Prop := ls.size = n ∧ lv_wf ls ∧ L.length = n ∧ ∀ (i : Nat) (v : Value), L[i]? = some (some v) → ls[i]? = some (.val (cv G v))
def WP (G : Gt) (d : Nat) (M : Mt) (Q : Option Value → Hp → Prop) (pc : Nat) (L : List (Option Value)) (S : List Value) (h : Hp) : Prop :=
  ∀ (p : Program) (e : Env) (s : State) (m : MethodId) (args : Array Value) (below : List Frame) (meth : Method) (c : Code) (H : Heap) (locs : List Loc) (ls : Array Slot),
    CX G M p s m args meth c → va_P (gD G) vwCl (wld G h) H → va_S (gA G) s.heap H locs → lvr G ls M.2.2.1 L →
    W p (gL G) e (rmD d) s m args below meth c H locs 0 0 (MQ below (qcG G Q) args s 0 0 (gA G)) (F0 m pc ls (S.map (cv G)))
/-! locals -/
def lvp (G : Gt) : Nat → List (Option Value) → List (Nat × Value)
  | _, [] => []
  | i, none :: L => lvp G (i + 1) L
  | i, some v :: L => (i, cv G v) :: lvp G (i + 1) L
theorem lvp_mem (G : Gt) : ∀ (L : List (Option Value)) (i : Nat) (q : Nat × Value), q ∈ lvp G i L ↔ ∃ (j : Nat) (v : Value), L[j]? = some (some v) ∧ q = (i + j, cv G v)
  | [], i, q => by simp [lvp]
  | none :: L, i, q => by
    show q ∈ lvp G (i + 1) L ↔ _
    rw [lvp_mem G L (i + 1) q]
    constructor
    · rintro ⟨j, v, h, e⟩
      exact ⟨j + 1, v, h, by rw [e, show i + 1 + j = i + (j + 1) by omega]⟩
    · rintro ⟨j, v, h, e⟩
      cases j with
      | zero => cases h
      | succ j => exact ⟨j, v, h, by rw [e, show i + 1 + j = i + (j + 1) by omega]⟩
  | some w :: L, i, q => by
    show q ∈ (i, cv G w) :: lvp G (i + 1) L ↔ _
    rw [List.mem_cons, lvp_mem G L (i + 1) q]
    constructor
    · rintro (e | ⟨j, v, h, e⟩)
      · exact ⟨0, w, rfl, e⟩
      · exact ⟨j + 1, v, h, by rw [e, show i + 1 + j = i + (j + 1) by omega]⟩
    · rintro ⟨j, v, h, e⟩
      cases j with
      | zero => cases h; exact Or.inl e
      | succ j => exact Or.inr ⟨j, v, h, by rw [e, show i + 1 + j = i + (j + 1) by omega]⟩
theorem lvr_has {G : Gt} {ls : Array Slot} {n : Nat} {L : List (Option Value)} (h : lvr G ls n L) : lv_has ls n (lvp G 0 L) := by
  refine ⟨h.1, h.2.1, fun q hq => ?_⟩
  obtain ⟨j, v, h1, rfl⟩ := (lvp_mem G L 0 q).mp hq
  rw [Nat.zero_add]
  exact h.2.2.2 j v h1
/-- storing at i: nothing of two slots begins just before it -/
def nl (L : List (Option Value)) (i : Nat) : Bool := match i with
  | 0 => true
  | j + 1 => match L[j]? with
    | some (some v) => decide (v.category = 1)
    | _ => true
theorem nl_spec {L : List (Option Value)} {i j : Nat} {v : Value} (h : nl L i = true) (hj : L[j]? = some (some v)) (e : j + 1 = i) : ¬ v.category = 2 := by
  subst e
  simp only [nl, hj, decide_eq_true_eq] at h
  omega
theorem lvr_set1 {G : Gt} {ls : Array Slot} {n i : Nat} {L : List (Option Value)} {v : Value} (hL : L.length = n) (hn : nl L i = true)
    (h : lv_has ls n ((i, cv G v) :: (lvp G 0 L).filter (fun q => !(q.1 == i) && !(q.1 + 1 == i && q.2.category == 2)))) : lvr G ls n (L.set i (some v)) := by
  refine ⟨h.1, h.2.1, by simpa using hL, fun j w hj => ?_⟩
  by_cases e : j = i
  · subst e
    have hlt : j < L.length := by
      have := (List.getElem?_eq_some_iff.mp hj).1
      simpa using this
    rw [List.getElem?_set_self hlt] at hj
    cases hj
    exact h.2.2 (j, cv G v) List.mem_cons_self
  · rw [List.getElem?_set_ne (fun z => e z.symm)] at hj
    refine h.2.2 (j, cv G w) (List.mem_cons_of_mem _ (List.mem_filter.mpr ⟨(lvp_mem G L 0 _).mpr ⟨j, w, hj, by rw [Nat.zero_add]⟩, ?_⟩))
    have h2 := nl_spec hn hj
    simp only [cv_cat]
    by_cases e2 : j + 1 = i
    · simp [e, e2, h2 e2]
    · simp [e, e2]
theorem lvr_set2 {G : Gt} {ls : Array Slot} {n i : Nat} {L : List (Option Value)} {v : Value} (hL : L.length = n) (hn : nl L i = true)
    (h : lv_has ls n ((i, cv G v) :: (lvp G 0 L).filter (fun q => !(q.1 == i) && (!(q.1 == i + 1) && !(q.1 + 1 == i && q.2.category == 2))))) : lvr G ls n ((L.set i (some v)).set (i + 1) none) := by
  refine ⟨h.1, h.2.1, by simpa using hL, fun j w hj => ?_⟩
  by_cases e1 : j = i + 1
  · subst e1
    have hlt : i + 1 < (L.set i (some v)).length := by
      have := (List.getElem?_eq_some_iff.mp hj).1
      simpa using this
    rw [List.getElem?_set_self hlt] at hj
    cases hj
  · rw [List.getElem?_set_ne (fun z => e1 z.symm)] at hj
    by_cases e : j = i
    · subst e
      have hlt : j < L.length := by
        have := (List.getElem?_eq_some_iff.mp hj).1
        simpa using this
      rw [List.getElem?_set_self hlt] at hj
      cases hj
      exact h.2.2 (j, cv G v) List.mem_cons_self
    · rw [List.getElem?_set_ne (fun z => e z.symm)] at hj
      refine h.2.2 (j, cv G w) (List.mem_cons_of_mem _ (List.mem_filter.mpr ⟨(lvp_mem G L 0 _).mpr ⟨j, w, hj, by rw [Nat.zero_add]⟩, ?_⟩))
      have h2 := nl_spec hn hj
      simp only [cv_cat]
      by_cases e2 : j + 1 = i
      · simp [e, e1, e2, h2 e2]
      · simp [e, e1, e2]
/-! the entry -/
def ent : List Value → List (Option Value)
  | [] => []
  | v :: vs => if v.category = 2 then some v :: none :: ent vs else some v :: ent vs
theorem ent_len : ∀ vs : List Value, (ent vs).length = (lg_sl vs).length
  | [] => rfl
  | v :: vs => by
    have ih := ent_len vs
    by_cases h : v.category = 2
    · simp [ent, lg_sl, h] at ih ⊢; omega
    · simp [ent, lg_sl, h] at ih ⊢; omega
theorem ent_get (G : Gt) : ∀ (vs : List Value) (i j : Nat) (v : Value), (ent vs)[j]? = some (some v) → (i + j, cv G v) ∈ lv_args i (vs.map (cv G))
  | [], i, j, v, h => by simp [ent] at h
  | w :: vs, i, j, v, h => by
    by_cases hc : w.category = 2
    · simp only [ent, hc, if_true] at h
      simp only [List.map_cons, lv_args, cv_cat, hc, if_true]
      match j, h with
      | 0, h => cases h; exact List.mem_cons_self
      | 1, h => cases h
      | j + 2, h =>
        have := ent_get G vs (i + 2) j v h
        rw [show i + 2 + j = i + (j + 2) by omega] at this
        exact List.mem_cons_of_mem _ this
    · simp only [ent, hc, if_false] at h
      simp only [List.map_cons, lv_args, cv_cat, hc, if_false]
      match j, h with
      | 0, h => cases h; exact List.mem_cons_self
      | j + 1, h =>
        have := ent_get G vs (i + 1) j v h
        rw [show i + 1 + j = i + (j + 1) by omega] at this
        exact List.mem_cons_of_mem _ this
theorem sl_map (G : Gt) (vs : List Value) : (lg_sl (vs.map (cv G))).length = (lg_sl vs).length := by
  induction vs with
  | nil => rfl
  | cons v vs ih =>
    by_cases h : v.category = 2
    · simp [lg_sl, cv_cat, h] at ih ⊢; omega
    · simp [lg_sl, cv_cat, h] at ih ⊢; omega
theorem Call.of {G : Gt} {d : Nat} {M : Mt} {as : List Value} {h : Hp} {Q : Option Value → Hp → Prop} (hy : plainName M.1.cls = true) {n : Nat} (hn : (lg_sl as).length + n = M.2.2.1)
    (k : WP G d M Q 0 (ent as ++ List.replicate n none) [] h) : Call G d M as h Q := by
  refine Met.ofW (cc := M.2.1) (maxL := M.2.2.1) (ret := M.2.2.2) hy rfl ?_
  intro p e s m args below meth c s₁ B hml hv
  obtain ⟨rfl, ⟨hP, hK, hz⟩, hi⟩ := hv
  have hts := atoms_spec (ws := wsM M) B.pre
  have hlen : (lg_sl (as.map (cv G))).length = (lg_sl as).length := sl_map G as
  have hl := lv_entry (as.map (cv G)) (n := M.2.2.1) (by rw [hlen]; omega)
  rw [lg_entry_eq]
  refine k p e s m _ below meth c s.heap [] _ ⟨B.exec, B.bytes, B.returns, hml, findClass_of_methodNamed B.named, fun w hw => hts w (List.mem_cons_of_mem _ hw), B.notSynchronized, hK, hz, hi⟩ hP va_S.rf ⟨hl.1, hl.2.1, ?_, fun i v hv => ?_⟩
  · rw [List.length_append, List.length_replicate, ent_len]; exact hn
  · refine hl.2.2 (i, cv G v) ?_
    by_cases hlt : i < (ent as).length
    · rw [List.getElem?_append_left hlt] at hv
      have := ent_get G as 0 i v hv
      rwa [Nat.zero_add] at this
    · rw [List.getElem?_append_right (by omega)] at hv
      have := List.eq_of_mem_replicate (List.mem_of_getElem? hv)
      cases this
