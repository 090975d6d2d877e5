/-! the constructors -/
def m1 (i : Nat) : Nat → Int32 := fun j => if j < i then kM1 else 0
theorem m1_0 : m1 0 = fun _ => 0 := funext fun j => if_neg (by omega)
theorem m1_upd {i : Nat} (hi : i < 2 ^ 31) : upd (m1 i) (nI i).toNatClampNeg kM1 = m1 (i + 1) := funext fun j => by
  rw [nI_clamp hi]
  show (if j = i then kM1 else if j < i then kM1 else 0) = if j < i + 1 then kM1 else 0
  by_cases a : j = i
  · rw [if_pos a, if_pos (by omega)]
  · rw [if_neg a]
    by_cases b : j < i
    · rw [if_pos b, if_pos (by omega)]
    · rw [if_neg b, if_neg (by omega)]
abbrev eI (T3 : ClassId × ClassId × ClassId) (n : Nat) : va_E := .inl (T3.1, n, .inl (fun _ => 0))
abbrev eZ (T3 : ClassId × ClassId × ClassId) (n : Nat) : va_E := .inl (T3.2.1, n, .inl (fun _ => 0))
abbrev eR (T3 : ClassId × ClassId × ClassId) (n : Nat) (r : Nat → Nat) : va_E := .inl (T3.2.2, n, .inr (.inr (.inr (.inr (fun i => if i < n then some (r i) else none)))))
theorem CT.of {l : Launch} {D : va_G} {T3 : ClassId × ClassId × ClassId} {M : Mt} {as : List Value} {wIn : va_W} {S : Type} {wOut : S → va_W} {rm : Room} (hy : plainName M.1.cls = true) (hret : M.2.2.2 = none) (hnm : M.1.name = "<init>") (hl : (lg_sl as).length ≤ M.2.2.1)
    (body : ∀ (p : Program) (e : Env) (s : State) (m : MethodId) (below : List Frame) (meth : Method) (c : Code) (Q : State → Prop) (ls : Array Slot), CZ (((p, l, e, rm), (s, m, as.toArray, below), (meth, c, Q), (D, va_A wIn s.heap.size, T3)) : Cz) M → meth.name = "<init>" → lv_has ls M.2.2.1 (lv_args 0 as) →
      (∀ pc ls' u, decode M.2.1 pc = .ok (.return_, 1) → CW (((p, l, e, rm), (s, m, as.toArray, below), (meth, c, Q), (D, va_A wIn s.heap.size, T3)) : Cz) ls' pc [] (wOut u) rm.cells rm.slots) → CW (((p, l, e, rm), (s, m, as.toArray, below), (meth, c, Q), (D, va_A wIn s.heap.size, T3)) : Cz) ls 0 [] wIn 0 0) : CT l D T3 M as wIn S wOut rm := by
  intro sz
  refine Met.ofW (cc := M.2.1) (maxL := M.2.2.1) (ret := M.2.2.2) hy rfl ?_
  intro p e s m args below meth c s₁ B hml hv
  obtain ⟨rfl, hsz, hP, hK, hD0, hE⟩ := hv
  subst hsz
  have hts0 := atoms_spec (ws := wsM M) B.pre
  have hin : meth.name = "<init>" := (name_of_methodNamed B.named B.method).1.trans hnm
  rw [lg_entry_eq]
  refine body p e s m below meth c _ _ ⟨B.exec, B.bytes, B.returns, hml, findClass_of_methodNamed B.named, fun w hw => hts0 w (List.mem_cons_of_mem _ hw), B.notSynchronized, hK, hE, fun q h => Or.inr h⟩ hin (lv_entry as hl) (fun pc ls' u hd => ?_) s.heap [] hP hD0.self va_S.rf
  intro H locs hP1 hD1 hS1
  exact W.vret B.exec B.bytes (B.returns.trans hret) (fun t ht hW => ⟨⟨u, rfl, trivial, by rw [ht]; exact hP1, hD1⟩, hS1.F ht⟩) hS1.2.2 hd B.notSynchronized
theorem ff_X5_9 : FF RX5 9 5 5 (.array .int) := ⟨fk_X5_9, fun q hq => by cases hq; exact ⟨rfl, rfl, by decide +kernel⟩⟩
theorem ff_X5_15 : FF RX5 15 5 6 (.array .int) := ⟨fk_X5_15, fun q hq => by cases hq; exact ⟨rfl, rfl, by decide +kernel⟩⟩
theorem ff_X5_18 : FF RX5 18 5 7 (.array .int) := ⟨fk_X5_18, fun q hq => by cases hq; exact ⟨rfl, rfl, by decide +kernel⟩⟩
theorem ff_X5_21 : FF RX5 21 5 8 (.array .int) := ⟨fk_X5_21, fun q hq => by cases hq; exact ⟨rfl, rfl, by decide +kernel⟩⟩
theorem ff_X5_24 : FF RX5 24 5 9 (.array .int) := ⟨fk_X5_24, fun q hq => by cases hq; exact ⟨rfl, rfl, by decide +kernel⟩⟩
theorem ff_X5_27 : FF RX5 27 5 10 (.array .int) := ⟨fk_X5_27, fun q hq => by cases hq; exact ⟨rfl, rfl, by decide +kernel⟩⟩
theorem ff_X5_30 : FF RX5 30 5 11 (.array .int) := ⟨fk_X5_30, fun q hq => by cases hq; exact ⟨rfl, rfl, by decide +kernel⟩⟩
theorem ff_X5_33 : FF RX5 33 5 12 (.array .int) := ⟨fk_X5_33, fun q hq => by cases hq; exact ⟨rfl, rfl, by decide +kernel⟩⟩
theorem ff_X5_36 : FF RX5 36 5 13 (.array .int) := ⟨fk_X5_36, fun q hq => by cases hq; exact ⟨rfl, rfl, by decide +kernel⟩⟩
theorem ff_X5_39 : FF RX5 39 5 14 (.array .int) := ⟨fk_X5_39, fun q hq => by cases hq; exact ⟨rfl, rfl, by decide +kernel⟩⟩
theorem ff_X5_42 : FF RX5 42 5 15 (.array .int) := ⟨fk_X5_42, fun q hq => by cases hq; exact ⟨rfl, rfl, by decide +kernel⟩⟩
theorem ct_X5 {l : Launch} {D : va_G} {T3 : ClassId × ClassId × ClassId} (h0 : Nat) : CT l D T3 mX5_init [.ref h0] [(h0, .inr (5, [.int 0, .int 0, .int 0, .int 0, .int 0, .null, .null, .null, .null, .null, .null, .null, .null, .null, .null, .null]))] (Nat → Nat) (fun u => [(h0, .inr (5, [.int 0, .int 0, .int 0, .int 0, .int 0, .ref (u 1), .ref (u 2), .ref (u 3), .ref (u 4), .ref (u 5), .ref (u 6), .ref (u 7), .ref (u 8), .ref (u 9), .ref (u 10), .ref (u 11)])), (u 1, eI T3 5), (u 2, eI T3 5), (u 3, eI T3 5), (u 4, eI T3 6), (u 5, eI T3 6), (u 6, eI T3 6), (u 7, eI T3 6), (u 8, eI T3 6), (u 9, eI T3 6), (u 10, eI T3 6), (u 11, eI T3 5)]) ({ frames := 1, cells := 11, slots := 62, locals := 64 }) := by
  refine CT.of (by decide +kernel) rfl rfl (Nat.le_of_ble_eq_true rfl) (fun p e s m below meth c Q ls C hin hl ret => ?_)
  refine cw_aload (pc := 0) C hl 0 dX5_init_0 rfl rfl ?_
  refine cw_obj (pc := 1) C (mT1 (List.mem_of_getElem? (i := 50) rfl) rfl) dX5_init_1 hl.1 (Nat.le_of_ble_eq_true rfl) (Nat.le_of_ble_eq_true rfl) rfl ?_
  refine cw_aload (pc := 4) C hl 0 dX5_init_4 rfl rfl ?_
  refine cw_iconst (pc := 5) (v := nI 5) C dX5_init_5 rfl ?_
  refine cw_newI (pc := 6) (N := 5) C dX5_init_6 (by decide) (Nat.le_of_ble_eq_true rfl) (Nat.le_of_ble_eq_true rfl) (fun q1 => ?_)
  refine cw_putF (pc := 8) C hin ff_X5_9 dX5_init_8 rfl rfl (Nat.le_of_ble_eq_true rfl) ?_
  dsimp only [List.set_cons_zero, List.set_cons_succ, List.cons_append, List.nil_append]
  refine cw_aload (pc := 11) C hl 0 dX5_init_11 rfl rfl ?_
  refine cw_iconst (pc := 12) (v := nI 5) C dX5_init_12 rfl ?_
  refine cw_newI (pc := 13) (N := 5) C dX5_init_13 (by decide) (Nat.le_of_ble_eq_true rfl) (Nat.le_of_ble_eq_true rfl) (fun q2 => ?_)
  refine cw_putF (pc := 15) C hin ff_X5_15 dX5_init_15 rfl rfl (Nat.le_of_ble_eq_true rfl) ?_
  dsimp only [List.set_cons_zero, List.set_cons_succ, List.cons_append, List.nil_append]
  refine cw_aload (pc := 18) C hl 0 dX5_init_18 rfl rfl ?_
  refine cw_iconst (pc := 19) (v := nI 5) C dX5_init_19 rfl ?_
  refine cw_newI (pc := 20) (N := 5) C dX5_init_20 (by decide) (Nat.le_of_ble_eq_true rfl) (Nat.le_of_ble_eq_true rfl) (fun q3 => ?_)
  refine cw_putF (pc := 22) C hin ff_X5_18 dX5_init_22 rfl rfl (Nat.le_of_ble_eq_true rfl) ?_
  dsimp only [List.set_cons_zero, List.set_cons_succ, List.cons_append, List.nil_append]
  refine cw_aload (pc := 25) C hl 0 dX5_init_25 rfl rfl ?_
  refine cw_bipush (pc := 26) (v := nI 6) C dX5_init_26 rfl ?_
  refine cw_newI (pc := 28) (N := 6) C dX5_init_28 (by decide) (Nat.le_of_ble_eq_true rfl) (Nat.le_of_ble_eq_true rfl) (fun q4 => ?_)
  refine cw_putF (pc := 30) C hin ff_X5_21 dX5_init_30 rfl rfl (Nat.le_of_ble_eq_true rfl) ?_
  dsimp only [List.set_cons_zero, List.set_cons_succ, List.cons_append, List.nil_append]
  refine cw_aload (pc := 33) C hl 0 dX5_init_33 rfl rfl ?_
  refine cw_bipush (pc := 34) (v := nI 6) C dX5_init_34 rfl ?_
  refine cw_newI (pc := 36) (N := 6) C dX5_init_36 (by decide) (Nat.le_of_ble_eq_true rfl) (Nat.le_of_ble_eq_true rfl) (fun q5 => ?_)
  refine cw_putF (pc := 38) C hin ff_X5_24 dX5_init_38 rfl rfl (Nat.le_of_ble_eq_true rfl) ?_
  dsimp only [List.set_cons_zero, List.set_cons_succ, List.cons_append, List.nil_append]
  refine cw_aload (pc := 41) C hl 0 dX5_init_41 rfl rfl ?_
  refine cw_bipush (pc := 42) (v := nI 6) C dX5_init_42 rfl ?_
  refine cw_newI (pc := 44) (N := 6) C dX5_init_44 (by decide) (Nat.le_of_ble_eq_true rfl) (Nat.le_of_ble_eq_true rfl) (fun q6 => ?_)
  refine cw_putF (pc := 46) C hin ff_X5_27 dX5_init_46 rfl rfl (Nat.le_of_ble_eq_true rfl) ?_
  dsimp only [List.set_cons_zero, List.set_cons_succ, List.cons_append, List.nil_append]
  refine cw_aload (pc := 49) C hl 0 dX5_init_49 rfl rfl ?_
  refine cw_bipush (pc := 50) (v := nI 6) C dX5_init_50 rfl ?_
  refine cw_newI (pc := 52) (N := 6) C dX5_init_52 (by decide) (Nat.le_of_ble_eq_true rfl) (Nat.le_of_ble_eq_true rfl) (fun q7 => ?_)
  refine cw_putF (pc := 54) C hin ff_X5_30 dX5_init_54 rfl rfl (Nat.le_of_ble_eq_true rfl) ?_
  dsimp only [List.set_cons_zero, List.set_cons_succ, List.cons_append, List.nil_append]
  refine cw_aload (pc := 57) C hl 0 dX5_init_57 rfl rfl ?_
  refine cw_bipush (pc := 58) (v := nI 6) C dX5_init_58 rfl ?_
  refine cw_newI (pc := 60) (N := 6) C dX5_init_60 (by decide) (Nat.le_of_ble_eq_true rfl) (Nat.le_of_ble_eq_true rfl) (fun q8 => ?_)
  refine cw_putF (pc := 62) C hin ff_X5_33 dX5_init_62 rfl rfl (Nat.le_of_ble_eq_true rfl) ?_
  dsimp only [List.set_cons_zero, List.set_cons_succ, List.cons_append, List.nil_append]
  refine cw_aload (pc := 65) C hl 0 dX5_init_65 rfl rfl ?_
  refine cw_bipush (pc := 66) (v := nI 6) C dX5_init_66 rfl ?_
  refine cw_newI (pc := 68) (N := 6) C dX5_init_68 (by decide) (Nat.le_of_ble_eq_true rfl) (Nat.le_of_ble_eq_true rfl) (fun q9 => ?_)
  refine cw_putF (pc := 70) C hin ff_X5_36 dX5_init_70 rfl rfl (Nat.le_of_ble_eq_true rfl) ?_
  dsimp only [List.set_cons_zero, List.set_cons_succ, List.cons_append, List.nil_append]
  refine cw_aload (pc := 73) C hl 0 dX5_init_73 rfl rfl ?_
  refine cw_bipush (pc := 74) (v := nI 6) C dX5_init_74 rfl ?_
  refine cw_newI (pc := 76) (N := 6) C dX5_init_76 (by decide) (Nat.le_of_ble_eq_true rfl) (Nat.le_of_ble_eq_true rfl) (fun q10 => ?_)
  refine cw_putF (pc := 78) C hin ff_X5_39 dX5_init_78 rfl rfl (Nat.le_of_ble_eq_true rfl) ?_
  dsimp only [List.set_cons_zero, List.set_cons_succ, List.cons_append, List.nil_append]
  refine cw_aload (pc := 81) C hl 0 dX5_init_81 rfl rfl ?_
  refine cw_iconst (pc := 82) (v := nI 5) C dX5_init_82 rfl ?_
  refine cw_newI (pc := 83) (N := 5) C dX5_init_83 (by decide) (Nat.le_of_ble_eq_true rfl) (Nat.le_of_ble_eq_true rfl) (fun q11 => ?_)
  refine cw_putF (pc := 85) C hin ff_X5_42 dX5_init_85 rfl rfl (Nat.le_of_ble_eq_true rfl) ?_
  dsimp only [List.set_cons_zero, List.set_cons_succ, List.cons_append, List.nil_append]
  exact ret 88 _ (fun k => ([0, q1, q2, q3, q4, q5, q6, q7, q8, q9, q10, q11] : List Nat).getD k 0) dX5_init_88
theorem ff_X1_9 : FF RX1 9 1 0 (.array .int) := ⟨fk_X1_9, fun q hq => by cases hq; exact ⟨rfl, rfl, by decide +kernel⟩⟩
theorem ct_X1 {l : Launch} {D : va_G} {T3 : ClassId × ClassId × ClassId} (h0 : Nat) : CT l D T3 mX1_init [.ref h0] [(h0, .inr (1, [.null, .int 0, .int 0, .int 0, .int 0, .int 0]))] (Nat) (fun u => [(h0, .inr (1, [.ref u, .int 0, .int 0, .int 0, .int 0, .int 0])), (u, eI T3 16)]) ({ frames := 1, cells := 1, slots := 16, locals := 64 }) := by
  refine CT.of (by decide +kernel) rfl rfl (Nat.le_of_ble_eq_true rfl) (fun p e s m below meth c Q ls C hin hl ret => ?_)
  refine cw_aload (pc := 0) C hl 0 dX1_init_0 rfl rfl ?_
  refine cw_obj (pc := 1) C (mT1 (List.mem_of_getElem? (i := 180) rfl) rfl) dX1_init_1 hl.1 (Nat.le_of_ble_eq_true rfl) (Nat.le_of_ble_eq_true rfl) rfl ?_
  refine cw_aload (pc := 4) C hl 0 dX1_init_4 rfl rfl ?_
  refine cw_bipush (pc := 5) (v := nI 16) C dX1_init_5 rfl ?_
  refine cw_newI (pc := 7) (N := 16) C dX1_init_7 (by decide) (Nat.le_of_ble_eq_true rfl) (Nat.le_of_ble_eq_true rfl) (fun q1 => ?_)
  refine cw_putF (pc := 9) C hin ff_X1_9 dX1_init_9 rfl rfl (Nat.le_of_ble_eq_true rfl) ?_
  dsimp only [List.set_cons_zero, List.set_cons_succ, List.cons_append, List.nil_append]
  exact ret 12 _ q1 dX1_init_12
theorem ff_X0_13 : FF RX0 13 0 0 (.array (.array .int)) := ⟨fk_X0_13, fun q hq => by cases hq; exact ⟨rfl, rfl, by decide +kernel⟩⟩
theorem ct_X0 {l : Launch} {D : va_G} {T3 : ClassId × ClassId × ClassId} (h0 : Nat) : CT l D T3 mX0_init [.ref h0] [(h0, .inr (0, [.null, .int 0, .int 0]))] (Nat × (Nat → Nat)) (fun u => (h0, .inr (0, [.ref u.1, .int 0, .int 0])) :: (u.1, eR T3 24 u.2) :: (List.range 24).map (fun i => (u.2 i, eI T3 56))) ({ frames := 1, cells := 25, slots := 1368, locals := 64 }) := by
  refine CT.of (by decide +kernel) rfl rfl (Nat.le_of_ble_eq_true rfl) (fun p e s m below meth c Q ls C hin hl ret => ?_)
  refine cw_aload (pc := 0) C hl 0 dX0_init_0 rfl rfl ?_
  refine cw_obj (pc := 1) C (mT1 (List.mem_of_getElem? (i := 161) rfl) rfl) dX0_init_1 hl.1 (Nat.le_of_ble_eq_true rfl) (Nat.le_of_ble_eq_true rfl) rfl ?_
  refine cw_aload (pc := 4) C hl 0 dX0_init_4 rfl rfl ?_
  refine cw_bipush (pc := 5) (v := nI 24) C dX0_init_5 rfl ?_
  refine cw_bipush (pc := 7) (v := nI 56) C dX0_init_7 rfl ?_
  refine cw_mna (pc := 9) (N := 24) (K := 56) C (mT1 (List.mem_of_getElem? (i := 162) rfl) rfl) dX0_init_9 (by decide) (by decide) (Nat.le_of_ble_eq_true rfl) (Nat.le_of_ble_eq_true rfl) (fun q1 r1 => ?_)
  refine cw_putF (pc := 13) C hin ff_X0_13 dX0_init_13 rfl rfl (Nat.le_of_ble_eq_true rfl) ?_
  dsimp only [List.set_cons_zero, List.set_cons_succ, List.cons_append, List.nil_append]
  exact ret 16 _ (q1, r1) dX0_init_16
theorem df_X5 : ∀ j, j < 16 → defaultValue (tyX5 j) = vp_V [.int 0, .int 0, .int 0, .int 0, .int 0, .null, .null, .null, .null, .null, .null, .null, .null, .null, .null, .null] j := by decide +kernel
theorem ff_X3_12 : FF RX3 12 3 0 (.object "LentGrannies$Town") := ⟨fk_X3_12, fun q hq => by cases hq; exact ⟨rfl, rfl, by decide +kernel⟩⟩
theorem ff_X3_18 : FF RX3 18 3 1 (.array .int) := ⟨fk_X3_18, fun q hq => by cases hq; exact ⟨rfl, rfl, by decide +kernel⟩⟩
theorem ff_X3_22 : FF RX3 22 3 2 (.array .int) := ⟨fk_X3_22, fun q hq => by cases hq; exact ⟨rfl, rfl, by decide +kernel⟩⟩
theorem ff_X3_25 : FF RX3 25 3 3 (.array .int) := ⟨fk_X3_25, fun q hq => by cases hq; exact ⟨rfl, rfl, by decide +kernel⟩⟩
theorem ct_X3 {l : Launch} {D : va_G} {T3 : ClassId × ClassId × ClassId} (h0 : Nat) : CT l D T3 mX3_init [.ref h0] [(h0, .inr (3, [.null, .null, .null, .null, .int 0, .int 0]))] (Nat × (Nat → Nat) × Nat × Nat × Nat) (fun u => (h0, .inr (3, [.ref u.1, .ref u.2.2.1, .ref u.2.2.2.1, .ref u.2.2.2.2, .int 0, .int 0])) :: ([(u.1, .inr (5, [.int 0, .int 0, .int 0, .int 0, .int 0, .ref (u.2.1 1), .ref (u.2.1 2), .ref (u.2.1 3), .ref (u.2.1 4), .ref (u.2.1 5), .ref (u.2.1 6), .ref (u.2.1 7), .ref (u.2.1 8), .ref (u.2.1 9), .ref (u.2.1 10), .ref (u.2.1 11)])), (u.2.1 1, eI T3 5), (u.2.1 2, eI T3 5), (u.2.1 3, eI T3 5), (u.2.1 4, eI T3 6), (u.2.1 5, eI T3 6), (u.2.1 6, eI T3 6), (u.2.1 7, eI T3 6), (u.2.1 8, eI T3 6), (u.2.1 9, eI T3 6), (u.2.1 10, eI T3 6), (u.2.1 11, eI T3 5)] ++ [(u.2.2.1, eI T3 6), (u.2.2.2.1, eI T3 30), (u.2.2.2.2, eI T3 7)])) ({ frames := 2, cells := 15, slots := 121, locals := 160 }) := by
  refine CT.of (by decide +kernel) rfl rfl (Nat.le_of_ble_eq_true rfl) (fun p e s m below meth c Q ls C hin hl ret => ?_)
  refine cw_aload (pc := 0) C hl 0 dX3_init_0 rfl rfl ?_
  refine cw_obj (pc := 1) C (mT1 (List.mem_of_getElem? (i := 208) rfl) rfl) dX3_init_1 hl.1 (Nat.le_of_ble_eq_true rfl) (Nat.le_of_ble_eq_true rfl) rfl ?_
  refine cw_aload (pc := 4) C hl 0 dX3_init_4 rfl rfl ?_
  refine cw_new (pc := 5) (ci := 5) (fs := [.int 0, .int 0, .int 0, .int 0, .int 0, .null, .null, .null, .null, .null, .null, .null, .null, .null, .null, .null]) C rfl in_5 tyX5_ok (mT1 (List.mem_of_getElem? (i := 209) rfl) rfl) (mT1 (List.mem_of_getElem? (i := 46) rfl) rfl) (mT1 (List.mem_of_getElem? (i := 4) rfl) rfl) df_X5 dX3_init_5 (Nat.le_of_ble_eq_true rfl) (Nat.le_of_ble_eq_true rfl) (fun q1 => ?_)
  refine cw_dup (pc := 8) C dX3_init_8 rfl ?_
  refine cw_ctor (pc := 9) (As := []) C (ct_X5 _) (Or.inr (List.mem_of_getElem? (i := 6) rfl)) (mT1 (List.mem_of_getElem? (i := 48) rfl) rfl) rfl lb_X5_init rfl dX3_init_9 hl.1 rfl rfl ⟨Nat.le_of_ble_eq_true rfl, Nat.le_of_ble_eq_true rfl⟩ ⟨Nat.le_of_ble_eq_true rfl, Nat.le_of_ble_eq_true rfl⟩ (fun u2 => ?_)
  refine cw_putF (pc := 12) C hin ff_X3_12 dX3_init_12 rfl rfl (Nat.le_of_ble_eq_true rfl) ?_
  dsimp only [List.set_cons_zero, List.set_cons_succ, List.cons_append, List.nil_append]
  refine cw_aload (pc := 15) C hl 0 dX3_init_15 rfl rfl ?_
  refine cw_bipush (pc := 16) (v := nI 6) C dX3_init_16 rfl ?_
  refine cw_newI (pc := 18) (N := 6) C dX3_init_18 (by decide) (Nat.le_of_ble_eq_true rfl) (Nat.le_of_ble_eq_true rfl) (fun q3 => ?_)
  refine cw_putF (pc := 20) C hin ff_X3_18 dX3_init_20 rfl rfl (Nat.le_of_ble_eq_true rfl) ?_
  dsimp only [List.set_cons_zero, List.set_cons_succ, List.cons_append, List.nil_append]
  refine cw_aload (pc := 23) C hl 0 dX3_init_23 rfl rfl ?_
  refine cw_bipush (pc := 24) (v := nI 30) C dX3_init_24 rfl ?_
  refine cw_newI (pc := 26) (N := 30) C dX3_init_26 (by decide) (Nat.le_of_ble_eq_true rfl) (Nat.le_of_ble_eq_true rfl) (fun q4 => ?_)
  refine cw_putF (pc := 28) C hin ff_X3_22 dX3_init_28 rfl rfl (Nat.le_of_ble_eq_true rfl) ?_
  dsimp only [List.set_cons_zero, List.set_cons_succ, List.cons_append, List.nil_append]
  refine cw_aload (pc := 31) C hl 0 dX3_init_31 rfl rfl ?_
  refine cw_bipush (pc := 32) (v := nI 7) C dX3_init_32 rfl ?_
  refine cw_newI (pc := 34) (N := 7) C dX3_init_34 (by decide) (Nat.le_of_ble_eq_true rfl) (Nat.le_of_ble_eq_true rfl) (fun q5 => ?_)
  refine cw_putF (pc := 36) C hin ff_X3_25 dX3_init_36 rfl rfl (Nat.le_of_ble_eq_true rfl) ?_
  dsimp only [List.set_cons_zero, List.set_cons_succ, List.cons_append, List.nil_append]
  exact ret 39 _ (q1, u2, q3, q4, q5) dX3_init_39
theorem ff_X4_11 : FF RX4 11 4 0 (.array (.array .int)) := ⟨fk_X4_11, fun q hq => by cases hq; exact ⟨rfl, rfl, by decide +kernel⟩⟩
theorem ff_X4_16 : FF RX4 16 4 1 (.array .int) := ⟨fk_X4_16, fun q hq => by cases hq; exact ⟨rfl, rfl, by decide +kernel⟩⟩
theorem ff_X4_20 : FF RX4 20 4 2 (.array .int) := ⟨fk_X4_20, fun q hq => by cases hq; exact ⟨rfl, rfl, by decide +kernel⟩⟩
theorem ct_X4 {l : Launch} {D : va_G} {T3 : ClassId × ClassId × ClassId} (h0 : Nat) : CT l D T3 mX4_init [.ref h0] [(h0, .inr (4, [.null, .null, .null]))] (Nat × (Nat → Nat) × Nat × Nat) (fun u => (h0, .inr (4, [.ref u.1, .ref u.2.2.1, .ref u.2.2.2])) :: (u.1, eR T3 8 u.2.1) :: ((List.range 8).map (fun i => (u.2.1 i, eI T3 40)) ++ [(u.2.2.1, eI T3 8), (u.2.2.2, .inl (T3.1, 8, .inl (m1 8)))])) ({ frames := 1, cells := 11, slots := 344, locals := 64 }) := by
  refine CT.of (by decide +kernel) rfl rfl (Nat.le_of_ble_eq_true rfl) (fun p e s m below meth c Q ls C hin hl ret => ?_)
  refine cw_aload (pc := 0) C hl 0 dX4_init_0 rfl rfl ?_
  refine cw_obj (pc := 1) C (mT1 (List.mem_of_getElem? (i := 25) rfl) rfl) dX4_init_1 hl.1 (Nat.le_of_ble_eq_true rfl) (Nat.le_of_ble_eq_true rfl) rfl ?_
  refine cw_aload (pc := 4) C hl 0 dX4_init_4 rfl rfl ?_
  refine cw_bipush (pc := 5) (v := nI 8) C dX4_init_5 rfl ?_
  refine cw_bipush (pc := 7) (v := nI 40) C dX4_init_7 rfl ?_
  refine cw_mna (pc := 9) (N := 8) (K := 40) C (mT1 (List.mem_of_getElem? (i := 26) rfl) rfl) dX4_init_9 (by decide) (by decide) (Nat.le_of_ble_eq_true rfl) (Nat.le_of_ble_eq_true rfl) (fun q1 r1 => ?_)
  refine cw_putF (pc := 13) C hin ff_X4_11 dX4_init_13 rfl rfl (Nat.le_of_ble_eq_true rfl) ?_
  dsimp only [List.set_cons_zero, List.set_cons_succ, List.cons_append, List.nil_append]
  refine cw_aload (pc := 16) C hl 0 dX4_init_16 rfl rfl ?_
  refine cw_bipush (pc := 17) (v := nI 8) C dX4_init_17 rfl ?_
  refine cw_newI (pc := 19) (N := 8) C dX4_init_19 (by decide) (Nat.le_of_ble_eq_true rfl) (Nat.le_of_ble_eq_true rfl) (fun q2 => ?_)
  refine cw_putF (pc := 21) C hin ff_X4_16 dX4_init_21 rfl rfl (Nat.le_of_ble_eq_true rfl) ?_
  dsimp only [List.set_cons_zero, List.set_cons_succ, List.cons_append, List.nil_append]
  refine cw_aload (pc := 24) C hl 0 dX4_init_24 rfl rfl ?_
  refine cw_bipush (pc := 25) (v := nI 8) C dX4_init_25 rfl ?_
  refine cw_newI (pc := 27) (N := 8) C dX4_init_27 (by decide) (Nat.le_of_ble_eq_true rfl) (Nat.le_of_ble_eq_true rfl) (fun q3 => ?_)
  refine cw_putF (pc := 29) C hin ff_X4_20 dX4_init_29 rfl rfl (Nat.le_of_ble_eq_true rfl) ?_
  dsimp only [List.set_cons_zero, List.set_cons_succ, List.cons_append, List.nil_append]
  refine cw_iconst (pc := 32) (v := nI 0) C dX4_init_32 rfl ?_
  have loop : ∀ n i (ls : Array Slot), i + n = 8 → lv_has ls 2 [(1, .int (nI i)), (0, .ref h0)] → CW (((p, l, e, { frames := 1, cells := 11, slots := 344, locals := 64 }), (s, m, [.ref h0].toArray, below), (meth, c, Q), (D, va_A [(h0, .inr (4, [.null, .null, .null]))] s.heap.size, T3)) : Cz) ls 34 [] ((h0, .inr (4, [.ref q1, .ref q2, .ref q3])) :: (q1, eR T3 8 r1) :: ((List.range 8).map (fun i => (r1 i, eI T3 40)) ++ [(q2, eI T3 8), (q3, .inl (T3.1, 8, .inl (m1 i)))])) 11 344 := by
    intro n
    induction n with
    | zero =>
      intro i ls hi hl
      have hi : i = 8 := by omega
      subst hi
      intro H locs hP hD hS
      refine lv_iload_n C.1 C.2.1 dX4_init_34 rfl (lv_at hl 0 rfl) ?_
      refine lv_bipush (v := nI 8) C.1 C.2.1 dX4_init_35 rfl ?_
      refine lv_icmp_ge (tgt := 53) C.1 C.2.1 dX4_init_37 (by decide) (fun _ => ?_) (fun q => absurd (by decide) q)
      exact ret 53 ls (q1, r1, q2, q3) dX4_init_53 H locs hP hD hS
    | succ n ih =>
      intro i ls hi hl
      have hi8 : i < 8 := by omega
      intro H locs hP hD hS
      refine lv_iload_n C.1 C.2.1 dX4_init_34 rfl (lv_at hl 0 rfl) ?_
      refine lv_bipush (v := nI 8) C.1 C.2.1 dX4_init_35 rfl ?_
      refine lv_icmp_ge (tgt := 53) C.1 C.2.1 dX4_init_37 (by decide) (fun q => absurd q (nI_ge hi8 (by decide))) (fun _ => ?_)
      have body : CW (((p, l, e, { frames := 1, cells := 11, slots := 344, locals := 64 }), (s, m, [.ref h0].toArray, below), (meth, c, Q), (D, va_A [(h0, .inr (4, [.null, .null, .null]))] s.heap.size, T3)) : Cz) ls 40 [] ((h0, .inr (4, [.ref q1, .ref q2, .ref q3])) :: (q1, eR T3 8 r1) :: ((List.range 8).map (fun i => (r1 i, eI T3 40)) ++ [(q2, eI T3 8), (q3, .inl (T3.1, 8, .inl (m1 i)))])) 11 344 := by
        refine cw_aload (pc := 40) C hl 1 dX4_init_40 rfl rfl ?_
        refine cw_get (pc := 41) C fk_X4_20 dX4_init_41 rfl rfl ?_
        refine cw_iload (pc := 44) C hl 0 dX4_init_44 rfl rfl ?_
        refine cw_iconst (pc := 45) (v := kM1) C dX4_init_45 rfl ?_
        refine cw_iast (pc := 46) (q0 := 11) (w1 := ((h0, .inr (4, [.ref q1, .ref q2, .ref q3])) :: (q1, eR T3 8 r1) :: ((List.range 8).map (fun i => (r1 i, eI T3 40)) ++ [(q2, eI T3 8), (q3, .inl (T3.1, 8, .inl (m1 (i + 1))))]))) C dX4_init_46 rfl (nI_in hi8 (by decide)) (by rw [m1_upd (by omega)]; rfl) ?_
        intro H locs hP hD hS
        refine lv_iinc (k := 0) (v := nI (i + 1)) C.1 C.2.1 dX4_init_47 hl rfl (nI_add i 1) (by decide) rfl (fun ls2 hl2 => ?_)
        refine lv_goto (tgt := 34) C.1 C.2.1 dX4_init_50 (by decide) ?_
        exact ih (i + 1) ls2 (by omega) hl2 H locs hP hD hS
      exact body H locs hP hD hS
  intro H locs hP hD hS
  refine lv_istore_n C.1 C.2.1 dX4_init_33 rfl hl (by decide) rfl (fun ls2 hl2 => ?_)
  have e0 := m1_0
  have lp := loop 8 0 ls2 rfl hl2
  rw [e0] at lp
  exact lp H locs hP hD hS
theorem ff_X2_12 : FF RX2 12 2 0 (.object "LentGrannies$Town") := ⟨fk_X2_12, fun q hq => by cases hq; exact ⟨rfl, rfl, by decide +kernel⟩⟩
theorem ff_X2_18 : FF RX2 18 2 3 (.array .int) := ⟨fk_X2_18, fun q hq => by cases hq; exact ⟨rfl, rfl, by decide +kernel⟩⟩
theorem ct_X2 {l : Launch} {D : va_G} {T3 : ClassId × ClassId × ClassId} (h0 : Nat) : CT l D T3 mX2_init [.ref h0] [(h0, .inr (2, [.null, .int 0, .int 0, .null, .int 0, .int 0]))] (Nat × (Nat → Nat) × Nat) (fun u => (h0, .inr (2, [.ref u.1, .int 0, .int 0, .ref u.2.2, .int 0, .int 0])) :: ([(u.1, .inr (5, [.int 0, .int 0, .int 0, .int 0, .int 0, .ref (u.2.1 1), .ref (u.2.1 2), .ref (u.2.1 3), .ref (u.2.1 4), .ref (u.2.1 5), .ref (u.2.1 6), .ref (u.2.1 7), .ref (u.2.1 8), .ref (u.2.1 9), .ref (u.2.1 10), .ref (u.2.1 11)])), (u.2.1 1, eI T3 5), (u.2.1 2, eI T3 5), (u.2.1 3, eI T3 5), (u.2.1 4, eI T3 6), (u.2.1 5, eI T3 6), (u.2.1 6, eI T3 6), (u.2.1 7, eI T3 6), (u.2.1 8, eI T3 6), (u.2.1 9, eI T3 6), (u.2.1 10, eI T3 6), (u.2.1 11, eI T3 5)] ++ [(u.2.2, eI T3 100)])) ({ frames := 2, cells := 13, slots := 178, locals := 160 }) := by
  refine CT.of (by decide +kernel) rfl rfl (Nat.le_of_ble_eq_true rfl) (fun p e s m below meth c Q ls C hin hl ret => ?_)
  refine cw_aload (pc := 0) C hl 0 dX2_init_0 rfl rfl ?_
  refine cw_obj (pc := 1) C (mT1 (List.mem_of_getElem? (i := 44) rfl) rfl) dX2_init_1 hl.1 (Nat.le_of_ble_eq_true rfl) (Nat.le_of_ble_eq_true rfl) rfl ?_
  refine cw_aload (pc := 4) C hl 0 dX2_init_4 rfl rfl ?_
  refine cw_new (pc := 5) (ci := 5) (fs := [.int 0, .int 0, .int 0, .int 0, .int 0, .null, .null, .null, .null, .null, .null, .null, .null, .null, .null, .null]) C rfl in_5 tyX5_ok (mT1 (List.mem_of_getElem? (i := 45) rfl) rfl) (mT1 (List.mem_of_getElem? (i := 46) rfl) rfl) (mT1 (List.mem_of_getElem? (i := 4) rfl) rfl) df_X5 dX2_init_5 (Nat.le_of_ble_eq_true rfl) (Nat.le_of_ble_eq_true rfl) (fun q1 => ?_)
  refine cw_dup (pc := 8) C dX2_init_8 rfl ?_
  refine cw_ctor (pc := 9) (As := []) C (ct_X5 _) (Or.inr (List.mem_of_getElem? (i := 4) rfl)) (mT1 (List.mem_of_getElem? (i := 48) rfl) rfl) rfl lb_X5_init rfl dX2_init_9 hl.1 rfl rfl ⟨Nat.le_of_ble_eq_true rfl, Nat.le_of_ble_eq_true rfl⟩ ⟨Nat.le_of_ble_eq_true rfl, Nat.le_of_ble_eq_true rfl⟩ (fun u2 => ?_)
  refine cw_putF (pc := 12) C hin ff_X2_12 dX2_init_12 rfl rfl (Nat.le_of_ble_eq_true rfl) ?_
  dsimp only [List.set_cons_zero, List.set_cons_succ, List.cons_append, List.nil_append]
  refine cw_aload (pc := 15) C hl 0 dX2_init_15 rfl rfl ?_
  refine cw_bipush (pc := 16) (v := nI 100) C dX2_init_16 rfl ?_
  refine cw_newI (pc := 18) (N := 100) C dX2_init_18 (by decide) (Nat.le_of_ble_eq_true rfl) (Nat.le_of_ble_eq_true rfl) (fun q3 => ?_)
  refine cw_putF (pc := 20) C hin ff_X2_18 dX2_init_20 rfl rfl (Nat.le_of_ble_eq_true rfl) ?_
  dsimp only [List.set_cons_zero, List.set_cons_succ, List.cons_append, List.nil_append]
  exact ret 23 _ (q1, u2, q3) dX2_init_23
theorem ff_X7_7 : FF RX7 7 7 0 (.array .int) := ⟨fk_X7_7, fun q hq => by cases hq; exact ⟨rfl, rfl, by decide +kernel⟩⟩
theorem ff_X7_13 : FF RX7 13 7 3 (.array .boolean) := ⟨fk_X7_13, fun q hq => by cases hq; exact ⟨rfl, rfl, by decide +kernel⟩⟩
theorem ff_X7_17 : FF RX7 17 7 4 (.array .int) := ⟨fk_X7_17, fun q hq => by cases hq; exact ⟨rfl, rfl, by decide +kernel⟩⟩
theorem ff_X7_20 : FF RX7 20 7 5 (.array .int) := ⟨fk_X7_20, fun q hq => by cases hq; exact ⟨rfl, rfl, by decide +kernel⟩⟩
theorem ff_X7_23 : FF RX7 23 7 6 (.array .int) := ⟨fk_X7_23, fun q hq => by cases hq; exact ⟨rfl, rfl, by decide +kernel⟩⟩
theorem ff_X7_26 : FF RX7 26 7 7 (.array .int) := ⟨fk_X7_26, fun q hq => by cases hq; exact ⟨rfl, rfl, by decide +kernel⟩⟩
theorem ff_X7_29 : FF RX7 29 7 11 (.array .int) := ⟨fk_X7_29, fun q hq => by cases hq; exact ⟨rfl, rfl, by decide +kernel⟩⟩
theorem ff_X7_32 : FF RX7 32 7 16 (.array .int) := ⟨fk_X7_32, fun q hq => by cases hq; exact ⟨rfl, rfl, by decide +kernel⟩⟩
theorem ff_X7_35 : FF RX7 35 7 17 (.array .int) := ⟨fk_X7_35, fun q hq => by cases hq; exact ⟨rfl, rfl, by decide +kernel⟩⟩
theorem ff_X7_38 : FF RX7 38 7 18 (.array .int) := ⟨fk_X7_38, fun q hq => by cases hq; exact ⟨rfl, rfl, by decide +kernel⟩⟩
theorem ct_X7 {l : Launch} {D : va_G} {T3 : ClassId × ClassId × ClassId} (h0 : Nat) : CT l D T3 mX7_init [.ref h0] [(h0, .inr (7, [.null, .int 0, .int 0, .null, .null, .null, .null, .null, .int 0, .int 0, .int 0, .null, .int 0, .int 0, .int 0, .int 0, .null, .null, .null]))] (Nat → Nat) (fun u => [(h0, .inr (7, [.ref (u 1), .int 0, .int 0, .ref (u 2), .ref (u 3), .ref (u 4), .ref (u 5), .ref (u 6), .int 0, .int 0, .int 0, .ref (u 7), .int 0, .int 0, .int 0, .int 0, .ref (u 8), .ref (u 9), .ref (u 10)])), (u 1, eI T3 1568), (u 2, eZ T3 2), (u 3, eI T3 8), (u 4, .inl (T3.1, 8, .inl (m1 8))), (u 5, eI T3 320), (u 6, eI T3 100), (u 7, eI T3 16), (u 8, eI T3 6), (u 9, eI T3 6), (u 10, eI T3 5)]) ({ frames := 1, cells := 10, slots := 2039, locals := 64 }) := by
  refine CT.of (by decide +kernel) rfl rfl (Nat.le_of_ble_eq_true rfl) (fun p e s m below meth c Q ls C hin hl ret => ?_)
  refine cw_aload (pc := 0) C hl 0 dX7_init_0 rfl rfl ?_
  refine cw_obj (pc := 1) C (mT4 (List.mem_of_getElem? (i := 52) rfl) rfl) dX7_init_1 hl.1 (Nat.le_of_ble_eq_true rfl) (Nat.le_of_ble_eq_true rfl) rfl ?_
  refine cw_aload (pc := 4) C hl 0 dX7_init_4 rfl rfl ?_
  refine cw_sipush (pc := 5) (v := nI 1568) C dX7_init_5 rfl ?_
  refine cw_newI (pc := 8) (N := 1568) C dX7_init_8 (by decide) (Nat.le_of_ble_eq_true rfl) (Nat.le_of_ble_eq_true rfl) (fun q1 => ?_)
  refine cw_putF (pc := 10) C hin ff_X7_7 dX7_init_10 rfl rfl (Nat.le_of_ble_eq_true rfl) ?_
  dsimp only [List.set_cons_zero, List.set_cons_succ, List.cons_append, List.nil_append]
  refine cw_aload (pc := 13) C hl 0 dX7_init_13 rfl rfl ?_
  refine cw_iconst (pc := 14) (v := nI 2) C dX7_init_14 rfl ?_
  refine cw_newZ (pc := 15) (N := 2) C dX7_init_15 (by decide) (Nat.le_of_ble_eq_true rfl) (Nat.le_of_ble_eq_true rfl) (fun q2 => ?_)
  refine cw_putF (pc := 17) C hin ff_X7_13 dX7_init_17 rfl rfl (Nat.le_of_ble_eq_true rfl) ?_
  dsimp only [List.set_cons_zero, List.set_cons_succ, List.cons_append, List.nil_append]
  refine cw_aload (pc := 20) C hl 0 dX7_init_20 rfl rfl ?_
  refine cw_bipush (pc := 21) (v := nI 8) C dX7_init_21 rfl ?_
  refine cw_newI (pc := 23) (N := 8) C dX7_init_23 (by decide) (Nat.le_of_ble_eq_true rfl) (Nat.le_of_ble_eq_true rfl) (fun q3 => ?_)
  refine cw_putF (pc := 25) C hin ff_X7_17 dX7_init_25 rfl rfl (Nat.le_of_ble_eq_true rfl) ?_
  dsimp only [List.set_cons_zero, List.set_cons_succ, List.cons_append, List.nil_append]
  refine cw_aload (pc := 28) C hl 0 dX7_init_28 rfl rfl ?_
  refine cw_bipush (pc := 29) (v := nI 8) C dX7_init_29 rfl ?_
  refine cw_newI (pc := 31) (N := 8) C dX7_init_31 (by decide) (Nat.le_of_ble_eq_true rfl) (Nat.le_of_ble_eq_true rfl) (fun q4 => ?_)
  refine cw_dup (pc := 33) C dX7_init_33 rfl ?_
  refine cw_iconst (pc := 34) (v := nI 0) C dX7_init_34 rfl ?_
  refine cw_iconst (pc := 35) (v := kM1) C dX7_init_35 rfl ?_
  refine cw_iast (pc := 36) (q0 := 4) (i := nI 0) (x := kM1) C dX7_init_36 rfl (nI_in (by decide) (by decide)) rfl ?_
  simp only [← m1_0, m1_upd (i := 0) (by decide)]
  refine cw_dup (pc := 37) C dX7_init_37 rfl ?_
  refine cw_iconst (pc := 38) (v := nI 1) C dX7_init_38 rfl ?_
  refine cw_iconst (pc := 39) (v := kM1) C dX7_init_39 rfl ?_
  refine cw_iast (pc := 40) (q0 := 4) (i := nI 1) (x := kM1) C dX7_init_40 rfl (nI_in (by decide) (by decide)) rfl ?_
  simp only [m1_upd (i := 1) (by decide)]
  refine cw_dup (pc := 41) C dX7_init_41 rfl ?_
  refine cw_iconst (pc := 42) (v := nI 2) C dX7_init_42 rfl ?_
  refine cw_iconst (pc := 43) (v := kM1) C dX7_init_43 rfl ?_
  refine cw_iast (pc := 44) (q0 := 4) (i := nI 2) (x := kM1) C dX7_init_44 rfl (nI_in (by decide) (by decide)) rfl ?_
  simp only [m1_upd (i := 2) (by decide)]
  refine cw_dup (pc := 45) C dX7_init_45 rfl ?_
  refine cw_iconst (pc := 46) (v := nI 3) C dX7_init_46 rfl ?_
  refine cw_iconst (pc := 47) (v := kM1) C dX7_init_47 rfl ?_
  refine cw_iast (pc := 48) (q0 := 4) (i := nI 3) (x := kM1) C dX7_init_48 rfl (nI_in (by decide) (by decide)) rfl ?_
  simp only [m1_upd (i := 3) (by decide)]
  refine cw_dup (pc := 49) C dX7_init_49 rfl ?_
  refine cw_iconst (pc := 50) (v := nI 4) C dX7_init_50 rfl ?_
  refine cw_iconst (pc := 51) (v := kM1) C dX7_init_51 rfl ?_
  refine cw_iast (pc := 52) (q0 := 4) (i := nI 4) (x := kM1) C dX7_init_52 rfl (nI_in (by decide) (by decide)) rfl ?_
  simp only [m1_upd (i := 4) (by decide)]
  refine cw_dup (pc := 53) C dX7_init_53 rfl ?_
  refine cw_iconst (pc := 54) (v := nI 5) C dX7_init_54 rfl ?_
  refine cw_iconst (pc := 55) (v := kM1) C dX7_init_55 rfl ?_
  refine cw_iast (pc := 56) (q0 := 4) (i := nI 5) (x := kM1) C dX7_init_56 rfl (nI_in (by decide) (by decide)) rfl ?_
  simp only [m1_upd (i := 5) (by decide)]
  refine cw_dup (pc := 57) C dX7_init_57 rfl ?_
  refine cw_bipush (pc := 58) (v := nI 6) C dX7_init_58 rfl ?_
  refine cw_iconst (pc := 60) (v := kM1) C dX7_init_60 rfl ?_
  refine cw_iast (pc := 61) (q0 := 4) (i := nI 6) (x := kM1) C dX7_init_61 rfl (nI_in (by decide) (by decide)) rfl ?_
  simp only [m1_upd (i := 6) (by decide)]
  refine cw_dup (pc := 62) C dX7_init_62 rfl ?_
  refine cw_bipush (pc := 63) (v := nI 7) C dX7_init_63 rfl ?_
  refine cw_iconst (pc := 65) (v := kM1) C dX7_init_65 rfl ?_
  refine cw_iast (pc := 66) (q0 := 4) (i := nI 7) (x := kM1) C dX7_init_66 rfl (nI_in (by decide) (by decide)) rfl ?_
  simp only [m1_upd (i := 7) (by decide)]
  refine cw_putF (pc := 67) C hin ff_X7_20 dX7_init_67 rfl rfl (Nat.le_of_ble_eq_true rfl) ?_
  dsimp only [List.set_cons_zero, List.set_cons_succ, List.cons_append, List.nil_append]
  refine cw_aload (pc := 70) C hl 0 dX7_init_70 rfl rfl ?_
  refine cw_sipush (pc := 71) (v := nI 320) C dX7_init_71 rfl ?_
  refine cw_newI (pc := 74) (N := 320) C dX7_init_74 (by decide) (Nat.le_of_ble_eq_true rfl) (Nat.le_of_ble_eq_true rfl) (fun q5 => ?_)
  refine cw_putF (pc := 76) C hin ff_X7_23 dX7_init_76 rfl rfl (Nat.le_of_ble_eq_true rfl) ?_
  dsimp only [List.set_cons_zero, List.set_cons_succ, List.cons_append, List.nil_append]
  refine cw_aload (pc := 79) C hl 0 dX7_init_79 rfl rfl ?_
  refine cw_bipush (pc := 80) (v := nI 100) C dX7_init_80 rfl ?_
  refine cw_newI (pc := 82) (N := 100) C dX7_init_82 (by decide) (Nat.le_of_ble_eq_true rfl) (Nat.le_of_ble_eq_true rfl) (fun q6 => ?_)
  refine cw_putF (pc := 84) C hin ff_X7_26 dX7_init_84 rfl rfl (Nat.le_of_ble_eq_true rfl) ?_
  dsimp only [List.set_cons_zero, List.set_cons_succ, List.cons_append, List.nil_append]
  refine cw_aload (pc := 87) C hl 0 dX7_init_87 rfl rfl ?_
  refine cw_bipush (pc := 88) (v := nI 16) C dX7_init_88 rfl ?_
  refine cw_newI (pc := 90) (N := 16) C dX7_init_90 (by decide) (Nat.le_of_ble_eq_true rfl) (Nat.le_of_ble_eq_true rfl) (fun q7 => ?_)
  refine cw_putF (pc := 92) C hin ff_X7_29 dX7_init_92 rfl rfl (Nat.le_of_ble_eq_true rfl) ?_
  dsimp only [List.set_cons_zero, List.set_cons_succ, List.cons_append, List.nil_append]
  refine cw_aload (pc := 95) C hl 0 dX7_init_95 rfl rfl ?_
  refine cw_bipush (pc := 96) (v := nI 6) C dX7_init_96 rfl ?_
  refine cw_newI (pc := 98) (N := 6) C dX7_init_98 (by decide) (Nat.le_of_ble_eq_true rfl) (Nat.le_of_ble_eq_true rfl) (fun q8 => ?_)
  refine cw_putF (pc := 100) C hin ff_X7_32 dX7_init_100 rfl rfl (Nat.le_of_ble_eq_true rfl) ?_
  dsimp only [List.set_cons_zero, List.set_cons_succ, List.cons_append, List.nil_append]
  refine cw_aload (pc := 103) C hl 0 dX7_init_103 rfl rfl ?_
  refine cw_bipush (pc := 104) (v := nI 6) C dX7_init_104 rfl ?_
  refine cw_newI (pc := 106) (N := 6) C dX7_init_106 (by decide) (Nat.le_of_ble_eq_true rfl) (Nat.le_of_ble_eq_true rfl) (fun q9 => ?_)
  refine cw_putF (pc := 108) C hin ff_X7_35 dX7_init_108 rfl rfl (Nat.le_of_ble_eq_true rfl) ?_
  dsimp only [List.set_cons_zero, List.set_cons_succ, List.cons_append, List.nil_append]
  refine cw_aload (pc := 111) C hl 0 dX7_init_111 rfl rfl ?_
  refine cw_iconst (pc := 112) (v := nI 5) C dX7_init_112 rfl ?_
  refine cw_newI (pc := 113) (N := 5) C dX7_init_113 (by decide) (Nat.le_of_ble_eq_true rfl) (Nat.le_of_ble_eq_true rfl) (fun q10 => ?_)
  refine cw_putF (pc := 115) C hin ff_X7_38 dX7_init_115 rfl rfl (Nat.le_of_ble_eq_true rfl) ?_
  dsimp only [List.set_cons_zero, List.set_cons_succ, List.cons_append, List.nil_append]
  exact ret 118 _ (fun k => ([0, q1, q2, q3, q4, q5, q6, q7, q8, q9, q10] : List Nat).getD k 0) dX7_init_118
theorem df_X4 : ∀ j, j < 3 → defaultValue (tyX4 j) = vp_V [.null, .null, .null] j := by decide +kernel
theorem ff_X6_10 : FF RX6 10 6 0 (.object "LentGrannies$Shelf") := ⟨fk_X6_10, fun q hq => by cases hq; exact ⟨rfl, rfl, by decide +kernel⟩⟩
theorem df_X2 : ∀ j, j < 6 → defaultValue (tyX2 j) = vp_V [.null, .int 0, .int 0, .null, .int 0, .int 0] j := by decide +kernel
theorem ff_X6_19 : FF RX6 19 6 1 (.object "LentGrannies$Reader") := ⟨fk_X6_19, fun q hq => by cases hq; exact ⟨rfl, rfl, by decide +kernel⟩⟩
theorem ff_X6_26 : FF RX6 26 6 2 (.object "LentGrannies$Town") := ⟨fk_X6_26, fun q hq => by cases hq; exact ⟨rfl, rfl, by decide +kernel⟩⟩
theorem ff_X6_30 : FF RX6 30 6 3 (.object "LentGrannies$Town") := ⟨fk_X6_30, fun q hq => by cases hq; exact ⟨rfl, rfl, by decide +kernel⟩⟩
theorem ff_X6_33 : FF RX6 33 6 4 (.array .int) := ⟨fk_X6_33, fun q hq => by cases hq; exact ⟨rfl, rfl, by decide +kernel⟩⟩
theorem ff_X6_37 : FF RX6 37 6 5 (.array .int) := ⟨fk_X6_37, fun q hq => by cases hq; exact ⟨rfl, rfl, by decide +kernel⟩⟩
theorem df_X0 : ∀ j, j < 3 → defaultValue (tyX0 j) = vp_V [.null, .int 0, .int 0] j := by decide +kernel
theorem ff_X6_43 : FF RX6 43 6 6 (.object "LentGrannies$Acts") := ⟨fk_X6_43, fun q hq => by cases hq; exact ⟨rfl, rfl, by decide +kernel⟩⟩
theorem ff_X6_49 : FF RX6 49 6 7 (.array (.array .int)) := ⟨fk_X6_49, fun q hq => by cases hq; exact ⟨rfl, rfl, by decide +kernel⟩⟩
theorem ff_X6_52 : FF RX6 52 6 8 (.array .boolean) := ⟨fk_X6_52, fun q hq => by cases hq; exact ⟨rfl, rfl, by decide +kernel⟩⟩
theorem df_X1 : ∀ j, j < 6 → defaultValue (tyX1 j) = vp_V [.null, .int 0, .int 0, .int 0, .int 0, .int 0] j := by decide +kernel
theorem ff_X6_59 : FF RX6 59 6 9 (.object "LentGrannies$Asker") := ⟨fk_X6_59, fun q hq => by cases hq; exact ⟨rfl, rfl, by decide +kernel⟩⟩
theorem df_X3 : ∀ j, j < 6 → defaultValue (tyX3 j) = vp_V [.null, .null, .null, .null, .int 0, .int 0] j := by decide +kernel
theorem ff_X6_66 : FF RX6 66 6 10 (.object "LentGrannies$Rota") := ⟨fk_X6_66, fun q hq => by cases hq; exact ⟨rfl, rfl, by decide +kernel⟩⟩
theorem ct_X6 {l : Launch} {D : va_G} {T3 : ClassId × ClassId × ClassId} (h0 : Nat) : CT l D T3 mX6_init [.ref h0] [(h0, .inr (6, [.null, .null, .null, .null, .null, .null, .null, .null, .null, .null, .null, .int 0, .int 0]))] ((Nat × Nat × (Nat → Nat) × Nat × Nat) × (Nat × Nat × (Nat → Nat) × Nat) × (Nat × (Nat → Nat)) × (Nat × (Nat → Nat)) × Nat × Nat × (Nat × Nat × (Nat → Nat)) × (Nat × (Nat → Nat)) × Nat × (Nat × Nat) × (Nat × Nat × (Nat → Nat) × Nat × Nat × Nat)) (fun u => (h0, .inr (6, [.ref (u.1).1, .ref (u.2.1).1, .ref (u.2.2.1).1, .ref (u.2.2.2.1).1, .ref u.2.2.2.2.1, .ref u.2.2.2.2.2.1, .ref (u.2.2.2.2.2.2.1).1, .ref (u.2.2.2.2.2.2.2.1).1, .ref u.2.2.2.2.2.2.2.2.1, .ref (u.2.2.2.2.2.2.2.2.2.1).1, .ref (u.2.2.2.2.2.2.2.2.2.2).1, .int 0, .int 0])) :: ((((u.1).1, .inr (4, [.ref (u.1).2.1, .ref (u.1).2.2.2.1, .ref (u.1).2.2.2.2])) :: ((u.1).2.1, eR T3 8 (u.1).2.2.1) :: ((List.range 8).map (fun i => ((u.1).2.2.1 i, eI T3 40)) ++ [((u.1).2.2.2.1, eI T3 8), ((u.1).2.2.2.2, .inl (T3.1, 8, .inl (m1 8)))])) ++ (((u.2.1).1, .inr (2, [.ref (u.2.1).2.1, .int 0, .int 0, .ref (u.2.1).2.2.2, .int 0, .int 0])) :: ([((u.2.1).2.1, .inr (5, [.int 0, .int 0, .int 0, .int 0, .int 0, .ref ((u.2.1).2.2.1 1), .ref ((u.2.1).2.2.1 2), .ref ((u.2.1).2.2.1 3), .ref ((u.2.1).2.2.1 4), .ref ((u.2.1).2.2.1 5), .ref ((u.2.1).2.2.1 6), .ref ((u.2.1).2.2.1 7), .ref ((u.2.1).2.2.1 8), .ref ((u.2.1).2.2.1 9), .ref ((u.2.1).2.2.1 10), .ref ((u.2.1).2.2.1 11)])), ((u.2.1).2.2.1 1, eI T3 5), ((u.2.1).2.2.1 2, eI T3 5), ((u.2.1).2.2.1 3, eI T3 5), ((u.2.1).2.2.1 4, eI T3 6), ((u.2.1).2.2.1 5, eI T3 6), ((u.2.1).2.2.1 6, eI T3 6), ((u.2.1).2.2.1 7, eI T3 6), ((u.2.1).2.2.1 8, eI T3 6), ((u.2.1).2.2.1 9, eI T3 6), ((u.2.1).2.2.1 10, eI T3 6), ((u.2.1).2.2.1 11, eI T3 5)] ++ [((u.2.1).2.2.2, eI T3 100)])) ++ [((u.2.2.1).1, .inr (5, [.int 0, .int 0, .int 0, .int 0, .int 0, .ref ((u.2.2.1).2 1), .ref ((u.2.2.1).2 2), .ref ((u.2.2.1).2 3), .ref ((u.2.2.1).2 4), .ref ((u.2.2.1).2 5), .ref ((u.2.2.1).2 6), .ref ((u.2.2.1).2 7), .ref ((u.2.2.1).2 8), .ref ((u.2.2.1).2 9), .ref ((u.2.2.1).2 10), .ref ((u.2.2.1).2 11)])), ((u.2.2.1).2 1, eI T3 5), ((u.2.2.1).2 2, eI T3 5), ((u.2.2.1).2 3, eI T3 5), ((u.2.2.1).2 4, eI T3 6), ((u.2.2.1).2 5, eI T3 6), ((u.2.2.1).2 6, eI T3 6), ((u.2.2.1).2 7, eI T3 6), ((u.2.2.1).2 8, eI T3 6), ((u.2.2.1).2 9, eI T3 6), ((u.2.2.1).2 10, eI T3 6), ((u.2.2.1).2 11, eI T3 5)] ++ [((u.2.2.2.1).1, .inr (5, [.int 0, .int 0, .int 0, .int 0, .int 0, .ref ((u.2.2.2.1).2 1), .ref ((u.2.2.2.1).2 2), .ref ((u.2.2.2.1).2 3), .ref ((u.2.2.2.1).2 4), .ref ((u.2.2.2.1).2 5), .ref ((u.2.2.2.1).2 6), .ref ((u.2.2.2.1).2 7), .ref ((u.2.2.2.1).2 8), .ref ((u.2.2.2.1).2 9), .ref ((u.2.2.2.1).2 10), .ref ((u.2.2.2.1).2 11)])), ((u.2.2.2.1).2 1, eI T3 5), ((u.2.2.2.1).2 2, eI T3 5), ((u.2.2.2.1).2 3, eI T3 5), ((u.2.2.2.1).2 4, eI T3 6), ((u.2.2.2.1).2 5, eI T3 6), ((u.2.2.2.1).2 6, eI T3 6), ((u.2.2.2.1).2 7, eI T3 6), ((u.2.2.2.1).2 8, eI T3 6), ((u.2.2.2.1).2 9, eI T3 6), ((u.2.2.2.1).2 10, eI T3 6), ((u.2.2.2.1).2 11, eI T3 5)] ++ [(u.2.2.2.2.1, eI T3 56)] ++ [(u.2.2.2.2.2.1, eI T3 5)] ++ (((u.2.2.2.2.2.2.1).1, .inr (0, [.ref (u.2.2.2.2.2.2.1).2.1, .int 0, .int 0])) :: ((u.2.2.2.2.2.2.1).2.1, eR T3 24 (u.2.2.2.2.2.2.1).2.2) :: (List.range 24).map (fun i => ((u.2.2.2.2.2.2.1).2.2 i, eI T3 56))) ++ (((u.2.2.2.2.2.2.2.1).1, eR T3 2 (u.2.2.2.2.2.2.2.1).2) :: (List.range 2).map (fun i => ((u.2.2.2.2.2.2.2.1).2 i, eI T3 56))) ++ [(u.2.2.2.2.2.2.2.2.1, eZ T3 2)] ++ [((u.2.2.2.2.2.2.2.2.2.1).1, .inr (1, [.ref (u.2.2.2.2.2.2.2.2.2.1).2, .int 0, .int 0, .int 0, .int 0, .int 0])), ((u.2.2.2.2.2.2.2.2.2.1).2, eI T3 16)] ++ (((u.2.2.2.2.2.2.2.2.2.2).1, .inr (3, [.ref (u.2.2.2.2.2.2.2.2.2.2).2.1, .ref (u.2.2.2.2.2.2.2.2.2.2).2.2.2.1, .ref (u.2.2.2.2.2.2.2.2.2.2).2.2.2.2.1, .ref (u.2.2.2.2.2.2.2.2.2.2).2.2.2.2.2, .int 0, .int 0])) :: ([((u.2.2.2.2.2.2.2.2.2.2).2.1, .inr (5, [.int 0, .int 0, .int 0, .int 0, .int 0, .ref ((u.2.2.2.2.2.2.2.2.2.2).2.2.1 1), .ref ((u.2.2.2.2.2.2.2.2.2.2).2.2.1 2), .ref ((u.2.2.2.2.2.2.2.2.2.2).2.2.1 3), .ref ((u.2.2.2.2.2.2.2.2.2.2).2.2.1 4), .ref ((u.2.2.2.2.2.2.2.2.2.2).2.2.1 5), .ref ((u.2.2.2.2.2.2.2.2.2.2).2.2.1 6), .ref ((u.2.2.2.2.2.2.2.2.2.2).2.2.1 7), .ref ((u.2.2.2.2.2.2.2.2.2.2).2.2.1 8), .ref ((u.2.2.2.2.2.2.2.2.2.2).2.2.1 9), .ref ((u.2.2.2.2.2.2.2.2.2.2).2.2.1 10), .ref ((u.2.2.2.2.2.2.2.2.2.2).2.2.1 11)])), ((u.2.2.2.2.2.2.2.2.2.2).2.2.1 1, eI T3 5), ((u.2.2.2.2.2.2.2.2.2.2).2.2.1 2, eI T3 5), ((u.2.2.2.2.2.2.2.2.2.2).2.2.1 3, eI T3 5), ((u.2.2.2.2.2.2.2.2.2.2).2.2.1 4, eI T3 6), ((u.2.2.2.2.2.2.2.2.2.2).2.2.1 5, eI T3 6), ((u.2.2.2.2.2.2.2.2.2.2).2.2.1 6, eI T3 6), ((u.2.2.2.2.2.2.2.2.2.2).2.2.1 7, eI T3 6), ((u.2.2.2.2.2.2.2.2.2.2).2.2.1 8, eI T3 6), ((u.2.2.2.2.2.2.2.2.2.2).2.2.1 9, eI T3 6), ((u.2.2.2.2.2.2.2.2.2.2).2.2.1 10, eI T3 6), ((u.2.2.2.2.2.2.2.2.2.2).2.2.1 11, eI T3 5)] ++ [((u.2.2.2.2.2.2.2.2.2.2).2.2.2.1, eI T3 6), ((u.2.2.2.2.2.2.2.2.2.2).2.2.2.2.1, eI T3 30), ((u.2.2.2.2.2.2.2.2.2.2).2.2.2.2.2, eI T3 7)])))) ({ frames := 3, cells := 100, slots := 2384, locals := 256 }) := by
  refine CT.of (by decide +kernel) rfl rfl (Nat.le_of_ble_eq_true rfl) (fun p e s m below meth c Q ls C hin hl ret => ?_)
  refine cw_aload (pc := 0) C hl 0 dX6_init_0 rfl rfl ?_
  refine cw_obj (pc := 1) C (mT1 (List.mem_of_getElem? (i := 17) rfl) rfl) dX6_init_1 hl.1 (Nat.le_of_ble_eq_true rfl) (Nat.le_of_ble_eq_true rfl) rfl ?_
  refine cw_aload (pc := 4) C hl 0 dX6_init_4 rfl rfl ?_
  refine cw_new (pc := 5) (ci := 4) (fs := [.null, .null, .null]) C rfl in_4 tyX4_ok (mT1 (List.mem_of_getElem? (i := 20) rfl) rfl) (mT1 (List.mem_of_getElem? (i := 21) rfl) rfl) (mT1 (List.mem_of_getElem? (i := 2) rfl) rfl) df_X4 dX6_init_5 (Nat.le_of_ble_eq_true rfl) (Nat.le_of_ble_eq_true rfl) (fun q1 => ?_)
  refine cw_dup (pc := 8) C dX6_init_8 rfl ?_
  refine cw_ctor (pc := 9) (As := []) C (ct_X4 _) (Or.inl (mT1 (List.mem_of_getElem? (i := 22) rfl) rfl)) (mT1 (List.mem_of_getElem? (i := 23) rfl) rfl) rfl lb_X4_init rfl dX6_init_9 hl.1 rfl rfl ⟨Nat.le_of_ble_eq_true rfl, Nat.le_of_ble_eq_true rfl⟩ ⟨Nat.le_of_ble_eq_true rfl, Nat.le_of_ble_eq_true rfl⟩ (fun u2 => ?_)
  refine cw_putF (pc := 12) C hin ff_X6_10 dX6_init_12 rfl rfl (Nat.le_of_ble_eq_true rfl) ?_
  dsimp only [List.set_cons_zero, List.set_cons_succ, List.cons_append, List.nil_append]
  refine cw_aload (pc := 15) C hl 0 dX6_init_15 rfl rfl ?_
  refine cw_new (pc := 16) (ci := 2) (fs := [.null, .int 0, .int 0, .null, .int 0, .int 0]) C rfl in_2 tyX2_ok (mT1 (List.mem_of_getElem? (i := 39) rfl) rfl) (mT1 (List.mem_of_getElem? (i := 40) rfl) rfl) (mT1 (List.mem_of_getElem? (i := 3) rfl) rfl) df_X2 dX6_init_16 (Nat.le_of_ble_eq_true rfl) (Nat.le_of_ble_eq_true rfl) (fun q3 => ?_)
  refine cw_dup (pc := 19) C dX6_init_19 rfl ?_
  refine cw_ctor (pc := 20) (As := []) C (ct_X2 _) (Or.inr (List.mem_of_getElem? (i := 0) rfl)) (mT1 (List.mem_of_getElem? (i := 42) rfl) rfl) rfl lb_X2_init rfl dX6_init_20 hl.1 rfl rfl ⟨Nat.le_of_ble_eq_true rfl, Nat.le_of_ble_eq_true rfl⟩ ⟨Nat.le_of_ble_eq_true rfl, Nat.le_of_ble_eq_true rfl⟩ (fun u4 => ?_)
  refine cw_putF (pc := 23) C hin ff_X6_19 dX6_init_23 rfl rfl (Nat.le_of_ble_eq_true rfl) ?_
  dsimp only [List.set_cons_zero, List.set_cons_succ, List.cons_append, List.nil_append]
  refine cw_aload (pc := 26) C hl 0 dX6_init_26 rfl rfl ?_
  refine cw_new (pc := 27) (ci := 5) (fs := [.int 0, .int 0, .int 0, .int 0, .int 0, .null, .null, .null, .null, .null, .null, .null, .null, .null, .null, .null]) C rfl in_5 tyX5_ok (mT1 (List.mem_of_getElem? (i := 154) rfl) rfl) (mT1 (List.mem_of_getElem? (i := 46) rfl) rfl) (mT1 (List.mem_of_getElem? (i := 4) rfl) rfl) df_X5 dX6_init_27 (Nat.le_of_ble_eq_true rfl) (Nat.le_of_ble_eq_true rfl) (fun q5 => ?_)
  refine cw_dup (pc := 30) C dX6_init_30 rfl ?_
  refine cw_ctor (pc := 31) (As := []) C (ct_X5 _) (Or.inr (List.mem_of_getElem? (i := 1) rfl)) (mT1 (List.mem_of_getElem? (i := 48) rfl) rfl) rfl lb_X5_init rfl dX6_init_31 hl.1 rfl rfl ⟨Nat.le_of_ble_eq_true rfl, Nat.le_of_ble_eq_true rfl⟩ ⟨Nat.le_of_ble_eq_true rfl, Nat.le_of_ble_eq_true rfl⟩ (fun u6 => ?_)
  refine cw_putF (pc := 34) C hin ff_X6_26 dX6_init_34 rfl rfl (Nat.le_of_ble_eq_true rfl) ?_
  dsimp only [List.set_cons_zero, List.set_cons_succ, List.cons_append, List.nil_append]
  refine cw_aload (pc := 37) C hl 0 dX6_init_37 rfl rfl ?_
  refine cw_new (pc := 38) (ci := 5) (fs := [.int 0, .int 0, .int 0, .int 0, .int 0, .null, .null, .null, .null, .null, .null, .null, .null, .null, .null, .null]) C rfl in_5 tyX5_ok (mT1 (List.mem_of_getElem? (i := 154) rfl) rfl) (mT1 (List.mem_of_getElem? (i := 46) rfl) rfl) (mT1 (List.mem_of_getElem? (i := 4) rfl) rfl) df_X5 dX6_init_38 (Nat.le_of_ble_eq_true rfl) (Nat.le_of_ble_eq_true rfl) (fun q7 => ?_)
  refine cw_dup (pc := 41) C dX6_init_41 rfl ?_
  refine cw_ctor (pc := 42) (As := []) C (ct_X5 _) (Or.inr (List.mem_of_getElem? (i := 1) rfl)) (mT1 (List.mem_of_getElem? (i := 48) rfl) rfl) rfl lb_X5_init rfl dX6_init_42 hl.1 rfl rfl ⟨Nat.le_of_ble_eq_true rfl, Nat.le_of_ble_eq_true rfl⟩ ⟨Nat.le_of_ble_eq_true rfl, Nat.le_of_ble_eq_true rfl⟩ (fun u8 => ?_)
  refine cw_putF (pc := 45) C hin ff_X6_30 dX6_init_45 rfl rfl (Nat.le_of_ble_eq_true rfl) ?_
  dsimp only [List.set_cons_zero, List.set_cons_succ, List.cons_append, List.nil_append]
  refine cw_aload (pc := 48) C hl 0 dX6_init_48 rfl rfl ?_
  refine cw_bipush (pc := 49) (v := nI 56) C dX6_init_49 rfl ?_
  refine cw_newI (pc := 51) (N := 56) C dX6_init_51 (by decide) (Nat.le_of_ble_eq_true rfl) (Nat.le_of_ble_eq_true rfl) (fun q9 => ?_)
  refine cw_putF (pc := 53) C hin ff_X6_33 dX6_init_53 rfl rfl (Nat.le_of_ble_eq_true rfl) ?_
  dsimp only [List.set_cons_zero, List.set_cons_succ, List.cons_append, List.nil_append]
  refine cw_aload (pc := 56) C hl 0 dX6_init_56 rfl rfl ?_
  refine cw_iconst (pc := 57) (v := nI 5) C dX6_init_57 rfl ?_
  refine cw_newI (pc := 58) (N := 5) C dX6_init_58 (by decide) (Nat.le_of_ble_eq_true rfl) (Nat.le_of_ble_eq_true rfl) (fun q10 => ?_)
  refine cw_putF (pc := 60) C hin ff_X6_37 dX6_init_60 rfl rfl (Nat.le_of_ble_eq_true rfl) ?_
  dsimp only [List.set_cons_zero, List.set_cons_succ, List.cons_append, List.nil_append]
  refine cw_aload (pc := 63) C hl 0 dX6_init_63 rfl rfl ?_
  refine cw_new (pc := 64) (ci := 0) (fs := [.null, .int 0, .int 0]) C rfl in_0 tyX0_ok (mT1 (List.mem_of_getElem? (i := 156) rfl) rfl) (mT1 (List.mem_of_getElem? (i := 157) rfl) rfl) (mT1 (List.mem_of_getElem? (i := 5) rfl) rfl) df_X0 dX6_init_64 (Nat.le_of_ble_eq_true rfl) (Nat.le_of_ble_eq_true rfl) (fun q11 => ?_)
  refine cw_dup (pc := 67) C dX6_init_67 rfl ?_
  refine cw_ctor (pc := 68) (As := []) C (ct_X0 _) (Or.inr (List.mem_of_getElem? (i := 2) rfl)) (mT1 (List.mem_of_getElem? (i := 159) rfl) rfl) rfl lb_X0_init rfl dX6_init_68 hl.1 rfl rfl ⟨Nat.le_of_ble_eq_true rfl, Nat.le_of_ble_eq_true rfl⟩ ⟨Nat.le_of_ble_eq_true rfl, Nat.le_of_ble_eq_true rfl⟩ (fun u12 => ?_)
  refine cw_putF (pc := 71) C hin ff_X6_43 dX6_init_71 rfl rfl (Nat.le_of_ble_eq_true rfl) ?_
  dsimp only [List.set_cons_zero, List.set_cons_succ, List.cons_append, List.nil_append]
  refine cw_aload (pc := 74) C hl 0 dX6_init_74 rfl rfl ?_
  refine cw_iconst (pc := 75) (v := nI 2) C dX6_init_75 rfl ?_
  refine cw_bipush (pc := 76) (v := nI 56) C dX6_init_76 rfl ?_
  refine cw_mna (pc := 78) (N := 2) (K := 56) C (mT1 (List.mem_of_getElem? (i := 174) rfl) rfl) dX6_init_78 (by decide) (by decide) (Nat.le_of_ble_eq_true rfl) (Nat.le_of_ble_eq_true rfl) (fun q13 r13 => ?_)
  refine cw_putF (pc := 82) C hin ff_X6_49 dX6_init_82 rfl rfl (Nat.le_of_ble_eq_true rfl) ?_
  dsimp only [List.set_cons_zero, List.set_cons_succ, List.cons_append, List.nil_append]
  refine cw_aload (pc := 85) C hl 0 dX6_init_85 rfl rfl ?_
  refine cw_iconst (pc := 86) (v := nI 2) C dX6_init_86 rfl ?_
  refine cw_newZ (pc := 87) (N := 2) C dX6_init_87 (by decide) (Nat.le_of_ble_eq_true rfl) (Nat.le_of_ble_eq_true rfl) (fun q14 => ?_)
  refine cw_putF (pc := 89) C hin ff_X6_52 dX6_init_89 rfl rfl (Nat.le_of_ble_eq_true rfl) ?_
  dsimp only [List.set_cons_zero, List.set_cons_succ, List.cons_append, List.nil_append]
  refine cw_aload (pc := 92) C hl 0 dX6_init_92 rfl rfl ?_
  refine cw_new (pc := 93) (ci := 1) (fs := [.null, .int 0, .int 0, .int 0, .int 0, .int 0]) C rfl in_1 tyX1_ok (mT1 (List.mem_of_getElem? (i := 175) rfl) rfl) (mT1 (List.mem_of_getElem? (i := 176) rfl) rfl) (mT1 (List.mem_of_getElem? (i := 6) rfl) rfl) df_X1 dX6_init_93 (Nat.le_of_ble_eq_true rfl) (Nat.le_of_ble_eq_true rfl) (fun q15 => ?_)
  refine cw_dup (pc := 96) C dX6_init_96 rfl ?_
  refine cw_ctor (pc := 97) (As := []) C (ct_X1 _) (Or.inr (List.mem_of_getElem? (i := 3) rfl)) (mT1 (List.mem_of_getElem? (i := 178) rfl) rfl) rfl lb_X1_init rfl dX6_init_97 hl.1 rfl rfl ⟨Nat.le_of_ble_eq_true rfl, Nat.le_of_ble_eq_true rfl⟩ ⟨Nat.le_of_ble_eq_true rfl, Nat.le_of_ble_eq_true rfl⟩ (fun u16 => ?_)
  refine cw_putF (pc := 100) C hin ff_X6_59 dX6_init_100 rfl rfl (Nat.le_of_ble_eq_true rfl) ?_
  dsimp only [List.set_cons_zero, List.set_cons_succ, List.cons_append, List.nil_append]
  refine cw_aload (pc := 103) C hl 0 dX6_init_103 rfl rfl ?_
  refine cw_new (pc := 104) (ci := 3) (fs := [.null, .null, .null, .null, .int 0, .int 0]) C rfl in_3 tyX3_ok (mT1 (List.mem_of_getElem? (i := 203) rfl) rfl) (mT1 (List.mem_of_getElem? (i := 204) rfl) rfl) (mT1 (List.mem_of_getElem? (i := 7) rfl) rfl) df_X3 dX6_init_104 (Nat.le_of_ble_eq_true rfl) (Nat.le_of_ble_eq_true rfl) (fun q17 => ?_)
  refine cw_dup (pc := 107) C dX6_init_107 rfl ?_
  refine cw_ctor (pc := 108) (As := []) C (ct_X3 _) (Or.inr (List.mem_of_getElem? (i := 5) rfl)) (mT1 (List.mem_of_getElem? (i := 206) rfl) rfl) rfl lb_X3_init rfl dX6_init_108 hl.1 rfl rfl ⟨Nat.le_of_ble_eq_true rfl, Nat.le_of_ble_eq_true rfl⟩ ⟨Nat.le_of_ble_eq_true rfl, Nat.le_of_ble_eq_true rfl⟩ (fun u18 => ?_)
  refine cw_putF (pc := 111) C hin ff_X6_66 dX6_init_111 rfl rfl (Nat.le_of_ble_eq_true rfl) ?_
  dsimp only [List.set_cons_zero, List.set_cons_succ, List.cons_append, List.nil_append]
  exact ret 114 _ ((q1, u2), (q3, u4), (q5, u6), (q7, u8), q9, q10, (q11, u12), (q13, r13), q14, (q15, u16), (q17, u18)) dX6_init_114
