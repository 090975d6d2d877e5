section DPLACE
variable {G : Gt} {d : Nat} {h : Hp} {T : Tn} {w sp : Nat}
def rin (T : Tn) (m q i : Nat) : Prop := q * T 0 ^ m ≤ i ∧ i < q * T 0 ^ m + T 0 ^ m
def okp (T : Tn) (w sp g kk i : Nat) : Prop := chg T g i = kk ∧ srv T w sp i = true
theorem rin_sub {m q c i : Nat} (hc : c < T 0) (h : rin T m (q * T 0 + c) i) : rin T (m + 1) q i := by
  unfold rin at *
  have e1 : q * T 0 ^ (m + 1) = q * T 0 * T 0 ^ m := by rw [Nat.pow_succ, Nat.mul_comm (T 0 ^ m), Nat.mul_assoc]
  have e2 : T 0 ^ (m + 1) = T 0 * T 0 ^ m := by rw [Nat.pow_succ, Nat.mul_comm]
  have e3 : (q * T 0 + c) * T 0 ^ m = q * T 0 * T 0 ^ m + c * T 0 ^ m := Nat.add_mul _ _ _
  have e4 : (c + 1) * T 0 ^ m ≤ T 0 * T 0 ^ m := Nat.mul_le_mul_right _ (by omega)
  have e5 : (c + 1) * T 0 ^ m = c * T 0 ^ m + T 0 ^ m := Nat.succ_mul _ _
  rw [e1, e2]
  rw [e3] at h
  omega
theorem rin_dig {m g q c i : Nat} (hc : c < T 0) (hm : g + (m + 1) = T 1) (h : rin T m (q * T 0 + c) i) : pd (T 0) i (T 1) g = c := by
  unfold rin at h
  unfold pd
  rw [show T 1 - 1 - g = m by omega, Nat.div_eq_of_lt_le (k := q * T 0 + c) h.1 (by rw [Nat.succ_mul]; exact h.2)]
  exact (mad hc).2
theorem pl_head {D m g q kk r : Nat} {K : Int32 → Hp → Prop} (hO : OKT T) (h0 : 0 < T 1) (hw : w < 32) (hgm : g + m = T 1) (hk : kk ≤ 6) (hr : r < 32) (hW : TW h 100 (pre T q g)) (hR : RO h T w sp)
    (hb : ∀ i, rin T m q i → ∀ b, (svs (pre T i (T 1)) sp).testBit b = true → r.testBit b = true ∨ ∃ j, g ≤ j ∧ j < T 1 ∧ (vb (up T (32 + j) (pd (T 0) i (T 1) j)) j sp).testBit b = true)
    (k0 : (∀ j, rin T m q j → ¬ okp T w sp g kk j) → K (nI 0) h) (L4 L5 : Option Value)
    (kn : kk ≤ T 1 - g → WP G D mX3_place (pI K) 33 [some (.ref 85), some (.int (nI g)), some (.int (nI kk)), some (.int (nI r)), L4, L5] [] h) : WP G D mX3_place (pI K) 0 [some (.ref 85), some (.int (nI g)), some (.int (nI kk)), some (.int (nI r)), L4, L5] [] h := by
  obtain ⟨o0, o1, o2, o3, o4, o5, o6, o7, o8⟩ := id hO
  have p0 := (o5 h0).1
  obtain ⟨R1, R2, R3, R4, R5⟩ := id hR
  have e3 : h 100 3 = nI (T 1) := by have := hW.2.2.2.1; rwa [pre_out (by omega)] at this
  have e88 := R5 g (by omega)
  have fl := rfF_lt (sp := sp) hO (T 1 - g) (by omega)
  have l64 : r ||| rfF T sp (T 1 - g) < 64 := Nat.lt_of_lt_of_le (or_lt (k := 5) hr fl) (by decide)
  have sb := sbn_6 l64 (show w < 64 by omega)
  refine wp_iload_n (pc := 0) (i := 2) dX3_place_0 rfl rfl ?_
  refine wp_aload_n (pc := 1) (i := 0) dX3_place_1 rfl rfl ?_
  refine wp_gfr (pc := 2) fk_X3_12 dX3_place_2 rfl rfl (by decide) ?_
  refine wp_gfv (pc := 5) fk_X3_55 dX3_place_5 rfl rfl (by first | with_reducible assumption | with_reducible exact hs_same _ _ _ _ | rfl) ?_
  refine wp_iload_n (pc := 8) (i := 1) dX3_place_8 rfl rfl ?_
  first | (with_reducible show WP _ _ _ _ _ _ (Value.int (nI _) :: Value.int (nI _) :: _) _; refine wp_isubN (pc := 9) dX3_place_9 (by omega) ?_) | refine wp_isub (pc := 9) dX3_place_9 ?_
  first | (with_reducible show WP _ _ _ _ _ _ (Value.int (nI _) :: Value.int (nI _) :: _) _; refine wp_icmp_gtN (pc := 10) (tgt := 31) dX3_place_10 (by decide) (by omega) (by omega) (fun c10 => ?_) (fun c10 => ?_)) | refine wp_icmp_gt (pc := 10) (tgt := 31) dX3_place_10 (by decide) (fun c10 => ?_) (fun c10 => ?_)
  refine wp_iconst (pc := 31) (v := nI 0) dX3_place_31 rfl ?_
  refine wp_zret (pc := 32) dX3_place_32 rfl (by first | exact Or.inl rfl | exact Or.inr rfl | assumption | exact bI_01 _) ?_
  rotate_left
  refine wp_aload_n (pc := 13) (i := 0) dX3_place_13 rfl rfl ?_
  refine wp_gfv (pc := 14) fk_X3_32 dX3_place_14 rfl rfl (by first | with_reducible assumption | with_reducible exact hs_same _ _ _ _ | rfl) ?_
  refine wp_iload_n (pc := 17) (i := 3) dX3_place_17 rfl rfl ?_
  refine wp_aload_n (pc := 18) (i := 0) dX3_place_18 rfl rfl ?_
  refine wp_gfr (pc := 19) fk_X3_25 dX3_place_19 rfl rfl (by decide) ?_
  refine wp_iload_n (pc := 22) (i := 1) dX3_place_22 rfl rfl ?_
  first | (with_reducible show WP _ _ _ _ _ _ (Value.int (nI _) :: _) _; refine wp_ialdN (pc := 23) dX3_place_23 rfl (by omega) (by first | with_reducible assumption | with_reducible exact hs_same _ _ _ _ | rfl) ?_) | refine wp_iald (pc := 23) dX3_place_23 rfl (by assumption) rfl ?_
  first | (with_reducible show WP _ _ _ _ _ _ (Value.int (nI _) :: Value.int (nI _) :: _) _; refine wp_iorN (pc := 24) dX3_place_24 ?_) | refine wp_ior (pc := 24) dX3_place_24 ?_
  refine wp_iconst (pc := 25) (v := kM1) dX3_place_25 rfl ?_
  first | (with_reducible show WP _ _ _ _ _ _ (Value.int (nI _) :: Value.int (nI _) :: _) _; refine wp_ixorN (pc := 26) dX3_place_26 ?_) | refine wp_ixor (pc := 26) dX3_place_26 ?_
  rotate_left
  · refine k0 (fun j _ z => ?_)
    have := chg_le T g j
    have := z.1
    omega
  refine wp_iand (pc := 27) dX3_place_27 ?_
  refine wp_if_eq (pc := 28) (tgt := 33) dX3_place_28 (by decide) (fun c28 => ?_) (fun c28 => ?_)
  · exact kn (by omega)
  · rw [decide_eq_false c28] at sb
    refine wp_iconst (pc := 31) (v := nI 0) dX3_place_31 rfl ?_
    refine wp_zret (pc := 32) dX3_place_32 rfl (by first | exact Or.inl rfl | exact Or.inr rfl | assumption | exact bI_01 _) ?_
    rotate_left
    refine k0 (fun j hj z => ?_)
    have z2 := (sbn_iff 6).mp z.2
    refine absurd sb (by
      rw [Bool.not_eq_false]
      refine (sbn_iff 6).mpr (fun b hb6 hwb => tb_or ?_)
      rcases hb j hj b (z2 b hb6 hwb) with q | ⟨jj, j1, j2, q⟩
      · exact Or.inl q
      · exact Or.inr (rfF_has j2 (pd_lt p0) q _ (by omega) (by omega)))
theorem sp_place (hO : OKT T) (h0 : 0 < T 1) (hw : w < 32) (hsp : sp ≤ 100) : ∀ m g q kk r h, g + m = T 1 → kk ≤ 6 → r < 32 → TW h 100 (pre T q g) → RO h T w sp →
    (∀ i, rin T m q i → ∀ b, (svs (pre T i (T 1)) sp).testBit b = true → r.testBit b = true ∨ ∃ j, g ≤ j ∧ j < T 1 ∧ (vb (up T (32 + j) (pd (T 0) i (T 1) j)) j sp).testBit b = true) →
    ∀ K : Int32 → Hp → Prop, (∀ h' i, rin T m q i → okp T w sp g kk i → (∀ j, rin T m q j → j < i → ¬ okp T w sp g kk j) → TW h' 100 (pre T i (T 1)) → Fr h h' 100 → K (nI 1) h') →
    (∀ h', (∀ j, rin T m q j → ¬ okp T w sp g kk j) → TW h' 100 (pre T q g) → Fr h h' 100 → K (nI 0) h') → Call G (d + m + 4) mX3_place [.ref 85, .int (nI g), .int (nI kk), .int (nI r)] h (pI K) := by
  obtain ⟨o0, o1, o2, o3, o4, o5, o6, o7, o8⟩ := id hO
  have p0 := (o5 h0).1
  intro m
  induction m with
  | zero =>
    intro g q kk r h hgm hk hr hW hR hb K k1 k0
    obtain ⟨R1, R2, R3, R4, R5⟩ := id hR
    have hg : g = T 1 := by omega
    subst hg
    refine Call.of (M := mX3_place) (n := 2) (by decide +kernel) rfl ?_
    show WP _ _ _ _ 0 [some (.ref 85), some (.int (nI (T 1))), some (.int (nI kk)), some (.int (nI r)), none, none] [] _
    refine pl_head hO h0 hw hgm hk hr hW hR hb (fun z => k0 h z hW (Fr.rf h 100)) _ _ (fun hkk => ?_)
    have e3 : h 100 3 = nI (T 1) := by have := hW.2.2.2.1; rwa [pre_out (by omega)] at this
    have ok := okt_pre hO p0 q (Nat.le_refl (T 1))
    have sl := svs_lt ok (by rw [pre_out (by omega)]; exact p0) sp
    have sb := sbn_6 (show svs (pre T q (T 1)) sp < 64 by omega) (show w < 64 by omega)
    have ri : rin T 0 q q := by unfold rin; rw [Nat.pow_zero]; omega
    have rq : ∀ j, rin T 0 q j → j = q := fun j hj => by unfold rin at hj; rw [Nat.pow_zero] at hj; omega
    refine wp_iload_n (pc := 33) (i := 1) dX3_place_33 rfl rfl ?_
    refine wp_aload_n (pc := 34) (i := 0) dX3_place_34 rfl rfl ?_
    refine wp_gfr (pc := 35) fk_X3_12 dX3_place_35 rfl rfl (by decide) ?_
    refine wp_gfv (pc := 38) fk_X3_55 dX3_place_38 rfl rfl (by first | with_reducible assumption | with_reducible exact hs_same _ _ _ _ | rfl) ?_
    first | (with_reducible show WP _ _ _ _ _ _ (Value.int (nI _) :: Value.int (nI _) :: _) _; refine wp_icmp_ltN (pc := 41) (tgt := 71) dX3_place_41 (by decide) (by omega) (by omega) (fun c41 => ?_) (fun c41 => ?_)) | refine wp_icmp_lt (pc := 41) (tgt := 71) dX3_place_41 (by decide) (fun c41 => ?_) (fun c41 => ?_)
    rotate_left
    refine wp_aload_n (pc := 44) (i := 0) dX3_place_44 rfl rfl ?_
    refine wp_gfv (pc := 45) fk_X3_32 dX3_place_45 rfl rfl (by first | with_reducible assumption | with_reducible exact hs_same _ _ _ _ | rfl) ?_
    refine wp_aload_n (pc := 48) (i := 0) dX3_place_48 rfl rfl ?_
    refine wp_gfr (pc := 49) fk_X3_12 dX3_place_49 rfl rfl (by decide) ?_
    refine wp_aload_n (pc := 52) (i := 0) dX3_place_52 rfl rfl ?_
    refine wp_gfv (pc := 53) fk_X3_49 dX3_place_53 rfl rfl (by first | with_reducible assumption | with_reducible exact hs_same _ _ _ _ | rfl) ?_
    refine wp_cV1i (pc := 56) lk_X3_79 dX3_place_56 rfl rfl rfl (sp_servedIn isT_100 hW ok hsp (fun h1 hW1 hF1 _ => ?_))
    refine wp_iconst (pc := 59) (v := kM1) dX3_place_59 rfl ?_
    first | (with_reducible show WP _ _ _ _ _ _ (Value.int (nI _) :: Value.int (nI _) :: _) _; refine wp_ixorN (pc := 60) dX3_place_60 ?_) | refine wp_ixor (pc := 60) dX3_place_60 ?_
    rotate_left
    · exact absurd c41 (by omega)
    refine wp_iand (pc := 61) dX3_place_61 ?_
    refine wp_if_ne (pc := 62) (tgt := 69) dX3_place_62 (by decide) (fun c62 => ?_) (fun c62 => ?_)
    · rw [decide_eq_false c62] at sb
      refine wp_iconst (pc := 69) (v := nI 0) dX3_place_69 rfl ?_
      refine wp_zret (pc := 70) dX3_place_70 rfl (by first | exact Or.inl rfl | exact Or.inr rfl | assumption | exact bI_01 _) ?_
      rotate_left
      refine k0 h1 (fun j hj z => ?_) hW1 hF1
      have := z.2
      rw [rq j hj, srv, sb] at this; cases this
    · rw [decide_eq_true c62] at sb
      refine wp_iconst (pc := 65) (v := nI 1) dX3_place_65 rfl ?_
      refine wp_goto (pc := 66) (tgt := 70) dX3_place_66 (by decide) ?_
      refine wp_zret (pc := 70) dX3_place_70 rfl (by first | exact Or.inl rfl | exact Or.inr rfl | assumption | exact bI_01 _) ?_
      rotate_left
      refine k1 h1 q ri ⟨?_, sb⟩ (fun j hj z => absurd (rq j hj) (by omega)) hW1 hF1
      rw [chg_end]; omega
  | succ m ih =>
    intro g q kk r h hgm hk hr hW hR hb K k1 k0
    have hg : g < T 1 := by omega
    have hg5 : g < 6 := by omega
    refine Call.of (M := mX3_place) (n := 2) (by decide +kernel) rfl ?_
    show WP _ _ _ _ 0 [some (.ref 85), some (.int (nI g)), some (.int (nI kk)), some (.int (nI r)), none, none] [] _
    refine pl_head hO h0 hw hgm hk hr hW hR hb (fun z => k0 h z hW (Fr.rf h 100)) _ _ (fun hkk => ?_)
    have e3 : h 100 3 = nI (T 1) := by have := hW.2.2.2.1; rwa [pre_out (by omega)] at this
    have okg : OKT (pre T q g) := okt_pre hO p0 q (by omega)
    have pg1 : pre T q g 1 = T 1 := pre_out (by omega)
    have pg0 : pre T q g 0 = T 0 := pre_out (by omega)
    have loop : ∀ n c h1, c + n = T 0 → (∃ u, u < T 0 ∧ TW h1 100 (up (pre T q g) (32 + g) u)) → Fr h h1 100 → (∀ j, q * T 0 ^ (m + 1) ≤ j → j < (q * T 0 + c) * T 0 ^ m → ¬ okp T w sp g kk j) → ∀ L5, WP G (d + (m + 1) + 4) mX3_place (pI K) 74 [some (.ref 85), some (.int (nI g)), some (.int (nI kk)), some (.int (nI r)), some (.int (nI c)), L5] [] h1 := by
      intro n
      induction n with
      | zero =>
        intro c h1 hcn hu hF1 hno L5
        obtain ⟨u, hu, hW1⟩ := hu
        have hc : c = T 0 := by omega
        subst hc
        have hR1 := hR.cg (h' := h1) (fun a a1 a2 => hF1 a (by omega))
        obtain ⟨R1, R2, R3, R4, R5⟩ := id hR1
        have e2 : h1 100 2 = nI (T 0) := by have := hW1.2.2.1; rwa [up_ne (by omega), pg0] at this
        have ew := R3 g hg
        have wb := hW1.fir (v := T (32 + g)) (okt_fir okg (by omega) (by omega)) (g := g) (by rw [up_ne (by omega)]; omega)
        rw [up_up, pre_back] at wb
        refine wp_iload (pc := 74) (i := 4) dX3_place_74 rfl ?_
        refine wp_aload_n (pc := 76) (i := 0) dX3_place_76 rfl rfl ?_
        refine wp_gfr (pc := 77) fk_X3_12 dX3_place_77 rfl rfl (by decide) ?_
        refine wp_gfv (pc := 80) fk_X3_40 dX3_place_80 rfl rfl (by first | with_reducible assumption | with_reducible exact hs_same _ _ _ _ | rfl) ?_
        first | (with_reducible show WP _ _ _ _ _ _ (Value.int (nI _) :: Value.int (nI _) :: _) _; refine wp_icmp_geN (pc := 83) (tgt := 156) dX3_place_83 (by decide) (by omega) (by omega) (fun c83 => ?_) (fun c83 => ?_)) | refine wp_icmp_ge (pc := 83) (tgt := 156) dX3_place_83 (by decide) (fun c83 => ?_) (fun c83 => ?_)
        refine wp_aload_n (pc := 156) (i := 0) dX3_place_156 rfl rfl ?_
        refine wp_gfr (pc := 157) fk_X3_12 dX3_place_157 rfl rfl (by decide) ?_
        refine wp_gfr (pc := 160) fk_X3_69 dX3_place_160 rfl rfl (by decide) ?_
        refine wp_iload_n (pc := 163) (i := 1) dX3_place_163 rfl rfl ?_
        refine wp_aload_n (pc := 164) (i := 0) dX3_place_164 rfl rfl ?_
        refine wp_gfr (pc := 165) fk_X3_18 dX3_place_165 rfl rfl (by decide) ?_
        refine wp_iload_n (pc := 168) (i := 1) dX3_place_168 rfl rfl ?_
        first | (with_reducible show WP _ _ _ _ _ _ (Value.int (nI _) :: _) _; refine wp_ialdN (pc := 169) dX3_place_169 rfl (by omega) (by first | with_reducible assumption | with_reducible exact hs_same _ _ _ _ | rfl) ?_) | refine wp_iald (pc := 169) dX3_place_169 rfl (by assumption) rfl ?_
        first | (with_reducible show WP _ _ _ _ _ _ (_ :: Value.int (nI _) :: _) _; refine wp_iastN (pc := 170) dX3_place_170 rfl (by omega) ?_) | refine wp_iast (pc := 170) dX3_place_170 rfl (by assumption) rfl ?_
        refine wp_iconst (pc := 171) (v := nI 0) dX3_place_171 rfl ?_
        refine wp_zret (pc := 172) dX3_place_172 rfl (by first | exact Or.inl rfl | exact Or.inr rfl | assumption | exact bI_01 _) ?_
        rotate_left
        rotate_left
        · refine k0 _ (fun j hj => hno j hj.1 ?_) wb (hF1.hs (by omega) (by omega))
          have e2 : T 0 ^ (m + 1) = T 0 * T 0 ^ m := by rw [Nat.pow_succ, Nat.mul_comm]
          have e1 : q * T 0 ^ (m + 1) = q * T 0 * T 0 ^ m := by rw [e2, Nat.mul_assoc]
          have := hj.2
          rw [e1, e2] at this
          rw [Nat.add_mul]; exact this
        · exact absurd hcn (by omega)
      | succ n ihn =>
        intro c h1 hcn hu hF1 hno L5
        obtain ⟨u, hu, hW1⟩ := hu
        have hc : c < T 0 := by omega
        have hR1 := hR.cg (h' := h1) (fun a a1 a2 => hF1 a (by omega))
        obtain ⟨R1, R2, R3, R4, R5⟩ := id hR1
        have e2 : h1 100 2 = nI (T 0) := by have := hW1.2.2.1; rwa [up_ne (by omega), pg0] at this
        have ew := R3 g hg
        have ob := (o7 g hg).2.2.1
        have wc := hW1.fir (v := c) (okt_fir okg (by omega) (by omega)) (g := g) (by rw [up_ne (by omega)]; omega)
        rw [up_up] at wc
        have wc' := wc
        rw [pre_up hc] at wc'
        have st : (q * T 0 + (c + 1)) * T 0 ^ m = (q * T 0 + c) * T 0 ^ m + T 0 ^ m := by rw [← Nat.add_assoc, Nat.succ_mul]
        have fin : ∀ u, u = (if c = T (32 + g) then 0 else 1) → WP G (d + (m + 1) + 4) mX3_place (pI K) 102 [some (.ref 85), some (.int (nI g)), some (.int (nI kk)), some (.int (nI r)), some (.int (nI c)), L5] [.int (nI u)] h1 := by
          intro u hu
          have hu1 : u ≤ 1 := by rw [hu]; split <;> omega
          have cs : ∀ i, rin T m (q * T 0 + c) i → chg T g i = u + chg T (g + 1) i := fun i hi => by
            rw [chg_step hg, cst, rin_dig hc hgm hi, hu]
          have nx : ∀ h2, TW h2 100 (up (pre T q g) (32 + g) c) → Fr h h2 100 → (∀ j, rin T m (q * T 0 + c) j → ¬ okp T w sp g kk j) → ∀ L5, WP G (d + (m + 1) + 4) mX3_place (pI K) 150 [some (.ref 85), some (.int (nI g)), some (.int (nI kk)), some (.int (nI r)), some (.int (nI c)), L5] [] h2 := by
            intro h2 hW2 hF2 hno2 L5
            first | refine wp_iincN (pc := 150) (i := 4) (n := 1) dX3_place_150 rfl rfl (by decide) rfl ?_ | refine wp_iinc (pc := 150) (i := 4) dX3_place_150 rfl rfl rfl (by decide) rfl ?_
            dsimp only [List.set_cons_zero, List.set_cons_succ]
            refine wp_goto (pc := 153) (tgt := 74) dX3_place_153 (by decide) ?_
            rotate_left
            refine ihn (c + 1) h2 (by omega) ⟨c, hc, hW2⟩ hF2 (fun j j1 j2 => ?_) L5
            by_cases z : j < (q * T 0 + c) * T 0 ^ m
            · exact hno j j1 z
            · exact hno2 j ⟨by omega, by omega⟩
          have F2 : Fr h (hs h1 106 g (nI c)) 100 := hF1.hs (by omega) (by omega)
          have R4' : hs h1 106 g (nI c) 87 (g * 5 + c) = nI (vb (up T (32 + g) c) g sp) := by rw [hs_ne (by decide)]; exact R4 g c hg hc
          have vl := vb_lt (g := g) (okt_fir hO hg hc) (by rw [up_ne (by omega)]; exact p0) sp
          refine wp_istore (pc := 102) (i := 5) dX3_place_102 rfl (by decide) rfl ?_
          dsimp only [List.set_cons_zero, List.set_cons_succ]
          refine wp_aload_n (pc := 104) (i := 0) dX3_place_104 rfl rfl ?_
          refine wp_gfr (pc := 105) fk_X3_12 dX3_place_105 rfl rfl (by decide) ?_
          refine wp_gfr (pc := 108) fk_X3_69 dX3_place_108 rfl rfl (by decide) ?_
          refine wp_iload_n (pc := 111) (i := 1) dX3_place_111 rfl rfl ?_
          refine wp_iload (pc := 112) (i := 4) dX3_place_112 rfl ?_
          first | (with_reducible show WP _ _ _ _ _ _ (_ :: Value.int (nI _) :: _) _; refine wp_iastN (pc := 114) dX3_place_114 rfl (by omega) ?_) | refine wp_iast (pc := 114) dX3_place_114 rfl (by assumption) rfl ?_
          refine wp_iload (pc := 115) (i := 5) dX3_place_115 rfl ?_
          refine wp_iload_n (pc := 117) (i := 2) dX3_place_117 rfl rfl ?_
          first | (with_reducible show WP _ _ _ _ _ _ (Value.int (nI _) :: Value.int (nI _) :: _) _; refine wp_icmp_gtN (pc := 118) (tgt := 150) dX3_place_118 (by decide) (by omega) (by omega) (fun c118 => ?_) (fun c118 => ?_)) | refine wp_icmp_gt (pc := 118) (tgt := 150) dX3_place_118 (by decide) (fun c118 => ?_) (fun c118 => ?_)
          rotate_left
          refine wp_aload_n (pc := 121) (i := 0) dX3_place_121 rfl rfl ?_
          refine wp_iload_n (pc := 122) (i := 1) dX3_place_122 rfl rfl ?_
          refine wp_iconst (pc := 123) (v := nI 1) dX3_place_123 rfl ?_
          first | (with_reducible show WP _ _ _ _ _ _ (Value.int (nI _) :: Value.int (nI _) :: _) _; refine wp_iaddN (pc := 124) dX3_place_124 ?_) | refine wp_iadd (pc := 124) dX3_place_124 ?_
          refine wp_iload_n (pc := 125) (i := 2) dX3_place_125 rfl rfl ?_
          refine wp_iload (pc := 126) (i := 5) dX3_place_126 rfl ?_
          first | (with_reducible show WP _ _ _ _ _ _ (Value.int (nI _) :: Value.int (nI _) :: _) _; refine wp_isubN (pc := 128) dX3_place_128 (by omega) ?_) | refine wp_isub (pc := 128) dX3_place_128 ?_
          refine wp_iload_n (pc := 129) (i := 3) dX3_place_129 rfl rfl ?_
          refine wp_aload_n (pc := 130) (i := 0) dX3_place_130 rfl rfl ?_
          refine wp_gfr (pc := 131) fk_X3_22 dX3_place_131 rfl rfl (by decide) ?_
          refine wp_iload_n (pc := 134) (i := 1) dX3_place_134 rfl rfl ?_
          refine wp_iconst (pc := 135) (v := nI 5) dX3_place_135 rfl ?_
          first | (with_reducible show WP _ _ _ _ _ _ (Value.int (nI _) :: Value.int (nI _) :: _) _; refine wp_imulN (pc := 136) dX3_place_136 ?_) | refine wp_imul (pc := 136) dX3_place_136 ?_
          refine wp_iload (pc := 137) (i := 4) dX3_place_137 rfl ?_
          first | (with_reducible show WP _ _ _ _ _ _ (Value.int (nI _) :: Value.int (nI _) :: _) _; refine wp_iaddN (pc := 139) dX3_place_139 ?_) | refine wp_iadd (pc := 139) dX3_place_139 ?_
          first | (with_reducible show WP _ _ _ _ _ _ (Value.int (nI _) :: _) _; refine wp_ialdN (pc := 140) dX3_place_140 rfl (by omega) (by first | with_reducible assumption | with_reducible exact hs_same _ _ _ _ | rfl) ?_) | refine wp_iald (pc := 140) dX3_place_140 rfl (by assumption) rfl ?_
          first | (with_reducible show WP _ _ _ _ _ _ (Value.int (nI _) :: Value.int (nI _) :: _) _; refine wp_iorN (pc := 141) dX3_place_141 ?_) | refine wp_ior (pc := 141) dX3_place_141 ?_
          refine wp_cV3i (pc := 142) lk_X3_58 dX3_place_142 rfl rfl rfl ?_
          rotate_left
          · exact nx _ wc F2 (fun j hj z => by have := cs j hj; have := z.1; omega) _
          have cal : Call G (d + m + 4) mX3_place [.ref 85, .int (nI (g + 1)), .int (nI (kk - u)), .int (nI (r ||| vb (up T (32 + g) c) g sp))] (hs h1 106 g (nI c)) (pI fun v h2 => WP G (d + (m + 1) + 4) mX3_place (pI K) 145 [some (.ref 85), some (.int (nI g)), some (.int (nI kk)), some (.int (nI r)), some (.int (nI c)), some (.int (nI u))] [.int v] h2) := by
            refine ih (g + 1) (q * T 0 + c) (kk - u) (r ||| vb (up T (32 + g) c) g sp) _ (by omega) (by omega) (or_lt (k := 5) hr vl) wc' (hR.cg (fun a a1 a2 => F2 a (by omega))) (fun i hi b hbb => ?_) _ (fun h2 i hi z1 z2 hW2 hF2 => ?_) (fun h2 z hW2 hF2 => ?_)
            · rcases hb i (rin_sub hc hi) b hbb with y | ⟨j, j1, j2, y⟩
              · exact Or.inl (tb_or (Or.inl y))
              · by_cases jg : j = g
                · subst jg
                  rw [rin_dig hc hgm hi] at y
                  exact Or.inl (tb_or (Or.inr y))
                · exact Or.inr ⟨j, by omega, j2, y⟩
            · first | (with_reducible show WP _ _ _ _ _ _ (Value.int (bI _) :: _) _; refine wp_if_eqB (pc := 145) (tgt := 150) dX3_place_145 (by decide) (fun c145 => ?_) (fun c145 => ?_)) | (with_reducible show WP _ _ _ _ _ _ (Value.int (nI _) :: _) _; refine wp_if_eqN (pc := 145) (tgt := 150) dX3_place_145 (by decide) (by omega) (fun c145 => ?_) (fun c145 => ?_)) | refine wp_if_eq (pc := 145) (tgt := 150) dX3_place_145 (by decide) (fun c145 => ?_) (fun c145 => ?_)
              rotate_left
              refine wp_iconst (pc := 148) (v := nI 1) dX3_place_148 rfl ?_
              refine wp_zret (pc := 149) dX3_place_149 rfl (by first | exact Or.inl rfl | exact Or.inr rfl | assumption | exact bI_01 _) ?_
              rotate_left
              · exact absurd c145 (by decide)
              refine k1 h2 i (rin_sub hc hi) ⟨by have := cs i hi; have := z1.1; omega, z1.2⟩ (fun j hj hji z => ?_) hW2 (F2.tr hF2)
              by_cases y : j < (q * T 0 + c) * T 0 ^ m
              · exact hno j hj.1 y z
              · have hj2 : rin T m (q * T 0 + c) j := ⟨by omega, by have := hi.2; omega⟩
                refine z2 j hj2 hji ⟨?_, z.2⟩
                have := cs j hj2; have := z.1; omega
            · first | (with_reducible show WP _ _ _ _ _ _ (Value.int (bI _) :: _) _; refine wp_if_eqB (pc := 145) (tgt := 150) dX3_place_145 (by decide) (fun c145 => ?_) (fun c145 => ?_)) | (with_reducible show WP _ _ _ _ _ _ (Value.int (nI _) :: _) _; refine wp_if_eqN (pc := 145) (tgt := 150) dX3_place_145 (by decide) (by omega) (fun c145 => ?_) (fun c145 => ?_)) | refine wp_if_eq (pc := 145) (tgt := 150) dX3_place_145 (by decide) (fun c145 => ?_) (fun c145 => ?_)
              rotate_left
              refine wp_iconst (pc := 148) (v := nI 1) dX3_place_148 rfl ?_
              refine wp_zret (pc := 149) dX3_place_149 rfl (by first | exact Or.inl rfl | exact Or.inr rfl | assumption | exact bI_01 _) ?_
              rotate_left
              · refine nx h2 (by rw [pre_up hc]; exact hW2) (F2.tr hF2) (fun j hj y => z j hj ⟨?_, y.2⟩) _
                have := cs j hj; have := y.1; omega
              · exact absurd rfl c145
          exact cal
        refine wp_iload (pc := 74) (i := 4) dX3_place_74 rfl ?_
        refine wp_aload_n (pc := 76) (i := 0) dX3_place_76 rfl rfl ?_
        refine wp_gfr (pc := 77) fk_X3_12 dX3_place_77 rfl rfl (by decide) ?_
        refine wp_gfv (pc := 80) fk_X3_40 dX3_place_80 rfl rfl (by first | with_reducible assumption | with_reducible exact hs_same _ _ _ _ | rfl) ?_
        first | (with_reducible show WP _ _ _ _ _ _ (Value.int (nI _) :: Value.int (nI _) :: _) _; refine wp_icmp_geN (pc := 83) (tgt := 156) dX3_place_83 (by decide) (by omega) (by omega) (fun c83 => ?_) (fun c83 => ?_)) | refine wp_icmp_ge (pc := 83) (tgt := 156) dX3_place_83 (by decide) (fun c83 => ?_) (fun c83 => ?_)
        rotate_left
        refine wp_iload (pc := 86) (i := 4) dX3_place_86 rfl ?_
        refine wp_aload_n (pc := 88) (i := 0) dX3_place_88 rfl rfl ?_
        refine wp_gfr (pc := 89) fk_X3_18 dX3_place_89 rfl rfl (by decide) ?_
        refine wp_iload_n (pc := 92) (i := 1) dX3_place_92 rfl rfl ?_
        first | (with_reducible show WP _ _ _ _ _ _ (Value.int (nI _) :: _) _; refine wp_ialdN (pc := 93) dX3_place_93 rfl (by omega) (by first | with_reducible assumption | with_reducible exact hs_same _ _ _ _ | rfl) ?_) | refine wp_iald (pc := 93) dX3_place_93 rfl (by assumption) rfl ?_
        first | (with_reducible show WP _ _ _ _ _ _ (Value.int (nI _) :: Value.int (nI _) :: _) _; refine wp_icmp_neN (pc := 94) (tgt := 101) dX3_place_94 (by decide) (by omega) (by omega) (fun c94 => ?_) (fun c94 => ?_)) | refine wp_icmp_ne (pc := 94) (tgt := 101) dX3_place_94 (by decide) (fun c94 => ?_) (fun c94 => ?_)
        refine wp_iconst (pc := 101) (v := nI 1) dX3_place_101 rfl ?_
        rotate_left
        refine wp_iconst (pc := 97) (v := nI 0) dX3_place_97 rfl ?_
        refine wp_goto (pc := 98) (tgt := 102) dX3_place_98 (by decide) ?_
        rotate_left
        · exact absurd hcn (by omega)
        · exact fin 1 (by rw [if_neg c94])
        · exact fin 0 (by rw [if_pos c94])
    refine wp_iload_n (pc := 33) (i := 1) dX3_place_33 rfl rfl ?_
    refine wp_aload_n (pc := 34) (i := 0) dX3_place_34 rfl rfl ?_
    refine wp_gfr (pc := 35) fk_X3_12 dX3_place_35 rfl rfl (by decide) ?_
    refine wp_gfv (pc := 38) fk_X3_55 dX3_place_38 rfl rfl (by first | with_reducible assumption | with_reducible exact hs_same _ _ _ _ | rfl) ?_
    first | (with_reducible show WP _ _ _ _ _ _ (Value.int (nI _) :: Value.int (nI _) :: _) _; refine wp_icmp_ltN (pc := 41) (tgt := 71) dX3_place_41 (by decide) (by omega) (by omega) (fun c41 => ?_) (fun c41 => ?_)) | refine wp_icmp_lt (pc := 41) (tgt := 71) dX3_place_41 (by decide) (fun c41 => ?_) (fun c41 => ?_)
    refine wp_iconst (pc := 71) (v := nI 0) dX3_place_71 rfl ?_
    refine wp_istore (pc := 72) (i := 4) dX3_place_72 rfl (by decide) rfl ?_
    dsimp only [List.set_cons_zero, List.set_cons_succ]
    rotate_left
    rotate_left
    · refine loop (T 0) 0 h (by omega) ⟨T (32 + g), (o7 g hg).2.2.1, by rw [pre_back]; exact hW⟩ (Fr.rf h 100) (fun j j1 j2 => ?_) _
      have e2 : T 0 ^ (m + 1) = T 0 * T 0 ^ m := by rw [Nat.pow_succ, Nat.mul_comm]
      have e1 : q * T 0 ^ (m + 1) = q * T 0 * T 0 ^ m := by rw [e2, Nat.mul_assoc]
      rw [e1] at j1
      rw [Nat.add_zero] at j2
      omega
    · exact absurd hg c41
end DPLACE
