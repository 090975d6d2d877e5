section DFEVER
variable {G : Gt} {d : Nat} {h : Hp} {T : Tn} {t : Nat}
theorem sp_power {b n : Nat} {K : Int64 → Hp → Prop} (hb : b ≤ 10) (hn : n ≤ 6) (k : K (lN (b ^ n)) h) : Call G d mX6_power [.int (nI b), .int (nI n)] h (pJ K) := by
  refine Call.of (M := mX6_power) (n := 3) (by decide +kernel) rfl ?_
  show WP _ _ _ _ 0 [some (.int (nI b)), some (.int (nI n)), none, none, none] [] _
  have loop : ∀ m i, i + m = n → WP G d mX6_power (pJ K) 5 [some (.int (nI b)), some (.int (nI n)), some (.long (lN (b ^ i))), none, some (.int (nI i))] [] h := by
    intro m
    induction m with
    | zero =>
      intro i him
      refine wp_iload (pc := 5) (i := 4) dX6_power_5 rfl ?_
      refine wp_iload_n (pc := 7) (i := 1) dX6_power_7 rfl rfl ?_
      first | (with_reducible show WP _ _ _ _ _ _ (Value.int (nI _) :: Value.int (nI _) :: _) _; refine wp_icmp_geN (pc := 8) (tgt := 22) dX6_power_8 (by decide) (by omega) (by omega) (fun c8 => ?_) (fun c8 => ?_)) | refine wp_icmp_ge (pc := 8) (tgt := 22) dX6_power_8 (by decide) (fun c8 => ?_) (fun c8 => ?_)
      refine wp_lload_n (pc := 22) (i := 2) dX6_power_22 rfl rfl ?_
      refine wp_lret (pc := 23) dX6_power_23 rfl ?_
      rotate_left
      rotate_left
      · rw [show i = n by omega]; exact k
      · exact absurd him (by omega)
    | succ m ih =>
      intro i him
      refine wp_iload (pc := 5) (i := 4) dX6_power_5 rfl ?_
      refine wp_iload_n (pc := 7) (i := 1) dX6_power_7 rfl rfl ?_
      first | (with_reducible show WP _ _ _ _ _ _ (Value.int (nI _) :: Value.int (nI _) :: _) _; refine wp_icmp_geN (pc := 8) (tgt := 22) dX6_power_8 (by decide) (by omega) (by omega) (fun c8 => ?_) (fun c8 => ?_)) | refine wp_icmp_ge (pc := 8) (tgt := 22) dX6_power_8 (by decide) (fun c8 => ?_) (fun c8 => ?_)
      rotate_left
      refine wp_lload_n (pc := 11) (i := 2) dX6_power_11 rfl rfl ?_
      refine wp_iload_n (pc := 12) (i := 0) dX6_power_12 rfl rfl ?_
      first | (with_reducible show WP _ _ _ _ _ _ (Value.int (nI _) :: _) _; refine wp_i2lN (pc := 13) dX6_power_13 (by omega) ?_) | refine wp_i2l (pc := 13) dX6_power_13 rfl ?_
      refine wp_lmulN (pc := 14) dX6_power_14 ?_
      refine wp_lstore_n (pc := 15) (i := 2) dX6_power_15 rfl rfl (by decide) rfl ?_
      dsimp only [List.set_cons_zero, List.set_cons_succ]
      first | refine wp_iincN (pc := 16) (i := 4) (n := 1) dX6_power_16 rfl rfl (by decide) rfl ?_ | refine wp_iinc (pc := 16) (i := 4) dX6_power_16 rfl rfl rfl (by decide) rfl ?_
      dsimp only [List.set_cons_zero, List.set_cons_succ]
      refine wp_goto (pc := 19) (tgt := 5) dX6_power_19 (by decide) ?_
      rotate_left
      · exact absurd him (by omega)
      · exact ih (i + 1) (by omega)
  refine wp_lconst (pc := 0) (v := lN 1) dX6_power_0 rfl ?_
  refine wp_lstore_n (pc := 1) (i := 2) dX6_power_1 rfl rfl (by decide) rfl ?_
  dsimp only [List.set_cons_zero, List.set_cons_succ]
  refine wp_iconst (pc := 2) (v := nI 0) dX6_power_2 rfl ?_
  refine wp_istore (pc := 3) (i := 4) dX6_power_3 rfl (by decide) rfl ?_
  dsimp only [List.set_cons_zero, List.set_cons_succ]
  rotate_left
  exact loop n 0 (by omega)
/-- of these one brings, who quarrels with none of them -/
def pcf (T : Tn) (s g : Nat) : Bool := s.testBit g && decide (s &&& T (50 + g) = 0)
theorem sp_hasPeaceful {s : Nat} {K : Int32 → Hp → Prop} (hT : isT t) (hW : TW h t T) (hO : OKT T) (hs' : s < 64) (k : K (bI (anyU (pcf T s) (T 1))) h) : Call G d mX5_hasPeaceful [.ref t, .int (nI s)] h (pI K) := by
  obtain ⟨ht, s0, s1, s2, s3, s4, s5, s6, s7, s8, s9, s10, s11⟩ := id hT
  obtain ⟨e0, e1, e2, e3, e4, e5, e6, e7, e8, e9, e10, e11, e12, e13⟩ := id hW
  obtain ⟨o0, o1, o2, o3, o4, o5, o6, o7, o8⟩ := id hO
  refine Call.of (M := mX5_hasPeaceful) (n := 1) (by decide +kernel) rfl ?_
  show WP _ _ _ _ 0 [some (.ref t), some (.int (nI s)), none] [] _
  have loop : ∀ m i, i + m = T 1 → anyU (pcf T s) i = false → WP G d mX5_hasPeaceful (pI K) 2 [some (.ref t), some (.int (nI s)), some (.int (nI i))] [] h := by
    intro m
    induction m with
    | zero =>
      intro i him hf
      refine wp_iload_n (pc := 2) (i := 2) dX5_hasPeaceful_2 rfl rfl ?_
      refine wp_aload_n (pc := 3) (i := 0) dX5_hasPeaceful_3 rfl rfl ?_
      refine wp_gfv (pc := 4) fk_X5_49 dX5_hasPeaceful_4 s0 rfl (by first | with_reducible assumption | with_reducible exact hs_same _ _ _ _ | rfl) ?_
      first | (with_reducible show WP _ _ _ _ _ _ (Value.int (nI _) :: Value.int (nI _) :: _) _; refine wp_icmp_geN (pc := 7) (tgt := 38) dX5_hasPeaceful_7 (by decide) (by omega) (by omega) (fun c7 => ?_) (fun c7 => ?_)) | refine wp_icmp_ge (pc := 7) (tgt := 38) dX5_hasPeaceful_7 (by decide) (fun c7 => ?_) (fun c7 => ?_)
      refine wp_iconst (pc := 38) (v := nI 0) dX5_hasPeaceful_38 rfl ?_
      refine wp_zret (pc := 39) dX5_hasPeaceful_39 rfl (by first | exact Or.inl rfl | exact Or.inr rfl | assumption | exact bI_01 _) ?_
      rotate_left
      rotate_left
      · rw [show T 1 = i by omega, hf] at k; exact k
      · exact absurd him (by omega)
    | succ m ih =>
      intro i him hf
      have b := (o7 i (by omega)).2.2.2.2.2
      have bb := bit_iff s i
      have a1 : s / 2 ^ i &&& 1 ≤ 1 := Nat.and_le_right
      have a2 : s &&& T (50 + i) ≤ s := Nat.and_le_left
      have nx : pcf T s i = false → anyU (pcf T s) (i + 1) = false := fun q => by show (anyU (pcf T s) i || pcf T s i) = false; rw [hf, q]; rfl
      refine wp_iload_n (pc := 2) (i := 2) dX5_hasPeaceful_2 rfl rfl ?_
      refine wp_aload_n (pc := 3) (i := 0) dX5_hasPeaceful_3 rfl rfl ?_
      refine wp_gfv (pc := 4) fk_X5_49 dX5_hasPeaceful_4 s0 rfl (by first | with_reducible assumption | with_reducible exact hs_same _ _ _ _ | with_reducible exact e13 _ (by omega) | rfl) ?_
      first | (with_reducible show WP _ _ _ _ _ _ (Value.int (nI _) :: Value.int (nI _) :: _) _; refine wp_icmp_geN (pc := 7) (tgt := 38) dX5_hasPeaceful_7 (by decide) (by omega) (by omega) (fun c7 => ?_) (fun c7 => ?_)) | refine wp_icmp_ge (pc := 7) (tgt := 38) dX5_hasPeaceful_7 (by decide) (fun c7 => ?_) (fun c7 => ?_)
      rotate_left
      refine wp_iload_n (pc := 10) (i := 1) dX5_hasPeaceful_10 rfl rfl ?_
      refine wp_iload_n (pc := 11) (i := 2) dX5_hasPeaceful_11 rfl rfl ?_
      first | (with_reducible show WP _ _ _ _ _ _ (Value.int (nI _) :: Value.int (nI _) :: _) _; refine wp_ishrN (pc := 12) dX5_hasPeaceful_12 (by omega) (by omega) ?_) | refine wp_ishr (pc := 12) dX5_hasPeaceful_12 ?_
      refine wp_iconst (pc := 13) (v := nI 1) dX5_hasPeaceful_13 rfl ?_
      first | (with_reducible show WP _ _ _ _ _ _ (Value.int (nI _) :: Value.int (nI _) :: _) _; refine wp_iandN (pc := 14) dX5_hasPeaceful_14 ?_) | refine wp_iand (pc := 14) dX5_hasPeaceful_14 ?_
      refine wp_iconst (pc := 15) (v := nI 1) dX5_hasPeaceful_15 rfl ?_
      first | (with_reducible show WP _ _ _ _ _ _ (Value.int (nI _) :: Value.int (nI _) :: _) _; refine wp_icmp_neN (pc := 16) (tgt := 32) dX5_hasPeaceful_16 (by decide) (by omega) (by omega) (fun c16 => ?_) (fun c16 => ?_)) | refine wp_icmp_ne (pc := 16) (tgt := 32) dX5_hasPeaceful_16 (by decide) (fun c16 => ?_) (fun c16 => ?_)
      first | refine wp_iincN (pc := 32) (i := 2) (n := 1) dX5_hasPeaceful_32 rfl rfl (by decide) rfl ?_ | refine wp_iinc (pc := 32) (i := 2) dX5_hasPeaceful_32 rfl rfl rfl (by decide) rfl ?_
      dsimp only [List.set_cons_zero, List.set_cons_succ]
      refine wp_goto (pc := 35) (tgt := 2) dX5_hasPeaceful_35 (by decide) ?_
      rotate_left
      refine wp_iload_n (pc := 19) (i := 1) dX5_hasPeaceful_19 rfl rfl ?_
      refine wp_aload_n (pc := 20) (i := 0) dX5_hasPeaceful_20 rfl rfl ?_
      refine wp_gfr (pc := 21) fk_X5_36 dX5_hasPeaceful_21 s0 rfl (by omega) ?_
      refine wp_iload_n (pc := 24) (i := 2) dX5_hasPeaceful_24 rfl rfl ?_
      first | (with_reducible show WP _ _ _ _ _ _ (Value.int (nI _) :: _) _; refine wp_ialdN (pc := 25) dX5_hasPeaceful_25 s9 (by omega) (by first | with_reducible assumption | with_reducible exact hs_same _ _ _ _ | with_reducible exact e13 _ (by omega) | rfl) ?_) | refine wp_iald (pc := 25) dX5_hasPeaceful_25 s9 (by assumption) rfl ?_
      first | (with_reducible show WP _ _ _ _ _ _ (Value.int (nI _) :: Value.int (nI _) :: _) _; refine wp_iandN (pc := 26) dX5_hasPeaceful_26 ?_) | refine wp_iand (pc := 26) dX5_hasPeaceful_26 ?_
      first | (with_reducible show WP _ _ _ _ _ _ (Value.int (bI _) :: _) _; refine wp_if_neB (pc := 27) (tgt := 32) dX5_hasPeaceful_27 (by decide) (fun c27 => ?_) (fun c27 => ?_)) | (with_reducible show WP _ _ _ _ _ _ (Value.int (nI _) :: _) _; refine wp_if_neN (pc := 27) (tgt := 32) dX5_hasPeaceful_27 (by decide) (by omega) (fun c27 => ?_) (fun c27 => ?_)) | refine wp_if_ne (pc := 27) (tgt := 32) dX5_hasPeaceful_27 (by decide) (fun c27 => ?_) (fun c27 => ?_)
      first | refine wp_iincN (pc := 32) (i := 2) (n := 1) dX5_hasPeaceful_32 rfl rfl (by decide) rfl ?_ | refine wp_iinc (pc := 32) (i := 2) dX5_hasPeaceful_32 rfl rfl rfl (by decide) rfl ?_
      dsimp only [List.set_cons_zero, List.set_cons_succ]
      refine wp_goto (pc := 35) (tgt := 2) dX5_hasPeaceful_35 (by decide) ?_
      rotate_left
      refine wp_iconst (pc := 30) (v := nI 1) dX5_hasPeaceful_30 rfl ?_
      refine wp_zret (pc := 31) dX5_hasPeaceful_31 rfl (by first | exact Or.inl rfl | exact Or.inr rfl | assumption | exact bI_01 _) ?_
      rotate_left
      · exact absurd him (by omega)
      · refine ih (i + 1) (by omega) (nx ?_)
        have : s.testBit i = false := by
          cases q : s.testBit i with
          | false => rfl
          | true => exact absurd (bb.mpr q) c16
        rw [pcf, this]; rfl
      · refine ih (i + 1) (by omega) (nx ?_)
        rw [pcf, decide_eq_false c27, Bool.and_false]
      · have : anyU (pcf T s) (T 1) = true := anyU_t (c := i) (by rw [pcf, bb.mp c16, decide_eq_true c27]; rfl) _ (by omega)
        rw [this] at k; exact k
  refine wp_iconst (pc := 0) (v := nI 0) dX5_hasPeaceful_0 rfl ?_
  refine wp_istore_n (pc := 1) (i := 2) dX5_hasPeaceful_1 rfl rfl (by decide) rfl ?_
  dsimp only [List.set_cons_zero, List.set_cons_succ]
  rotate_left
  exact loop (T 1) 0 (by omega) rfl
end DFEVER
