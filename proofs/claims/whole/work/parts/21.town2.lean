/-! what a day's seats say -/
def LD (h : Hp) (t : Nat) (T : Tn) (n : Nat) : Prop := (∀ g, g < T 1 → h (t + 10) g = oI (wt T n g)) ∧ (∀ c, c < T 0 → h (t + 11) c = nI (gu T n (T 1) c))
def br (T : Tn) (n g : Nat) : Bool := match wt T n g with
  | none => false
  | some c => decide (gu T n (T 1) c &&& T (50 + g) = 0)
theorem br_none {T : Tn} {n g : Nat} (h : wt T n g = none) : br T n g = false := by unfold br; rw [h]
theorem br_some {T : Tn} {n g c : Nat} (h : wt T n g = some c) : br T n g = decide (gu T n (T 1) c &&& T (50 + g) = 0) := by unfold br; rw [h]
/-- the lost, of the first k: bits -/
def lt_ (T : Tn) (n : Nat) : Nat → Nat
  | 0 => 0
  | k + 1 => lt_ T n k ||| (if (wt T n k).isSome && !br T n k then 2 ^ k else 0)
/-- the served on day n, of the first k: bits -/
def sv (T : Tn) (n : Nat) : Nat → Nat
  | 0 => 0
  | k + 1 => sv T n k ||| (if br T n k then 2 ^ hst T n k else 0)
def svs (T : Tn) : Nat → Nat
  | 0 => 0
  | n + 1 => svs T n ||| sv T n (T 1)
theorem or_lt {a b k : Nat} (h1 : a < 2 ^ k) (h2 : b < 2 ^ k) : a ||| b < 2 ^ k := Nat.or_lt_two_pow h1 h2
theorem gu_lt (T : Tn) (n c : Nat) : ∀ k, gu T n k c < 2 ^ k
  | 0 => Nat.one_pos
  | k + 1 => by
    have ih := gu_lt T n c k
    have e : 2 ^ (k + 1) = 2 ^ k + 2 ^ k := by rw [Nat.pow_succ]; omega
    have p := Nat.two_pow_pos k
    refine or_lt (by omega) ?_
    split <;> omega
theorem lt_lt (T : Tn) (n : Nat) : ∀ k, lt_ T n k < 2 ^ k
  | 0 => Nat.one_pos
  | k + 1 => by
    have ih := lt_lt T n k
    have e : 2 ^ (k + 1) = 2 ^ k + 2 ^ k := by rw [Nat.pow_succ]; omega
    have p := Nat.two_pow_pos k
    refine or_lt (by omega) ?_
    split <;> omega
theorem lo_0 {T : Tn} {n k : Nat} (h : wt T n k = none) : lt_ T n (k + 1) = lt_ T n k ||| 0 := by rw [lt_, h]; rfl
theorem lo_1 {T : Tn} {n k c : Nat} (h : wt T n k = some c) (hb : br T n k = false) : lt_ T n (k + 1) = lt_ T n k ||| 1 * 2 ^ k := by rw [lt_, h, hb, Nat.one_mul]; rfl
theorem lo_2 {T : Tn} {n k c : Nat} (h : wt T n k = some c) (hb : br T n k = true) : lt_ T n (k + 1) = lt_ T n k ||| 0 := by rw [lt_, h, hb]; rfl
theorem sv_0 {T : Tn} {n k : Nat} (hb : br T n k = false) : sv T n (k + 1) = sv T n k ||| 0 := by rw [sv, hb]; rfl
theorem sv_1 {T : Tn} {n k c : Nat} (h : wt T n k = some c) (hb : br T n k = true) : sv T n (k + 1) = sv T n k ||| 1 * 2 ^ c := by
  have he : hst T n k = c := by
    unfold wt at h
    split at h
    · cases h
    · exact Option.some.inj h
  rw [sv, hb, he, Nat.one_mul]; rfl
section TOWN2
variable {G : Gt} {d : Nat} {h : Hp} {t : Nat} {T : Tn}
theorem ST.ld {h' : Hp} {n : Nat} (s : ST h h' t T n) : LD h' t T n := s.2
theorem ST.tw {h' : Hp} {n : Nat} (s : ST h h' t T n) (hW : TW h t T) : TW h' t T := hW.cg s.1
theorem ST.fr {h' : Hp} {n : Nat} (s : ST h h' t T n) : Fr h h' t := fun a e => s.1 a (by omega) (by omega)
theorem sp_brings {g n : Nat} {K : Int32 → Hp → Prop} (hT : isT t) (hW : TW h t T) (hO : OKT T) (hL : LD h t T n) (hg : g < T 1) (k : K (bI (br T n g)) h) : Call G d mX5_brings [.ref t, .int (nI g)] h (pI K) := by
  obtain ⟨ht, s0, s1, s2, s3, s4, s5, s6, s7, s8, s9, s10, s11⟩ := id hT
  obtain ⟨e0, e1, e2, e3, e4, e5, e6, e7, e8, e9, e10, e11, e12, e13⟩ := id hW
  obtain ⟨o0, o1, o2, o3, o4, o5, o6, o7, o8⟩ := id hO
  obtain ⟨l1, l2⟩ := hL
  have p0 := o5 (by omega)
  have q1 := l1 g hg
  refine Call.of (M := mX5_brings) (n := 0) (by decide +kernel) rfl ?_
  show WP _ _ _ _ 0 [some (.ref t), some (.int (nI g))] [] _
  rcases hw : wt T n g with _ | c
  · rw [hw] at q1
    have q2 : h (t + 10) g = kNONE := q1
    rw [br_none hw] at k
    refine wp_aload_n (pc := 0) (i := 0) dX5_brings_0 rfl rfl ?_
    refine wp_gfr (pc := 1) fk_X5_39 dX5_brings_1 s0 rfl (by omega) ?_
    refine wp_iload_n (pc := 4) (i := 1) dX5_brings_4 rfl rfl ?_
    first | (with_reducible show WP _ _ _ _ _ _ (Value.int (nI _) :: _) _; refine wp_ialdN (pc := 5) dX5_brings_5 s10 (by omega) (by first | with_reducible assumption | with_reducible exact hs_same _ _ _ _ | rfl) ?_) | refine wp_iald (pc := 5) dX5_brings_5 s10 (by assumption) rfl ?_
    refine wp_ldc (pc := 6) kn_X5_61 dX5_brings_6 ?_
    first | (with_reducible show WP _ _ _ _ _ _ (Value.int (nI _) :: Value.int (nI _) :: _) _; refine wp_icmp_eqN (pc := 8) (tgt := 36) dX5_brings_8 (by decide) (by omega) (by omega) (fun c8 => ?_) (fun c8 => ?_)) | refine wp_icmp_eq (pc := 8) (tgt := 36) dX5_brings_8 (by decide) (fun c8 => ?_) (fun c8 => ?_)
    refine wp_iconst (pc := 36) (v := nI 0) dX5_brings_36 rfl ?_
    refine wp_zret (pc := 37) dX5_brings_37 rfl (by first | exact Or.inl rfl | exact Or.inr rfl | assumption | exact bI_01 _) ?_
    rotate_left
    rotate_left
    · exact k
    · exact absurd rfl c8
  · rw [hw] at q1
    have q2 : h (t + 10) g = nI c := q1
    have hc := wt_lt p0.1 hw
    have b1 : gu T n (T 1) c &&& T (50 + g) ≤ T (50 + g) := Nat.and_le_right
    have b2 := (o7 g hg).2.2.2.2.2
    rw [br_some hw] at k
    refine wp_aload_n (pc := 0) (i := 0) dX5_brings_0 rfl rfl ?_
    refine wp_gfr (pc := 1) fk_X5_39 dX5_brings_1 s0 rfl (by omega) ?_
    refine wp_iload_n (pc := 4) (i := 1) dX5_brings_4 rfl rfl ?_
    first | (with_reducible show WP _ _ _ _ _ _ (Value.int (nI _) :: _) _; refine wp_ialdN (pc := 5) dX5_brings_5 s10 (by omega) (by first | with_reducible assumption | with_reducible exact hs_same _ _ _ _ | with_reducible exact l2 _ (by omega) | with_reducible exact e13 _ (by omega) | rfl) ?_) | refine wp_iald (pc := 5) dX5_brings_5 s10 (by assumption) rfl ?_
    refine wp_ldc (pc := 6) kn_X5_61 dX5_brings_6 ?_
    first | (with_reducible show WP _ _ _ _ _ _ (Value.int (nI _) :: Value.int (nI _) :: _) _; refine wp_icmp_eqN (pc := 8) (tgt := 36) dX5_brings_8 (by decide) (by omega) (by omega) (fun c8 => ?_) (fun c8 => ?_)) | refine wp_icmp_eq (pc := 8) (tgt := 36) dX5_brings_8 (by decide) (fun c8 => ?_) (fun c8 => ?_)
    refine wp_iconst (pc := 36) (v := nI 0) dX5_brings_36 rfl ?_
    refine wp_zret (pc := 37) dX5_brings_37 rfl (by first | exact Or.inl rfl | exact Or.inr rfl | assumption | exact bI_01 _) ?_
    rotate_left
    refine wp_aload_n (pc := 11) (i := 0) dX5_brings_11 rfl rfl ?_
    refine wp_gfr (pc := 12) fk_X5_42 dX5_brings_12 s0 rfl (by omega) ?_
    refine wp_aload_n (pc := 15) (i := 0) dX5_brings_15 rfl rfl ?_
    refine wp_gfr (pc := 16) fk_X5_39 dX5_brings_16 s0 rfl (by omega) ?_
    refine wp_iload_n (pc := 19) (i := 1) dX5_brings_19 rfl rfl ?_
    first | (with_reducible show WP _ _ _ _ _ _ (Value.int (nI _) :: _) _; refine wp_ialdN (pc := 20) dX5_brings_20 s10 (by omega) (by first | with_reducible assumption | with_reducible exact hs_same _ _ _ _ | with_reducible exact l2 _ (by omega) | with_reducible exact e13 _ (by omega) | rfl) ?_) | refine wp_iald (pc := 20) dX5_brings_20 s10 (by assumption) rfl ?_
    first | (with_reducible show WP _ _ _ _ _ _ (Value.int (nI _) :: _) _; refine wp_ialdN (pc := 21) dX5_brings_21 s11 (by omega) (by first | with_reducible assumption | with_reducible exact hs_same _ _ _ _ | with_reducible exact l2 _ (by omega) | with_reducible exact e13 _ (by omega) | rfl) ?_) | refine wp_iald (pc := 21) dX5_brings_21 s11 (by assumption) rfl ?_
    refine wp_aload_n (pc := 22) (i := 0) dX5_brings_22 rfl rfl ?_
    refine wp_gfr (pc := 23) fk_X5_36 dX5_brings_23 s0 rfl (by omega) ?_
    refine wp_iload_n (pc := 26) (i := 1) dX5_brings_26 rfl rfl ?_
    first | (with_reducible show WP _ _ _ _ _ _ (Value.int (nI _) :: _) _; refine wp_ialdN (pc := 27) dX5_brings_27 s9 (by omega) (by first | with_reducible assumption | with_reducible exact hs_same _ _ _ _ | with_reducible exact l2 _ (by omega) | with_reducible exact e13 _ (by omega) | rfl) ?_) | refine wp_iald (pc := 27) dX5_brings_27 s9 (by assumption) rfl ?_
    first | (with_reducible show WP _ _ _ _ _ _ (Value.int (nI _) :: Value.int (nI _) :: _) _; refine wp_iandN (pc := 28) dX5_brings_28 ?_) | refine wp_iand (pc := 28) dX5_brings_28 ?_
    first | (with_reducible show WP _ _ _ _ _ _ (Value.int (bI _) :: _) _; refine wp_if_neB (pc := 29) (tgt := 36) dX5_brings_29 (by decide) (fun c29 => ?_) (fun c29 => ?_)) | (with_reducible show WP _ _ _ _ _ _ (Value.int (nI _) :: _) _; refine wp_if_neN (pc := 29) (tgt := 36) dX5_brings_29 (by decide) (by omega) (fun c29 => ?_) (fun c29 => ?_)) | refine wp_if_ne (pc := 29) (tgt := 36) dX5_brings_29 (by decide) (fun c29 => ?_) (fun c29 => ?_)
    refine wp_iconst (pc := 36) (v := nI 0) dX5_brings_36 rfl ?_
    refine wp_zret (pc := 37) dX5_brings_37 rfl (by first | exact Or.inl rfl | exact Or.inr rfl | assumption | exact bI_01 _) ?_
    rotate_left
    refine wp_iconst (pc := 32) (v := nI 1) dX5_brings_32 rfl ?_
    refine wp_goto (pc := 33) (tgt := 37) dX5_brings_33 (by decide) ?_
    refine wp_zret (pc := 37) dX5_brings_37 rfl (by first | exact Or.inl rfl | exact Or.inr rfl | assumption | exact bI_01 _) ?_
    rotate_left
    · exact absurd c8 (nI_none (by omega))
    · rw [decide_eq_false c29] at k; exact k
    · rw [decide_eq_true c29] at k; exact k
theorem sp_bringsE {g n : Nat} {b : Bool} {K : Int32 → Hp → Prop} (hT : isT t) (hW : TW h t T) (hO : OKT T) (hL : LD h t T n) (hg : g < T 1) (e : br T n g = b) (k : K (bI b) h) : Call G d mX5_brings [.ref t, .int (nI g)] h (pI K) := sp_brings hT hW hO hL hg (by rw [e]; exact k)
theorem sp_guestsOf {c : Nat} {K : Int32 → Hp → Prop} (hT : isT t) (hW : TW h t T) (hO : OKT T) (hc : c < T 0) (k : ∀ h', ST h h' t T 0 → K (nI (gu T 0 (T 1) c)) h') : Call G (d + 2) mX5_guestsOf [.ref t, .int (nI c)] h (pI K) := by
  obtain ⟨ht, s0, s1, s2, s3, s4, s5, s6, s7, s8, s9, s10, s11⟩ := id hT
  obtain ⟨o0, o1, o2, o3, o4, o5, o6, o7, o8⟩ := id hO
  refine Call.of (M := mX5_guestsOf) (n := 0) (by decide +kernel) rfl ?_
  show WP _ _ _ _ 0 [some (.ref t), some (.int (nI c))] [] _
  refine wp_aload_n (pc := 0) (i := 0) dX5_guestsOf_0 rfl rfl ?_
  refine wp_iconst (pc := 1) (v := nI 0) dX5_guestsOf_1 rfl ?_
  refine wp_cV1v (pc := 2) lk_X5_66 dX5_guestsOf_2 s0 rfl rfl ?_
  rotate_left
  refine sp_seat hT hW hO (by omega) (fun h1 hs1 => ?_)
  have l2 := hs1.2.2
  refine wp_aload_n (pc := 5) (i := 0) dX5_guestsOf_5 rfl rfl ?_
  refine wp_gfr (pc := 6) fk_X5_42 dX5_guestsOf_6 s0 rfl (by omega) ?_
  refine wp_iload_n (pc := 9) (i := 1) dX5_guestsOf_9 rfl rfl ?_
  first | (with_reducible show WP _ _ _ _ _ _ (Value.int (nI _) :: _) _; refine wp_ialdN (pc := 10) dX5_guestsOf_10 s11 (by omega) (by first | with_reducible assumption | with_reducible exact hs_same _ _ _ _ | with_reducible exact l2 _ (by omega) | rfl) ?_) | refine wp_iald (pc := 10) dX5_guestsOf_10 s11 (by assumption) rfl ?_
  refine wp_iret (pc := 11) dX5_guestsOf_11 rfl ?_
  rotate_left
  exact k h1 hs1
theorem sp_lostOn {n : Nat} {K : Int32 → Hp → Prop} (hT : isT t) (hW : TW h t T) (hO : OKT T) (hn : n ≤ 100) (k : ∀ h', ST h h' t T n → K (nI (lt_ T n (T 1))) h') : Call G (d + 2) mX5_lostOn [.ref t, .int (nI n)] h (pI K) := by
  obtain ⟨ht, s0, s1, s2, s3, s4, s5, s6, s7, s8, s9, s10, s11⟩ := id hT
  obtain ⟨o0, o1, o2, o3, o4, o5, o6, o7, o8⟩ := id hO
  refine Call.of (M := mX5_lostOn) (n := 2) (by decide +kernel) rfl ?_
  show WP _ _ _ _ 0 [some (.ref t), some (.int (nI n)), none, none] [] _
  refine wp_aload_n (pc := 0) (i := 0) dX5_lostOn_0 rfl rfl ?_
  refine wp_iload_n (pc := 1) (i := 1) dX5_lostOn_1 rfl rfl ?_
  refine wp_cV1v (pc := 2) lk_X5_66 dX5_lostOn_2 s0 rfl rfl ?_
  rotate_left
  refine sp_seat hT hW hO hn (fun h1 hs1 => ?_)
  have hW1 := hs1.tw hW
  have l1 := hs1.2.1
  obtain ⟨e0, e1, e2, e3, e4, e5, e6, e7, e8, e9, e10, e11, e12, e13⟩ := id hW1
  have loop : ∀ m i, i + m = T 1 → WP G (d + 2) mX5_lostOn (pI K) 9 [some (.ref t), some (.int (nI n)), some (.int (nI (lt_ T n i))), some (.int (nI i))] [] h1 := by
    intro m
    induction m with
    | zero =>
      intro i him
      refine wp_iload_n (pc := 9) (i := 3) dX5_lostOn_9 rfl rfl ?_
      refine wp_aload_n (pc := 10) (i := 0) dX5_lostOn_10 rfl rfl ?_
      refine wp_gfv (pc := 11) fk_X5_49 dX5_lostOn_11 s0 rfl (by first | with_reducible assumption | with_reducible exact hs_same _ _ _ _ | rfl) ?_
      first | (with_reducible show WP _ _ _ _ _ _ (Value.int (nI _) :: Value.int (nI _) :: _) _; refine wp_icmp_geN (pc := 14) (tgt := 52) dX5_lostOn_14 (by decide) (by omega) (by omega) (fun c14 => ?_) (fun c14 => ?_)) | refine wp_icmp_ge (pc := 14) (tgt := 52) dX5_lostOn_14 (by decide) (fun c14 => ?_) (fun c14 => ?_)
      refine wp_iload_n (pc := 52) (i := 2) dX5_lostOn_52 rfl rfl ?_
      refine wp_iret (pc := 53) dX5_lostOn_53 rfl ?_
      rotate_left
      rotate_left
      · rw [show i = T 1 by omega]; exact k h1 hs1
      · exact absurd him (by omega)
    | succ m ih =>
      intro i him
      have q1 := l1 i (by omega)
      have hh := ih (i + 1) (by omega)
      have p0 := o5 (by omega)
      rcases hw : wt T n i with _ | c
      · rw [hw] at q1
        have q2 : h1 (t + 10) i = kNONE := q1
        rw [lo_0 hw] at hh
        refine wp_iload_n (pc := 9) (i := 3) dX5_lostOn_9 rfl rfl ?_
        refine wp_aload_n (pc := 10) (i := 0) dX5_lostOn_10 rfl rfl ?_
        refine wp_gfv (pc := 11) fk_X5_49 dX5_lostOn_11 s0 rfl (by first | with_reducible assumption | with_reducible exact hs_same _ _ _ _ | rfl) ?_
        first | (with_reducible show WP _ _ _ _ _ _ (Value.int (nI _) :: Value.int (nI _) :: _) _; refine wp_icmp_geN (pc := 14) (tgt := 52) dX5_lostOn_14 (by decide) (by omega) (by omega) (fun c14 => ?_) (fun c14 => ?_)) | refine wp_icmp_ge (pc := 14) (tgt := 52) dX5_lostOn_14 (by decide) (fun c14 => ?_) (fun c14 => ?_)
        rotate_left
        refine wp_iload_n (pc := 17) (i := 2) dX5_lostOn_17 rfl rfl ?_
        refine wp_aload_n (pc := 18) (i := 0) dX5_lostOn_18 rfl rfl ?_
        refine wp_gfr (pc := 19) fk_X5_39 dX5_lostOn_19 s0 rfl (by omega) ?_
        refine wp_iload_n (pc := 22) (i := 3) dX5_lostOn_22 rfl rfl ?_
        first | (with_reducible show WP _ _ _ _ _ _ (Value.int (nI _) :: _) _; refine wp_ialdN (pc := 23) dX5_lostOn_23 s10 (by omega) (by first | with_reducible assumption | with_reducible exact hs_same _ _ _ _ | rfl) ?_) | refine wp_iald (pc := 23) dX5_lostOn_23 s10 (by assumption) rfl ?_
        refine wp_ldc (pc := 24) kn_X5_61 dX5_lostOn_24 ?_
        first | (with_reducible show WP _ _ _ _ _ _ (Value.int (nI _) :: Value.int (nI _) :: _) _; refine wp_icmp_eqN (pc := 26) (tgt := 43) dX5_lostOn_26 (by decide) (by omega) (by omega) (fun c26 => ?_) (fun c26 => ?_)) | refine wp_icmp_eq (pc := 26) (tgt := 43) dX5_lostOn_26 (by decide) (fun c26 => ?_) (fun c26 => ?_)
        refine wp_iconst (pc := 43) (v := nI 0) dX5_lostOn_43 rfl ?_
        first | (with_reducible show WP _ _ _ _ _ _ (Value.int (nI _) :: Value.int (nI _) :: _) _; refine wp_iorN (pc := 44) dX5_lostOn_44 ?_) | refine wp_ior (pc := 44) dX5_lostOn_44 ?_
        refine wp_istore_n (pc := 45) (i := 2) dX5_lostOn_45 rfl rfl (by decide) rfl ?_
        dsimp only [List.set_cons_zero, List.set_cons_succ]
        first | refine wp_iincN (pc := 46) (i := 3) (n := 1) dX5_lostOn_46 rfl rfl (by decide) rfl ?_ | refine wp_iinc (pc := 46) (i := 3) dX5_lostOn_46 rfl rfl rfl (by decide) rfl ?_
        dsimp only [List.set_cons_zero, List.set_cons_succ]
        refine wp_goto (pc := 49) (tgt := 9) dX5_lostOn_49 (by decide) ?_
        rotate_left
        rotate_left
        · exact absurd c14 (by omega)
        · exact hh
        · exact absurd rfl c26
      · rw [hw] at q1
        have q2 : h1 (t + 10) i = nI c := q1
        have hc := wt_lt p0.1 hw
        rcases hb : br T n i with _ | _
        · rw [lo_1 hw hb] at hh
          refine wp_iload_n (pc := 9) (i := 3) dX5_lostOn_9 rfl rfl ?_
          refine wp_aload_n (pc := 10) (i := 0) dX5_lostOn_10 rfl rfl ?_
          refine wp_gfv (pc := 11) fk_X5_49 dX5_lostOn_11 s0 rfl (by first | with_reducible assumption | with_reducible exact hs_same _ _ _ _ | rfl) ?_
          first | (with_reducible show WP _ _ _ _ _ _ (Value.int (nI _) :: Value.int (nI _) :: _) _; refine wp_icmp_geN (pc := 14) (tgt := 52) dX5_lostOn_14 (by decide) (by omega) (by omega) (fun c14 => ?_) (fun c14 => ?_)) | refine wp_icmp_ge (pc := 14) (tgt := 52) dX5_lostOn_14 (by decide) (fun c14 => ?_) (fun c14 => ?_)
          rotate_left
          refine wp_iload_n (pc := 17) (i := 2) dX5_lostOn_17 rfl rfl ?_
          refine wp_aload_n (pc := 18) (i := 0) dX5_lostOn_18 rfl rfl ?_
          refine wp_gfr (pc := 19) fk_X5_39 dX5_lostOn_19 s0 rfl (by omega) ?_
          refine wp_iload_n (pc := 22) (i := 3) dX5_lostOn_22 rfl rfl ?_
          first | (with_reducible show WP _ _ _ _ _ _ (Value.int (nI _) :: _) _; refine wp_ialdN (pc := 23) dX5_lostOn_23 s10 (by omega) (by first | with_reducible assumption | with_reducible exact hs_same _ _ _ _ | rfl) ?_) | refine wp_iald (pc := 23) dX5_lostOn_23 s10 (by assumption) rfl ?_
          refine wp_ldc (pc := 24) kn_X5_61 dX5_lostOn_24 ?_
          first | (with_reducible show WP _ _ _ _ _ _ (Value.int (nI _) :: Value.int (nI _) :: _) _; refine wp_icmp_eqN (pc := 26) (tgt := 43) dX5_lostOn_26 (by decide) (by omega) (by omega) (fun c26 => ?_) (fun c26 => ?_)) | refine wp_icmp_eq (pc := 26) (tgt := 43) dX5_lostOn_26 (by decide) (fun c26 => ?_) (fun c26 => ?_)
          refine wp_iconst (pc := 43) (v := nI 0) dX5_lostOn_43 rfl ?_
          first | (with_reducible show WP _ _ _ _ _ _ (Value.int (nI _) :: Value.int (nI _) :: _) _; refine wp_iorN (pc := 44) dX5_lostOn_44 ?_) | refine wp_ior (pc := 44) dX5_lostOn_44 ?_
          refine wp_istore_n (pc := 45) (i := 2) dX5_lostOn_45 rfl rfl (by decide) rfl ?_
          dsimp only [List.set_cons_zero, List.set_cons_succ]
          first | refine wp_iincN (pc := 46) (i := 3) (n := 1) dX5_lostOn_46 rfl rfl (by decide) rfl ?_ | refine wp_iinc (pc := 46) (i := 3) dX5_lostOn_46 rfl rfl rfl (by decide) rfl ?_
          dsimp only [List.set_cons_zero, List.set_cons_succ]
          refine wp_goto (pc := 49) (tgt := 9) dX5_lostOn_49 (by decide) ?_
          rotate_left
          refine wp_aload_n (pc := 29) (i := 0) dX5_lostOn_29 rfl rfl ?_
          refine wp_iload_n (pc := 30) (i := 3) dX5_lostOn_30 rfl rfl ?_
          refine wp_cV1i (pc := 31) lk_X5_70 dX5_lostOn_31 s0 rfl rfl (sp_bringsE hT hW1 hO hs1.ld (by omega) hb ?_)
          first | (with_reducible show WP _ _ _ _ _ _ (Value.int (bI _) :: _) _; refine wp_if_neB (pc := 34) (tgt := 43) dX5_lostOn_34 (by decide) (fun c34 => ?_) (fun c34 => ?_)) | (with_reducible show WP _ _ _ _ _ _ (Value.int (nI _) :: _) _; refine wp_if_neN (pc := 34) (tgt := 43) dX5_lostOn_34 (by decide) (by omega) (fun c34 => ?_) (fun c34 => ?_)) | refine wp_if_ne (pc := 34) (tgt := 43) dX5_lostOn_34 (by decide) (fun c34 => ?_) (fun c34 => ?_)
          refine wp_iconst (pc := 43) (v := nI 0) dX5_lostOn_43 rfl ?_
          first | (with_reducible show WP _ _ _ _ _ _ (Value.int (nI _) :: Value.int (nI _) :: _) _; refine wp_iorN (pc := 44) dX5_lostOn_44 ?_) | refine wp_ior (pc := 44) dX5_lostOn_44 ?_
          refine wp_istore_n (pc := 45) (i := 2) dX5_lostOn_45 rfl rfl (by decide) rfl ?_
          dsimp only [List.set_cons_zero, List.set_cons_succ]
          first | refine wp_iincN (pc := 46) (i := 3) (n := 1) dX5_lostOn_46 rfl rfl (by decide) rfl ?_ | refine wp_iinc (pc := 46) (i := 3) dX5_lostOn_46 rfl rfl rfl (by decide) rfl ?_
          dsimp only [List.set_cons_zero, List.set_cons_succ]
          refine wp_goto (pc := 49) (tgt := 9) dX5_lostOn_49 (by decide) ?_
          rotate_left
          refine wp_iconst (pc := 37) (v := nI 1) dX5_lostOn_37 rfl ?_
          refine wp_iload_n (pc := 38) (i := 3) dX5_lostOn_38 rfl rfl ?_
          first | (with_reducible show WP _ _ _ _ _ _ (Value.int (nI _) :: Value.int (nI _) :: _) _; refine wp_ishlN (pc := 39) dX5_lostOn_39 (by omega) ?_) | refine wp_ishl (pc := 39) dX5_lostOn_39 ?_
          refine wp_goto (pc := 40) (tgt := 44) dX5_lostOn_40 (by decide) ?_
          first | (with_reducible show WP _ _ _ _ _ _ (Value.int (nI _) :: Value.int (nI _) :: _) _; refine wp_iorN (pc := 44) dX5_lostOn_44 ?_) | refine wp_ior (pc := 44) dX5_lostOn_44 ?_
          refine wp_istore_n (pc := 45) (i := 2) dX5_lostOn_45 rfl rfl (by decide) rfl ?_
          dsimp only [List.set_cons_zero, List.set_cons_succ]
          first | refine wp_iincN (pc := 46) (i := 3) (n := 1) dX5_lostOn_46 rfl rfl (by decide) rfl ?_ | refine wp_iinc (pc := 46) (i := 3) dX5_lostOn_46 rfl rfl rfl (by decide) rfl ?_
          dsimp only [List.set_cons_zero, List.set_cons_succ]
          refine wp_goto (pc := 49) (tgt := 9) dX5_lostOn_49 (by decide) ?_
          rotate_left
          · exact absurd c14 (by omega)
          · exact absurd c26 (nI_none (by omega))
          · cases c34
          · exact hh
        · rw [lo_2 hw hb] at hh
          refine wp_iload_n (pc := 9) (i := 3) dX5_lostOn_9 rfl rfl ?_
          refine wp_aload_n (pc := 10) (i := 0) dX5_lostOn_10 rfl rfl ?_
          refine wp_gfv (pc := 11) fk_X5_49 dX5_lostOn_11 s0 rfl (by first | with_reducible assumption | with_reducible exact hs_same _ _ _ _ | rfl) ?_
          first | (with_reducible show WP _ _ _ _ _ _ (Value.int (nI _) :: Value.int (nI _) :: _) _; refine wp_icmp_geN (pc := 14) (tgt := 52) dX5_lostOn_14 (by decide) (by omega) (by omega) (fun c14 => ?_) (fun c14 => ?_)) | refine wp_icmp_ge (pc := 14) (tgt := 52) dX5_lostOn_14 (by decide) (fun c14 => ?_) (fun c14 => ?_)
          rotate_left
          refine wp_iload_n (pc := 17) (i := 2) dX5_lostOn_17 rfl rfl ?_
          refine wp_aload_n (pc := 18) (i := 0) dX5_lostOn_18 rfl rfl ?_
          refine wp_gfr (pc := 19) fk_X5_39 dX5_lostOn_19 s0 rfl (by omega) ?_
          refine wp_iload_n (pc := 22) (i := 3) dX5_lostOn_22 rfl rfl ?_
          first | (with_reducible show WP _ _ _ _ _ _ (Value.int (nI _) :: _) _; refine wp_ialdN (pc := 23) dX5_lostOn_23 s10 (by omega) (by first | with_reducible assumption | with_reducible exact hs_same _ _ _ _ | rfl) ?_) | refine wp_iald (pc := 23) dX5_lostOn_23 s10 (by assumption) rfl ?_
          refine wp_ldc (pc := 24) kn_X5_61 dX5_lostOn_24 ?_
          first | (with_reducible show WP _ _ _ _ _ _ (Value.int (nI _) :: Value.int (nI _) :: _) _; refine wp_icmp_eqN (pc := 26) (tgt := 43) dX5_lostOn_26 (by decide) (by omega) (by omega) (fun c26 => ?_) (fun c26 => ?_)) | refine wp_icmp_eq (pc := 26) (tgt := 43) dX5_lostOn_26 (by decide) (fun c26 => ?_) (fun c26 => ?_)
          refine wp_iconst (pc := 43) (v := nI 0) dX5_lostOn_43 rfl ?_
          first | (with_reducible show WP _ _ _ _ _ _ (Value.int (nI _) :: Value.int (nI _) :: _) _; refine wp_iorN (pc := 44) dX5_lostOn_44 ?_) | refine wp_ior (pc := 44) dX5_lostOn_44 ?_
          refine wp_istore_n (pc := 45) (i := 2) dX5_lostOn_45 rfl rfl (by decide) rfl ?_
          dsimp only [List.set_cons_zero, List.set_cons_succ]
          first | refine wp_iincN (pc := 46) (i := 3) (n := 1) dX5_lostOn_46 rfl rfl (by decide) rfl ?_ | refine wp_iinc (pc := 46) (i := 3) dX5_lostOn_46 rfl rfl rfl (by decide) rfl ?_
          dsimp only [List.set_cons_zero, List.set_cons_succ]
          refine wp_goto (pc := 49) (tgt := 9) dX5_lostOn_49 (by decide) ?_
          rotate_left
          refine wp_aload_n (pc := 29) (i := 0) dX5_lostOn_29 rfl rfl ?_
          refine wp_iload_n (pc := 30) (i := 3) dX5_lostOn_30 rfl rfl ?_
          refine wp_cV1i (pc := 31) lk_X5_70 dX5_lostOn_31 s0 rfl rfl (sp_bringsE hT hW1 hO hs1.ld (by omega) hb ?_)
          first | (with_reducible show WP _ _ _ _ _ _ (Value.int (bI _) :: _) _; refine wp_if_neB (pc := 34) (tgt := 43) dX5_lostOn_34 (by decide) (fun c34 => ?_) (fun c34 => ?_)) | (with_reducible show WP _ _ _ _ _ _ (Value.int (nI _) :: _) _; refine wp_if_neN (pc := 34) (tgt := 43) dX5_lostOn_34 (by decide) (by omega) (fun c34 => ?_) (fun c34 => ?_)) | refine wp_if_ne (pc := 34) (tgt := 43) dX5_lostOn_34 (by decide) (fun c34 => ?_) (fun c34 => ?_)
          refine wp_iconst (pc := 43) (v := nI 0) dX5_lostOn_43 rfl ?_
          first | (with_reducible show WP _ _ _ _ _ _ (Value.int (nI _) :: Value.int (nI _) :: _) _; refine wp_iorN (pc := 44) dX5_lostOn_44 ?_) | refine wp_ior (pc := 44) dX5_lostOn_44 ?_
          refine wp_istore_n (pc := 45) (i := 2) dX5_lostOn_45 rfl rfl (by decide) rfl ?_
          dsimp only [List.set_cons_zero, List.set_cons_succ]
          first | refine wp_iincN (pc := 46) (i := 3) (n := 1) dX5_lostOn_46 rfl rfl (by decide) rfl ?_ | refine wp_iinc (pc := 46) (i := 3) dX5_lostOn_46 rfl rfl rfl (by decide) rfl ?_
          dsimp only [List.set_cons_zero, List.set_cons_succ]
          refine wp_goto (pc := 49) (tgt := 9) dX5_lostOn_49 (by decide) ?_
          rotate_left
          refine wp_iconst (pc := 37) (v := nI 1) dX5_lostOn_37 rfl ?_
          refine wp_iload_n (pc := 38) (i := 3) dX5_lostOn_38 rfl rfl ?_
          first | (with_reducible show WP _ _ _ _ _ _ (Value.int (nI _) :: Value.int (nI _) :: _) _; refine wp_ishlN (pc := 39) dX5_lostOn_39 (by omega) ?_) | refine wp_ishl (pc := 39) dX5_lostOn_39 ?_
          refine wp_goto (pc := 40) (tgt := 44) dX5_lostOn_40 (by decide) ?_
          first | (with_reducible show WP _ _ _ _ _ _ (Value.int (nI _) :: Value.int (nI _) :: _) _; refine wp_iorN (pc := 44) dX5_lostOn_44 ?_) | refine wp_ior (pc := 44) dX5_lostOn_44 ?_
          refine wp_istore_n (pc := 45) (i := 2) dX5_lostOn_45 rfl rfl (by decide) rfl ?_
          dsimp only [List.set_cons_zero, List.set_cons_succ]
          first | refine wp_iincN (pc := 46) (i := 3) (n := 1) dX5_lostOn_46 rfl rfl (by decide) rfl ?_ | refine wp_iinc (pc := 46) (i := 3) dX5_lostOn_46 rfl rfl rfl (by decide) rfl ?_
          dsimp only [List.set_cons_zero, List.set_cons_succ]
          refine wp_goto (pc := 49) (tgt := 9) dX5_lostOn_49 (by decide) ?_
          rotate_left
          · exact absurd c14 (by omega)
          · exact absurd c26 (nI_none (by omega))
          · exact hh
          · cases c34
  refine wp_iconst (pc := 5) (v := nI 0) dX5_lostOn_5 rfl ?_
  refine wp_istore_n (pc := 6) (i := 2) dX5_lostOn_6 rfl rfl (by decide) rfl ?_
  dsimp only [List.set_cons_zero, List.set_cons_succ]
  refine wp_iconst (pc := 7) (v := nI 0) dX5_lostOn_7 rfl ?_
  refine wp_istore_n (pc := 8) (i := 3) dX5_lostOn_8 rfl rfl (by decide) rfl ?_
  dsimp only [List.set_cons_zero, List.set_cons_succ]
  rotate_left
  exact loop (T 1) 0 (by omega)
theorem sp_servedOn {n : Nat} {K : Int32 → Hp → Prop} (hT : isT t) (hW : TW h t T) (hO : OKT T) (hn : n ≤ 100) (k : ∀ h', ST h h' t T n → K (nI (sv T n (T 1))) h') : Call G (d + 2) mX5_servedOn [.ref t, .int (nI n)] h (pI K) := by
  obtain ⟨ht, s0, s1, s2, s3, s4, s5, s6, s7, s8, s9, s10, s11⟩ := id hT
  obtain ⟨o0, o1, o2, o3, o4, o5, o6, o7, o8⟩ := id hO
  refine Call.of (M := mX5_servedOn) (n := 2) (by decide +kernel) rfl ?_
  show WP _ _ _ _ 0 [some (.ref t), some (.int (nI n)), none, none] [] _
  refine wp_aload_n (pc := 0) (i := 0) dX5_servedOn_0 rfl rfl ?_
  refine wp_iload_n (pc := 1) (i := 1) dX5_servedOn_1 rfl rfl ?_
  refine wp_cV1v (pc := 2) lk_X5_66 dX5_servedOn_2 s0 rfl rfl ?_
  rotate_left
  refine sp_seat hT hW hO hn (fun h1 hs1 => ?_)
  have hW1 := hs1.tw hW
  have l1 := hs1.2.1
  obtain ⟨e0, e1, e2, e3, e4, e5, e6, e7, e8, e9, e10, e11, e12, e13⟩ := id hW1
  have loop : ∀ m i, i + m = T 1 → WP G (d + 2) mX5_servedOn (pI K) 9 [some (.ref t), some (.int (nI n)), some (.int (nI (sv T n i))), some (.int (nI i))] [] h1 := by
    intro m
    induction m with
    | zero =>
      intro i him
      refine wp_iload_n (pc := 9) (i := 3) dX5_servedOn_9 rfl rfl ?_
      refine wp_aload_n (pc := 10) (i := 0) dX5_servedOn_10 rfl rfl ?_
      refine wp_gfv (pc := 11) fk_X5_49 dX5_servedOn_11 s0 rfl (by first | with_reducible assumption | with_reducible exact hs_same _ _ _ _ | rfl) ?_
      first | (with_reducible show WP _ _ _ _ _ _ (Value.int (nI _) :: Value.int (nI _) :: _) _; refine wp_icmp_geN (pc := 14) (tgt := 46) dX5_servedOn_14 (by decide) (by omega) (by omega) (fun c14 => ?_) (fun c14 => ?_)) | refine wp_icmp_ge (pc := 14) (tgt := 46) dX5_servedOn_14 (by decide) (fun c14 => ?_) (fun c14 => ?_)
      refine wp_iload_n (pc := 46) (i := 2) dX5_servedOn_46 rfl rfl ?_
      refine wp_iret (pc := 47) dX5_servedOn_47 rfl ?_
      rotate_left
      rotate_left
      · rw [show i = T 1 by omega]; exact k h1 hs1
      · exact absurd him (by omega)
    | succ m ih =>
      intro i him
      have q1 := l1 i (by omega)
      have hh := ih (i + 1) (by omega)
      have p0 := o5 (by omega)
      rcases hb : br T n i with _ | _
      · rw [sv_0 hb] at hh
        refine wp_iload_n (pc := 9) (i := 3) dX5_servedOn_9 rfl rfl ?_
        refine wp_aload_n (pc := 10) (i := 0) dX5_servedOn_10 rfl rfl ?_
        refine wp_gfv (pc := 11) fk_X5_49 dX5_servedOn_11 s0 rfl (by first | with_reducible assumption | with_reducible exact hs_same _ _ _ _ | rfl) ?_
        first | (with_reducible show WP _ _ _ _ _ _ (Value.int (nI _) :: Value.int (nI _) :: _) _; refine wp_icmp_geN (pc := 14) (tgt := 46) dX5_servedOn_14 (by decide) (by omega) (by omega) (fun c14 => ?_) (fun c14 => ?_)) | refine wp_icmp_ge (pc := 14) (tgt := 46) dX5_servedOn_14 (by decide) (fun c14 => ?_) (fun c14 => ?_)
        rotate_left
        refine wp_iload_n (pc := 17) (i := 2) dX5_servedOn_17 rfl rfl ?_
        refine wp_aload_n (pc := 18) (i := 0) dX5_servedOn_18 rfl rfl ?_
        refine wp_iload_n (pc := 19) (i := 3) dX5_servedOn_19 rfl rfl ?_
        refine wp_cV1i (pc := 20) lk_X5_70 dX5_servedOn_20 s0 rfl rfl (sp_bringsE hT hW1 hO hs1.ld (by omega) hb ?_)
        first | (with_reducible show WP _ _ _ _ _ _ (Value.int (bI _) :: _) _; refine wp_if_eqB (pc := 23) (tgt := 37) dX5_servedOn_23 (by decide) (fun c23 => ?_) (fun c23 => ?_)) | (with_reducible show WP _ _ _ _ _ _ (Value.int (nI _) :: _) _; refine wp_if_eqN (pc := 23) (tgt := 37) dX5_servedOn_23 (by decide) (by omega) (fun c23 => ?_) (fun c23 => ?_)) | refine wp_if_eq (pc := 23) (tgt := 37) dX5_servedOn_23 (by decide) (fun c23 => ?_) (fun c23 => ?_)
        refine wp_iconst (pc := 37) (v := nI 0) dX5_servedOn_37 rfl ?_
        first | (with_reducible show WP _ _ _ _ _ _ (Value.int (nI _) :: Value.int (nI _) :: _) _; refine wp_iorN (pc := 38) dX5_servedOn_38 ?_) | refine wp_ior (pc := 38) dX5_servedOn_38 ?_
        refine wp_istore_n (pc := 39) (i := 2) dX5_servedOn_39 rfl rfl (by decide) rfl ?_
        dsimp only [List.set_cons_zero, List.set_cons_succ]
        first | refine wp_iincN (pc := 40) (i := 3) (n := 1) dX5_servedOn_40 rfl rfl (by decide) rfl ?_ | refine wp_iinc (pc := 40) (i := 3) dX5_servedOn_40 rfl rfl rfl (by decide) rfl ?_
        dsimp only [List.set_cons_zero, List.set_cons_succ]
        refine wp_goto (pc := 43) (tgt := 9) dX5_servedOn_43 (by decide) ?_
        rotate_left
        rotate_left
        · exact absurd c14 (by omega)
        · exact hh
        · cases c23
      · rcases hw : wt T n i with _ | c
        · rw [br_none hw] at hb; cases hb
        · rw [hw] at q1
          have q2 : h1 (t + 10) i = nI c := q1
          have hc := wt_lt p0.1 hw
          rw [sv_1 hw hb] at hh
          refine wp_iload_n (pc := 9) (i := 3) dX5_servedOn_9 rfl rfl ?_
          refine wp_aload_n (pc := 10) (i := 0) dX5_servedOn_10 rfl rfl ?_
          refine wp_gfv (pc := 11) fk_X5_49 dX5_servedOn_11 s0 rfl (by first | with_reducible assumption | with_reducible exact hs_same _ _ _ _ | rfl) ?_
          first | (with_reducible show WP _ _ _ _ _ _ (Value.int (nI _) :: Value.int (nI _) :: _) _; refine wp_icmp_geN (pc := 14) (tgt := 46) dX5_servedOn_14 (by decide) (by omega) (by omega) (fun c14 => ?_) (fun c14 => ?_)) | refine wp_icmp_ge (pc := 14) (tgt := 46) dX5_servedOn_14 (by decide) (fun c14 => ?_) (fun c14 => ?_)
          rotate_left
          refine wp_iload_n (pc := 17) (i := 2) dX5_servedOn_17 rfl rfl ?_
          refine wp_aload_n (pc := 18) (i := 0) dX5_servedOn_18 rfl rfl ?_
          refine wp_iload_n (pc := 19) (i := 3) dX5_servedOn_19 rfl rfl ?_
          refine wp_cV1i (pc := 20) lk_X5_70 dX5_servedOn_20 s0 rfl rfl (sp_bringsE hT hW1 hO hs1.ld (by omega) hb ?_)
          first | (with_reducible show WP _ _ _ _ _ _ (Value.int (bI _) :: _) _; refine wp_if_eqB (pc := 23) (tgt := 37) dX5_servedOn_23 (by decide) (fun c23 => ?_) (fun c23 => ?_)) | (with_reducible show WP _ _ _ _ _ _ (Value.int (nI _) :: _) _; refine wp_if_eqN (pc := 23) (tgt := 37) dX5_servedOn_23 (by decide) (by omega) (fun c23 => ?_) (fun c23 => ?_)) | refine wp_if_eq (pc := 23) (tgt := 37) dX5_servedOn_23 (by decide) (fun c23 => ?_) (fun c23 => ?_)
          refine wp_iconst (pc := 37) (v := nI 0) dX5_servedOn_37 rfl ?_
          first | (with_reducible show WP _ _ _ _ _ _ (Value.int (nI _) :: Value.int (nI _) :: _) _; refine wp_iorN (pc := 38) dX5_servedOn_38 ?_) | refine wp_ior (pc := 38) dX5_servedOn_38 ?_
          refine wp_istore_n (pc := 39) (i := 2) dX5_servedOn_39 rfl rfl (by decide) rfl ?_
          dsimp only [List.set_cons_zero, List.set_cons_succ]
          first | refine wp_iincN (pc := 40) (i := 3) (n := 1) dX5_servedOn_40 rfl rfl (by decide) rfl ?_ | refine wp_iinc (pc := 40) (i := 3) dX5_servedOn_40 rfl rfl rfl (by decide) rfl ?_
          dsimp only [List.set_cons_zero, List.set_cons_succ]
          refine wp_goto (pc := 43) (tgt := 9) dX5_servedOn_43 (by decide) ?_
          rotate_left
          refine wp_iconst (pc := 26) (v := nI 1) dX5_servedOn_26 rfl ?_
          refine wp_aload_n (pc := 27) (i := 0) dX5_servedOn_27 rfl rfl ?_
          refine wp_gfr (pc := 28) fk_X5_39 dX5_servedOn_28 s0 rfl (by omega) ?_
          refine wp_iload_n (pc := 31) (i := 3) dX5_servedOn_31 rfl rfl ?_
          first | (with_reducible show WP _ _ _ _ _ _ (Value.int (nI _) :: _) _; refine wp_ialdN (pc := 32) dX5_servedOn_32 s10 (by omega) (by first | with_reducible assumption | with_reducible exact hs_same _ _ _ _ | rfl) ?_) | refine wp_iald (pc := 32) dX5_servedOn_32 s10 (by assumption) rfl ?_
          first | (with_reducible show WP _ _ _ _ _ _ (Value.int (nI _) :: Value.int (nI _) :: _) _; refine wp_ishlN (pc := 33) dX5_servedOn_33 (by omega) ?_) | refine wp_ishl (pc := 33) dX5_servedOn_33 ?_
          refine wp_goto (pc := 34) (tgt := 38) dX5_servedOn_34 (by decide) ?_
          first | (with_reducible show WP _ _ _ _ _ _ (Value.int (nI _) :: Value.int (nI _) :: _) _; refine wp_iorN (pc := 38) dX5_servedOn_38 ?_) | refine wp_ior (pc := 38) dX5_servedOn_38 ?_
          refine wp_istore_n (pc := 39) (i := 2) dX5_servedOn_39 rfl rfl (by decide) rfl ?_
          dsimp only [List.set_cons_zero, List.set_cons_succ]
          first | refine wp_iincN (pc := 40) (i := 3) (n := 1) dX5_servedOn_40 rfl rfl (by decide) rfl ?_ | refine wp_iinc (pc := 40) (i := 3) dX5_servedOn_40 rfl rfl rfl (by decide) rfl ?_
          dsimp only [List.set_cons_zero, List.set_cons_succ]
          refine wp_goto (pc := 43) (tgt := 9) dX5_servedOn_43 (by decide) ?_
          rotate_left
          · exact absurd c14 (by omega)
          · cases c23
          · exact hh
  refine wp_iconst (pc := 5) (v := nI 0) dX5_servedOn_5 rfl ?_
  refine wp_istore_n (pc := 6) (i := 2) dX5_servedOn_6 rfl rfl (by decide) rfl ?_
  dsimp only [List.set_cons_zero, List.set_cons_succ]
  refine wp_iconst (pc := 7) (v := nI 0) dX5_servedOn_7 rfl ?_
  refine wp_istore_n (pc := 8) (i := 3) dX5_servedOn_8 rfl rfl (by decide) rfl ?_
  dsimp only [List.set_cons_zero, List.set_cons_succ]
  rotate_left
  exact loop (T 1) 0 (by omega)
end TOWN2
