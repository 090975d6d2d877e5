section LONGS
variable {G : Gt} {d : Nat} {M : Mt} {Q : Option Value → Hp → Prop} {pc : Nat} {L : List (Option Value)} {S : List Value} {h : Hp}
theorem wp_lmulN {a b : Nat} (hd : decode M.2.1 pc = .ok (.lmul, 1)) (k : WP G d M Q (pc + 1) L (.long (lN (a * b)) :: S) h) : WP G d M Q pc L (.long (lN b) :: .long (lN a) :: S) h := wp_lmul hd (by rw [lN_mul]; exact k)
theorem wp_laddN {a b : Nat} (hd : decode M.2.1 pc = .ok (.ladd, 1)) (k : WP G d M Q (pc + 1) L (.long (lN (a + b)) :: S) h) : WP G d M Q pc L (.long (lN b) :: .long (lN a) :: S) h := wp_ladd hd (by rw [lN_add]; exact k)
theorem lN_ne0 {b : Nat} (h0 : 0 < b) (hb : b < 2 ^ 63) : ¬ lN b = 0 := fun e => by
  have := (pk_lEQ (a := b) (b := 0) hb (by decide)).mp e
  omega
theorem wp_lremN {a b : Nat} (hd : decode M.2.1 pc = .ok (.lrem, 1)) (ha : a < 2 ^ 63) (h0 : 0 < b) (hb : b < 2 ^ 63) (k : WP G d M Q (pc + 1) L (.long (lN (a % b)) :: S) h) : WP G d M Q pc L (.long (lN b) :: .long (lN a) :: S) h := wp_lrem hd (lN_ne0 h0 hb) (by rw [pk_lRem ha h0 hb]; exact k)
theorem wp_ldivN {a b : Nat} (hd : decode M.2.1 pc = .ok (.ldiv, 1)) (ha : a < 2 ^ 63) (h0 : 0 < b) (hb : b < 2 ^ 63) (k : WP G d M Q (pc + 1) L (.long (lN (a / b)) :: S) h) : WP G d M Q pc L (.long (lN b) :: .long (lN a) :: S) h := wp_ldiv hd (lN_ne0 h0 hb) (by rw [pk_lDiv ha h0 hb]; exact k)
theorem wp_l2iN {a : Nat} (hd : decode M.2.1 pc = .ok (.l2i, 1)) (k : WP G d M Q (pc + 1) L (.int (nI a) :: S) h) : WP G d M Q pc L (.long (lN a) :: S) h := wp_l2i hd (lN_i a) k
theorem wp_maxL {ix a b : Nat} (hw : Cond.methodLink M.1.cls ix Lib.MathLoose.max_long.x ∈ wAll ∧ Cond.static Lib.MathLoose.max_long.x ∈ wAll ∧ Cond.initialized "java/lang/Math" ∈ wAll ∧ Cond.code Lib.MathLoose.max_long.x Lib.MathLoose.max_long.code 4 (some .long) ∈ wAll) (hd : decode M.2.1 pc = .ok (.invokestatic ix, 3)) (ha : a < 2 ^ 63) (hb : b < 2 ^ 63) (hr : Nat.ble ((S.map fun v => v.category).sum) 8 = true) (k : WP G (d + 1) M Q (pc + 3) L (.long (lN (max a b)) :: S) h) : WP G (d + 1) M Q pc L (.long (lN b) :: .long (lN a) :: S) h := by
  have e : (if lN b < lN a then lN a else lN b) = lN (max a b) := by
    by_cases z : b < a
    · rw [if_pos ((pk_lLT hb ha).mpr z), Nat.max_eq_left (by omega)]
    · rw [if_neg (fun q => z ((pk_lLT hb ha).mp q)), Nat.max_eq_right (by omega)]
  rw [← e] at k
  intro p e s m args below meth c H locs ls C hP hS hl
  obtain ⟨hx, hb, hret, hml, hown, hts, hlocks, hK, hz, hi, hnw⟩ := id C
  exact va_mmax_long hx hb (hml.trans hl.1.symm) hown (hts _ hw.1) (hts _ hw.2.1) (hts _ hw.2.2.1) (hts _ hw.2.2.2) (by show 1 ≤ d + 1; omega) (by rw [cat_map]; have := Nat.le_of_ble_eq_true hr; show _ ≤ 64 * (d + 1); omega) (Nat.le_refl _) (Nat.le_refl _) hd (k p e s m args below meth c H locs ls C hP hS hl)
end LONGS
