/-- the first two settings so far: all pairs ahead of (a, b) looked at -/
def ftI (D : BD) (W : Int → Int → Int) (a b le y0 y1 : Int) : Prop := le ≤ 1000000 ∧ (∀ x y, -10 ≤ x → x ≤ 10 → -10 ≤ y → y ≤ 10 → (x < a ∨ (x = a ∧ y < b)) → le ≤ bF D W 0 0 x y) ∧ (le = 1000000 ∨ (le < 1000000 ∧ (-10 ≤ y0 ∧ y0 ≤ 10 ∧ -10 ≤ y1 ∧ y1 ≤ 10) ∧ (y0 < a ∨ (y0 = a ∧ y1 < b)) ∧ okc D 0 0 y0 y1 ∧ le = bF D W 0 0 y0 y1 ∧ ∀ x y, -10 ≤ x → x ≤ 10 → -10 ≤ y → y ≤ 10 → (x < y0 ∨ (x = y0 ∧ y < y1)) → le < bF D W 0 0 x y))
theorem ftI_0 (D : BD) (W : Int → Int → Int) (y0 y1 : Int) : ftI D W (-10) (-10) 1000000 y0 y1 := ⟨Int.le_refl _, fun x y h1 h2 h3 h4 h5 => by omega, Or.inl rfl⟩
theorem ftI_skip {D : BD} {W : Int → Int → Int} {a b a' b' le y0 y1 : Int} (hF : ∀ x y, -10 ≤ x → x ≤ 10 → -10 ≤ y → y ≤ 10 → (x < a' ∨ (x = a' ∧ y < b')) → ¬ (x < a ∨ (x = a ∧ y < b)) → 1000000 ≤ bF D W 0 0 x y) (hm : ∀ x y : Int, -10 ≤ x → x ≤ 10 → -10 ≤ y → y ≤ 10 → (x < a ∨ (x = a ∧ y < b)) → (x < a' ∨ (x = a' ∧ y < b'))) (h : ftI D W a b le y0 y1) : ftI D W a' b' le y0 y1 := by
  obtain ⟨h1, h2, h3⟩ := h
  refine ⟨h1, fun x y q1 q2 q3 q4 q5 => ?_, ?_⟩
  · by_cases q : x < a ∨ (x = a ∧ y < b)
    · exact h2 x y q1 q2 q3 q4 q
    · have := hF x y q1 q2 q3 q4 q5 q
      omega
  · rcases h3 with z | ⟨z0, ⟨z1, z2, z3, z4⟩, z5, z6, z7, z8⟩
    · exact Or.inl z
    · exact Or.inr ⟨z0, ⟨z1, z2, z3, z4⟩, hm y0 y1 z1 z2 z3 z4 z5, z6, z7, z8⟩
theorem ftI_take {D : BD} {W : Int → Int → Int} {a b le y0 y1 : Int} (ha : -10 ≤ a ∧ a ≤ 10) (hb : -10 ≤ b ∧ b ≤ 10) (hok : okc D 0 0 a b) (hlt : bF D W 0 0 a b < le) (h : ftI D W a b le y0 y1) : ftI D W a (b + 1) (bF D W 0 0 a b) a b := by
  obtain ⟨h1, h2, h3⟩ := h
  refine ⟨by omega, fun x y q1 q2 q3 q4 q5 => ?_, Or.inr ⟨by omega, ⟨ha.1, ha.2, hb.1, hb.2⟩, Or.inr ⟨rfl, by omega⟩, hok, rfl, fun x y q1 q2 q3 q4 q5 => ?_⟩⟩
  · by_cases q : x < a ∨ (x = a ∧ y < b)
    · have := h2 x y q1 q2 q3 q4 q
      omega
    · have e1 : x = a := by omega
      have e2 : y = b := by omega
      subst e1; subst e2
      exact Int.le_refl _
  · have := h2 x y q1 q2 q3 q4 q5
    omega
theorem ftI_keep {D : BD} {W : Int → Int → Int} {a b le y0 y1 : Int} (hge : le ≤ bF D W 0 0 a b) (h : ftI D W a b le y0 y1) : ftI D W a (b + 1) le y0 y1 := by
  obtain ⟨h1, h2, h3⟩ := h
  refine ⟨h1, fun x y q1 q2 q3 q4 q5 => ?_, ?_⟩
  · by_cases q : x < a ∨ (x = a ∧ y < b)
    · exact h2 x y q1 q2 q3 q4 q
    · have e1 : x = a := by omega
      have e2 : y = b := by omega
      subst e1; subst e2
      exact hge
  · rcases h3 with z | ⟨z0, z1, z5, z6, z7, z8⟩
    · exact Or.inl z
    · exact Or.inr ⟨z0, z1, by omega, z6, z7, z8⟩
theorem tog_0 {s e : Int} (h : 0 ≤ e) : tog s 0 e = e := by
  unfold tog
  split <;> omega
theorem ftI_bst {D : BD} (hD : dI D) {n : Nat} (h2 : 2 ≤ n) (hn : n ≤ 24) {L y0 y1 : Int} (h : ftI D (bV D (n - 2) 1) 11 (-10) L y0 y1) : bstQ D n L (fun j => if j = 0 then y0 else y1) 1 := by
  obtain ⟨a1, a2, a3⟩ := h
  have e1 : ∀ x, bV D (n - 1) 0 0 x = mnF (bF D (bV D (n - 2) 1) 0 0 x) 21 := fun x => by
    rw [show n - 1 = (n - 2) + 1 by omega]
    rfl
  have hle : ∀ x, -10 ≤ x → x ≤ 10 → L ≤ bV D (n - 1) 0 0 x := fun x q1 q2 => by
    rw [e1]
    obtain ⟨m1, m2, m3⟩ := mnF_21 (bF D (bV D (n - 2) 1) 0 0 x)
    rcases m3 with z | ⟨y, z1, z2, z3, z4⟩
    · omega
    · have := a2 x y q1 q2 z1 z2 (Or.inl (by omega))
      omega
  have h0 := bV_0 hD (n - 1) 0 (by omega)
  have hl0 := hle 0 (by omega) (by omega)
  rcases a3 with z | ⟨z0, ⟨z1, z2, z3, z4⟩, z5, z6, z7, z8⟩
  · omega
  · have hy : bV D (n - 1) 0 0 y0 = L := by
      have q1 := hle y0 z1 z2
      have q2 := (mnF_21 (bF D (bV D (n - 2) 1) 0 0 y0)).2.1 y1 z3 z4 (by omega)
      rw [← e1] at q2
      omega
    have hg : ∀ c, gdc D (bV D (n - 2) 1) 0 0 L 0 y0 c ↔ (-10 ≤ c ∧ c ≤ 10 ∧ okc D 0 0 y0 c ∧ bF D (bV D (n - 2) 1) 0 0 y0 c ≤ L) := fun c => by
      unfold gdc
      constructor
      · rintro ⟨q1, q2, q3, q4⟩
        have hr := (erc_b hD 0 (a := 0) (b := y0) (c := c) ⟨by omega, by omega⟩ ⟨z1, z2⟩ ⟨q1, q2⟩).1
        rw [tog_0 hr] at q4
        refine ⟨q1, q2, q3, ?_⟩
        unfold bF
        rw [cif_t q3]
        exact q4
      · rintro ⟨q1, q2, q3, q4⟩
        have hr := (erc_b hD 0 (a := 0) (b := y0) (c := c) ⟨by omega, by omega⟩ ⟨z1, z2⟩ ⟨q1, q2⟩).1
        unfold bF at q4
        rw [cif_t q3] at q4
        refine ⟨q1, q2, q3, ?_⟩
        rw [tog_0 hr]
        exact q4
    refine ⟨⟨z1, z2, z0, hy, hle, fun x q1 q2 => ?_⟩, fun p hp => ?_⟩
    · have q2 : x < y0 := q2
      rw [e1]
      obtain ⟨m1, m2, m3⟩ := mnF_21 (bF D (bV D (n - 2) 1) 0 0 x)
      rcases m3 with z | ⟨y, w1, w2, w3, w4⟩
      · omega
      · have := z8 x y q1 (by omega) w1 w2 (Or.inl q2)
        omega
    · have e : p = 0 := by omega
      subst e
      show fgd D (bV D (n - 2 - 0) (0 + 1)) 0 0 L 0 y0 y1
      rw [Nat.sub_zero, Nat.zero_add]
      refine ⟨(hg y1).mpr ⟨z3, z4, z6, by omega⟩, fun x hx hgx => ?_⟩
      obtain ⟨w1, w2, w3, w4⟩ := (hg x).mp hgx
      have := z8 y0 x z1 z2 w1 w2 (Or.inr ⟨rfl, hx⟩)
      omega
theorem LX_row {g : AG} (h : LX g) {f S : Nat → Int} (hS : ∀ j, -10 ≤ S j ∧ S j ≤ 10) : LX (row (row g 11 f) 10 S) := by
  obtain ⟨a1, a2, a3, a4, a5, a6, a7⟩ := h
  exact ⟨a1, a2, a3, a4, a5, a6, hS⟩
def st2 (S : Nat → Int) (y0 y1 : Int) : Nat → Int := fun j => if j = 0 then y0 else if j = 1 then y1 else S j
set_option maxHeartbeats 4000000 in
set_option maxRecDepth 100000 in
theorem ct_X2_settleFirstTwo {s : Int} {W : Int → Int → Int} {g : AG} (h : LX g ∧ (s = 0 ∨ s = 1) ∧ (∀ b c, -10 ≤ b → b ≤ 10 → -10 ≤ c → c ≤ 10 → ((b - c).natAbs : Int) ≤ g 8 3 → g 11 (sp3 1 b c) = W b c) ∧ (∀ b c, -10 ≤ b → b ≤ 10 → -10 ≤ c → c ≤ 10 → 0 ≤ W b c ∧ W b c ≤ 1000000)) : MetI yX2_settleFirstTwo wsX2_settleFirstTwo rmX2_settleFirstTwo ShW [.inr 8, .inl s] g (fun x g' => ∃ y0 y1 : Int, ftI (dX g s) W 11 (-10) x y0 y1 ∧ g' = row g 10 (st2 (g 10) y0 y1)) := by
  refine metI_of (cc := cX2_settleFirstTwo) (nL := 8) false (by decide +kernel) rfl (Nat.le_of_ble_eq_true rfl) (fun q J C => ?_)
  show J q ShW 0 0 0 [some (.inr 8), some (.inl s), none, none, none, none, none, none] [] g
  refine j_wf C (fun hw => ?_)
  obtain ⟨hL, hs, hT, hWb⟩ := h
  have hn := hL.1
  have hnx := hL.2.1
  have hD := dI_X hL hs
  have hok : ∀ a b, okc (dX g s) 0 0 a b ↔ ((a - b).natAbs : Int) ≤ g 8 3 := fun a b => ⟨fun z => z.1, fun z => ⟨z, Or.inl rfl⟩⟩
  have hno : ∀ a b, ¬ ((a - b).natAbs : Int) ≤ g 8 3 → 1000000 ≤ bF (dX g s) W 0 0 a b := fun a b z => by
    unfold bF
    rw [cif_f (fun q => z ((hok a b).mp q))]
    exact Int.le_refl _
  have inn : ∀ (a : Int), -10 ≤ a → a ≤ 10 → (∀ (le y0 y1 : Int) (l4 l5 l6 l7 : Option AV), 0 ≤ le → ftI (dX g s) W (a + 1) (-10) le y0 y1 → J q ShW 0 0 121 [some (.inr 8), some (.inl s), some (.inl le), some (.inl a), l4, l5, l6, l7] [] (row g 10 (st2 (g 10) y0 y1))) → ∀ k : Nat, ∀ (b le y0 y1 : Int) (l6 l7 : Option AV), (11 - b).toNat = k → max (-10) (a - g 8 3) ≤ b → b ≤ 11 → 0 ≤ le → ftI (dX g s) W a b le y0 y1 → J q ShW 0 0 38 [some (.inr 8), some (.inl s), some (.inl le), some (.inl a), some (.inl (min 10 (a + g 8 3))), some (.inl b), l6, l7] [] (row g 10 (st2 (g 10) y0 y1)) := by
    intro a ha1 ha2 kk
    refine byN _ (fun k ih b le y0 y1 l6 l7 hk hb1 hb2 hle hI => ?_)
    have hle2 := hI.1
    have efx : (row g 10 (st2 (g 10) y0 y1)) 9 0 + (row g 10 (st2 (g 10) y0 y1)) 8 5 * a + (row g 10 (st2 (g 10) y0 y1)) 8 6 * b = g 9 0 + g 8 5 * a + g 8 6 * b := rfl
    have e11 : (row g 10 (st2 (g 10) y0 y1)) 11 = g 11 := rfl
    refine j_iload C dX2_settleFirstTwo_38 rfl ?_
    refine j_iload C dX2_settleFirstTwo_40 rfl ?_
    refine j_icmp_gt C (tgt := 121) dX2_settleFirstTwo_42 (by decide) (by first | omega | (refine ⟨?_, ?_⟩ <;> omega) | exact hw _ _ | exact nrm_R _) (by first | omega | (refine ⟨?_, ?_⟩ <;> omega) | exact hw _ _ | exact nrm_R _) (fun c_42 => ?_) (fun c_42 => ?_)
    · refine kk le y0 y1 _ _ _ _ hle (ftI_skip (fun x y q1 q2 q3 q4 q5 q6 => hno x y ?_) (fun x y q1 q2 q3 q4 q5 => by omega) hI)
      omega
    · have hbb : -10 ≤ b ∧ b ≤ 10 := ⟨by omega, by omega⟩
      have hr := (er0_b hD 0 (a := 0) (b := a) (c := b) ⟨by omega, by omega⟩ ⟨ha1, ha2⟩ hbb).2
      have he : er0 (dX g s) 0 0 a + g 8 6 * b = g 9 0 + g 8 5 * a + g 8 6 * b := by
        unfold er0
        rw [if_pos rfl, Int.add_zero]
        rfl
      have hE : erc (dX g s) 0 0 a b = ((g 9 0 + g 8 5 * a + g 8 6 * b).natAbs : Int) := by
        rw [← he]
        rfl
      have hr2 : -2300 ≤ g 9 0 + g 8 5 * a + g 8 6 * b ∧ g 9 0 + g 8 5 * a + g 8 6 * b ≤ 2300 := by
        rw [← he]
        exact hr
      have eix : ((1 * 21 + a + 10) * 21 + b + 10).toNat = sp3 1 a b := rfl
      have hTc := hT a b ha1 ha2 hbb.1 hbb.2 (by omega)
      have hW2 := hWb a b ha1 ha2 hbb.1 hbb.2
      have hk2 : okc (dX g s) 0 0 a b := (hok a b).mpr (by omega)
      have hF2 : bF (dX g s) W 0 0 a b = tog s ((g 9 0 + g 8 5 * a + g 8 6 * b).natAbs : Int) (W a b) := by
        rw [← hE]
        exact cif_t hk2
      have htb := tog_b (s := s) (a := ((g 9 0 + g 8 5 * a + g 8 6 * b).natAbs : Int)) (b := W a b) (A := 2300) (B := 1000000) (by omega) (by omega) hW2.1 hW2.2
      refine j_aload_n C dX2_settleFirstTwo_45 rfl ?_
      refine j_getR C fX2_settleFirstTwo_9 rfl rfl dX2_settleFirstTwo_46 ?_
      refine j_iconst C dX2_settleFirstTwo_49 ?_
      refine j_iaload C rfl (by decide) dX2_settleFirstTwo_50 (by first | omega | (refine ⟨?_, ?_⟩ <;> omega) | exact hw _ _ | exact nrm_R _) (by first | omega | (refine ⟨?_, ?_⟩ <;> omega) | exact hw _ _ | exact nrm_R _) ?_
      refine j_aload_n C dX2_settleFirstTwo_51 rfl ?_
      refine j_getI C fX2_settleFirstTwo_28 rfl rfl dX2_settleFirstTwo_52 ?_
      refine j_iload_n C dX2_settleFirstTwo_55 rfl ?_
      refine j_imul C dX2_settleFirstTwo_56 ?_
      refine j_iadd C dX2_settleFirstTwo_57 ?_
      refine j_aload_n C dX2_settleFirstTwo_58 rfl ?_
      refine j_getI C fX2_settleFirstTwo_40 rfl rfl dX2_settleFirstTwo_59 ?_
      refine j_iload C dX2_settleFirstTwo_62 rfl ?_
      refine j_imul C dX2_settleFirstTwo_64 ?_
      refine j_iadd C dX2_settleFirstTwo_65 ?_
      have ef2 : (row g 10 (st2 (g 10) y0 y1)) 9 (0 : Int).toNat + (row g 10 (st2 (g 10) y0 y1)) 8 5 * a + (row g 10 (st2 (g 10) y0 y1)) 8 6 * b = g 9 0 + g 8 5 * a + g 8 6 * b := rfl
      rw [ef2]
      refine j_mabs C vX2_settleFirstTwo_47 rfl ⟨Nat.le_of_ble_eq_true rfl, Nat.le_of_ble_eq_true rfl, Nat.zero_le _, Nat.zero_le _⟩ dX2_settleFirstTwo_66 (by first | omega | (refine ⟨?_, ?_⟩ <;> omega) | exact hw _ _ | exact nrm_R _) (by first | omega | (refine ⟨?_, ?_⟩ <;> omega) | exact hw _ _ | exact nrm_R _) ?_
      refine j_istore C dX2_settleFirstTwo_69 (Nat.le_of_ble_eq_true rfl) ?_
      dsimp only [List.set]
      refine j_iload C dX2_settleFirstTwo_71 rfl ?_
      refine j_aload_n C dX2_settleFirstTwo_73 rfl ?_
      refine j_getR C fX2_settleFirstTwo_31 rfl rfl dX2_settleFirstTwo_74 ?_
      refine j_iconst C dX2_settleFirstTwo_77 ?_
      refine j_iload_n C dX2_settleFirstTwo_78 rfl ?_
      refine j_iload C dX2_settleFirstTwo_79 rfl ?_
      refine j_callSi3 C vX2_settleFirstTwo_82 rfl (Nat.le_of_ble_eq_true rfl) ⟨Nat.zero_le _, Nat.zero_le _⟩ dX2_settleFirstTwo_81 (ct_X2_spot ) (fun x_81 g_81 hk_81 => ?_)
      obtain ⟨e_81, rfl⟩ := hk_81
      have e_81 := e_81.symm
      subst e_81
      refine j_iaload C rfl (by decide) dX2_settleFirstTwo_84 (by first | omega | (refine ⟨?_, ?_⟩ <;> omega) | exact hw _ _ | exact nrm_R _) (by first | omega | (refine ⟨?_, ?_⟩ <;> omega) | exact hw _ _ | exact nrm_R _) ?_
      have e84 : (row g 10 (st2 (g 10) y0 y1)) 11 ((1 * 21 + a + 10) * 21 + b + 10).toNat = W a b := hTc
      rw [e84]
      refine j_iload_n C dX2_settleFirstTwo_85 rfl ?_
      refine j_callSi3 C vX2_settleFirstTwo_59 rfl (Nat.le_of_ble_eq_true rfl) ⟨Nat.zero_le _, Nat.zero_le _⟩ dX2_settleFirstTwo_86 (ct_X2_together ⟨⟨by omega, by omega⟩, ⟨by omega, by omega⟩, hs⟩) (fun x_86 g_86 hk_86 => ?_)
      obtain ⟨e_86, rfl⟩ := hk_86
      have e_86 := e_86.symm
      subst e_86
      rw [← hF2]
      rw [← hF2] at htb
      refine j_istore C dX2_settleFirstTwo_89 (Nat.le_of_ble_eq_true rfl) ?_
      dsimp only [List.set]
      refine j_iload C dX2_settleFirstTwo_91 rfl ?_
      refine j_iload_n C dX2_settleFirstTwo_93 rfl ?_
      refine j_icmp_ge C (tgt := 115) dX2_settleFirstTwo_94 (by decide) (by first | omega | (refine ⟨?_, ?_⟩ <;> omega) | exact hw _ _ | exact nrm_R _) (by first | omega | (refine ⟨?_, ?_⟩ <;> omega) | exact hw _ _ | exact nrm_R _) (fun c_94 => ?_) (fun c_94 => ?_)
      · refine j_iinc C dX2_settleFirstTwo_115 rfl ?_
        dsimp only [List.set]
        refine j_goto C (tgt := 38) dX2_settleFirstTwo_118 (by decide) ?_
        first
        | (refine j_cast (ih _ (by omega) (b + 1) le y0 y1 _ _ rfl (by omega) (by omega) hle (ftI_keep (by omega) hI)) rfl rfl rfl)
        | (refine j_cast (ih _ (by omega) (b + 1) (bF (dX g s) W 0 0 a b) a b _ _ rfl (by omega) (by omega) (by omega) (ftI_take ⟨ha1, ha2⟩ hbb hk2 (by omega) hI)) rfl rfl ?_
           funext k' j
           by_cases a6 : k' = 10
           · subst a6
             simp only [row, aset, st2]
             by_cases j1 : j = 1
             · subst j1; simp [st2]
             · by_cases j0 : j = 0
               · subst j0; simp [st2]
               · simp [st2, j1, j0]
           · simp [row, aset, a6])
      · refine j_iload C dX2_settleFirstTwo_97 rfl ?_
        refine j_istore_n C dX2_settleFirstTwo_99 (Nat.le_of_ble_eq_true rfl) ?_
        dsimp only [List.set]
        refine j_aload_n C dX2_settleFirstTwo_100 rfl ?_
        refine j_getR C fX2_settleFirstTwo_15 rfl rfl dX2_settleFirstTwo_101 ?_
        refine j_iconst C dX2_settleFirstTwo_104 ?_
        refine j_iload_n C dX2_settleFirstTwo_105 rfl ?_
        refine j_iastore C rfl (by decide) dX2_settleFirstTwo_106 (by first | omega | (refine ⟨?_, ?_⟩ <;> omega) | exact hw _ _ | exact nrm_R _) (by first | omega | (refine ⟨?_, ?_⟩ <;> omega) | exact hw _ _ | exact nrm_R _) (by first | omega | (refine ⟨?_, ?_⟩ <;> omega) | exact hw _ _ | exact nrm_R _) ?_
        refine j_aload_n C dX2_settleFirstTwo_107 rfl ?_
        refine j_getR C fX2_settleFirstTwo_15 rfl rfl dX2_settleFirstTwo_108 ?_
        refine j_iconst C dX2_settleFirstTwo_111 ?_
        refine j_iload C dX2_settleFirstTwo_112 rfl ?_
        refine j_iastore C rfl (by decide) dX2_settleFirstTwo_114 (by first | omega | (refine ⟨?_, ?_⟩ <;> omega) | exact hw _ _ | exact nrm_R _) (by first | omega | (refine ⟨?_, ?_⟩ <;> omega) | exact hw _ _ | exact nrm_R _) (by first | omega | (refine ⟨?_, ?_⟩ <;> omega) | exact hw _ _ | exact nrm_R _) ?_
        refine j_iinc C dX2_settleFirstTwo_115 rfl ?_
        dsimp only [List.set]
        refine j_goto C (tgt := 38) dX2_settleFirstTwo_118 (by decide) ?_
        first
        | (refine j_cast (ih _ (by omega) (b + 1) le y0 y1 _ _ rfl (by omega) (by omega) hle (ftI_keep (by omega) hI)) rfl rfl rfl)
        | (refine j_cast (ih _ (by omega) (b + 1) (bF (dX g s) W 0 0 a b) a b _ _ rfl (by omega) (by omega) (by omega) (ftI_take ⟨ha1, ha2⟩ hbb hk2 (by omega) hI)) rfl rfl ?_
           funext k' j
           by_cases a6 : k' = 10
           · subst a6
             simp only [row, aset, st2]
             by_cases j1 : j = 1
             · subst j1; simp [st2]
             · by_cases j0 : j = 0
               · subst j0; simp [st2]
               · simp [st2, j1, j0]
           · simp [row, aset, a6])
  have lp : ∀ k : Nat, ∀ (a le y0 y1 : Int) (l4 l5 l6 l7 : Option AV), (11 - a).toNat = k → -10 ≤ a → a ≤ 11 → 0 ≤ le → ftI (dX g s) W a (-10) le y0 y1 → J q ShW 0 0 6 [some (.inr 8), some (.inl s), some (.inl le), some (.inl a), l4, l5, l6, l7] [] (row g 10 (st2 (g 10) y0 y1)) := by
    refine byN _ (fun k ih a le y0 y1 l4 l5 l6 l7 hk ha1 ha2 hle hI => ?_)
    have e83 : (row g 10 (st2 (g 10) y0 y1)) 8 3 = g 8 3 := rfl
    refine j_iload_n C dX2_settleFirstTwo_6 rfl ?_
    refine j_bipush C dX2_settleFirstTwo_7 (by decide +kernel) ?_
    refine j_icmp_gt C (tgt := 127) dX2_settleFirstTwo_9 (by decide) (by first | omega | (refine ⟨?_, ?_⟩ <;> omega) | exact hw _ _ | exact nrm_R _) (by first | omega | (refine ⟨?_, ?_⟩ <;> omega) | exact hw _ _ | exact nrm_R _) (fun c_9 => ?_) (fun c_9 => ?_)
    · refine j_iload_n C dX2_settleFirstTwo_127 rfl ?_
      refine j_iretI C dX2_settleFirstTwo_128 (by intro h; cases h) (fun hw9 => ?_)
      refine ⟨y0, y1, ?_, rfl⟩
      rw [show a = 11 by omega] at hI
      exact hI
    · refine j_bipush C dX2_settleFirstTwo_12 (by decide +kernel) ?_
      refine j_iload_n C dX2_settleFirstTwo_14 rfl ?_
      refine j_aload_n C dX2_settleFirstTwo_15 rfl ?_
      refine j_getI C fX2_settleFirstTwo_22 rfl rfl dX2_settleFirstTwo_16 ?_
      rw [e83]
      refine j_iadd C dX2_settleFirstTwo_19 ?_
      refine j_mmin C vX2_settleFirstTwo_86 rfl ⟨Nat.le_of_ble_eq_true rfl, Nat.le_of_ble_eq_true rfl, Nat.zero_le _, Nat.zero_le _⟩ dX2_settleFirstTwo_20 (by first | omega | (refine ⟨?_, ?_⟩ <;> omega) | exact hw _ _ | exact nrm_R _) (by first | omega | (refine ⟨?_, ?_⟩ <;> omega) | exact hw _ _ | exact nrm_R _) ?_
      refine j_istore C dX2_settleFirstTwo_23 (Nat.le_of_ble_eq_true rfl) ?_
      dsimp only [List.set]
      refine j_bipush C dX2_settleFirstTwo_25 (by decide +kernel) ?_
      refine j_iload_n C dX2_settleFirstTwo_27 rfl ?_
      refine j_aload_n C dX2_settleFirstTwo_28 rfl ?_
      refine j_getI C fX2_settleFirstTwo_22 rfl rfl dX2_settleFirstTwo_29 ?_
      rw [e83]
      refine j_isub C dX2_settleFirstTwo_32 ?_
      refine j_mmax C vX2_settleFirstTwo_63 rfl ⟨Nat.le_of_ble_eq_true rfl, Nat.le_of_ble_eq_true rfl, Nat.zero_le _, Nat.zero_le _⟩ dX2_settleFirstTwo_33 (by first | omega | (refine ⟨?_, ?_⟩ <;> omega) | exact hw _ _ | exact nrm_R _) (by first | omega | (refine ⟨?_, ?_⟩ <;> omega) | exact hw _ _ | exact nrm_R _) ?_
      refine j_istore C dX2_settleFirstTwo_36 (Nat.le_of_ble_eq_true rfl) ?_
      dsimp only [List.set]
      refine inn a ha1 (by omega) (fun le y0 y1 l4 l5 l6 l7 hle hI => ?_) _ _ le y0 y1 _ _ rfl (Int.le_refl _) (by omega) hle (ftI_skip (fun x y q1 q2 q3 q4 q5 q6 => hno x y ?_) (fun x y q1 q2 q3 q4 q5 => by omega) hI)
      · refine j_iinc C dX2_settleFirstTwo_121 rfl ?_
        dsimp only [List.set]
        refine j_goto C (tgt := 6) dX2_settleFirstTwo_124 (by decide) ?_
        exact ih _ (by omega) (a + 1) le y0 y1 _ _ _ _ rfl (by omega) (by omega) hle hI
      · omega
  refine j_ldc C (1000000) dX2_settleFirstTwo_0 kX2_settleFirstTwo_92 ?_
  refine j_istore_n C dX2_settleFirstTwo_2 (Nat.le_of_ble_eq_true rfl) ?_
  dsimp only [List.set]
  refine j_bipush C dX2_settleFirstTwo_3 (by decide +kernel) ?_
  refine j_istore_n C dX2_settleFirstTwo_5 (Nat.le_of_ble_eq_true rfl) ?_
  dsimp only [List.set]
  refine j_cast (lp _ (-10) _ (g 10 0) (g 10 1) none none none none rfl (by omega) (by omega) (by omega) (ftI_0 _ _ _ _)) rfl rfl ?_
  funext k' j
  by_cases a6 : k' = 10
  · subst a6
    simp only [row, st2]
    by_cases j1 : j = 1
    · subst j1; simp [st2]
    · by_cases j0 : j = 0
      · subst j0; simp [st2]
      · simp [st2, j1, j0]
  · simp [row, a6]
set_option maxHeartbeats 4000000 in
set_option maxRecDepth 100000 in
theorem ct_X2_lesserAfter {p sp L s a b : Int} {W : Int → Int → Int} {g : AG} (h : LX g ∧ (s = 0 ∨ s = 1) ∧ 1 ≤ p ∧ p ≤ g 8 2 - 2 ∧ g 10 (p - 1).toNat = a ∧ g 10 p.toNat = b ∧ 0 ≤ sp ∧ sp ≤ 60000 ∧ 0 ≤ L ∧ L ≤ 1000000 ∧ (∀ c, -10 ≤ c → c ≤ 10 → ((b - c).natAbs : Int) ≤ g 8 3 → g 11 (sp3 (p + 1) b c) = W b c) ∧ (∀ c, -10 ≤ c → c ≤ 10 → 0 ≤ W b c ∧ W b c ≤ 1000000)) : MetI yX2_lesserAfter wsX2_lesserAfter rmX2_lesserAfter ShW [.inr 8, .inl p, .inl sp, .inl L, .inl s] g (fun x g' => g' = g ∧ (∀ c, (max (-10) (max (b - g 8 3) (2 * b - a - g 8 4))) ≤ c → c < x → ¬ tog s (tog s sp (erc (dX g s) p.toNat a b c)) (W b c) ≤ L) ∧ (((max (-10) (max (b - g 8 3) (2 * b - a - g 8 4))) ≤ x ∧ x < (min 10 (min (b + g 8 3) (2 * b - a + g 8 4))) ∧ tog s (tog s sp (erc (dX g s) p.toNat a b x)) (W b x) ≤ L) ∨ x = (min 10 (min (b + g 8 3) (2 * b - a + g 8 4))))) := by
  refine metI_of (cc := cX2_lesserAfter) (nL := 12) false (by decide +kernel) rfl (Nat.le_of_ble_eq_true rfl) (fun q J C => ?_)
  show J q ShW 0 0 0 [some (.inr 8), some (.inl p), some (.inl sp), some (.inl L), some (.inl s), none, none, none, none, none, none, none] [] g
  refine j_wf C (fun hw => ?_)
  obtain ⟨hL, hs, hp1, hp2, ea, eb, hsp1, hsp2, hL1, hL2, hT, hWb⟩ := h
  have hn := hL.1
  have hnx := hL.2.1
  have hbd := hL.2.2.1
  have ha := hL.2.2.2.2.2.2 (p - 1).toNat
  have hb := hL.2.2.2.2.2.2 p.toNat
  rw [ea] at ha
  rw [eb] at hb
  have hD := dI_X hL hs
  have he : er0 (dX g s) p.toNat a b = (g 9 p.toNat + g 8 5 * b + g 8 6 * a) := by
    unfold er0
    rw [if_neg (by omega)]
    rfl
  have lp : ∀ k : Nat, ∀ (c : Int) (l11 : Option AV), (11 - c).toNat = k → (max (-10) (max (b - g 8 3) (2 * b - a - g 8 4))) ≤ c → c ≤ 40 → (∀ x, (max (-10) (max (b - g 8 3) (2 * b - a - g 8 4))) ≤ x → x < c → ¬ tog s (tog s sp (erc (dX g s) p.toNat a b x)) (W b x) ≤ L) → J q ShW 0 0 73 [some (.inr 8), some (.inl p), some (.inl sp), some (.inl L), some (.inl s), some (.inl a), some (.inl b), some (.inl (g 9 p.toNat + g 8 5 * b + g 8 6 * a)), some (.inl (((p + 1) * 21 + b + 10) * 21 + 0 + 10)), some (.inl (min 10 (min (b + g 8 3) (2 * b - a + g 8 4)))), some (.inl c), l11] [] g := by
    refine byN _ (fun k ih c l11 hk hc hc40 hI => ?_)
    refine j_iload C dX2_lesserAfter_73 rfl ?_
    refine j_iload C dX2_lesserAfter_75 rfl ?_
    refine j_icmp_ge C (tgt := 131) dX2_lesserAfter_77 (by decide) (by first | omega | (refine ⟨?_, ?_⟩ <;> omega) | exact hw _ _ | exact nrm_R _) (by first | omega | (refine ⟨?_, ?_⟩ <;> omega) | exact hw _ _ | exact nrm_R _) (fun c_77 => ?_) (fun c_77 => ?_)
    · refine j_iload C dX2_lesserAfter_131 rfl ?_
      refine j_iretI C dX2_lesserAfter_133 (by intro h; cases h) (fun hw9 => ?_)
      exact ⟨rfl, fun x q1 q2 => hI x q1 (by omega), Or.inr rfl⟩
    · have hcc : -10 ≤ c ∧ c ≤ 10 := ⟨by omega, by omega⟩
      have hr := erc_b hD p.toNat (a := a) (b := b) (c := c) ⟨ha.1, ha.2⟩ ⟨hb.1, hb.2⟩ hcc
      have hr2 := (er0_b hD p.toNat (a := a) (b := b) (c := c) ⟨ha.1, ha.2⟩ ⟨hb.1, hb.2⟩ hcc).2
      have hE : erc (dX g s) p.toNat a b c = (((g 9 p.toNat + g 8 5 * b + g 8 6 * a) + g 8 6 * c).natAbs : Int) := by
        rw [← he]
        rfl
      have hr3 : -2300 ≤ (g 9 p.toNat + g 8 5 * b + g 8 6 * a) + g 8 6 * c ∧ (g 9 p.toNat + g 8 5 * b + g 8 6 * a) + g 8 6 * c ≤ 2300 := by
        rw [← he]
        exact hr2
      have eix : (((p + 1) * 21 + b + 10) * 21 + 0 + 10 + c).toNat = sp3 (p + 1) b c := by
        unfold sp3
        congr 1
        omega
      have hTc := hT c hcc.1 hcc.2 (by omega)
      have hW2 := hWb c hcc.1 hcc.2
      have ht1 := tog_b (s := s) (a := sp) (b := erc (dX g s) p.toNat a b c) (A := 60000) (B := 2300) hsp1 hsp2 hr.1 hr.2
      have ht2 := tog_b (s := s) (a := tog s sp (erc (dX g s) p.toNat a b c)) (b := W b c) (A := 62300) (B := 1000000) ht1.1 ht1.2 hW2.1 hW2.2
      refine j_iload_n C dX2_lesserAfter_80 rfl ?_
      refine j_iload C dX2_lesserAfter_81 rfl ?_
      refine j_aload_n C dX2_lesserAfter_83 rfl ?_
      refine j_getI C fX2_lesserAfter_40 rfl rfl dX2_lesserAfter_84 ?_
      refine j_iload C dX2_lesserAfter_87 rfl ?_
      refine j_imul C dX2_lesserAfter_89 ?_
      refine j_iadd C dX2_lesserAfter_90 ?_
      refine j_mabs C vX2_lesserAfter_47 rfl ⟨Nat.le_of_ble_eq_true rfl, Nat.le_of_ble_eq_true rfl, Nat.zero_le _, Nat.zero_le _⟩ dX2_lesserAfter_91 (by first | omega | (refine ⟨?_, ?_⟩ <;> omega) | exact hw _ _ | exact nrm_R _) (by first | omega | (refine ⟨?_, ?_⟩ <;> omega) | exact hw _ _ | exact nrm_R _) ?_
      rw [← hE]
      refine j_iload C dX2_lesserAfter_94 rfl ?_
      refine j_callSi3 C vX2_lesserAfter_59 rfl (Nat.le_of_ble_eq_true rfl) ⟨Nat.zero_le _, Nat.zero_le _⟩ dX2_lesserAfter_96 (ct_X2_together ⟨⟨by omega, by omega⟩, ⟨by omega, by omega⟩, hs⟩) (fun x_96 g_96 hk_96 => ?_)
      obtain ⟨e_96, rfl⟩ := hk_96
      have e_96 := e_96.symm
      subst e_96
      refine j_istore C dX2_lesserAfter_99 (Nat.le_of_ble_eq_true rfl) ?_
      dsimp only [List.set]
      refine j_iload C dX2_lesserAfter_101 rfl ?_
      refine j_aload_n C dX2_lesserAfter_103 rfl ?_
      refine j_getR C fX2_lesserAfter_31 rfl rfl dX2_lesserAfter_104 ?_
      refine j_iload C dX2_lesserAfter_107 rfl ?_
      refine j_iload C dX2_lesserAfter_109 rfl ?_
      refine j_iadd C dX2_lesserAfter_111 ?_
      refine j_iaload C rfl (by decide) dX2_lesserAfter_112 (by first | omega | (refine ⟨?_, ?_⟩ <;> omega) | exact hw _ _ | exact nrm_R _) (by first | omega | (refine ⟨?_, ?_⟩ <;> omega) | exact hw _ _ | exact nrm_R _) ?_
      rw [eix, hTc]
      refine j_iload C dX2_lesserAfter_113 rfl ?_
      refine j_callSi3 C vX2_lesserAfter_59 rfl (Nat.le_of_ble_eq_true rfl) ⟨Nat.zero_le _, Nat.zero_le _⟩ dX2_lesserAfter_115 (ct_X2_together ⟨⟨by omega, by omega⟩, ⟨by omega, by omega⟩, hs⟩) (fun x_115 g_115 hk_115 => ?_)
      obtain ⟨e_115, rfl⟩ := hk_115
      have e_115 := e_115.symm
      subst e_115
      refine j_iload_n C dX2_lesserAfter_118 rfl ?_
      refine j_icmp_gt C (tgt := 125) dX2_lesserAfter_119 (by decide) (by first | omega | (refine ⟨?_, ?_⟩ <;> omega) | exact hw _ _ | exact nrm_R _) (by first | omega | (refine ⟨?_, ?_⟩ <;> omega) | exact hw _ _ | exact nrm_R _) (fun c_119 => ?_) (fun c_119 => ?_)
      · refine j_iinc C dX2_lesserAfter_125 rfl ?_
        dsimp only [List.set]
        refine j_goto C (tgt := 73) dX2_lesserAfter_128 (by decide) ?_
        refine ih _ (by omega) (c + 1) _ rfl (by omega) (by omega) (fun x q1 q2 => ?_)
        by_cases e : x = c
        · subst e
          omega
        · exact hI x q1 (by omega)
      · refine j_iload C dX2_lesserAfter_122 rfl ?_
        refine j_iretI C dX2_lesserAfter_124 (by intro h; cases h) (fun hw9 => ?_)
        exact ⟨rfl, hI, Or.inl ⟨hc, by omega, by omega⟩⟩
  refine j_aload_n C dX2_lesserAfter_0 rfl ?_
  refine j_getR C fX2_lesserAfter_15 rfl rfl dX2_lesserAfter_1 ?_
  refine j_iload_n C dX2_lesserAfter_4 rfl ?_
  refine j_iconst C dX2_lesserAfter_5 ?_
  refine j_isub C dX2_lesserAfter_6 ?_
  refine j_iaload C rfl (by decide) dX2_lesserAfter_7 (by first | omega | (refine ⟨?_, ?_⟩ <;> omega) | exact hw _ _ | exact nrm_R _) (by first | omega | (refine ⟨?_, ?_⟩ <;> omega) | exact hw _ _ | exact nrm_R _) ?_
  rw [ea]
  refine j_istore C dX2_lesserAfter_8 (Nat.le_of_ble_eq_true rfl) ?_
  dsimp only [List.set]
  refine j_aload_n C dX2_lesserAfter_10 rfl ?_
  refine j_getR C fX2_lesserAfter_15 rfl rfl dX2_lesserAfter_11 ?_
  refine j_iload_n C dX2_lesserAfter_14 rfl ?_
  refine j_iaload C rfl (by decide) dX2_lesserAfter_15 (by first | omega | (refine ⟨?_, ?_⟩ <;> omega) | exact hw _ _ | exact nrm_R _) (by first | omega | (refine ⟨?_, ?_⟩ <;> omega) | exact hw _ _ | exact nrm_R _) ?_
  rw [eb]
  refine j_istore C dX2_lesserAfter_16 (Nat.le_of_ble_eq_true rfl) ?_
  dsimp only [List.set]
  refine j_aload_n C dX2_lesserAfter_18 rfl ?_
  refine j_getR C fX2_lesserAfter_9 rfl rfl dX2_lesserAfter_19 ?_
  refine j_iload_n C dX2_lesserAfter_22 rfl ?_
  refine j_iaload C rfl (by decide) dX2_lesserAfter_23 (by first | omega | (refine ⟨?_, ?_⟩ <;> omega) | exact hw _ _ | exact nrm_R _) (by first | omega | (refine ⟨?_, ?_⟩ <;> omega) | exact hw _ _ | exact nrm_R _) ?_
  refine j_aload_n C dX2_lesserAfter_24 rfl ?_
  refine j_getI C fX2_lesserAfter_28 rfl rfl dX2_lesserAfter_25 ?_
  refine j_iload C dX2_lesserAfter_28 rfl ?_
  refine j_imul C dX2_lesserAfter_30 ?_
  refine j_iadd C dX2_lesserAfter_31 ?_
  refine j_aload_n C dX2_lesserAfter_32 rfl ?_
  refine j_getI C fX2_lesserAfter_40 rfl rfl dX2_lesserAfter_33 ?_
  refine j_iload C dX2_lesserAfter_36 rfl ?_
  refine j_imul C dX2_lesserAfter_38 ?_
  refine j_iadd C dX2_lesserAfter_39 ?_
  refine j_istore C dX2_lesserAfter_40 (Nat.le_of_ble_eq_true rfl) ?_
  dsimp only [List.set]
  refine j_iload_n C dX2_lesserAfter_42 rfl ?_
  refine j_iconst C dX2_lesserAfter_43 ?_
  refine j_iadd C dX2_lesserAfter_44 ?_
  refine j_iload C dX2_lesserAfter_45 rfl ?_
  refine j_iconst C dX2_lesserAfter_47 ?_
  refine j_callSi3 C vX2_lesserAfter_82 rfl (Nat.le_of_ble_eq_true rfl) ⟨Nat.zero_le _, Nat.zero_le _⟩ dX2_lesserAfter_48 (ct_X2_spot ) (fun x_48 g_48 hk_48 => ?_)
  obtain ⟨e_48, rfl⟩ := hk_48
  have e_48 := e_48.symm
  subst e_48
  refine j_istore C dX2_lesserAfter_51 (Nat.le_of_ble_eq_true rfl) ?_
  dsimp only [List.set]
  refine j_aload_n C dX2_lesserAfter_53 rfl ?_
  refine j_iload C dX2_lesserAfter_54 rfl ?_
  refine j_iload C dX2_lesserAfter_56 rfl ?_
  refine j_callVi2 C vX2_lesserAfter_93 rfl rfl (Nat.le_of_ble_eq_true rfl) ⟨Nat.zero_le _, Nat.zero_le _⟩ dX2_lesserAfter_58 (ct_X2_highestAfter ⟨hL, ha.1, ha.2, hb.1, hb.2⟩) (fun x_58 g_58 hk_58 => ?_)
  obtain ⟨e_58, rfl⟩ := hk_58
  have e_58 := e_58.symm
  subst e_58
  refine j_istore C dX2_lesserAfter_61 (Nat.le_of_ble_eq_true rfl) ?_
  dsimp only [List.set]
  refine j_aload_n C dX2_lesserAfter_63 rfl ?_
  refine j_iload C dX2_lesserAfter_64 rfl ?_
  refine j_iload C dX2_lesserAfter_66 rfl ?_
  refine j_callVi2 C vX2_lesserAfter_96 rfl rfl (Nat.le_of_ble_eq_true rfl) ⟨Nat.zero_le _, Nat.zero_le _⟩ dX2_lesserAfter_68 (ct_X2_lowestAfter ⟨hL, ha.1, ha.2, hb.1, hb.2⟩) (fun x_68 g_68 hk_68 => ?_)
  obtain ⟨e_68, rfl⟩ := hk_68
  have e_68 := e_68.symm
  subst e_68
  refine j_istore C dX2_lesserAfter_71 (Nat.le_of_ble_eq_true rfl) ?_
  dsimp only [List.set]
  exact lp _ _ none rfl (Int.le_refl _) (by omega) (fun x q1 q2 => by omega)
