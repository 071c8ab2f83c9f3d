/-! ===== the layer J in the law: the script, the two objects ===== -/
def JRL (b n : Nat) (xs : Nat → Int32) (K : KT) (J : JT) : Prop :=
  ∃ (p : Program) (l : Launch) (e : Env) (s : State) (m : MethodId) (args : Array Value) (below : List Frame) (meth : Method) (c : Code) (A : Nat → Prop) (D : va_G) (cI cB : ClassId) (Q : State → Prop),
    (va_X b n xs s s.heap ∧ b < s.heap.size ∧ ¬ A b) ∧ J = a_J p l e room_1 s m args below meth c A D cI cB Q ∧ p.tables.exec = Jvm.exec ∧ c.code = cL_law ∧ c.maxLocals = 4 ∧ s.vm.findClass RL = some m.cls ∧ (∀ w ∈ wsL_law, w.before args s = true) ∧ va_K D vwCl (a_t cI cB) s ∧ (∀ q, s.heap.size ≤ q → A q) ∧
    ∀ (r : Option Int) (q : Nat → Nat) (Sh : List AC) (ce sl : Nat) (g : AG) (H : Heap) (locs : List Loc) (ls : Array Slot) (pc : Nat), K r q Sh ce sl g → aW g → va_P D vwCl (a_w cI cB q g Sh) H → va_D A (a_w cI cB q g Sh) → va_S A s.heap H locs →
      (∀ x, r = some x → decode cL_law pc = .ok (.ireturn, 1) → W p l e room_1 s m args below meth c H locs ce sl Q (F0 m pc ls [.int (i3 x)])) ∧ (r = none → decode cL_law pc = .ok (.return_, 1) → W p l e room_1 s m args below meth c H locs ce sl Q (F0 m pc ls []))
theorem JRL.jr {b n : Nat} {xs : Nat → Int32} {K : KT} {J : JT} (C : JRL b n xs K J) : JR RL cL_law 4 wsL_law room_1 K J := by
  obtain ⟨p, l, e, s, m, args, below, meth, c, A, D, cI, cB, Q, -, h⟩ := C
  exact ⟨p, l, e, s, m, args, below, meth, c, A, D, cI, cB, Q, h⟩
section JLaw
variable {b n : Nat} {xs : Nat → Int32} {K : KT} {J : JT} {q : Nat → Nat} {Sh : List AC} {ce sl pc : Nat} {L : AL} {st : List AV} {g : AG}
theorem j_sld (C : JRL b n xs K J) {i : Int} (hq : q 1000 = b) (hn : n ≤ 2147483647) (hd : decode cL_law pc = .ok (.iaload, 1)) (h0 : 0 ≤ i) (h1 : i < n) (kk : J q Sh ce sl (pc + 1) L (.inl (xs i.toNat).toInt :: st) g) : J q Sh ce sl pc L (.inl i :: .inr 1000 :: st) g := by
  obtain ⟨p, l, e, s, m, args, below, meth, c, A, D, cI, cB, Q, ⟨hX, hbl, hbA⟩, rfl, hx, hb, hml, hown, hts, hK, hA, hret⟩ := C
  intro hw H locs ls hl hP hD hS
  subst hq
  refine va_sld hx hb hX hbl hbA hS (i3_in h0 h1 hn) hd ?_
  rw [i3_clamp h0 h1 hn]
  have h := kk hw H locs ls hl hP hD hS
  have e9 : a_v q (.inl (xs i.toNat).toInt) = .int (xs i.toNat) := congrArg Value.int (i3_of _)
  rw [List.map_cons, e9] at h
  exact h
theorem j_slen (C : JRL b n xs K J) (hq : q 1000 = b) (hd : decode cL_law pc = .ok (.arraylength, 1)) (kk : J q Sh ce sl (pc + 1) L (.inl (n : Int) :: st) g) : J q Sh ce sl pc L (.inr 1000 :: st) g := by
  obtain ⟨p, l, e, s, m, args, below, meth, c, A, D, cI, cB, Q, ⟨hX, hbl, hbA⟩, rfl, hx, hb, hml, hown, hts, hK, hA, hret⟩ := C
  intro hw H locs ls hl hP hD hS
  subst hq
  refine va_slen hx hb hX hbl hbA hS hd ?_
  have e9 : Int32.ofNat n = i3 (n : Int) := (Int32.ofInt_eq_ofNat).symm
  rw [e9]
  exact kk hw H locs ls hl hP hD hS
theorem j_icmp_ee {own : String} {cc : ByteArray} {nL : Nat} {Ts : List Cond} {R : Room} (C : JR own cc nL Ts R K J) {x y : Int} {off : Int} {tgt : Nat} (hd : decode cc pc = .ok (.if_icmp .eq off, 3)) (ht : (pc : Int) + off = (tgt : Int)) (hxy : x = y) (kt : J q Sh ce sl tgt L st g) : J q Sh ce sl pc L (.inl y :: .inl x :: st) g := by
  obtain ⟨p, l, e, s, m, args, below, meth, c, A, D, cI, cB, Q, rfl, hx, hb, hml, hown, hts, hK, hA, hret⟩ := C
  intro hw H locs ls hl hP hD hS
  exact lv_icmp_eq hx hb hd ht (fun _ => kt hw H locs ls hl hP hD hS) (fun h => absurd (congrArg i3 hxy) h)
end JLaw
set_option maxRecDepth 20000 in
theorem nwL_law_7 : aNW wsL_law RL 7 4 [some none, some none, some none, some none] := ⟨_, _, _, tyX4, rfl, inlX4, tyX4_ok, by decide +kernel, by decide +kernel, by decide +kernel, rfl, fun j hj => by
  rcases (show j = 0 ∨ j = 1 ∨ j = 2 ∨ j = 3 by omega) with rfl | rfl | rfl | rfl <;> first | exact Or.inl ⟨rfl, rfl⟩ | exact Or.inr ⟨rfl, rfl⟩⟩
set_option maxRecDepth 20000 in
theorem nwL_law_10 : aNW wsL_law RL 10 5 [none, none, some none, some none, some none, some none, some none, some none, some none, some none, none, none, none, none, none, some none, some none, some none, none, some none, some none, some none, some none, some none] := ⟨_, _, _, tyX5, rfl, inlX5, tyX5_ok, by decide +kernel, by decide +kernel, by decide +kernel, rfl, fun j hj => by
  rcases (show j = 0 ∨ j = 1 ∨ j = 2 ∨ j = 3 ∨ j = 4 ∨ j = 5 ∨ j = 6 ∨ j = 7 ∨ j = 8 ∨ j = 9 ∨ j = 10 ∨ j = 11 ∨ j = 12 ∨ j = 13 ∨ j = 14 ∨ j = 15 ∨ j = 16 ∨ j = 17 ∨ j = 18 ∨ j = 19 ∨ j = 20 ∨ j = 21 ∨ j = 22 ∨ j = 23 by omega) with rfl | rfl | rfl | rfl | rfl | rfl | rfl | rfl | rfl | rfl | rfl | rfl | rfl | rfl | rfl | rfl | rfl | rfl | rfl | rfl | rfl | rfl | rfl | rfl <;> first | exact Or.inl ⟨rfl, rfl⟩ | exact Or.inr ⟨rfl, rfl⟩⟩
set_option maxRecDepth 20000 in
theorem vL_law_9 : aCI wsL_law room_1 RL 9 yX4_init wsX4_init rmX4_init 20 15937 0 := ⟨_, _, _, gL_law_X4_init, rfl, rfl, rfl, by decide +kernel, by decide +kernel, by decide +kernel, rfl, ⟨by decide +kernel, by decide +kernel, by decide +kernel⟩, by decide⟩
set_option maxRecDepth 20000 in
theorem vL_law_12 : aCI wsL_law room_1 RL 12 yX5_init wsX5_init rmX5_init 16 15910 0 := ⟨_, _, _, gL_law_X5_init, rfl, rfl, rfl, by decide +kernel, by decide +kernel, by decide +kernel, rfl, ⟨by decide +kernel, by decide +kernel, by decide +kernel⟩, by decide⟩
theorem vL_law_13 : aCV wsL_law room_1 RL 13 4 yX4_sheet wsX4_sheet rmX4_sheet 1 := ⟨TX4, _, _, _, _, _, rfl, gL_law_X4_sheet, rfl, rfl, rfl, ⟨by decide +kernel, by decide +kernel, by decide +kernel⟩, by decide⟩
theorem vL_law_17 : aCV wsL_law room_1 RL 17 5 yX5_sheet wsX5_sheet rmX5_sheet 1 := ⟨TX5, _, _, _, _, _, rfl, gL_law_X5_sheet, rfl, rfl, rfl, ⟨by decide +kernel, by decide +kernel, by decide +kernel⟩, by decide⟩
theorem vL_law_18 : aCV wsL_law room_1 RL 18 4 yX4_read wsX4_read rmX4_read 3 := ⟨TX4, _, _, _, _, _, rfl, gL_law_X4_read, rfl, rfl, rfl, ⟨by decide +kernel, by decide +kernel, by decide +kernel⟩, by decide⟩
theorem vL_law_22 : aCV wsL_law room_1 RL 22 5 yX5_read wsX5_read rmX5_read 3 := ⟨TX5, _, _, _, _, _, rfl, gL_law_X5_read, rfl, rfl, rfl, ⟨by decide +kernel, by decide +kernel, by decide +kernel⟩, by decide⟩
theorem vL_law_23 : aCV wsL_law room_1 RL 23 4 yX4_reading wsX4_reading rmX4_reading 2 := ⟨TX4, _, _, _, _, _, rfl, gL_law_X4_reading, rfl, rfl, rfl, ⟨by decide +kernel, by decide +kernel, by decide +kernel⟩, by decide⟩
theorem vL_law_27 : aCV wsL_law room_1 RL 27 5 yX5_reading wsX5_reading rmX5_reading 2 := ⟨TX5, _, _, _, _, _, rfl, gL_law_X5_reading, rfl, rfl, rfl, ⟨by decide +kernel, by decide +kernel, by decide +kernel⟩, by decide⟩
theorem vL_law_28 : aCV wsL_law room_1 RL 28 4 yX4_across wsX4_across rmX4_across 1 := ⟨TX4, _, _, _, _, _, rfl, gL_law_X4_across, rfl, rfl, rfl, ⟨by decide +kernel, by decide +kernel, by decide +kernel⟩, by decide⟩
theorem vL_law_31 : aCV wsL_law room_1 RL 31 5 yX5_across wsX5_across rmX5_across 1 := ⟨TX5, _, _, _, _, _, rfl, gL_law_X5_across, rfl, rfl, rfl, ⟨by decide +kernel, by decide +kernel, by decide +kernel⟩, by decide⟩
theorem vL_law_32 : aCV wsL_law room_1 RL 32 4 yX4_along wsX4_along rmX4_along 2 := ⟨TX4, _, _, _, _, _, rfl, gL_law_X4_along, rfl, rfl, rfl, ⟨by decide +kernel, by decide +kernel, by decide +kernel⟩, by decide⟩
theorem vL_law_35 : aCV wsL_law room_1 RL 35 5 yX5_along wsX5_along rmX5_along 2 := ⟨TX5, _, _, _, _, _, rfl, gL_law_X5_along, rfl, rfl, rfl, ⟨by decide +kernel, by decide +kernel, by decide +kernel⟩, by decide⟩
theorem vL_law_36 : aCV wsL_law room_1 RL 36 4 yX4_groups wsX4_groups rmX4_groups 0 := ⟨TX4, _, _, _, _, _, rfl, gL_law_X4_groups, rfl, rfl, rfl, ⟨by decide +kernel, by decide +kernel, by decide +kernel⟩, by decide⟩
theorem vL_law_40 : aCV wsL_law room_1 RL 40 5 yX5_groups wsX5_groups rmX5_groups 0 := ⟨TX5, _, _, _, _, _, rfl, gL_law_X5_groups, rfl, rfl, rfl, ⟨by decide +kernel, by decide +kernel, by decide +kernel⟩, by decide⟩
theorem vL_law_41 : aCV wsL_law room_1 RL 41 4 yX4_take wsX4_take rmX4_take 0 := ⟨TX4, _, _, _, _, _, rfl, gL_law_X4_take, rfl, rfl, rfl, ⟨by decide +kernel, by decide +kernel, by decide +kernel⟩, by decide⟩
theorem vL_law_44 : aCV wsL_law room_1 RL 44 5 yX5_take wsX5_take rmX5_take 0 := ⟨TX5, _, _, _, _, _, rfl, gL_law_X5_take, rfl, rfl, rfl, ⟨by decide +kernel, by decide +kernel, by decide +kernel⟩, by decide⟩
theorem vL_law_45 : aCV wsL_law room_1 RL 45 4 yX4_clear wsX4_clear rmX4_clear 0 := ⟨TX4, _, _, _, _, _, rfl, gL_law_X4_clear, rfl, rfl, rfl, ⟨by decide +kernel, by decide +kernel, by decide +kernel⟩, by decide⟩
theorem vL_law_48 : aCV wsL_law room_1 RL 48 5 yX5_clear wsX5_clear rmX5_clear 0 := ⟨TX5, _, _, _, _, _, rfl, gL_law_X5_clear, rfl, rfl, rfl, ⟨by decide +kernel, by decide +kernel, by decide +kernel⟩, by decide⟩
theorem vL_law_49 : aCV wsL_law room_1 RL 49 4 yX4_laws wsX4_laws rmX4_laws 2 := ⟨TX4, _, _, _, _, _, rfl, gL_law_X4_laws, rfl, rfl, rfl, ⟨by decide +kernel, by decide +kernel, by decide +kernel⟩, by decide⟩
theorem vL_law_52 : aCV wsL_law room_1 RL 52 5 yX5_laws wsX5_laws rmX5_laws 2 := ⟨TX5, _, _, _, _, _, rfl, gL_law_X5_laws, rfl, rfl, rfl, ⟨by decide +kernel, by decide +kernel, by decide +kernel⟩, by decide⟩
theorem vL_law_53 : aCV wsL_law room_1 RL 53 4 yX4_spread wsX4_spread rmX4_spread 2 := ⟨TX4, _, _, _, _, _, rfl, gL_law_X4_spread, rfl, rfl, rfl, ⟨by decide +kernel, by decide +kernel, by decide +kernel⟩, by decide⟩
theorem vL_law_56 : aCV wsL_law room_1 RL 56 5 yX5_spread wsX5_spread rmX5_spread 2 := ⟨TX5, _, _, _, _, _, rfl, gL_law_X5_spread, rfl, rfl, rfl, ⟨by decide +kernel, by decide +kernel, by decide +kernel⟩, by decide⟩
theorem vL_law_57 : aCV wsL_law room_1 RL 57 4 yX4_base wsX4_base rmX4_base 2 := ⟨TX4, _, _, _, _, _, rfl, gL_law_X4_base, rfl, rfl, rfl, ⟨by decide +kernel, by decide +kernel, by decide +kernel⟩, by decide⟩
theorem vL_law_60 : aCV wsL_law room_1 RL 60 5 yX5_base wsX5_base rmX5_base 2 := ⟨TX5, _, _, _, _, _, rfl, gL_law_X5_base, rfl, rfl, rfl, ⟨by decide +kernel, by decide +kernel, by decide +kernel⟩, by decide⟩
theorem vL_law_61 : aCV wsL_law room_1 RL 61 4 yX4_set wsX4_set rmX4_set 2 := ⟨TX4, _, _, _, _, _, rfl, gL_law_X4_set, rfl, rfl, rfl, ⟨by decide +kernel, by decide +kernel, by decide +kernel⟩, by decide⟩
theorem vL_law_64 : aCV wsL_law room_1 RL 64 5 yX5_set wsX5_set rmX5_set 2 := ⟨TX5, _, _, _, _, _, rfl, gL_law_X5_set, rfl, rfl, rfl, ⟨by decide +kernel, by decide +kernel, by decide +kernel⟩, by decide⟩
theorem vL_law_65 : aCV wsL_law room_1 RL 65 4 yX4_about wsX4_about rmX4_about 2 := ⟨TX4, _, _, _, _, _, rfl, gL_law_X4_about, rfl, rfl, rfl, ⟨by decide +kernel, by decide +kernel, by decide +kernel⟩, by decide⟩
theorem vL_law_68 : aCV wsL_law room_1 RL 68 5 yX5_about wsX5_about rmX5_about 2 := ⟨TX5, _, _, _, _, _, rfl, gL_law_X5_about, rfl, rfl, rfl, ⟨by decide +kernel, by decide +kernel, by decide +kernel⟩, by decide⟩
theorem vL_law_69 : aCV wsL_law room_1 RL 69 4 yX4_uneven wsX4_uneven rmX4_uneven 1 := ⟨TX4, _, _, _, _, _, rfl, gL_law_X4_uneven, rfl, rfl, rfl, ⟨by decide +kernel, by decide +kernel, by decide +kernel⟩, by decide⟩
theorem vL_law_72 : aCV wsL_law room_1 RL 72 5 yX5_uneven wsX5_uneven rmX5_uneven 1 := ⟨TX5, _, _, _, _, _, rfl, gL_law_X5_uneven, rfl, rfl, rfl, ⟨by decide +kernel, by decide +kernel, by decide +kernel⟩, by decide⟩
theorem vL_law_73 : aCV wsL_law room_1 RL 73 4 yX4_best wsX4_best rmX4_best 1 := ⟨TX4, _, _, _, _, _, rfl, gL_law_X4_best, rfl, rfl, rfl, ⟨by decide +kernel, by decide +kernel, by decide +kernel⟩, by decide⟩
theorem vL_law_76 : aCV wsL_law room_1 RL 76 5 yX5_best wsX5_best rmX5_best 1 := ⟨TX5, _, _, _, _, _, rfl, gL_law_X5_best, rfl, rfl, rfl, ⟨by decide +kernel, by decide +kernel, by decide +kernel⟩, by decide⟩
theorem vL_law_77 : aCV wsL_law room_1 RL 77 4 yX4_kind wsX4_kind rmX4_kind 3 := ⟨TX4, _, _, _, _, _, rfl, gL_law_X4_kind, rfl, rfl, rfl, ⟨by decide +kernel, by decide +kernel, by decide +kernel⟩, by decide⟩
theorem vL_law_80 : aCV wsL_law room_1 RL 80 5 yX5_kind wsX5_kind rmX5_kind 3 := ⟨TX5, _, _, _, _, _, rfl, gL_law_X5_kind, rfl, rfl, rfl, ⟨by decide +kernel, by decide +kernel, by decide +kernel⟩, by decide⟩
theorem vL_law_81 : aCV wsL_law room_1 RL 81 4 yX4_canLie wsX4_canLie rmX4_canLie 2 := ⟨TX4, _, _, _, _, _, rfl, gL_law_X4_canLie, rfl, rfl, rfl, ⟨by decide +kernel, by decide +kernel, by decide +kernel⟩, by decide⟩
theorem vL_law_84 : aCV wsL_law room_1 RL 84 5 yX5_canLie wsX5_canLie rmX5_canLie 2 := ⟨TX5, _, _, _, _, _, rfl, gL_law_X5_canLie, rfl, rfl, rfl, ⟨by decide +kernel, by decide +kernel, by decide +kernel⟩, by decide⟩
theorem vL_law_85 : aCV wsL_law room_1 RL 85 4 yX4_cut wsX4_cut rmX4_cut 0 := ⟨TX4, _, _, _, _, _, rfl, gL_law_X4_cut, rfl, rfl, rfl, ⟨by decide +kernel, by decide +kernel, by decide +kernel⟩, by decide⟩
theorem vL_law_88 : aCV wsL_law room_1 RL 88 5 yX5_cut wsX5_cut rmX5_cut 0 := ⟨TX5, _, _, _, _, _, rfl, gL_law_X5_cut, rfl, rfl, rfl, ⟨by decide +kernel, by decide +kernel, by decide +kernel⟩, by decide⟩
theorem vL_law_89 : aCV wsL_law room_1 RL 89 4 yX4_cutAt wsX4_cutAt rmX4_cutAt 1 := ⟨TX4, _, _, _, _, _, rfl, gL_law_X4_cutAt, rfl, rfl, rfl, ⟨by decide +kernel, by decide +kernel, by decide +kernel⟩, by decide⟩
theorem vL_law_92 : aCV wsL_law room_1 RL 92 5 yX5_cutAt wsX5_cutAt rmX5_cutAt 1 := ⟨TX5, _, _, _, _, _, rfl, gL_law_X5_cutAt, rfl, rfl, rfl, ⟨by decide +kernel, by decide +kernel, by decide +kernel⟩, by decide⟩
theorem vL_law_93 : aCV wsL_law room_1 RL 93 4 yX4_grade wsX4_grade rmX4_grade 0 := ⟨TX4, _, _, _, _, _, rfl, gL_law_X4_grade, rfl, rfl, rfl, ⟨by decide +kernel, by decide +kernel, by decide +kernel⟩, by decide⟩
theorem vL_law_96 : aCV wsL_law room_1 RL 96 5 yX5_grade wsX5_grade rmX5_grade 0 := ⟨TX5, _, _, _, _, _, rfl, gL_law_X5_grade, rfl, rfl, rfl, ⟨by decide +kernel, by decide +kernel, by decide +kernel⟩, by decide⟩
theorem vL_law_97 : aCV wsL_law room_1 RL 97 4 yX4_cost wsX4_cost rmX4_cost 3 := ⟨TX4, _, _, _, _, _, rfl, gL_law_X4_cost, rfl, rfl, rfl, ⟨by decide +kernel, by decide +kernel, by decide +kernel⟩, by decide⟩
theorem vL_law_100 : aCV wsL_law room_1 RL 100 5 yX5_cost wsX5_cost rmX5_cost 3 := ⟨TX5, _, _, _, _, _, rfl, gL_law_X5_cost, rfl, rfl, rfl, ⟨by decide +kernel, by decide +kernel, by decide +kernel⟩, by decide⟩
theorem vL_law_101 : aCV wsL_law room_1 RL 101 4 yX4_tour wsX4_tour rmX4_tour 1 := ⟨TX4, _, _, _, _, _, rfl, gL_law_X4_tour, rfl, rfl, rfl, ⟨by decide +kernel, by decide +kernel, by decide +kernel⟩, by decide⟩
theorem vL_law_104 : aCV wsL_law room_1 RL 104 5 yX5_tour wsX5_tour rmX5_tour 1 := ⟨TX5, _, _, _, _, _, rfl, gL_law_X5_tour, rfl, rfl, rfl, ⟨by decide +kernel, by decide +kernel, by decide +kernel⟩, by decide⟩
theorem vL_law_105 : aCV wsL_law room_1 RL 105 4 yX4_tourAt wsX4_tourAt rmX4_tourAt 2 := ⟨TX4, _, _, _, _, _, rfl, gL_law_X4_tourAt, rfl, rfl, rfl, ⟨by decide +kernel, by decide +kernel, by decide +kernel⟩, by decide⟩
theorem vL_law_108 : aCV wsL_law room_1 RL 108 5 yX5_tourAt wsX5_tourAt rmX5_tourAt 2 := ⟨TX5, _, _, _, _, _, rfl, gL_law_X5_tourAt, rfl, rfl, rfl, ⟨by decide +kernel, by decide +kernel, by decide +kernel⟩, by decide⟩
theorem vL_law_109 : aCV wsL_law room_1 RL 109 4 yX4_told wsX4_told rmX4_told 1 := ⟨TX4, _, _, _, _, _, rfl, gL_law_X4_told, rfl, rfl, rfl, ⟨by decide +kernel, by decide +kernel, by decide +kernel⟩, by decide⟩
theorem vL_law_112 : aCV wsL_law room_1 RL 112 5 yX5_told wsX5_told rmX5_told 1 := ⟨TX5, _, _, _, _, _, rfl, gL_law_X5_told, rfl, rfl, rfl, ⟨by decide +kernel, by decide +kernel, by decide +kernel⟩, by decide⟩
