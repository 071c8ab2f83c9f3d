theorem nnot {Q : Prop} (h : Q) : ¬ ¬ Q := fun z => z h
theorem cm_reading {i w : Int} {x : Int} {g g1 : AG} (h1 : g1 = g ∧ x = rReading (g 1 4) i w (g 2) (g 3) (g 4) (g 5)) : cm g g1 := by
  rw [h1.1]
  exact cm_r g
set_option maxHeartbeats 2000000 in
theorem st_reading {i w : Int} {x y : Int} {g g1 g2 : AG} (hR : Rel g) (h1 : g1 = g ∧ x = rReading (g 1 4) i w (g 2) (g 3) (g 4) (g 5)) (h2 : g2 = g1 ∧ y = rReading (g1 21 1) i w (g1 22) (g1 23) (g1 24) (g1 25)) : x = y ∧ Rel g2 := by
  obtain ⟨e1, hx⟩ := h1
  obtain ⟨e2, hy⟩ := h2
  rw [e1] at e2 hy
  rw [e2]
  refine ⟨?_, hR⟩
  rw [hx, hy]
  clear e1 e2 hx hy
  obtain ⟨⟨E1, E2, E3, E4, E5, E6, E7, E8⟩, KN, ⟨L1, L2, L3, L4, L5, L6, L7, L8⟩, ⟨S1, S2, S3, S4, S5⟩, ⟨G1, G2, G3, G4, G5⟩⟩ := id hR
  have E4 : g 21 1 = g 1 4 := E4
  have E5 : g 22 = g 2 := E5
  have E6 : g 23 = g 3 := E6
  have E7 : g 24 = g 4 := E7
  have E8 : g 25 = g 5 := E8
  have L2 : g 21 0 = g 8 2 := L2
  have L3 : g 21 10 = g 8 3 := L3
  have L4 : g 21 11 = g 8 4 := L4
  have L5 : g 21 12 = g 8 5 := L5
  have L6 : g 21 13 = g 8 6 := L6
  have L7 : g 28 = g 9 := L7
  have L8 : g 29 = g 10 := L8
  have S2 : g 21 14 = g 12 4 := S2
  have S3 : g 30 = g 13 := S3
  have S4 : g 31 = g 14 := S4
  have S5 : g 32 = g 15 := S5
  have G2 : g 21 18 = g 18 0 := G2
  have Ln : 2 ≤ g 8 2 ∧ g 8 2 ≤ 24 := L1.1
  have Ec : 0 ≤ g 1 4 ∧ g 1 4 ≤ 100 := E1
  rw [E4, E5, E6, E7, E8]
theorem cm_across {p : Int} {x : Int} {g g1 : AG} (h1 : g1 = g ∧ x = rAcross (g 8 2) p (g 6 p.toNat = g 6 0) (nrm (g 7 0 - g 7 p.toNat))) : cm g g1 := by
  rw [h1.1]
  exact cm_r g
set_option maxHeartbeats 2000000 in
theorem st_across {p : Int} {x y : Int} {g g1 g2 : AG} (hR : Rel g) (h1 : g1 = g ∧ x = rAcross (g 8 2) p (g 6 p.toNat = g 6 0) (nrm (g 7 0 - g 7 p.toNat))) (h2 : g2 = g1 ∧ y = rAcross (g1 21 0) p (g1 26 (40 + p).toNat = g1 26 40) (nrm (g1 27 40 - g1 27 (40 + p).toNat))) : x = y ∧ Rel g2 := by
  obtain ⟨e1, hx⟩ := h1
  obtain ⟨e2, hy⟩ := h2
  rw [e1] at e2 hy
  rw [e2]
  refine ⟨?_, hR⟩
  rw [hx, hy]
  clear e1 e2 hx hy
  obtain ⟨⟨E1, E2, E3, E4, E5, E6, E7, E8⟩, KN, ⟨L1, L2, L3, L4, L5, L6, L7, L8⟩, ⟨S1, S2, S3, S4, S5⟩, ⟨G1, G2, G3, G4, G5⟩⟩ := id hR
  have E4 : g 21 1 = g 1 4 := E4
  have E5 : g 22 = g 2 := E5
  have E6 : g 23 = g 3 := E6
  have E7 : g 24 = g 4 := E7
  have E8 : g 25 = g 5 := E8
  have L2 : g 21 0 = g 8 2 := L2
  have L3 : g 21 10 = g 8 3 := L3
  have L4 : g 21 11 = g 8 4 := L4
  have L5 : g 21 12 = g 8 5 := L5
  have L6 : g 21 13 = g 8 6 := L6
  have L7 : g 28 = g 9 := L7
  have L8 : g 29 = g 10 := L8
  have S2 : g 21 14 = g 12 4 := S2
  have S3 : g 30 = g 13 := S3
  have S4 : g 31 = g 14 := S4
  have S5 : g 32 = g 15 := S5
  have G2 : g 21 18 = g 18 0 := G2
  have Ln : 2 ≤ g 8 2 ∧ g 8 2 ≤ 24 := L1.1
  have Ec : 0 ≤ g 1 4 ∧ g 1 4 ≤ 100 := E1
  unfold rAcross
  rw [L2]
  by_cases c : 0 ≤ p ∧ p ≤ g 8 2 - 1
  · rw [if_neg (nnot c), if_neg (nnot c)]
    have q := kn_eq KN (a := p.toNat) (b := 0) (by omega) (by omega)
    have d1 : g 27 (sg p.toNat) = g 7 p.toNat := (KN p.toNat (by omega)).2.2
    have d0 : g 27 40 = g 7 0 := (KN 0 (by omega)).2.2
    have q : g 26 (sg p.toNat) = g 26 40 ↔ g 6 p.toNat = g 6 0 := q
    rw [sg_p c.1 (by omega)] at q d1
    rw [d0, d1]
    exact (cif_c q).symm
  · rw [if_pos c, if_pos c]
theorem cm_along {t u : Int} {x : Int} {g g1 : AG} (h1 : g1 = g ∧ x = rAlong t u (g 6 (24 + t).toNat = g 6 (24 + u).toNat) (nrm (g 7 (24 + t).toNat - g 7 (24 + u).toNat))) : cm g g1 := by
  rw [h1.1]
  exact cm_r g
set_option maxHeartbeats 2000000 in
theorem st_along {t u : Int} {x y : Int} {g g1 g2 : AG} (hR : Rel g) (h1 : g1 = g ∧ x = rAlong t u (g 6 (24 + t).toNat = g 6 (24 + u).toNat) (nrm (g 7 (24 + t).toNat - g 7 (24 + u).toNat))) (h2 : g2 = g1 ∧ y = rAlong t u (g1 26 t.toNat = g1 26 u.toNat) (nrm (g1 27 t.toNat - g1 27 u.toNat))) : x = y ∧ Rel g2 := by
  obtain ⟨e1, hx⟩ := h1
  obtain ⟨e2, hy⟩ := h2
  rw [e1] at e2 hy
  rw [e2]
  refine ⟨?_, hR⟩
  rw [hx, hy]
  clear e1 e2 hx hy
  obtain ⟨⟨E1, E2, E3, E4, E5, E6, E7, E8⟩, KN, ⟨L1, L2, L3, L4, L5, L6, L7, L8⟩, ⟨S1, S2, S3, S4, S5⟩, ⟨G1, G2, G3, G4, G5⟩⟩ := id hR
  have E4 : g 21 1 = g 1 4 := E4
  have E5 : g 22 = g 2 := E5
  have E6 : g 23 = g 3 := E6
  have E7 : g 24 = g 4 := E7
  have E8 : g 25 = g 5 := E8
  have L2 : g 21 0 = g 8 2 := L2
  have L3 : g 21 10 = g 8 3 := L3
  have L4 : g 21 11 = g 8 4 := L4
  have L5 : g 21 12 = g 8 5 := L5
  have L6 : g 21 13 = g 8 6 := L6
  have L7 : g 28 = g 9 := L7
  have L8 : g 29 = g 10 := L8
  have S2 : g 21 14 = g 12 4 := S2
  have S3 : g 30 = g 13 := S3
  have S4 : g 31 = g 14 := S4
  have S5 : g 32 = g 15 := S5
  have G2 : g 21 18 = g 18 0 := G2
  have Ln : 2 ≤ g 8 2 ∧ g 8 2 ≤ 24 := L1.1
  have Ec : 0 ≤ g 1 4 ∧ g 1 4 ≤ 100 := E1
  unfold rAlong
  by_cases c : 0 ≤ t ∧ t ≤ 39 ∧ 0 ≤ u ∧ u ≤ 39
  · rw [if_neg (nnot c), if_neg (nnot c)]
    have q := kn_eq KN (a := (24 + t).toNat) (b := (24 + u).toNat) (by omega) (by omega)
    have d1 : g 27 (sg (24 + t).toNat) = g 7 (24 + t).toNat := (KN (24 + t).toNat (by omega)).2.2
    have d0 : g 27 (sg (24 + u).toNat) = g 7 (24 + u).toNat := (KN (24 + u).toNat (by omega)).2.2
    rw [sg_t c.1 c.2.1] at q d1
    rw [sg_t c.2.2.1 c.2.2.2] at q d0
    rw [d0, d1]
    exact (cif_c q).symm
  · rw [if_pos c, if_pos c]
theorem cm_groups  {x : Int} {g g1 : AG} (h1 : g1 = g ∧ x = cntG (g 6) (g 8 2).toNat) : cm g g1 := by
  rw [h1.1]
  exact cm_r g
set_option maxHeartbeats 2000000 in
theorem st_groups  {x y : Int} {g g1 g2 : AG} (hR : Rel g) (h1 : g1 = g ∧ x = cntG (g 6) (g 8 2).toNat) (h2 : g2 = g1 ∧ y = cntG (fun j => g1 26 (40 + j)) (g1 21 0).toNat) : x = y ∧ Rel g2 := by
  obtain ⟨e1, hx⟩ := h1
  obtain ⟨e2, hy⟩ := h2
  rw [e1] at e2 hy
  rw [e2]
  refine ⟨?_, hR⟩
  rw [hx, hy]
  clear e1 e2 hx hy
  obtain ⟨⟨E1, E2, E3, E4, E5, E6, E7, E8⟩, KN, ⟨L1, L2, L3, L4, L5, L6, L7, L8⟩, ⟨S1, S2, S3, S4, S5⟩, ⟨G1, G2, G3, G4, G5⟩⟩ := id hR
  have E4 : g 21 1 = g 1 4 := E4
  have E5 : g 22 = g 2 := E5
  have E6 : g 23 = g 3 := E6
  have E7 : g 24 = g 4 := E7
  have E8 : g 25 = g 5 := E8
  have L2 : g 21 0 = g 8 2 := L2
  have L3 : g 21 10 = g 8 3 := L3
  have L4 : g 21 11 = g 8 4 := L4
  have L5 : g 21 12 = g 8 5 := L5
  have L6 : g 21 13 = g 8 6 := L6
  have L7 : g 28 = g 9 := L7
  have L8 : g 29 = g 10 := L8
  have S2 : g 21 14 = g 12 4 := S2
  have S3 : g 30 = g 13 := S3
  have S4 : g 31 = g 14 := S4
  have S5 : g 32 = g 15 := S5
  have G2 : g 21 18 = g 18 0 := G2
  have Ln : 2 ≤ g 8 2 ∧ g 8 2 ≤ 24 := L1.1
  have Ec : 0 ≤ g 1 4 ∧ g 1 4 ≤ 100 := E1
  rw [L2]
  refine cntG_c _ (fun i j hi hj => ?_)
  have q := kn_eq KN (a := i) (b := j) (by omega) (by omega)
  rw [sg_n (by omega), sg_n (by omega)] at q
  exact q.symm
theorem cm_about {p w : Int} {x : Int} {g g1 : AG} (h1 : g1 = g ∧ x = rAbout (g 9) (g 10) (g 8 5) (g 8 6) (g 8 2) p w) : cm g g1 := by
  rw [h1.1]
  exact cm_r g
set_option maxHeartbeats 2000000 in
theorem st_about {p w : Int} {x y : Int} {g g1 g2 : AG} (hR : Rel g) (h1 : g1 = g ∧ x = rAbout (g 9) (g 10) (g 8 5) (g 8 6) (g 8 2) p w) (h2 : g2 = g1 ∧ y = rAbout (g1 28) (g1 29) (g1 21 12) (g1 21 13) (g1 21 0) p w) : x = y ∧ Rel g2 := by
  obtain ⟨e1, hx⟩ := h1
  obtain ⟨e2, hy⟩ := h2
  rw [e1] at e2 hy
  rw [e2]
  refine ⟨?_, hR⟩
  rw [hx, hy]
  clear e1 e2 hx hy
  obtain ⟨⟨E1, E2, E3, E4, E5, E6, E7, E8⟩, KN, ⟨L1, L2, L3, L4, L5, L6, L7, L8⟩, ⟨S1, S2, S3, S4, S5⟩, ⟨G1, G2, G3, G4, G5⟩⟩ := id hR
  have E4 : g 21 1 = g 1 4 := E4
  have E5 : g 22 = g 2 := E5
  have E6 : g 23 = g 3 := E6
  have E7 : g 24 = g 4 := E7
  have E8 : g 25 = g 5 := E8
  have L2 : g 21 0 = g 8 2 := L2
  have L3 : g 21 10 = g 8 3 := L3
  have L4 : g 21 11 = g 8 4 := L4
  have L5 : g 21 12 = g 8 5 := L5
  have L6 : g 21 13 = g 8 6 := L6
  have L7 : g 28 = g 9 := L7
  have L8 : g 29 = g 10 := L8
  have S2 : g 21 14 = g 12 4 := S2
  have S3 : g 30 = g 13 := S3
  have S4 : g 31 = g 14 := S4
  have S5 : g 32 = g 15 := S5
  have G2 : g 21 18 = g 18 0 := G2
  have Ln : 2 ≤ g 8 2 ∧ g 8 2 ≤ 24 := L1.1
  have Ec : 0 ≤ g 1 4 ∧ g 1 4 ≤ 100 := E1
  rw [L2, L5, L6, L7, L8]
theorem cm_uneven {k : Int} {x : Int} {g g1 : AG} (h1 : g1 = g ∧ x = rUneven (szX g) (g 8 2) k) : cm g g1 := by
  rw [h1.1]
  exact cm_r g
set_option maxHeartbeats 2000000 in
theorem st_uneven {k : Int} {x y : Int} {g g1 g2 : AG} (hR : Rel g) (h1 : g1 = g ∧ x = rUneven (szX g) (g 8 2) k) (h2 : g2 = g1 ∧ y = rUneven (szM g1) (g1 21 0) k) : x = y ∧ Rel g2 := by
  obtain ⟨e1, hx⟩ := h1
  obtain ⟨e2, hy⟩ := h2
  rw [e1] at e2 hy
  rw [e2]
  refine ⟨?_, hR⟩
  rw [hx, hy]
  clear e1 e2 hx hy
  obtain ⟨⟨E1, E2, E3, E4, E5, E6, E7, E8⟩, KN, ⟨L1, L2, L3, L4, L5, L6, L7, L8⟩, ⟨S1, S2, S3, S4, S5⟩, ⟨G1, G2, G3, G4, G5⟩⟩ := id hR
  have E4 : g 21 1 = g 1 4 := E4
  have E5 : g 22 = g 2 := E5
  have E6 : g 23 = g 3 := E6
  have E7 : g 24 = g 4 := E7
  have E8 : g 25 = g 5 := E8
  have L2 : g 21 0 = g 8 2 := L2
  have L3 : g 21 10 = g 8 3 := L3
  have L4 : g 21 11 = g 8 4 := L4
  have L5 : g 21 12 = g 8 5 := L5
  have L6 : g 21 13 = g 8 6 := L6
  have L7 : g 28 = g 9 := L7
  have L8 : g 29 = g 10 := L8
  have S2 : g 21 14 = g 12 4 := S2
  have S3 : g 30 = g 13 := S3
  have S4 : g 31 = g 14 := S4
  have S5 : g 32 = g 15 := S5
  have G2 : g 21 18 = g 18 0 := G2
  have Ln : 2 ≤ g 8 2 ∧ g 8 2 ≤ 24 := L1.1
  have Ec : 0 ≤ g 1 4 ∧ g 1 4 ≤ 100 := E1
  have e : szM g = szX g := by
    funext p
    unfold szM szX
    rw [L2, L5, L6, L7, L8]
  rw [e, L2]
theorem cm_canLie {k p : Int} {x : Int} {g g1 : AG} (h1 : g1 = g ∧ x = rLie (g 12 4) (g 8 2) k p (lieP (g 13 k.toNat) (g 15 k.toNat) (g 8 2) (szX g) p)) : cm g g1 := by
  rw [h1.1]
  exact cm_r g
set_option maxHeartbeats 2000000 in
theorem st_canLie {k p : Int} {x y : Int} {g g1 g2 : AG} (hR : Rel g) (h1 : g1 = g ∧ x = rLie (g 12 4) (g 8 2) k p (lieP (g 13 k.toNat) (g 15 k.toNat) (g 8 2) (szX g) p)) (h2 : g2 = g1 ∧ y = rLie (g1 21 14) (g1 21 0) k p (lieP (g1 30 k.toNat) (g1 32 k.toNat) (g1 21 0) (szM g1) p)) : x = y ∧ Rel g2 := by
  obtain ⟨e1, hx⟩ := h1
  obtain ⟨e2, hy⟩ := h2
  rw [e1] at e2 hy
  rw [e2]
  refine ⟨?_, hR⟩
  rw [hx, hy]
  clear e1 e2 hx hy
  obtain ⟨⟨E1, E2, E3, E4, E5, E6, E7, E8⟩, KN, ⟨L1, L2, L3, L4, L5, L6, L7, L8⟩, ⟨S1, S2, S3, S4, S5⟩, ⟨G1, G2, G3, G4, G5⟩⟩ := id hR
  have E4 : g 21 1 = g 1 4 := E4
  have E5 : g 22 = g 2 := E5
  have E6 : g 23 = g 3 := E6
  have E7 : g 24 = g 4 := E7
  have E8 : g 25 = g 5 := E8
  have L2 : g 21 0 = g 8 2 := L2
  have L3 : g 21 10 = g 8 3 := L3
  have L4 : g 21 11 = g 8 4 := L4
  have L5 : g 21 12 = g 8 5 := L5
  have L6 : g 21 13 = g 8 6 := L6
  have L7 : g 28 = g 9 := L7
  have L8 : g 29 = g 10 := L8
  have S2 : g 21 14 = g 12 4 := S2
  have S3 : g 30 = g 13 := S3
  have S4 : g 31 = g 14 := S4
  have S5 : g 32 = g 15 := S5
  have G2 : g 21 18 = g 18 0 := G2
  have Ln : 2 ≤ g 8 2 ∧ g 8 2 ≤ 24 := L1.1
  have Ec : 0 ≤ g 1 4 ∧ g 1 4 ≤ 100 := E1
  have e : szM g = szX g := by
    funext p
    unfold szM szX
    rw [L2, L5, L6, L7, L8]
  rw [e, L2, S2, S3, S5]
theorem cm_told {w : Int} {x : Int} {g g1 : AG} (h1 : g1 = g ∧ x = rTold (g 8 2) (g 1 4) (g 1 5) (g 12 4) (g 18 0) (g 8 3) (g 8 4) (g 8 5) (g 8 6) w) : cm g g1 := by
  rw [h1.1]
  exact cm_r g
set_option maxHeartbeats 2000000 in
theorem st_told {w : Int} {x y : Int} {g g1 g2 : AG} (hR : Rel g) (h1 : g1 = g ∧ x = rTold (g 8 2) (g 1 4) (g 1 5) (g 12 4) (g 18 0) (g 8 3) (g 8 4) (g 8 5) (g 8 6) w) (h2 : g2 = g1 ∧ y = rTold (g1 21 0) (g1 21 1) (cntB (g1 25) (g1 21 1).toNat) (g1 21 14) (g1 21 18) (g1 21 10) (g1 21 11) (g1 21 12) (g1 21 13) w) : x = y ∧ Rel g2 := by
  obtain ⟨e1, hx⟩ := h1
  obtain ⟨e2, hy⟩ := h2
  rw [e1] at e2 hy
  rw [e2]
  refine ⟨?_, hR⟩
  rw [hx, hy]
  clear e1 e2 hx hy
  obtain ⟨⟨E1, E2, E3, E4, E5, E6, E7, E8⟩, KN, ⟨L1, L2, L3, L4, L5, L6, L7, L8⟩, ⟨S1, S2, S3, S4, S5⟩, ⟨G1, G2, G3, G4, G5⟩⟩ := id hR
  have E4 : g 21 1 = g 1 4 := E4
  have E5 : g 22 = g 2 := E5
  have E6 : g 23 = g 3 := E6
  have E7 : g 24 = g 4 := E7
  have E8 : g 25 = g 5 := E8
  have L2 : g 21 0 = g 8 2 := L2
  have L3 : g 21 10 = g 8 3 := L3
  have L4 : g 21 11 = g 8 4 := L4
  have L5 : g 21 12 = g 8 5 := L5
  have L6 : g 21 13 = g 8 6 := L6
  have L7 : g 28 = g 9 := L7
  have L8 : g 29 = g 10 := L8
  have S2 : g 21 14 = g 12 4 := S2
  have S3 : g 30 = g 13 := S3
  have S4 : g 31 = g 14 := S4
  have S5 : g 32 = g 15 := S5
  have G2 : g 21 18 = g 18 0 := G2
  have Ln : 2 ≤ g 8 2 ∧ g 8 2 ≤ 24 := L1.1
  have Ec : 0 ≤ g 1 4 ∧ g 1 4 ≤ 100 := E1
  have E2 : g 1 5 = cntB (g 5) (g 1 4).toNat := E2
  rw [L2, L3, L4, L5, L6, S2, G2, E4, E8, E2]
theorem cm_sheet {a : Int} {x : Int} {g g1 : AG} (h1 : x = rSheet (g 8 2) a ∧ g1 = (if 2 ≤ a ∧ a ≤ 24 then shtS g a else g)) : cm g g1 := by
  rw [h1.2]
  exact cm_i (cm_w (by decide) (cm_w (by decide) (cm_a (by decide) (cm_a (by decide) (cm_w (by decide) (cm_w (by decide) (cm_a (by decide) (cm_a (by decide) (cm_r g))))))))) (cm_r g)
set_option maxHeartbeats 2000000 in
theorem st_sheet {a : Int} {x y : Int} {g g1 g2 : AG} (hR : Rel g) (h1 : x = rSheet (g 8 2) a ∧ g1 = (if 2 ≤ a ∧ a ≤ 24 then shtS g a else g)) (h2 : y = rSheet (g1 21 0) a ∧ g2 = (if 2 ≤ a ∧ a ≤ 24 then modS g1 a else g1)) : x = y ∧ Rel g2 := by
  obtain ⟨⟨E1, E2, E3, E4, E5, E6, E7, E8⟩, KN, ⟨L1, L2, L3, L4, L5, L6, L7, L8⟩, ⟨S1, S2, S3, S4, S5⟩, ⟨G1, G2, G3, G4, G5⟩⟩ := id hR
  have E4 : g 21 1 = g 1 4 := E4
  have E5 : g 22 = g 2 := E5
  have E6 : g 23 = g 3 := E6
  have E7 : g 24 = g 4 := E7
  have E8 : g 25 = g 5 := E8
  have L2 : g 21 0 = g 8 2 := L2
  have L3 : g 21 10 = g 8 3 := L3
  have L4 : g 21 11 = g 8 4 := L4
  have L5 : g 21 12 = g 8 5 := L5
  have L6 : g 21 13 = g 8 6 := L6
  have L7 : g 28 = g 9 := L7
  have L8 : g 29 = g 10 := L8
  have S2 : g 21 14 = g 12 4 := S2
  have S3 : g 30 = g 13 := S3
  have S4 : g 31 = g 14 := S4
  have S5 : g 32 = g 15 := S5
  have G2 : g 21 18 = g 18 0 := G2
  have Ln : 2 ≤ g 8 2 ∧ g 8 2 ≤ 24 := L1.1
  have Ec : 0 ≤ g 1 4 ∧ g 1 4 ≤ 100 := E1
  have m := cm_sheet h1
  obtain ⟨hx, e1⟩ := h1
  obtain ⟨hy, e2⟩ := h2
  rw [m 21 (by omega)] at hy
  refine ⟨by rw [hx, hy, L2], ?_⟩
  by_cases c : 2 ≤ a ∧ a ≤ 24
  · rw [if_pos c] at e1 e2
    subst e1
    subst e2
    refine ⟨?_, ?_, ?_, ?_, hR.2.2.2.2⟩
    · show REye 0 0 (g 2) (g 3) (g 4) (g 5) 0 (g 22) (g 23) (g 24) (g 25)
      exact ⟨⟨by decide, by decide⟩, rfl, E3, rfl, E5, E6, E7, E8⟩
    · exact kn_new (g 6) (g 7) (g 26) (g 27)
    · show RLip a (g 8 3) (g 8 4) (g 8 5) (g 8 6) (fillU (g 9) 24 (fun _ => 0)) (fillU (g 10) 24 (fun _ => 0)) a (g 21 10) (g 21 11) (g 21 12) (g 21 13) (fillU (g 28) 24 (fun _ => 0)) (fillU (g 29) 24 (fun _ => 0))
      obtain ⟨l1, l2, l3, l4, l5, l6, l7⟩ := L1
      refine ⟨⟨c, l2, l3, l4, l5, fun j => ?_, fun j => ?_⟩, rfl, L3, L4, L5, L6, by rw [L7], by rw [L8]⟩
      · unfold fillU
        split
        · exact (⟨by decide, by decide⟩ : (-2000 : Int) ≤ 0 ∧ (0 : Int) ≤ 2000)
        · exact l6 j
      · unfold fillU
        split
        · exact (⟨by decide, by decide⟩ : (-10 : Int) ≤ 0 ∧ (0 : Int) ≤ 10)
        · exact l7 j
    · show RSet 0 (g 13) (g 14) (g 15) 0 (g 30) (g 31) (g 32)
      exact ⟨⟨⟨by decide, by decide⟩, S1.2.1, S1.2.2.1, S1.2.2.2.1, fun j h => absurd h (by omega)⟩, rfl, S3, S4, S5⟩
  · rw [if_neg c] at e1 e2
    subst e1
    subst e2
    exact hR
theorem cm_clear  {x : Int} {g g1 : AG} (h1 : x = g 1 4 ∧ g1 = eyeF g) : cm g g1 := by
  rw [h1.2]
  exact cm_w (by decide) (cm_w (by decide) (cm_a (by decide) (cm_a (by decide) (cm_r g))))
set_option maxHeartbeats 2000000 in
theorem st_clear  {x y : Int} {g g1 g2 : AG} (hR : Rel g) (h1 : x = g 1 4 ∧ g1 = eyeF g) (h2 : y = g1 21 1 ∧ g2 = modF g1) : x = y ∧ Rel g2 := by
  obtain ⟨⟨E1, E2, E3, E4, E5, E6, E7, E8⟩, KN, ⟨L1, L2, L3, L4, L5, L6, L7, L8⟩, ⟨S1, S2, S3, S4, S5⟩, ⟨G1, G2, G3, G4, G5⟩⟩ := id hR
  have E4 : g 21 1 = g 1 4 := E4
  have E5 : g 22 = g 2 := E5
  have E6 : g 23 = g 3 := E6
  have E7 : g 24 = g 4 := E7
  have E8 : g 25 = g 5 := E8
  have L2 : g 21 0 = g 8 2 := L2
  have L3 : g 21 10 = g 8 3 := L3
  have L4 : g 21 11 = g 8 4 := L4
  have L5 : g 21 12 = g 8 5 := L5
  have L6 : g 21 13 = g 8 6 := L6
  have L7 : g 28 = g 9 := L7
  have L8 : g 29 = g 10 := L8
  have S2 : g 21 14 = g 12 4 := S2
  have S3 : g 30 = g 13 := S3
  have S4 : g 31 = g 14 := S4
  have S5 : g 32 = g 15 := S5
  have G2 : g 21 18 = g 18 0 := G2
  have Ln : 2 ≤ g 8 2 ∧ g 8 2 ≤ 24 := L1.1
  have Ec : 0 ≤ g 1 4 ∧ g 1 4 ≤ 100 := E1
  have m := cm_clear h1
  obtain ⟨hx, e1⟩ := h1
  obtain ⟨hy, e2⟩ := h2
  rw [m 21 (by omega)] at hy
  refine ⟨by rw [hx, hy, E4], ?_⟩
  subst e1
  subst e2
  refine ⟨?_, ?_, hR.2.2.1, hR.2.2.2.1, hR.2.2.2.2⟩
  · show REye 0 0 (g 2) (g 3) (g 4) (g 5) 0 (g 22) (g 23) (g 24) (g 25)
    exact ⟨⟨by decide, by decide⟩, rfl, E3, rfl, E5, E6, E7, E8⟩
  · exact kn_new (g 6) (g 7) (g 26) (g 27)
theorem rRead_in {n c t p v x : Int} {F : Prop} (h : x = rRead n c t p v F) (hx : x = 0 ∨ x = 1) : (0 ≤ p ∧ p ≤ n - 1) ∧ (0 ≤ t ∧ t ≤ 39 ∧ -1000 ≤ v ∧ v ≤ 1000) ∧ c < 100 := by
  unfold rRead at h
  by_cases c1 : 0 ≤ p ∧ p ≤ n - 1
  · rw [if_neg (nnot c1)] at h
    by_cases c2 : 0 ≤ t ∧ t ≤ 39 ∧ -1000 ≤ v ∧ v ≤ 1000
    · rw [if_neg (nnot c2)] at h
      by_cases c3 : 100 ≤ c
      · rw [if_pos c3] at h
        omega
      · exact ⟨c1, c2, by omega⟩
    · rw [if_pos c2] at h
      omega
  · rw [if_pos c1] at h
    omega
theorem cntB_u (F : Nat → Int) (n : Nat) (x : Int) (hx : x = 0 ∨ x = 1) : cntB (fun j => if j = n then x else F j) (n + 1) = cntB F n + x := by
  have e := cntB_c (f := fun j => if j = n then x else F j) (f' := F) n (fun j hj => if_neg (by omega))
  show cntB (fun j => if j = n then x else F j) n + (if (if n = n then x else F n) = 0 then 0 else 1) = _
  rw [e, if_pos rfl]
  rcases hx with rfl | rfl
  · rfl
  · rfl
theorem cm_read {t p v : Int} {x : Int} {g g1 : AG} (h1 : x = rRead (g 8 2) (g 1 4) t p v (fitP (g 6) (g 7) (24 + t).toNat p.toNat v) ∧ g1 = (if x = 0 ∨ x = 1 then addG g t p v x else g)) : cm g g1 := by
  rw [h1.2]
  exact cm_i (cm_a (by decide) (cm_a (by decide) (cm_a (by decide) (cm_a (by decide) (cm_a (by decide) (cm_a (by decide) (cm_w (by decide) (cm_w (by decide) (cm_r g))))))))) (cm_r g)
set_option maxHeartbeats 2000000 in
theorem st_read {t p v : Int} {x y : Int} {g g1 g2 : AG} (hR : Rel g) (h1 : x = rRead (g 8 2) (g 1 4) t p v (fitP (g 6) (g 7) (24 + t).toNat p.toNat v) ∧ g1 = (if x = 0 ∨ x = 1 then addG g t p v x else g)) (h2 : y = rRead (g1 21 0) (g1 21 1) t p v (fitP (g1 26) (g1 27) t.toNat (40 + p).toNat v) ∧ g2 = (if y = 0 ∨ y = 1 then modA g1 t p v y else g1)) : x = y ∧ Rel g2 := by
  obtain ⟨⟨E1, E2, E3, E4, E5, E6, E7, E8⟩, KN, ⟨L1, L2, L3, L4, L5, L6, L7, L8⟩, ⟨S1, S2, S3, S4, S5⟩, ⟨G1, G2, G3, G4, G5⟩⟩ := id hR
  have E4 : g 21 1 = g 1 4 := E4
  have E5 : g 22 = g 2 := E5
  have E6 : g 23 = g 3 := E6
  have E7 : g 24 = g 4 := E7
  have E8 : g 25 = g 5 := E8
  have L2 : g 21 0 = g 8 2 := L2
  have L3 : g 21 10 = g 8 3 := L3
  have L4 : g 21 11 = g 8 4 := L4
  have L5 : g 21 12 = g 8 5 := L5
  have L6 : g 21 13 = g 8 6 := L6
  have L7 : g 28 = g 9 := L7
  have L8 : g 29 = g 10 := L8
  have S2 : g 21 14 = g 12 4 := S2
  have S3 : g 30 = g 13 := S3
  have S4 : g 31 = g 14 := S4
  have S5 : g 32 = g 15 := S5
  have G2 : g 21 18 = g 18 0 := G2
  have Ln : 2 ≤ g 8 2 ∧ g 8 2 ≤ 24 := L1.1
  have Ec : 0 ≤ g 1 4 ∧ g 1 4 ≤ 100 := E1
  have m := cm_read h1
  obtain ⟨hx, e1⟩ := h1
  obtain ⟨hy, e2⟩ := h2
  rw [m 21 (by omega), m 26 (by omega), m 27 (by omega), L2, E4] at hy
  have xy : x = y := by
    rw [hx, hy]
    unfold rRead
    by_cases c1 : 0 ≤ p ∧ p ≤ g 8 2 - 1
    · rw [if_neg (nnot c1), if_neg (nnot c1)]
      by_cases c2 : 0 ≤ t ∧ t ≤ 39 ∧ -1000 ≤ v ∧ v ≤ 1000
      · rw [if_neg (nnot c2), if_neg (nnot c2)]
        have q := kn_fit KN (a := (24 + t).toNat) (b := p.toNat) (by omega) (by omega) v
        rw [sg_t c2.1 c2.2.1, sg_p c1.1 (by omega)] at q
        rw [cif_c q]
      · rw [if_pos c2, if_pos c2]
    · rw [if_pos c1, if_pos c1]
  subst xy
  refine ⟨rfl, ?_⟩
  by_cases c : x = 0 ∨ x = 1
  · rw [if_pos c] at e1 e2
    obtain ⟨r1, r2, r3⟩ := rRead_in hx c
    subst e1
    subst e2
    refine ⟨?_, ?_, hR.2.2.1, hR.2.2.2.1, hR.2.2.2.2⟩
    · unfold rE
      simp only [modA, addG, modK, setK, aset_ap, row_ap, reduceIte, Nat.reduceEqDiff]
      rw [E4, E5, E6, E7, E8]
      refine ⟨⟨by omega, by omega⟩, ?_, fun j => ?_, rfl, rfl, rfl, rfl, rfl⟩
      · have E2 : g 1 5 = cntB (g 5) (g 1 4).toNat := E2
        rw [show (g 1 4 + 1).toNat = (g 1 4).toNat + 1 by omega, cntB_u _ _ _ c, E2]
      · dsimp only
        split
        · exact c
        · exact E3 j
    · unfold rK
      simp only [modA, addG, modK, setK, aset_ap, row_ap, reduceIte, Nat.reduceEqDiff]
      have q := kn_add KN (a := (24 + t).toNat) (b := p.toNat) (by omega) (by omega) v
      rw [sg_t r2.1 r2.2.1, sg_p r1.1 (by omega)] at q
      exact q
  · rw [if_neg c] at e1 e2
    subst e1
    subst e2
    exact hR
theorem cm_take  {x : Int} {g g1 : AG} (h1 : x = cif (takeP (g 8 2).toNat (fun p => g 6 p = g 6 0) (fun p => nrm (g 7 0 - g 7 p))) 1 (-5) ∧ g1 = (if x = 1 then row g 9 (fillU (g 9) (g 8 2).toNat (fun p => nrm (g 7 0 - g 7 p))) else g)) : cm g g1 := by
  rw [h1.2]
  exact cm_i (cm_w (by decide) (cm_r g)) (cm_r g)
set_option maxHeartbeats 2000000 in
theorem st_take  {x y : Int} {g g1 g2 : AG} (hR : Rel g) (h1 : x = cif (takeP (g 8 2).toNat (fun p => g 6 p = g 6 0) (fun p => nrm (g 7 0 - g 7 p))) 1 (-5) ∧ g1 = (if x = 1 then row g 9 (fillU (g 9) (g 8 2).toNat (fun p => nrm (g 7 0 - g 7 p))) else g)) (h2 : y = cif (takeP (g1 21 0).toNat (fun p => g1 26 (40 + p) = g1 26 40) (fun p => nrm (g1 27 40 - g1 27 (40 + p)))) 1 (-5) ∧ g2 = (if y = 1 then row g1 28 (fillU (g1 28) (g1 21 0).toNat (fun p => nrm (g1 27 40 - g1 27 (40 + p)))) else g1)) : x = y ∧ Rel g2 := by
  obtain ⟨⟨E1, E2, E3, E4, E5, E6, E7, E8⟩, KN, ⟨L1, L2, L3, L4, L5, L6, L7, L8⟩, ⟨S1, S2, S3, S4, S5⟩, ⟨G1, G2, G3, G4, G5⟩⟩ := id hR
  have E4 : g 21 1 = g 1 4 := E4
  have E5 : g 22 = g 2 := E5
  have E6 : g 23 = g 3 := E6
  have E7 : g 24 = g 4 := E7
  have E8 : g 25 = g 5 := E8
  have L2 : g 21 0 = g 8 2 := L2
  have L3 : g 21 10 = g 8 3 := L3
  have L4 : g 21 11 = g 8 4 := L4
  have L5 : g 21 12 = g 8 5 := L5
  have L6 : g 21 13 = g 8 6 := L6
  have L7 : g 28 = g 9 := L7
  have L8 : g 29 = g 10 := L8
  have S2 : g 21 14 = g 12 4 := S2
  have S3 : g 30 = g 13 := S3
  have S4 : g 31 = g 14 := S4
  have S5 : g 32 = g 15 := S5
  have G2 : g 21 18 = g 18 0 := G2
  have Ln : 2 ≤ g 8 2 ∧ g 8 2 ≤ 24 := L1.1
  have Ec : 0 ≤ g 1 4 ∧ g 1 4 ≤ 100 := E1
  have m := cm_take h1
  obtain ⟨hx, e1⟩ := h1
  obtain ⟨hy, e2⟩ := h2
  rw [m 21 (by omega), m 26 (by omega), m 27 (by omega), L2] at hy
  rw [m 21 (by omega), m 27 (by omega), m 28 (by omega), L2, L7] at e2
  have key : ∀ p : Nat, p < (g 8 2).toNat → (g 6 p = g 6 0 ↔ g 26 (40 + p) = g 26 40) ∧ g 7 0 - g 7 p = g 27 40 - g 27 (40 + p) := by
    intro p hp
    have q := kn_eq KN (a := p) (b := 0) (by omega) (by omega)
    have d1 : g 27 (sg p) = g 7 p := (KN p (by omega)).2.2
    have d0 : g 27 40 = g 7 0 := (KN 0 (by omega)).2.2
    have q : g 26 (sg p) = g 26 40 ↔ g 6 p = g 6 0 := q
    rw [sg_n (by omega)] at q d1
    exact ⟨q.symm, by rw [d0, d1]⟩
  have xy : x = y := by
    rw [hx, hy]
    apply cif_c
    constructor
    · intro z p hp
      have k := key p hp
      have zz := z p hp
      dsimp only at zz ⊢
      rw [← k.2]
      exact ⟨k.1.mp zz.1, zz.2⟩
    · intro z p hp
      have k := key p hp
      have zz := z p hp
      dsimp only at zz ⊢
      rw [k.2]
      exact ⟨k.1.mpr zz.1, zz.2⟩
  subst xy
  refine ⟨rfl, ?_⟩
  by_cases c : x = 1
  · rw [if_pos c] at e1 e2
    have ef : fillU (g 9) (g 8 2).toNat (fun p => nrm (g 27 40 - g 27 (40 + p))) = fillU (g 9) (g 8 2).toNat (fun p => nrm (g 7 0 - g 7 p)) := fillU_c (fun p hp => by rw [(key p hp).2])
    rw [ef] at e2
    have tp : takeP (g 8 2).toNat (fun p => g 6 p = g 6 0) (fun p => nrm (g 7 0 - g 7 p)) := by
      apply Classical.byContradiction
      intro z
      rw [cif_f z] at hx
      omega
    subst e1
    subst e2
    refine ⟨hR.1, hR.2.1, ?_, hR.2.2.2.1, hR.2.2.2.2⟩
    show RLip (g 8 2) (g 8 3) (g 8 4) (g 8 5) (g 8 6) (fillU (g 9) (g 8 2).toNat (fun p => nrm (g 7 0 - g 7 p))) (g 10) (g 21 0) (g 21 10) (g 21 11) (g 21 12) (g 21 13) (fillU (g 9) (g 8 2).toNat (fun p => nrm (g 7 0 - g 7 p))) (g 29)
    obtain ⟨l1, l2, l3, l4, l5, l6, l7⟩ := L1
    refine ⟨⟨l1, l2, l3, l4, l5, fun j => ?_, l7⟩, L2, L3, L4, L5, L6, rfl, L8⟩
    unfold fillU
    split
    · rename_i q
      exact (tp j q).2
    · exact l6 j
  · rw [if_neg c] at e1 e2
    subst e1
    subst e2
    exact hR
theorem rLaws_1 {S : Nat → Int} {n a b x : Int} (h : x = rLaws S n a b) (hx : x = 1) : (0 ≤ a ∧ a ≤ 20) ∧ (0 ≤ b ∧ b ≤ 40) := by
  unfold rLaws at h
  by_cases c : 0 ≤ a ∧ a ≤ 20 ∧ 0 ≤ b ∧ b ≤ 40
  · omega
  · rw [if_neg c] at h
    omega
theorem rSpread_1 {a b x : Int} (h : x = rSpread a b) (hx : x = 1) : (1 ≤ a ∧ a ≤ 20) ∧ (-5 ≤ b ∧ b ≤ 5) := by
  unfold rSpread at h
  by_cases c : 1 ≤ a ∧ a ≤ 20 ∧ -5 ≤ b ∧ b ≤ 5
  · omega
  · rw [if_neg c] at h
    omega
theorem rBase_1 {n p v x : Int} (h : x = rBase n p v) (hx : x = 1) : -2000 ≤ v ∧ v ≤ 2000 := by
  unfold rBase at h
  by_cases c : 0 ≤ p ∧ p ≤ n - 1
  · rw [if_neg (nnot c)] at h
    by_cases c2 : -2000 ≤ v ∧ v ≤ 2000
    · exact c2
    · rw [if_neg c2] at h
      omega
  · rw [if_pos c] at h
    omega
theorem rSet_1 {S : Nat → Int} {n nx bd p v x : Int} (h : x = rSet S n nx bd p v) (hx : x = 1) : -10 ≤ v ∧ v ≤ 10 := by
  unfold rSet at h
  by_cases c : 0 ≤ p ∧ p ≤ n - 1
  · rw [if_neg (nnot c)] at h
    by_cases c2 : -10 ≤ v ∧ v ≤ 10
    · exact c2
    · rw [if_neg c2] at h
      omega
  · rw [if_pos c] at h
    omega
theorem cm_laws {a b : Int} {x : Int} {g g1 : AG} (h1 : x = rLaws (g 10) (g 8 2) a b ∧ g1 = (if x = 1 then aset (aset g 8 3 a) 8 4 b else g)) : cm g g1 := by
  rw [h1.2]
  exact cm_i (cm_a (by decide) (cm_a (by decide) (cm_r g))) (cm_r g)
set_option maxHeartbeats 2000000 in
theorem st_laws {a b : Int} {x y : Int} {g g1 g2 : AG} (hR : Rel g) (h1 : x = rLaws (g 10) (g 8 2) a b ∧ g1 = (if x = 1 then aset (aset g 8 3 a) 8 4 b else g)) (h2 : y = rLaws (g1 29) (g1 21 0) a b ∧ g2 = (if y = 1 then aset (aset g1 21 10 a) 21 11 b else g1)) : x = y ∧ Rel g2 := by
  obtain ⟨⟨E1, E2, E3, E4, E5, E6, E7, E8⟩, KN, ⟨L1, L2, L3, L4, L5, L6, L7, L8⟩, ⟨S1, S2, S3, S4, S5⟩, ⟨G1, G2, G3, G4, G5⟩⟩ := id hR
  have E4 : g 21 1 = g 1 4 := E4
  have E5 : g 22 = g 2 := E5
  have E6 : g 23 = g 3 := E6
  have E7 : g 24 = g 4 := E7
  have E8 : g 25 = g 5 := E8
  have L2 : g 21 0 = g 8 2 := L2
  have L3 : g 21 10 = g 8 3 := L3
  have L4 : g 21 11 = g 8 4 := L4
  have L5 : g 21 12 = g 8 5 := L5
  have L6 : g 21 13 = g 8 6 := L6
  have L7 : g 28 = g 9 := L7
  have L8 : g 29 = g 10 := L8
  have S2 : g 21 14 = g 12 4 := S2
  have S3 : g 30 = g 13 := S3
  have S4 : g 31 = g 14 := S4
  have S5 : g 32 = g 15 := S5
  have G2 : g 21 18 = g 18 0 := G2
  have Ln : 2 ≤ g 8 2 ∧ g 8 2 ≤ 24 := L1.1
  have Ec : 0 ≤ g 1 4 ∧ g 1 4 ≤ 100 := E1
  have m := cm_laws h1
  obtain ⟨hx, e1⟩ := h1
  obtain ⟨hy, e2⟩ := h2
  rw [m 21 (by omega), m 29 (by omega)] at hy
  have xy : x = y := by rw [hx, hy, L2, L8]
  subst xy
  refine ⟨rfl, ?_⟩
  by_cases c : x = 1
  · rw [if_pos c] at e1 e2
    obtain ⟨l1, l2, l3, l4, l5, l6, l7⟩ := L1
    subst e1
    subst e2
    refine ⟨hR.1, hR.2.1, ?_, hR.2.2.2.1, hR.2.2.2.2⟩
    have r := rLaws_1 hx c
    exact ⟨⟨l1, r.1, r.2, l4, l5, l6, l7⟩, L2, rfl, rfl, L5, L6, L7, L8⟩
  · rw [if_neg c] at e1 e2
    subst e1
    subst e2
    exact hR
theorem cm_spread {a b : Int} {x : Int} {g g1 : AG} (h1 : x = rSpread a b ∧ g1 = (if x = 1 then aset (aset g 8 5 a) 8 6 b else g)) : cm g g1 := by
  rw [h1.2]
  exact cm_i (cm_a (by decide) (cm_a (by decide) (cm_r g))) (cm_r g)
set_option maxHeartbeats 2000000 in
theorem st_spread {a b : Int} {x y : Int} {g g1 g2 : AG} (hR : Rel g) (h1 : x = rSpread a b ∧ g1 = (if x = 1 then aset (aset g 8 5 a) 8 6 b else g)) (h2 : y = rSpread a b ∧ g2 = (if y = 1 then aset (aset g1 21 12 a) 21 13 b else g1)) : x = y ∧ Rel g2 := by
  obtain ⟨⟨E1, E2, E3, E4, E5, E6, E7, E8⟩, KN, ⟨L1, L2, L3, L4, L5, L6, L7, L8⟩, ⟨S1, S2, S3, S4, S5⟩, ⟨G1, G2, G3, G4, G5⟩⟩ := id hR
  have E4 : g 21 1 = g 1 4 := E4
  have E5 : g 22 = g 2 := E5
  have E6 : g 23 = g 3 := E6
  have E7 : g 24 = g 4 := E7
  have E8 : g 25 = g 5 := E8
  have L2 : g 21 0 = g 8 2 := L2
  have L3 : g 21 10 = g 8 3 := L3
  have L4 : g 21 11 = g 8 4 := L4
  have L5 : g 21 12 = g 8 5 := L5
  have L6 : g 21 13 = g 8 6 := L6
  have L7 : g 28 = g 9 := L7
  have L8 : g 29 = g 10 := L8
  have S2 : g 21 14 = g 12 4 := S2
  have S3 : g 30 = g 13 := S3
  have S4 : g 31 = g 14 := S4
  have S5 : g 32 = g 15 := S5
  have G2 : g 21 18 = g 18 0 := G2
  have Ln : 2 ≤ g 8 2 ∧ g 8 2 ≤ 24 := L1.1
  have Ec : 0 ≤ g 1 4 ∧ g 1 4 ≤ 100 := E1
  have m := cm_spread h1
  obtain ⟨hx, e1⟩ := h1
  obtain ⟨hy, e2⟩ := h2
  have xy : x = y := by rw [hx, hy]
  subst xy
  refine ⟨rfl, ?_⟩
  by_cases c : x = 1
  · rw [if_pos c] at e1 e2
    obtain ⟨l1, l2, l3, l4, l5, l6, l7⟩ := L1
    subst e1
    subst e2
    refine ⟨hR.1, hR.2.1, ?_, hR.2.2.2.1, hR.2.2.2.2⟩
    have r := rSpread_1 hx c
    exact ⟨⟨l1, l2, l3, r.1, r.2, l6, l7⟩, L2, L3, L4, rfl, rfl, L7, L8⟩
  · rw [if_neg c] at e1 e2
    subst e1
    subst e2
    exact hR
theorem cm_base {p v : Int} {x : Int} {g g1 : AG} (h1 : x = rBase (g 8 2) p v ∧ g1 = (if x = 1 then aset g 9 p.toNat v else g)) : cm g g1 := by
  rw [h1.2]
  exact cm_i (cm_a (by decide) (cm_r g)) (cm_r g)
set_option maxHeartbeats 2000000 in
theorem st_base {p v : Int} {x y : Int} {g g1 g2 : AG} (hR : Rel g) (h1 : x = rBase (g 8 2) p v ∧ g1 = (if x = 1 then aset g 9 p.toNat v else g)) (h2 : y = rBase (g1 21 0) p v ∧ g2 = (if y = 1 then aset g1 28 p.toNat v else g1)) : x = y ∧ Rel g2 := by
  obtain ⟨⟨E1, E2, E3, E4, E5, E6, E7, E8⟩, KN, ⟨L1, L2, L3, L4, L5, L6, L7, L8⟩, ⟨S1, S2, S3, S4, S5⟩, ⟨G1, G2, G3, G4, G5⟩⟩ := id hR
  have E4 : g 21 1 = g 1 4 := E4
  have E5 : g 22 = g 2 := E5
  have E6 : g 23 = g 3 := E6
  have E7 : g 24 = g 4 := E7
  have E8 : g 25 = g 5 := E8
  have L2 : g 21 0 = g 8 2 := L2
  have L3 : g 21 10 = g 8 3 := L3
  have L4 : g 21 11 = g 8 4 := L4
  have L5 : g 21 12 = g 8 5 := L5
  have L6 : g 21 13 = g 8 6 := L6
  have L7 : g 28 = g 9 := L7
  have L8 : g 29 = g 10 := L8
  have S2 : g 21 14 = g 12 4 := S2
  have S3 : g 30 = g 13 := S3
  have S4 : g 31 = g 14 := S4
  have S5 : g 32 = g 15 := S5
  have G2 : g 21 18 = g 18 0 := G2
  have Ln : 2 ≤ g 8 2 ∧ g 8 2 ≤ 24 := L1.1
  have Ec : 0 ≤ g 1 4 ∧ g 1 4 ≤ 100 := E1
  have m := cm_base h1
  obtain ⟨hx, e1⟩ := h1
  obtain ⟨hy, e2⟩ := h2
  rw [m 21 (by omega)] at hy
  have xy : x = y := by rw [hx, hy, L2]
  subst xy
  refine ⟨rfl, ?_⟩
  by_cases c : x = 1
  · rw [if_pos c] at e1 e2
    obtain ⟨l1, l2, l3, l4, l5, l6, l7⟩ := L1
    subst e1
    subst e2
    refine ⟨hR.1, hR.2.1, ?_, hR.2.2.2.1, hR.2.2.2.2⟩
    have r := rBase_1 hx c
    unfold rL
    rw [show aset (aset g 9 p.toNat v) 28 p.toNat v 9 = fun j => if j = p.toNat then v else g 9 j by rw [aset_kn _ _ _ (by decide), aset_at], show aset (aset g 9 p.toNat v) 28 p.toNat v 28 = fun j => if j = p.toNat then v else g 28 j by rw [aset_at, aset_kn _ _ _ (by decide)], L7]
    refine ⟨⟨l1, l2, l3, l4, l5, fun j => ?_, l7⟩, L2, L3, L4, L5, L6, rfl, L8⟩
    dsimp only
    split
    · exact r
    · exact l6 j
  · rw [if_neg c] at e1 e2
    subst e1
    subst e2
    exact hR
theorem cm_set {p v : Int} {x : Int} {g g1 : AG} (h1 : x = rSet (g 10) (g 8 2) (g 8 3) (g 8 4) p v ∧ g1 = (if x = 1 then aset g 10 p.toNat v else g)) : cm g g1 := by
  rw [h1.2]
  exact cm_i (cm_a (by decide) (cm_r g)) (cm_r g)
set_option maxHeartbeats 2000000 in
theorem st_set {p v : Int} {x y : Int} {g g1 g2 : AG} (hR : Rel g) (h1 : x = rSet (g 10) (g 8 2) (g 8 3) (g 8 4) p v ∧ g1 = (if x = 1 then aset g 10 p.toNat v else g)) (h2 : y = rSet (g1 29) (g1 21 0) (g1 21 10) (g1 21 11) p v ∧ g2 = (if y = 1 then aset g1 29 p.toNat v else g1)) : x = y ∧ Rel g2 := by
  obtain ⟨⟨E1, E2, E3, E4, E5, E6, E7, E8⟩, KN, ⟨L1, L2, L3, L4, L5, L6, L7, L8⟩, ⟨S1, S2, S3, S4, S5⟩, ⟨G1, G2, G3, G4, G5⟩⟩ := id hR
  have E4 : g 21 1 = g 1 4 := E4
  have E5 : g 22 = g 2 := E5
  have E6 : g 23 = g 3 := E6
  have E7 : g 24 = g 4 := E7
  have E8 : g 25 = g 5 := E8
  have L2 : g 21 0 = g 8 2 := L2
  have L3 : g 21 10 = g 8 3 := L3
  have L4 : g 21 11 = g 8 4 := L4
  have L5 : g 21 12 = g 8 5 := L5
  have L6 : g 21 13 = g 8 6 := L6
  have L7 : g 28 = g 9 := L7
  have L8 : g 29 = g 10 := L8
  have S2 : g 21 14 = g 12 4 := S2
  have S3 : g 30 = g 13 := S3
  have S4 : g 31 = g 14 := S4
  have S5 : g 32 = g 15 := S5
  have G2 : g 21 18 = g 18 0 := G2
  have Ln : 2 ≤ g 8 2 ∧ g 8 2 ≤ 24 := L1.1
  have Ec : 0 ≤ g 1 4 ∧ g 1 4 ≤ 100 := E1
  have m := cm_set h1
  obtain ⟨hx, e1⟩ := h1
  obtain ⟨hy, e2⟩ := h2
  rw [m 21 (by omega), m 29 (by omega)] at hy
  have xy : x = y := by rw [hx, hy, L2, L3, L4, L8]
  subst xy
  refine ⟨rfl, ?_⟩
  by_cases c : x = 1
  · rw [if_pos c] at e1 e2
    obtain ⟨l1, l2, l3, l4, l5, l6, l7⟩ := L1
    subst e1
    subst e2
    refine ⟨hR.1, hR.2.1, ?_, hR.2.2.2.1, hR.2.2.2.2⟩
    have r := rSet_1 hx c
    unfold rL
    rw [show aset (aset g 10 p.toNat v) 29 p.toNat v 10 = fun j => if j = p.toNat then v else g 10 j by rw [aset_kn _ _ _ (by decide), aset_at], show aset (aset g 10 p.toNat v) 29 p.toNat v 29 = fun j => if j = p.toNat then v else g 29 j by rw [aset_at, aset_kn _ _ _ (by decide)], L8]
    refine ⟨⟨l1, l2, l3, l4, l5, l6, fun j => ?_⟩, L2, L3, L4, L5, L6, L7, rfl⟩
    dsimp only
    split
    · exact r
    · exact l7 j
  · rw [if_neg c] at e1 e2
    subst e1
    subst e2
    exact hR
theorem rKind_0 {c w v b x : Int} (h : x = rKind c w v b) (hx : 0 ≤ x) : (1 ≤ w ∧ w ≤ 24) ∧ (1 ≤ v ∧ v ≤ 1000) ∧ (0 ≤ b ∧ b ≤ 2000) ∧ c < 4 := by
  unfold rKind at h
  by_cases q : 1 ≤ w ∧ w ≤ 24 ∧ 1 ≤ v ∧ v ≤ 1000 ∧ 0 ≤ b ∧ b ≤ 2000
  · rw [if_pos q] at h
    by_cases q2 : 4 ≤ c
    · rw [if_pos q2] at h
      omega
    · omega
  · rw [if_neg q] at h
    omega
theorem cm_kind {w v b : Int} {x : Int} {g g1 : AG} (h1 : x = rKind (g 12 4) w v b ∧ g1 = (if 0 ≤ x then setK g w v b else g)) : cm g g1 := by
  rw [h1.2]
  exact cm_i (cm_a (by decide) (cm_a (by decide) (cm_a (by decide) (cm_a (by decide) (cm_r g))))) (cm_r g)
set_option maxHeartbeats 2000000 in
theorem st_kind {w v b : Int} {x y : Int} {g g1 g2 : AG} (hR : Rel g) (h1 : x = rKind (g 12 4) w v b ∧ g1 = (if 0 ≤ x then setK g w v b else g)) (h2 : y = rKind (g1 21 14) w v b ∧ g2 = (if 0 ≤ y then modK g1 w v b else g1)) : x = y ∧ Rel g2 := by
  obtain ⟨⟨E1, E2, E3, E4, E5, E6, E7, E8⟩, KN, ⟨L1, L2, L3, L4, L5, L6, L7, L8⟩, ⟨S1, S2, S3, S4, S5⟩, ⟨G1, G2, G3, G4, G5⟩⟩ := id hR
  have E4 : g 21 1 = g 1 4 := E4
  have E5 : g 22 = g 2 := E5
  have E6 : g 23 = g 3 := E6
  have E7 : g 24 = g 4 := E7
  have E8 : g 25 = g 5 := E8
  have L2 : g 21 0 = g 8 2 := L2
  have L3 : g 21 10 = g 8 3 := L3
  have L4 : g 21 11 = g 8 4 := L4
  have L5 : g 21 12 = g 8 5 := L5
  have L6 : g 21 13 = g 8 6 := L6
  have L7 : g 28 = g 9 := L7
  have L8 : g 29 = g 10 := L8
  have S2 : g 21 14 = g 12 4 := S2
  have S3 : g 30 = g 13 := S3
  have S4 : g 31 = g 14 := S4
  have S5 : g 32 = g 15 := S5
  have G2 : g 21 18 = g 18 0 := G2
  have Ln : 2 ≤ g 8 2 ∧ g 8 2 ≤ 24 := L1.1
  have Ec : 0 ≤ g 1 4 ∧ g 1 4 ≤ 100 := E1
  have m := cm_kind h1
  obtain ⟨hx, e1⟩ := h1
  obtain ⟨hy, e2⟩ := h2
  rw [m 21 (by omega)] at hy
  have xy : x = y := by rw [hx, hy, S2]
  subst xy
  refine ⟨rfl, ?_⟩
  by_cases c : 0 ≤ x
  · rw [if_pos c] at e1 e2
    obtain ⟨r1, r2, r3, r4⟩ := rKind_0 hx c
    subst e1
    subst e2
    refine ⟨hR.1, hR.2.1, hR.2.2.1, ?_, hR.2.2.2.2⟩
    unfold rS
    simp only [modA, addG, modK, setK, aset_ap, row_ap, reduceIte, Nat.reduceEqDiff]
    rw [S2, S3, S4, S5]
    obtain ⟨⟨s0, s1⟩, s2, s3, s4, s5⟩ := S1
    refine ⟨⟨⟨by omega, by omega⟩, fun j => ?_, fun j => ?_, fun j => ?_, fun j hj => ?_⟩, rfl, rfl, rfl, rfl⟩
    · dsimp only
      split
      · omega
      · exact s2 j
    · dsimp only
      split
      · omega
      · exact s3 j
    · dsimp only
      split
      · omega
      · exact s4 j
    · dsimp only
      split
      · omega
      · exact s5 j (by omega)
  · rw [if_neg c] at e1 e2
    subst e1
    subst e2
    exact hR
theorem cm_cut  {x : Int} {g g1 : AG} (h1 : ∃ A B : Nat → Int, cutT (g 8 2) (g 12 4).toNat (g 13) (g 14) (g 15) (szX g) A B ∧ x = A 0 ∧ g1 = row (row g 16 A) 17 (drU B (g 13) (g 8 2).toNat)) : cm g g1 := by
  obtain ⟨A, B, -, -, e1⟩ := h1
  rw [e1]
  exact cm_w (by decide) (cm_w (by decide) (cm_r g))
set_option maxHeartbeats 2000000 in
theorem st_cut  {x y : Int} {g g1 g2 : AG} (hR : Rel g) (h1 : ∃ A B : Nat → Int, cutT (g 8 2) (g 12 4).toNat (g 13) (g 14) (g 15) (szX g) A B ∧ x = A 0 ∧ g1 = row (row g 16 A) 17 (drU B (g 13) (g 8 2).toNat)) (h2 : ∃ A B : Nat → Int, cutT (g1 21 0) (g1 21 14).toNat (g1 30) (g1 31) (g1 32) (szM g1) A B ∧ y = A 0 ∧ g2 = row (row g1 35 A) 36 B) : x = y ∧ Rel g2 := by
  obtain ⟨⟨E1, E2, E3, E4, E5, E6, E7, E8⟩, KN, ⟨L1, L2, L3, L4, L5, L6, L7, L8⟩, ⟨S1, S2, S3, S4, S5⟩, ⟨G1, G2, G3, G4, G5⟩⟩ := id hR
  have E4 : g 21 1 = g 1 4 := E4
  have E5 : g 22 = g 2 := E5
  have E6 : g 23 = g 3 := E6
  have E7 : g 24 = g 4 := E7
  have E8 : g 25 = g 5 := E8
  have L2 : g 21 0 = g 8 2 := L2
  have L3 : g 21 10 = g 8 3 := L3
  have L4 : g 21 11 = g 8 4 := L4
  have L5 : g 21 12 = g 8 5 := L5
  have L6 : g 21 13 = g 8 6 := L6
  have L7 : g 28 = g 9 := L7
  have L8 : g 29 = g 10 := L8
  have S2 : g 21 14 = g 12 4 := S2
  have S3 : g 30 = g 13 := S3
  have S4 : g 31 = g 14 := S4
  have S5 : g 32 = g 15 := S5
  have G2 : g 21 18 = g 18 0 := G2
  have Ln : 2 ≤ g 8 2 ∧ g 8 2 ≤ 24 := L1.1
  have Ec : 0 ≤ g 1 4 ∧ g 1 4 ≤ 100 := E1
  have es : szM g = szX g := by
    funext p
    unfold szM szX
    rw [L2, L5, L6, L7, L8]
  obtain ⟨A, B, t1, hx, e1⟩ := h1
  obtain ⟨A', B', t2, hy, e2⟩ := h2
  subst e1
  have t2 : cutT (g 21 0) (g 21 14).toNat (g 30) (g 31) (g 32) (szM g) A' B' := t2
  rw [L2, S2, S3, S4, S5, es] at t2
  have q := (cutT_one (fun k hk => S1.2.2.2.2 k (by omega)) t1 t2 (g 8 2).toNat 0 (by omega)).1
  refine ⟨by rw [hx, hy, q], ?_⟩
  subst e2
  exact ⟨hR.1, hR.2.1, hR.2.2.1, hR.2.2.2.1, hR.2.2.2.2⟩
theorem cm_cutAt {p : Int} {x : Int} {g g1 : AG} (h1 : (¬ (0 ≤ p ∧ p ≤ g 8 2 - 1) ∧ x = -1 ∧ g1 = g) ∨ ((0 ≤ p ∧ p ≤ g 8 2 - 1) ∧ ∃ A B : Nat → Int, cutT (g 8 2) (g 12 4).toNat (g 13) (g 14) (g 15) (szX g) A B ∧ x = drU B (g 13) (g 8 2).toNat p.toNat ∧ g1 = row (row g 16 A) 17 (drU B (g 13) (g 8 2).toNat))) : cm g g1 := by
  rcases h1 with ⟨-, -, e1⟩ | ⟨-, A, B, -, -, e1⟩
  · rw [e1]
    exact cm_r g
  · rw [e1]
    exact cm_w (by decide) (cm_w (by decide) (cm_r g))
set_option maxHeartbeats 2000000 in
theorem st_cutAt {p : Int} {x y : Int} {g g1 g2 : AG} (hR : Rel g) (h1 : (¬ (0 ≤ p ∧ p ≤ g 8 2 - 1) ∧ x = -1 ∧ g1 = g) ∨ ((0 ≤ p ∧ p ≤ g 8 2 - 1) ∧ ∃ A B : Nat → Int, cutT (g 8 2) (g 12 4).toNat (g 13) (g 14) (g 15) (szX g) A B ∧ x = drU B (g 13) (g 8 2).toNat p.toNat ∧ g1 = row (row g 16 A) 17 (drU B (g 13) (g 8 2).toNat))) (h2 : (¬ (0 ≤ p ∧ p ≤ g1 21 0 - 1) ∧ y = -1 ∧ g2 = g1) ∨ ((0 ≤ p ∧ p ≤ g1 21 0 - 1) ∧ ∃ A B : Nat → Int, cutT (g1 21 0) (g1 21 14).toNat (g1 30) (g1 31) (g1 32) (szM g1) A B ∧ y = drU B (g1 30) (g1 21 0).toNat p.toNat ∧ g2 = row (row g1 35 A) 36 B)) : x = y ∧ Rel g2 := by
  obtain ⟨⟨E1, E2, E3, E4, E5, E6, E7, E8⟩, KN, ⟨L1, L2, L3, L4, L5, L6, L7, L8⟩, ⟨S1, S2, S3, S4, S5⟩, ⟨G1, G2, G3, G4, G5⟩⟩ := id hR
  have E4 : g 21 1 = g 1 4 := E4
  have E5 : g 22 = g 2 := E5
  have E6 : g 23 = g 3 := E6
  have E7 : g 24 = g 4 := E7
  have E8 : g 25 = g 5 := E8
  have L2 : g 21 0 = g 8 2 := L2
  have L3 : g 21 10 = g 8 3 := L3
  have L4 : g 21 11 = g 8 4 := L4
  have L5 : g 21 12 = g 8 5 := L5
  have L6 : g 21 13 = g 8 6 := L6
  have L7 : g 28 = g 9 := L7
  have L8 : g 29 = g 10 := L8
  have S2 : g 21 14 = g 12 4 := S2
  have S3 : g 30 = g 13 := S3
  have S4 : g 31 = g 14 := S4
  have S5 : g 32 = g 15 := S5
  have G2 : g 21 18 = g 18 0 := G2
  have Ln : 2 ≤ g 8 2 ∧ g 8 2 ≤ 24 := L1.1
  have Ec : 0 ≤ g 1 4 ∧ g 1 4 ≤ 100 := E1
  have es : szM g = szX g := by
    funext p
    unfold szM szX
    rw [L2, L5, L6, L7, L8]
  have m := cm_cutAt h1
  rw [m 21 (by omega), m 30 (by omega), m 31 (by omega), m 32 (by omega), L2, S2, S3, S4, S5] at h2
  rcases h1 with ⟨c, hx, e1⟩ | ⟨c, A, B, t1, hx, e1⟩
  · rcases h2 with ⟨d, hy, e2⟩ | ⟨d, -⟩
    · subst e1
      subst e2
      exact ⟨by rw [hx, hy], hR⟩
    · exact absurd d c
  · rcases h2 with ⟨d, -⟩ | ⟨d, A', B', t2, hy, e2⟩
    · exact absurd c d
    · subst e1
      have t2 : cutT (g 8 2) (g 12 4).toNat (g 13) (g 14) (g 15) (szM g) A' B' := t2
      rw [es] at t2
      have q : ∀ j, j < (g 8 2).toNat → B j = B' j := fun j hj => (cutT_one (fun k hk => S1.2.2.2.2 k (by omega)) t1 t2 ((g 8 2).toNat - j) j (by omega)).2 (by omega)
      refine ⟨by rw [hx, hy]; exact drU_c (by omega) q, ?_⟩
      subst e2
      exact ⟨hR.1, hR.2.1, hR.2.2.1, hR.2.2.2.1, hR.2.2.2.2⟩
theorem cm_grade  {x : Int} {g g1 : AG} (h1 : x = (if 9 ≤ g 18 0 then -4 else g 18 0) ∧ g1 = (if 0 ≤ x then aset (aset g 18 3 0) 18 0 (g 18 0 + 1) else g)) : cm g g1 := by
  rw [h1.2]
  exact cm_i (cm_a (by decide) (cm_a (by decide) (cm_r g))) (cm_r g)
set_option maxHeartbeats 2000000 in
theorem st_grade  {x y : Int} {g g1 g2 : AG} (hR : Rel g) (h1 : x = (if 9 ≤ g 18 0 then -4 else g 18 0) ∧ g1 = (if 0 ≤ x then aset (aset g 18 3 0) 18 0 (g 18 0 + 1) else g)) (h2 : y = (if 9 ≤ g1 21 18 then -4 else g1 21 18) ∧ g2 = (if 0 ≤ y then modG g1 else g1)) : x = y ∧ Rel g2 := by
  obtain ⟨⟨E1, E2, E3, E4, E5, E6, E7, E8⟩, KN, ⟨L1, L2, L3, L4, L5, L6, L7, L8⟩, ⟨S1, S2, S3, S4, S5⟩, ⟨G1, G2, G3, G4, G5⟩⟩ := id hR
  have E4 : g 21 1 = g 1 4 := E4
  have E5 : g 22 = g 2 := E5
  have E6 : g 23 = g 3 := E6
  have E7 : g 24 = g 4 := E7
  have E8 : g 25 = g 5 := E8
  have L2 : g 21 0 = g 8 2 := L2
  have L3 : g 21 10 = g 8 3 := L3
  have L4 : g 21 11 = g 8 4 := L4
  have L5 : g 21 12 = g 8 5 := L5
  have L6 : g 21 13 = g 8 6 := L6
  have L7 : g 28 = g 9 := L7
  have L8 : g 29 = g 10 := L8
  have S2 : g 21 14 = g 12 4 := S2
  have S3 : g 30 = g 13 := S3
  have S4 : g 31 = g 14 := S4
  have S5 : g 32 = g 15 := S5
  have G2 : g 21 18 = g 18 0 := G2
  have Ln : 2 ≤ g 8 2 ∧ g 8 2 ≤ 24 := L1.1
  have Ec : 0 ≤ g 1 4 ∧ g 1 4 ≤ 100 := E1
  have m := cm_grade h1
  obtain ⟨hx, e1⟩ := h1
  obtain ⟨hy, e2⟩ := h2
  rw [m 21 (by omega), G2] at hy
  have xy : x = y := by rw [hx, hy]
  subst xy
  refine ⟨rfl, ?_⟩
  obtain ⟨⟨g0, g9⟩, g2', g3, g4⟩ := G1
  have g0 : 0 ≤ g 18 0 := g0
  have g9 : g 18 0 ≤ 9 := g9
  by_cases c : 0 ≤ x
  · rw [if_pos c] at e1 e2
    have c9 : g 18 0 < 9 := by
      by_cases z : 9 ≤ g 18 0
      · rw [if_pos z] at hx
        omega
      · omega
    subst e1
    subst e2
    refine ⟨hR.1, hR.2.1, hR.2.2.1, hR.2.2.2.1, ?_⟩
    show RGrd (g 18 0 + 1) (g 19) 0 (g 20) (g 21 18 + 1) (mgC (g 33) (g 21 18).toNat 9)
    rw [G2]
    refine ⟨⟨⟨by omega, by omega⟩, g2', Or.inl rfl, fun h => absurd h (by decide)⟩, rfl, fun j => ?_, fun i j hi hj => ?_, fun i j hi hj hc => G5 i j hi hj ?_⟩
    · unfold mgC
      split
      · exact ⟨by decide, by decide⟩
      · exact G3 j
    · by_cases z : i = (g 18 0).toNat ∨ j = (g 18 0).toNat
      · rw [G5 i j (by omega) (by omega) (by omega)]
        refine if_pos ?_
        rcases z with z | z
        · exact ⟨j, by omega, Or.inl (by omega)⟩
        · exact ⟨i, by omega, Or.inr (by omega)⟩
      · rw [← G4 i j (by omega) (by omega)]
        refine if_neg ?_
        rintro ⟨k, k1, k2⟩
        omega
    · omega
  · rw [if_neg c] at e1 e2
    subst e1
    subst e2
    exact hR
theorem rCost_0 {c a b v o x : Int} (h : x = rCost c a b v o) (hx : 0 ≤ x) : (0 ≤ a ∧ a ≤ c - 1 ∧ 0 ≤ b ∧ b ≤ c - 1) ∧ (0 ≤ v ∧ v ≤ 1000) := by
  unfold rCost at h
  by_cases q : 0 ≤ a ∧ a ≤ c - 1 ∧ 0 ≤ b ∧ b ≤ c - 1
  · rw [if_pos q] at h
    by_cases q2 : 0 ≤ v ∧ v ≤ 1000
    · exact ⟨q, q2⟩
    · rw [if_neg q2] at h
      omega
  · rw [if_neg q] at h
    omega
theorem cm_cost {a b v : Int} {x : Int} {g g1 : AG} (h1 : x = rCost (g 18 0) a b v (g 19 (a * 9 + b).toNat) ∧ g1 = (if 0 ≤ x then aset (aset g 19 (a * 9 + b).toNat v) 18 3 0 else g)) : cm g g1 := by
  rw [h1.2]
  exact cm_i (cm_a (by decide) (cm_a (by decide) (cm_r g))) (cm_r g)
set_option maxHeartbeats 2000000 in
theorem st_cost {a b v : Int} {x y : Int} {g g1 g2 : AG} (hR : Rel g) (h1 : x = rCost (g 18 0) a b v (g 19 (a * 9 + b).toNat) ∧ g1 = (if 0 ≤ x then aset (aset g 19 (a * 9 + b).toNat v) 18 3 0 else g)) (h2 : y = rCost (g1 21 18) a b v (g1 33 (9 * a + b).toNat) ∧ g2 = (if 0 ≤ y then aset g1 33 (9 * a + b).toNat v else g1)) : x = y ∧ Rel g2 := by
  obtain ⟨⟨E1, E2, E3, E4, E5, E6, E7, E8⟩, KN, ⟨L1, L2, L3, L4, L5, L6, L7, L8⟩, ⟨S1, S2, S3, S4, S5⟩, ⟨G1, G2, G3, G4, G5⟩⟩ := id hR
  have E4 : g 21 1 = g 1 4 := E4
  have E5 : g 22 = g 2 := E5
  have E6 : g 23 = g 3 := E6
  have E7 : g 24 = g 4 := E7
  have E8 : g 25 = g 5 := E8
  have L2 : g 21 0 = g 8 2 := L2
  have L3 : g 21 10 = g 8 3 := L3
  have L4 : g 21 11 = g 8 4 := L4
  have L5 : g 21 12 = g 8 5 := L5
  have L6 : g 21 13 = g 8 6 := L6
  have L7 : g 28 = g 9 := L7
  have L8 : g 29 = g 10 := L8
  have S2 : g 21 14 = g 12 4 := S2
  have S3 : g 30 = g 13 := S3
  have S4 : g 31 = g 14 := S4
  have S5 : g 32 = g 15 := S5
  have G2 : g 21 18 = g 18 0 := G2
  have Ln : 2 ≤ g 8 2 ∧ g 8 2 ≤ 24 := L1.1
  have Ec : 0 ≤ g 1 4 ∧ g 1 4 ≤ 100 := E1
  have m := cm_cost h1
  obtain ⟨hx, e1⟩ := h1
  obtain ⟨hy, e2⟩ := h2
  rw [m 21 (by omega), m 33 (by omega), G2] at hy
  obtain ⟨⟨g0, g9⟩, g2', g3, g4⟩ := G1
  have g0 : 0 ≤ g 18 0 := g0
  have g9 : g 18 0 ≤ 9 := g9
  have xy : x = y := by
    rw [hx, hy]
    unfold rCost
    by_cases q : 0 ≤ a ∧ a ≤ g 18 0 - 1 ∧ 0 ≤ b ∧ b ≤ g 18 0 - 1
    · rw [if_pos q, if_pos q]
      have k := G4 a.toNat b.toNat (by omega) (by omega)
      rw [show (a * 9 + b).toNat = 9 * a.toNat + b.toNat by omega, show (9 * a + b).toNat = 9 * a.toNat + b.toNat by omega, ← k]
    · rw [if_neg q, if_neg q]
  subst xy
  refine ⟨rfl, ?_⟩
  by_cases c : 0 ≤ x
  · rw [if_pos c] at e1 e2
    obtain ⟨r1, r2⟩ := rCost_0 hx c
    rw [show (a * 9 + b).toNat = 9 * a.toNat + b.toNat by omega] at e1
    rw [show (9 * a + b).toNat = 9 * a.toNat + b.toNat by omega] at e2
    subst e1
    subst e2
    refine ⟨hR.1, hR.2.1, hR.2.2.1, hR.2.2.2.1, ?_⟩
    unfold rG
    simp only [aset_ap, reduceIte, Nat.reduceEqDiff]
    refine ⟨⟨⟨g0, g9⟩, fun j => ?_, Or.inl rfl, fun h => absurd h (by decide)⟩, G2, fun j => ?_, fun i j hi hj => ?_, fun i j hi hj hc => ?_⟩
    · dsimp only
      split
      · exact r2
      · exact g2' j
    · dsimp only
      split
      · exact r2
      · exact G3 j
    · dsimp only
      split
      · rfl
      · exact G4 i j hi hj
    · dsimp only
      rw [if_neg (by omega)]
      exact G5 i j hi hj hc
  · rw [if_neg c] at e1 e2
    subst e1
    subst e2
    exact hR
theorem cm_tour {p : Int} {x : Int} {g g1 : AG} (h1 : (¬ (0 ≤ p ∧ p ≤ g 18 0 - 1) ∧ x = -1 ∧ g1 = g) ∨ ((0 ≤ p ∧ p ≤ g 18 0 - 1) ∧ ∃ f : Nat → Int, tabX (g 18 0).toNat (g 19) f ∧ x = f (9 * clr (2 ^ (g 18 0).toNat - 1) p.toNat + p.toNat) ∧ g1 = aset (row g 20 f) 18 3 1)) : cm g g1 := by
  rcases h1 with ⟨-, -, e1⟩ | ⟨-, f, -, -, e1⟩
  · rw [e1]
    exact cm_r g
  · rw [e1]
    exact cm_a (by decide) (cm_w (by decide) (cm_r g))
set_option maxHeartbeats 2000000 in
theorem st_tour {p : Int} {x y : Int} {g g1 g2 : AG} (hR : Rel g) (h1 : (¬ (0 ≤ p ∧ p ≤ g 18 0 - 1) ∧ x = -1 ∧ g1 = g) ∨ ((0 ≤ p ∧ p ≤ g 18 0 - 1) ∧ ∃ f : Nat → Int, tabX (g 18 0).toNat (g 19) f ∧ x = f (9 * clr (2 ^ (g 18 0).toNat - 1) p.toNat + p.toNat) ∧ g1 = aset (row g 20 f) 18 3 1)) (h2 : (¬ (0 ≤ p ∧ p ≤ g1 21 18 - 1) ∧ y = -1 ∧ g2 = g1) ∨ ((0 ≤ p ∧ p ≤ g1 21 18 - 1) ∧ ∃ f : Nat → Int, tabM (g1 21 18).toNat (g1 33) f ∧ y = f (9 * 2 ^ p.toNat + p.toNat) ∧ g2 = row g1 37 f)) : x = y ∧ Rel g2 := by
  obtain ⟨⟨E1, E2, E3, E4, E5, E6, E7, E8⟩, KN, ⟨L1, L2, L3, L4, L5, L6, L7, L8⟩, ⟨S1, S2, S3, S4, S5⟩, ⟨G1, G2, G3, G4, G5⟩⟩ := id hR
  have E4 : g 21 1 = g 1 4 := E4
  have E5 : g 22 = g 2 := E5
  have E6 : g 23 = g 3 := E6
  have E7 : g 24 = g 4 := E7
  have E8 : g 25 = g 5 := E8
  have L2 : g 21 0 = g 8 2 := L2
  have L3 : g 21 10 = g 8 3 := L3
  have L4 : g 21 11 = g 8 4 := L4
  have L5 : g 21 12 = g 8 5 := L5
  have L6 : g 21 13 = g 8 6 := L6
  have L7 : g 28 = g 9 := L7
  have L8 : g 29 = g 10 := L8
  have S2 : g 21 14 = g 12 4 := S2
  have S3 : g 30 = g 13 := S3
  have S4 : g 31 = g 14 := S4
  have S5 : g 32 = g 15 := S5
  have G2 : g 21 18 = g 18 0 := G2
  have Ln : 2 ≤ g 8 2 ∧ g 8 2 ≤ 24 := L1.1
  have Ec : 0 ≤ g 1 4 ∧ g 1 4 ≤ 100 := E1
  have m := cm_tour h1
  rw [m 21 (by omega), m 33 (by omega), G2] at h2
  obtain ⟨⟨g0, g9⟩, g2', g3, g4⟩ := G1
  have g0 : 0 ≤ g 18 0 := g0
  have g9 : g 18 0 ≤ 9 := g9
  have hco : ∀ i j : Nat, i < (g 18 0).toNat → j < (g 18 0).toNat → g 19 (9 * i + j) = g 33 (9 * i + j) := fun i j hi hj => (G4 i j (by omega) (by omega)).symm
  rcases h1 with ⟨c, hx, e1⟩ | ⟨c, f, t1, hx, e1⟩
  · rcases h2 with ⟨d, hy, e2⟩ | ⟨d, -⟩
    · subst e1
      subst e2
      exact ⟨by rw [hx, hy], hR⟩
    · exact absurd d c
  · rcases h2 with ⟨d, -⟩ | ⟨d, f', t2, hy, e2⟩
    · exact absurd c d
    · have k := tour_same (c := (g 18 0).toNat) (by omega) hco t1 t2 (p := p.toNat) (by omega)
      refine ⟨?_, ?_⟩
      · rw [hx, hy]
        exact k
      · subst e1
        subst e2
        exact ⟨hR.1, hR.2.1, hR.2.2.1, hR.2.2.2.1, ⟨⟨g0, g9⟩, g2', Or.inr rfl, fun _ => t1⟩, G2, G3, G4, G5⟩
theorem cm_tourAt {p i : Int} {x : Int} {g g1 : AG} (h1 : (¬ (0 ≤ p ∧ p ≤ g 18 0 - 1) ∧ x = -1 ∧ g1 = g) ∨ ((0 ≤ p ∧ p ≤ g 18 0 - 1) ∧ ¬ (0 ≤ i ∧ i ≤ g 18 0 - 1) ∧ x = -6 ∧ g1 = g) ∨ ((0 ≤ p ∧ p ≤ g 18 0 - 1) ∧ (0 ≤ i ∧ i ≤ g 18 0 - 1) ∧ ∃ f : Nat → Int, tabX (g 18 0).toNat (g 19) f ∧ x = (((trS (g 18 0).toNat (g 19) f (clr (2 ^ (g 18 0).toNat - 1) p.toNat) p.toNat i.toNat).2 : Nat) : Int) ∧ g1 = aset (row g 20 f) 18 3 1)) : cm g g1 := by
  rcases h1 with ⟨-, -, e1⟩ | ⟨-, -, -, e1⟩ | ⟨-, -, f, -, -, e1⟩
  · rw [e1]
    exact cm_r g
  · rw [e1]
    exact cm_r g
  · rw [e1]
    exact cm_a (by decide) (cm_w (by decide) (cm_r g))
set_option maxHeartbeats 2000000 in
theorem st_tourAt {p i : Int} {x y : Int} {g g1 g2 : AG} (hR : Rel g) (h1 : (¬ (0 ≤ p ∧ p ≤ g 18 0 - 1) ∧ x = -1 ∧ g1 = g) ∨ ((0 ≤ p ∧ p ≤ g 18 0 - 1) ∧ ¬ (0 ≤ i ∧ i ≤ g 18 0 - 1) ∧ x = -6 ∧ g1 = g) ∨ ((0 ≤ p ∧ p ≤ g 18 0 - 1) ∧ (0 ≤ i ∧ i ≤ g 18 0 - 1) ∧ ∃ f : Nat → Int, tabX (g 18 0).toNat (g 19) f ∧ x = (((trS (g 18 0).toNat (g 19) f (clr (2 ^ (g 18 0).toNat - 1) p.toNat) p.toNat i.toNat).2 : Nat) : Int) ∧ g1 = aset (row g 20 f) 18 3 1)) (h2 : (¬ (0 ≤ p ∧ p ≤ g1 21 18 - 1) ∧ y = -1 ∧ g2 = g1) ∨ ((0 ≤ p ∧ p ≤ g1 21 18 - 1) ∧ ¬ (0 ≤ i ∧ i ≤ g1 21 18 - 1) ∧ y = -6 ∧ g2 = g1) ∨ ((0 ≤ p ∧ p ≤ g1 21 18 - 1) ∧ (0 ≤ i ∧ i ≤ g1 21 18 - 1) ∧ ∃ f : Nat → Int, tabM (g1 21 18).toNat (g1 33) f ∧ y = (((trM (g1 21 18).toNat (g1 33) f (2 ^ p.toNat) p.toNat i.toNat).2 : Nat) : Int) ∧ g2 = row g1 37 f)) : x = y ∧ Rel g2 := by
  obtain ⟨⟨E1, E2, E3, E4, E5, E6, E7, E8⟩, KN, ⟨L1, L2, L3, L4, L5, L6, L7, L8⟩, ⟨S1, S2, S3, S4, S5⟩, ⟨G1, G2, G3, G4, G5⟩⟩ := id hR
  have E4 : g 21 1 = g 1 4 := E4
  have E5 : g 22 = g 2 := E5
  have E6 : g 23 = g 3 := E6
  have E7 : g 24 = g 4 := E7
  have E8 : g 25 = g 5 := E8
  have L2 : g 21 0 = g 8 2 := L2
  have L3 : g 21 10 = g 8 3 := L3
  have L4 : g 21 11 = g 8 4 := L4
  have L5 : g 21 12 = g 8 5 := L5
  have L6 : g 21 13 = g 8 6 := L6
  have L7 : g 28 = g 9 := L7
  have L8 : g 29 = g 10 := L8
  have S2 : g 21 14 = g 12 4 := S2
  have S3 : g 30 = g 13 := S3
  have S4 : g 31 = g 14 := S4
  have S5 : g 32 = g 15 := S5
  have G2 : g 21 18 = g 18 0 := G2
  have Ln : 2 ≤ g 8 2 ∧ g 8 2 ≤ 24 := L1.1
  have Ec : 0 ≤ g 1 4 ∧ g 1 4 ≤ 100 := E1
  have m := cm_tourAt h1
  rw [m 21 (by omega), m 33 (by omega), G2] at h2
  obtain ⟨⟨g0, g9⟩, g2', g3, g4⟩ := G1
  have g0 : 0 ≤ g 18 0 := g0
  have g9 : g 18 0 ≤ 9 := g9
  have hco : ∀ i j : Nat, i < (g 18 0).toNat → j < (g 18 0).toNat → g 19 (9 * i + j) = g 33 (9 * i + j) := fun i j hi hj => (G4 i j (by omega) (by omega)).symm
  rcases h1 with ⟨c, hx, e1⟩ | ⟨c, c2, hx, e1⟩ | ⟨c, c2, f, t1, hx, e1⟩
  · rcases h2 with ⟨d, hy, e2⟩ | ⟨d, -⟩ | ⟨d, -⟩
    · subst e1
      subst e2
      exact ⟨by rw [hx, hy], hR⟩
    · exact absurd d c
    · exact absurd d c
  · rcases h2 with ⟨d, -⟩ | ⟨d, d2, hy, e2⟩ | ⟨d, d2, -⟩
    · exact absurd c d
    · subst e1
      subst e2
      exact ⟨by rw [hx, hy], hR⟩
    · exact absurd d2 c2
  · rcases h2 with ⟨d, -⟩ | ⟨d, d2, -⟩ | ⟨d, d2, f', t2, hy, e2⟩
    · exact absurd c d
    · exact absurd c2 d2
    · obtain ⟨l, a, k1, k2, -⟩ := tr_same (c := (g 18 0).toNat) (by omega) hco t1 t2 (p := p.toNat) (by omega) i.toNat (by omega)
      refine ⟨?_, ?_⟩
      · rw [hx, hy]
        rw [k1, k2]
      · subst e1
        subst e2
        exact ⟨hR.1, hR.2.1, hR.2.2.1, hR.2.2.2.1, ⟨⟨g0, g9⟩, g2', Or.inr rfl, fun _ => t1⟩, G2, G3, G4, G5⟩
theorem cm_best {k : Int} {x : Int} {g g1 : AG} (h1 : (¬ (0 ≤ k ∧ k ≤ 1) ∧ x = -2 ∧ g1 = g) ∨ ((0 ≤ k ∧ k ≤ 1) ∧ ∃ (L : Int) (xs f : Nat → Int), bstQ (dX g (if k = 0 then 1 else 0)) (g 8 2).toNat L xs ((g 8 2).toNat - 1) ∧ x = L ∧ g1 = row (row g 11 f) 10 (fillU (g 10) (g 8 2).toNat xs))) : cm g g1 := by
  rcases h1 with ⟨-, -, e1⟩ | ⟨-, L, xs, f, -, -, e1⟩
  · rw [e1]
    exact cm_r g
  · rw [e1]
    exact cm_w (by decide) (cm_w (by decide) (cm_r g))
set_option maxHeartbeats 2000000 in
theorem st_best {k : Int} {x y : Int} {g g1 g2 : AG} (hR : Rel g) (h1 : (¬ (0 ≤ k ∧ k ≤ 1) ∧ x = -2 ∧ g1 = g) ∨ ((0 ≤ k ∧ k ≤ 1) ∧ ∃ (L : Int) (xs f : Nat → Int), bstQ (dX g (if k = 0 then 1 else 0)) (g 8 2).toNat L xs ((g 8 2).toNat - 1) ∧ x = L ∧ g1 = row (row g 11 f) 10 (fillU (g 10) (g 8 2).toNat xs))) (h2 : (¬ (0 ≤ k ∧ k ≤ 1) ∧ y = -2 ∧ g2 = g1) ∨ ((0 ≤ k ∧ k ≤ 1) ∧ ∃ (L : Int) (xs f : Nat → Int), bstQ (dM g1 (if k = 0 then 1 else 0)) (g1 21 0).toNat L xs ((g1 21 0).toNat - 1) ∧ y = L ∧ g2 = row (row g1 34 f) 29 (fillU (g1 29) (g1 21 0).toNat xs))) : x = y ∧ Rel g2 := by
  obtain ⟨⟨E1, E2, E3, E4, E5, E6, E7, E8⟩, KN, ⟨L1, L2, L3, L4, L5, L6, L7, L8⟩, ⟨S1, S2, S3, S4, S5⟩, ⟨G1, G2, G3, G4, G5⟩⟩ := id hR
  have E4 : g 21 1 = g 1 4 := E4
  have E5 : g 22 = g 2 := E5
  have E6 : g 23 = g 3 := E6
  have E7 : g 24 = g 4 := E7
  have E8 : g 25 = g 5 := E8
  have L2 : g 21 0 = g 8 2 := L2
  have L3 : g 21 10 = g 8 3 := L3
  have L4 : g 21 11 = g 8 4 := L4
  have L5 : g 21 12 = g 8 5 := L5
  have L6 : g 21 13 = g 8 6 := L6
  have L7 : g 28 = g 9 := L7
  have L8 : g 29 = g 10 := L8
  have S2 : g 21 14 = g 12 4 := S2
  have S3 : g 30 = g 13 := S3
  have S4 : g 31 = g 14 := S4
  have S5 : g 32 = g 15 := S5
  have G2 : g 21 18 = g 18 0 := G2
  have Ln : 2 ≤ g 8 2 ∧ g 8 2 ≤ 24 := L1.1
  have Ec : 0 ≤ g 1 4 ∧ g 1 4 ≤ 100 := E1
  rcases h1 with ⟨c, hx, e1⟩ | ⟨c, L, xs, f, t1, hx, e1⟩
  · rcases h2 with ⟨d, hy, e2⟩ | ⟨d, -⟩
    · subst e1
      subst e2
      exact ⟨by rw [hx, hy], hR⟩
    · exact absurd d c
  · rcases h2 with ⟨d, -⟩ | ⟨d, L', ys, f', t2, hy, e2⟩
    · exact absurd c d
    · subst e1
      have e2 : g2 = row (row (row (row g 11 f) 10 (fillU (g 10) (g 8 2).toNat xs)) 34 f') 29 (fillU (g 29) (g 21 0).toNat ys) := e2
      have t2 : bstQ (dM g (if k = 0 then 1 else 0)) (g 21 0).toNat L' ys ((g 21 0).toNat - 1) := t2
      have ed : dM g (if k = 0 then 1 else 0) = dX g (if k = 0 then 1 else 0) := by
        unfold dM dX
        rw [L3, L4, L5, L6, L7]
      rw [ed, L2] at t2
      rw [L2, L8] at e2
      obtain ⟨q1, q2⟩ := bst_one t1 t2
      have ef : fillU (g 10) (g 8 2).toNat ys = fillU (g 10) (g 8 2).toNat xs := fillU_c (fun j hj => (q2 j (by omega)).symm)
      rw [ef] at e2
      refine ⟨by rw [hx, hy, q1], ?_⟩
      subst e2
      refine ⟨hR.1, hR.2.1, ?_, hR.2.2.2.1, hR.2.2.2.2⟩
      obtain ⟨l1, l2, l3, l4, l5, l6, l7⟩ := L1
      show RLip (g 8 2) (g 8 3) (g 8 4) (g 8 5) (g 8 6) (g 9) (fillU (g 10) (g 8 2).toNat xs) (g 21 0) (g 21 10) (g 21 11) (g 21 12) (g 21 13) (g 28) (fillU (g 10) (g 8 2).toNat xs)
      refine ⟨⟨l1, l2, l3, l4, l5, l6, fun j => ?_⟩, L2, L3, L4, L5, L6, L7, rfl⟩
      unfold fillU
      split
      · exact bstQ_r t1 j (by omega)
      · exact l7 j
def g00 : AG := fun _ _ => 0
theorem Rel_0 : Rel (modN (shtN g00)) := by
  refine ⟨?_, ?_, ?_, ?_, ?_⟩
  · show REye 0 0 (g00 2) (g00 3) (g00 4) (g00 5) 0 (g00 22) (g00 23) (g00 24) (g00 25)
    exact ⟨⟨by decide, by decide⟩, rfl, fun j => Or.inl rfl, rfl, rfl, rfl, rfl, rfl⟩
  · exact kn_new (g00 6) (g00 7) (g00 26) (g00 27)
  · show RLip 8 20 40 10 0 (g00 9) (g00 10) 8 20 40 10 0 (g00 28) (g00 29)
    exact ⟨⟨⟨by decide, by decide⟩, ⟨by decide, by decide⟩, ⟨by decide, by decide⟩, ⟨by decide, by decide⟩, ⟨by decide, by decide⟩, fun _ => (⟨by decide, by decide⟩ : (-2000 : Int) ≤ 0 ∧ (0 : Int) ≤ 2000), fun _ => (⟨by decide, by decide⟩ : (-10 : Int) ≤ 0 ∧ (0 : Int) ≤ 10)⟩, rfl, rfl, rfl, rfl, rfl, rfl, rfl⟩
  · show RSet 0 (g00 13) (g00 14) (g00 15) 0 (g00 30) (g00 31) (g00 32)
    exact ⟨⟨⟨by decide, by decide⟩, fun _ => (⟨by decide, by decide⟩ : (0 : Int) ≤ 0 ∧ (0 : Int) ≤ 24), fun _ => (⟨by decide, by decide⟩ : (0 : Int) ≤ 0 ∧ (0 : Int) ≤ 1000), fun _ => (⟨by decide, by decide⟩ : (0 : Int) ≤ 0 ∧ (0 : Int) ≤ 2000), fun j h => absurd h (by omega)⟩, rfl, rfl, rfl, rfl⟩
  · show RGrd 0 (fillU (g00 19) 81 (fun _ => 100)) 0 (g00 20) 0 (g00 33)
    refine ⟨⟨⟨by decide, by decide⟩, fun j => ?_, Or.inl rfl, fun h => absurd h (by decide)⟩, rfl, fun _ => (⟨by decide, by decide⟩ : (0 : Int) ≤ 0 ∧ (0 : Int) ≤ 1000), fun i j hi => absurd hi (by omega), fun i j hi hj _ => ?_⟩
    · unfold fillU
      split
      · exact (⟨by decide, by decide⟩ : (0 : Int) ≤ 100 ∧ (100 : Int) ≤ 1000)
      · exact (⟨by decide, by decide⟩ : (0 : Int) ≤ 0 ∧ (0 : Int) ≤ 1000)
    · unfold fillU
      rw [if_pos (by omega)]
